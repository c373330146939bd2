/-! the class: set, count -/

set_option maxRecDepth 100000 in
set_option maxHeartbeats 4000000 in
theorem m_X10_set (a b : Int) (A S : SS) (ha : r32 a) (hb : r32 b) (hR : cRel S A) : zM LX yX10_set cX10_set 4 (some .int) 1 22 [zr 0, zi a, zi b] S (fun r S' => r = some (zi (sp_set A a b)) ∧ cRel S' (st_set A a b)) := by
  refine zM_of (own := RX10) rfl (by decide +kernel) [some (zr 0), some (zi a), some (zi b), none] (Nat.le_of_ble_eq_true rfl) rfl ?_
  intro x h
  have gg := hR.2.2.1.1
  have uu := hR.2.2.1.2.1
  refine z_iload_n (pc := 0) h dX10_set_0 rfl ?_
  refine z_if_ne (pc := 1) (tgt := 27) h dX10_set_1 (by decide) ⟨by omega, by omega⟩ (fun hc1 => ?_) (fun hc1 => ?_)
  ·
    refine z_iload_n (pc := 27) h dX10_set_27 rfl ?_
    refine z_iconst (pc := 28) h dX10_set_28 ?_
    refine z_icmp_ne (pc := 29) (tgt := 55) h dX10_set_29 (by decide) ⟨by omega, by omega⟩ ⟨by decide, by decide⟩ (fun hc29 => ?_) (fun hc29 => ?_)
    ·
      refine z_bipush (pc := 55) h dX10_set_55 rfl ?_
      refine z_istore_n (pc := 57) (loc' := [some (zr 0), some (zi a), some (zi b), some (zi (-2))]) h dX10_set_57 rfl (Nat.le_of_ble_eq_true rfl) rfl rfl ?_
      refine z_iload_n (pc := 58) h dX10_set_58 rfl ?_
      refine z_iret (pc := 59) h dX10_set_59 rfl ?_
      first
        | exact ⟨ap_some (by unfold sp_set; rw [if_pos (by omega)]; exact gg), by unfold st_set; rw [if_pos (by omega)]; exact cRel_field hR (by omega)⟩
        | exact ⟨ap_some (by unfold sp_set; rw [if_neg (by omega), if_pos (by omega)]; exact uu), by unfold st_set; rw [if_neg (by omega), if_pos (by omega)]; exact cRel_field hR (by omega)⟩
        | exact ⟨ap_some (by unfold sp_set; rw [if_neg (by omega), if_neg (by omega)]), by unfold st_set; rw [if_neg (by omega), if_neg (by omega)]; exact hR⟩
    ·
      refine z_iload_n (pc := 32) h dX10_set_32 rfl ?_
      refine z_iconst (pc := 33) h dX10_set_33 ?_
      refine z_bipush (pc := 34) h dX10_set_34 rfl ?_
      refine z_callS (pc := 36) (rest := ([] : List zV)) h (m_X10_within b 0 60 S ⟨by omega, by omega⟩ ⟨by decide, by decide⟩ ⟨by decide, by decide⟩) dX10_set_36 mcX10_within msX10_within mlX10_75 rfl rfl ⟨by decide, by decide⟩ rfl (Nat.le_of_ble_eq_true rfl) ?_
      rintro _ _ ⟨rfl, ⟨hr36, rfl⟩ | ⟨hr36, rfl⟩⟩
      ·
        show zG x LX 39 [some (zr 0), some (zi a), some (zi b), none] [zi 1] S
        refine z_if_eq (pc := 39) (tgt := 55) h dX10_set_39 (by decide) ⟨by decide, by decide⟩ (fun hc39 => absurd hc39 (by decide)) (fun hc39 => ?_)
        refine z_aload_n (pc := 42) h dX10_set_42 rfl ?_
        refine z_getI (pc := 43) h dX10_set_43 clX10 lkX10_68 (by decide) rfl rfl ?_
        refine z_istore_n (pc := 46) (loc' := [some (zr 0), some (zi a), some (zi b), some (zi (S 0 10))]) h dX10_set_46 rfl (Nat.le_of_ble_eq_true rfl) rfl rfl ?_
        refine z_aload_n (pc := 47) h dX10_set_47 rfl ?_
        refine z_iload_n (pc := 48) h dX10_set_48 rfl ?_
        refine z_putI (pc := 49) h dX10_set_49 clX10 lkX10_68 (by decide) rfl rfl rfl rfl ?_
        refine z_goto (pc := 52) (tgt := 58) h dX10_set_52 (by decide) ?_
        refine z_iload_n (pc := 58) h dX10_set_58 rfl ?_
        refine z_iret (pc := 59) h dX10_set_59 rfl ?_
        first
          | exact ⟨ap_some (by unfold sp_set; rw [if_pos (by omega)]; exact gg), by unfold st_set; rw [if_pos (by omega)]; exact cRel_field hR (by omega)⟩
          | exact ⟨ap_some (by unfold sp_set; rw [if_neg (by omega), if_pos (by omega)]; exact uu), by unfold st_set; rw [if_neg (by omega), if_pos (by omega)]; exact cRel_field hR (by omega)⟩
          | exact ⟨ap_some (by unfold sp_set; rw [if_neg (by omega), if_neg (by omega)]), by unfold st_set; rw [if_neg (by omega), if_neg (by omega)]; exact hR⟩
      ·
        show zG x LX 39 [some (zr 0), some (zi a), some (zi b), none] [zi 0] S
        refine z_if_eq (pc := 39) (tgt := 55) h dX10_set_39 (by decide) ⟨by decide, by decide⟩ (fun hc39 => ?_) (fun hc39 => absurd hc39 (by decide))
        refine z_bipush (pc := 55) h dX10_set_55 rfl ?_
        refine z_istore_n (pc := 57) (loc' := [some (zr 0), some (zi a), some (zi b), some (zi (-2))]) h dX10_set_57 rfl (Nat.le_of_ble_eq_true rfl) rfl rfl ?_
        refine z_iload_n (pc := 58) h dX10_set_58 rfl ?_
        refine z_iret (pc := 59) h dX10_set_59 rfl ?_
        first
          | exact ⟨ap_some (by unfold sp_set; rw [if_pos (by omega)]; exact gg), by unfold st_set; rw [if_pos (by omega)]; exact cRel_field hR (by omega)⟩
          | exact ⟨ap_some (by unfold sp_set; rw [if_neg (by omega), if_pos (by omega)]; exact uu), by unfold st_set; rw [if_neg (by omega), if_pos (by omega)]; exact cRel_field hR (by omega)⟩
          | exact ⟨ap_some (by unfold sp_set; rw [if_neg (by omega), if_neg (by omega)]), by unfold st_set; rw [if_neg (by omega), if_neg (by omega)]; exact hR⟩
  ·
    refine z_iload_n (pc := 4) h dX10_set_4 rfl ?_
    refine z_iconst (pc := 5) h dX10_set_5 ?_
    refine z_bipush (pc := 6) h dX10_set_6 rfl ?_
    refine z_callS (pc := 8) (rest := ([] : List zV)) h (m_X10_within b 0 9 S ⟨by omega, by omega⟩ ⟨by decide, by decide⟩ ⟨by decide, by decide⟩) dX10_set_8 mcX10_within msX10_within mlX10_75 rfl rfl ⟨by decide, by decide⟩ rfl (Nat.le_of_ble_eq_true rfl) ?_
    rintro _ _ ⟨rfl, ⟨hr8, rfl⟩ | ⟨hr8, rfl⟩⟩
    ·
      show zG x LX 11 [some (zr 0), some (zi a), some (zi b), none] [zi 1] S
      refine z_if_eq (pc := 11) (tgt := 27) h dX10_set_11 (by decide) ⟨by decide, by decide⟩ (fun hc11 => absurd hc11 (by decide)) (fun hc11 => ?_)
      refine z_aload_n (pc := 14) h dX10_set_14 rfl ?_
      refine z_getI (pc := 15) h dX10_set_15 clX10 lkX10_64 (by decide) rfl rfl ?_
      refine z_istore_n (pc := 18) (loc' := [some (zr 0), some (zi a), some (zi b), some (zi (S 0 9))]) h dX10_set_18 rfl (Nat.le_of_ble_eq_true rfl) rfl rfl ?_
      refine z_aload_n (pc := 19) h dX10_set_19 rfl ?_
      refine z_iload_n (pc := 20) h dX10_set_20 rfl ?_
      refine z_putI (pc := 21) h dX10_set_21 clX10 lkX10_64 (by decide) rfl rfl rfl rfl ?_
      refine z_goto (pc := 24) (tgt := 58) h dX10_set_24 (by decide) ?_
      refine z_iload_n (pc := 58) h dX10_set_58 rfl ?_
      refine z_iret (pc := 59) h dX10_set_59 rfl ?_
      first
        | exact ⟨ap_some (by unfold sp_set; rw [if_pos (by omega)]; exact gg), by unfold st_set; rw [if_pos (by omega)]; exact cRel_field hR (by omega)⟩
        | exact ⟨ap_some (by unfold sp_set; rw [if_neg (by omega), if_pos (by omega)]; exact uu), by unfold st_set; rw [if_neg (by omega), if_pos (by omega)]; exact cRel_field hR (by omega)⟩
        | exact ⟨ap_some (by unfold sp_set; rw [if_neg (by omega), if_neg (by omega)]), by unfold st_set; rw [if_neg (by omega), if_neg (by omega)]; exact hR⟩
    ·
      show zG x LX 11 [some (zr 0), some (zi a), some (zi b), none] [zi 0] S
      refine z_if_eq (pc := 11) (tgt := 27) h dX10_set_11 (by decide) ⟨by decide, by decide⟩ (fun hc11 => ?_) (fun hc11 => absurd hc11 (by decide))
      refine z_iload_n (pc := 27) h dX10_set_27 rfl ?_
      refine z_iconst (pc := 28) h dX10_set_28 ?_
      refine z_icmp_ne (pc := 29) (tgt := 55) h dX10_set_29 (by decide) ⟨by omega, by omega⟩ ⟨by decide, by decide⟩ (fun hc29 => ?_) (fun hc29 => ?_)
      ·
        refine z_bipush (pc := 55) h dX10_set_55 rfl ?_
        refine z_istore_n (pc := 57) (loc' := [some (zr 0), some (zi a), some (zi b), some (zi (-2))]) h dX10_set_57 rfl (Nat.le_of_ble_eq_true rfl) rfl rfl ?_
        refine z_iload_n (pc := 58) h dX10_set_58 rfl ?_
        refine z_iret (pc := 59) h dX10_set_59 rfl ?_
        first
          | exact ⟨ap_some (by unfold sp_set; rw [if_pos (by omega)]; exact gg), by unfold st_set; rw [if_pos (by omega)]; exact cRel_field hR (by omega)⟩
          | exact ⟨ap_some (by unfold sp_set; rw [if_neg (by omega), if_pos (by omega)]; exact uu), by unfold st_set; rw [if_neg (by omega), if_pos (by omega)]; exact cRel_field hR (by omega)⟩
          | exact ⟨ap_some (by unfold sp_set; rw [if_neg (by omega), if_neg (by omega)]), by unfold st_set; rw [if_neg (by omega), if_neg (by omega)]; exact hR⟩
      ·
        refine z_iload_n (pc := 32) h dX10_set_32 rfl ?_
        refine z_iconst (pc := 33) h dX10_set_33 ?_
        refine z_bipush (pc := 34) h dX10_set_34 rfl ?_
        refine z_callS (pc := 36) (rest := ([] : List zV)) h (m_X10_within b 0 60 S ⟨by omega, by omega⟩ ⟨by decide, by decide⟩ ⟨by decide, by decide⟩) dX10_set_36 mcX10_within msX10_within mlX10_75 rfl rfl ⟨by decide, by decide⟩ rfl (Nat.le_of_ble_eq_true rfl) ?_
        rintro _ _ ⟨rfl, ⟨hr36, rfl⟩ | ⟨hr36, rfl⟩⟩
        ·
          show zG x LX 39 [some (zr 0), some (zi a), some (zi b), none] [zi 1] S
          refine z_if_eq (pc := 39) (tgt := 55) h dX10_set_39 (by decide) ⟨by decide, by decide⟩ (fun hc39 => absurd hc39 (by decide)) (fun hc39 => ?_)
          refine z_aload_n (pc := 42) h dX10_set_42 rfl ?_
          refine z_getI (pc := 43) h dX10_set_43 clX10 lkX10_68 (by decide) rfl rfl ?_
          refine z_istore_n (pc := 46) (loc' := [some (zr 0), some (zi a), some (zi b), some (zi (S 0 10))]) h dX10_set_46 rfl (Nat.le_of_ble_eq_true rfl) rfl rfl ?_
          refine z_aload_n (pc := 47) h dX10_set_47 rfl ?_
          refine z_iload_n (pc := 48) h dX10_set_48 rfl ?_
          refine z_putI (pc := 49) h dX10_set_49 clX10 lkX10_68 (by decide) rfl rfl rfl rfl ?_
          refine z_goto (pc := 52) (tgt := 58) h dX10_set_52 (by decide) ?_
          refine z_iload_n (pc := 58) h dX10_set_58 rfl ?_
          refine z_iret (pc := 59) h dX10_set_59 rfl ?_
          first
            | exact ⟨ap_some (by unfold sp_set; rw [if_pos (by omega)]; exact gg), by unfold st_set; rw [if_pos (by omega)]; exact cRel_field hR (by omega)⟩
            | exact ⟨ap_some (by unfold sp_set; rw [if_neg (by omega), if_pos (by omega)]; exact uu), by unfold st_set; rw [if_neg (by omega), if_pos (by omega)]; exact cRel_field hR (by omega)⟩
            | exact ⟨ap_some (by unfold sp_set; rw [if_neg (by omega), if_neg (by omega)]), by unfold st_set; rw [if_neg (by omega), if_neg (by omega)]; exact hR⟩
        ·
          show zG x LX 39 [some (zr 0), some (zi a), some (zi b), none] [zi 0] S
          refine z_if_eq (pc := 39) (tgt := 55) h dX10_set_39 (by decide) ⟨by decide, by decide⟩ (fun hc39 => ?_) (fun hc39 => absurd hc39 (by decide))
          refine z_bipush (pc := 55) h dX10_set_55 rfl ?_
          refine z_istore_n (pc := 57) (loc' := [some (zr 0), some (zi a), some (zi b), some (zi (-2))]) h dX10_set_57 rfl (Nat.le_of_ble_eq_true rfl) rfl rfl ?_
          refine z_iload_n (pc := 58) h dX10_set_58 rfl ?_
          refine z_iret (pc := 59) h dX10_set_59 rfl ?_
          first
            | exact ⟨ap_some (by unfold sp_set; rw [if_pos (by omega)]; exact gg), by unfold st_set; rw [if_pos (by omega)]; exact cRel_field hR (by omega)⟩
            | exact ⟨ap_some (by unfold sp_set; rw [if_neg (by omega), if_pos (by omega)]; exact uu), by unfold st_set; rw [if_neg (by omega), if_pos (by omega)]; exact cRel_field hR (by omega)⟩
            | exact ⟨ap_some (by unfold sp_set; rw [if_neg (by omega), if_neg (by omega)]), by unfold st_set; rw [if_neg (by omega), if_neg (by omega)]; exact hR⟩

set_option maxRecDepth 100000 in
set_option maxHeartbeats 4000000 in
theorem m_X10_count (a : Int) (A S : SS) (ha : r32 a) (hR : cRel S A) : zM LX yX10_count cX10_count 2 (some .int) 0 0 [zr 0, zi a] S (fun r S' => S = S' ∧ r = some (zi (sp_count A a))) := by
  refine zM_of (own := RX10) rfl (by decide +kernel) [some (zr 0), some (zi a)] (Nat.le_of_ble_eq_true rfl) rfl ?_
  intro x h
  have k0 : S 1 4 = mA A 0 := hR.2.1.1.2.2.2.2.1
  have k1 : S 5 4 = mA A 1 := hR.2.1.2.2.2.2.2.1
  have k2 : S 1 3 = A 2 0 := hR.2.1.1.2.1
  have k3 : S 5 3 = A 2 1 := hR.2.1.2.2.1
  have k4 : S 9 2 = A 6 0 := hR.2.2.2.1.1.1
  have k5 : S 12 2 = A 6 1 := hR.2.2.2.1.2.1
  have k6 : S 37 3 = A 0 14 := hR.2.2.2.2.2.1
  have k7 : S 0 9 = A 5 0 := hR.2.2.1.1
  have k8 : S 0 11 = A 0 23 := hR.2.2.1.2.2
  refine z_iload_n (pc := 0) h dX10_count_0 rfl ?_
  by_cases ho1 : a < 0 ∨ 8 < a
  ·
    refine z_tab_out (pc := 1) (tgt := 118) h dX10_count_1 ⟨by omega, by omega⟩ ho1 (by decide) ?_
    refine z_bipush (pc := 118) h dX10_count_118 rfl ?_
    exact z_iret (pc := 120) h dX10_count_120 rfl ⟨rfl, congrArg (fun z => some (zi z)) (by unfold sp_count; first | exact k0 | exact k1 | exact k2 | exact k3 | exact k4 | exact k5 | exact k6 | exact k7 | exact k8 | (rw [if_neg (by omega), if_neg (by omega), if_neg (by omega), if_neg (by omega), if_neg (by omega), if_neg (by omega), if_neg (by omega), if_neg (by omega), if_neg (by omega)]))⟩
  have hq1 : a = 0 ∨ a = 1 ∨ a = 2 ∨ a = 3 ∨ a = 4 ∨ a = 5 ∨ a = 6 ∨ a = 7 ∨ a = 8 := by omega
  rcases hq1 with hv | hv | hv | hv | hv | hv | hv | hv | hv
  ·
    subst hv
    refine z_tab_in (pc := 1) (off := 51) (tgt := 52) h dX10_count_1 ⟨by decide, by decide⟩ (by decide) (by decide) rfl (by decide) ?_
    refine z_aload_n (pc := 52) h dX10_count_52 rfl ?_
    refine z_getR (a := 1) (pc := 53) h dX10_count_53 clX10 lkX10_10 (by decide) rfl rfl ?_
    refine z_getI (pc := 56) h dX10_count_56 clX7 lkX10_129 (by decide) rfl rfl ?_
    exact z_iret (pc := 59) h dX10_count_59 rfl ⟨rfl, congrArg (fun z => some (zi z)) (by unfold sp_count; first | exact k0 | exact k1 | exact k2 | exact k3 | exact k4 | exact k5 | exact k6 | exact k7 | exact k8 | (rw [if_neg (by omega), if_neg (by omega), if_neg (by omega), if_neg (by omega), if_neg (by omega), if_neg (by omega), if_neg (by omega), if_neg (by omega), if_neg (by omega)]))⟩
  ·
    subst hv
    refine z_tab_in (pc := 1) (off := 59) (tgt := 60) h dX10_count_1 ⟨by decide, by decide⟩ (by decide) (by decide) rfl (by decide) ?_
    refine z_aload_n (pc := 60) h dX10_count_60 rfl ?_
    refine z_getR (a := 5) (pc := 61) h dX10_count_61 clX10 lkX10_16 (by decide) rfl rfl ?_
    refine z_getI (pc := 64) h dX10_count_64 clX7 lkX10_129 (by decide) rfl rfl ?_
    exact z_iret (pc := 67) h dX10_count_67 rfl ⟨rfl, congrArg (fun z => some (zi z)) (by unfold sp_count; first | exact k0 | exact k1 | exact k2 | exact k3 | exact k4 | exact k5 | exact k6 | exact k7 | exact k8 | (rw [if_neg (by omega), if_neg (by omega), if_neg (by omega), if_neg (by omega), if_neg (by omega), if_neg (by omega), if_neg (by omega), if_neg (by omega), if_neg (by omega)]))⟩
  ·
    subst hv
    refine z_tab_in (pc := 1) (off := 67) (tgt := 68) h dX10_count_1 ⟨by decide, by decide⟩ (by decide) (by decide) rfl (by decide) ?_
    refine z_aload_n (pc := 68) h dX10_count_68 rfl ?_
    refine z_getR (a := 1) (pc := 69) h dX10_count_69 clX10 lkX10_10 (by decide) rfl rfl ?_
    refine z_getI (pc := 72) h dX10_count_72 clX7 lkX10_300 (by decide) rfl rfl ?_
    exact z_iret (pc := 75) h dX10_count_75 rfl ⟨rfl, congrArg (fun z => some (zi z)) (by unfold sp_count; first | exact k0 | exact k1 | exact k2 | exact k3 | exact k4 | exact k5 | exact k6 | exact k7 | exact k8 | (rw [if_neg (by omega), if_neg (by omega), if_neg (by omega), if_neg (by omega), if_neg (by omega), if_neg (by omega), if_neg (by omega), if_neg (by omega), if_neg (by omega)]))⟩
  ·
    subst hv
    refine z_tab_in (pc := 1) (off := 75) (tgt := 76) h dX10_count_1 ⟨by decide, by decide⟩ (by decide) (by decide) rfl (by decide) ?_
    refine z_aload_n (pc := 76) h dX10_count_76 rfl ?_
    refine z_getR (a := 5) (pc := 77) h dX10_count_77 clX10 lkX10_16 (by decide) rfl rfl ?_
    refine z_getI (pc := 80) h dX10_count_80 clX7 lkX10_300 (by decide) rfl rfl ?_
    exact z_iret (pc := 83) h dX10_count_83 rfl ⟨rfl, congrArg (fun z => some (zi z)) (by unfold sp_count; first | exact k0 | exact k1 | exact k2 | exact k3 | exact k4 | exact k5 | exact k6 | exact k7 | exact k8 | (rw [if_neg (by omega), if_neg (by omega), if_neg (by omega), if_neg (by omega), if_neg (by omega), if_neg (by omega), if_neg (by omega), if_neg (by omega), if_neg (by omega)]))⟩
  ·
    subst hv
    refine z_tab_in (pc := 1) (off := 83) (tgt := 84) h dX10_count_1 ⟨by decide, by decide⟩ (by decide) (by decide) rfl (by decide) ?_
    refine z_aload_n (pc := 84) h dX10_count_84 rfl ?_
    refine z_getR (a := 9) (pc := 85) h dX10_count_85 clX10 lkX10_22 (by decide) rfl rfl ?_
    refine z_getI (pc := 88) h dX10_count_88 clX4 lkX10_202 (by decide) rfl rfl ?_
    exact z_iret (pc := 91) h dX10_count_91 rfl ⟨rfl, congrArg (fun z => some (zi z)) (by unfold sp_count; first | exact k0 | exact k1 | exact k2 | exact k3 | exact k4 | exact k5 | exact k6 | exact k7 | exact k8 | (rw [if_neg (by omega), if_neg (by omega), if_neg (by omega), if_neg (by omega), if_neg (by omega), if_neg (by omega), if_neg (by omega), if_neg (by omega), if_neg (by omega)]))⟩
  ·
    subst hv
    refine z_tab_in (pc := 1) (off := 91) (tgt := 92) h dX10_count_1 ⟨by decide, by decide⟩ (by decide) (by decide) rfl (by decide) ?_
    refine z_aload_n (pc := 92) h dX10_count_92 rfl ?_
    refine z_getR (a := 12) (pc := 93) h dX10_count_93 clX10 lkX10_26 (by decide) rfl rfl ?_
    refine z_getI (pc := 96) h dX10_count_96 clX4 lkX10_202 (by decide) rfl rfl ?_
    exact z_iret (pc := 99) h dX10_count_99 rfl ⟨rfl, congrArg (fun z => some (zi z)) (by unfold sp_count; first | exact k0 | exact k1 | exact k2 | exact k3 | exact k4 | exact k5 | exact k6 | exact k7 | exact k8 | (rw [if_neg (by omega), if_neg (by omega), if_neg (by omega), if_neg (by omega), if_neg (by omega), if_neg (by omega), if_neg (by omega), if_neg (by omega), if_neg (by omega)]))⟩
  ·
    subst hv
    refine z_tab_in (pc := 1) (off := 99) (tgt := 100) h dX10_count_1 ⟨by decide, by decide⟩ (by decide) (by decide) rfl (by decide) ?_
    refine z_aload_n (pc := 100) h dX10_count_100 rfl ?_
    refine z_getR (a := 37) (pc := 101) h dX10_count_101 clX10 lkX10_53 (by decide) rfl rfl ?_
    refine z_getI (pc := 104) h dX10_count_104 clX8 lkX10_243 (by decide) rfl rfl ?_
    exact z_iret (pc := 107) h dX10_count_107 rfl ⟨rfl, congrArg (fun z => some (zi z)) (by unfold sp_count; first | exact k0 | exact k1 | exact k2 | exact k3 | exact k4 | exact k5 | exact k6 | exact k7 | exact k8 | (rw [if_neg (by omega), if_neg (by omega), if_neg (by omega), if_neg (by omega), if_neg (by omega), if_neg (by omega), if_neg (by omega), if_neg (by omega), if_neg (by omega)]))⟩
  ·
    subst hv
    refine z_tab_in (pc := 1) (off := 107) (tgt := 108) h dX10_count_1 ⟨by decide, by decide⟩ (by decide) (by decide) rfl (by decide) ?_
    refine z_aload_n (pc := 108) h dX10_count_108 rfl ?_
    refine z_getI (pc := 109) h dX10_count_109 clX10 lkX10_64 (by decide) rfl rfl ?_
    exact z_iret (pc := 112) h dX10_count_112 rfl ⟨rfl, congrArg (fun z => some (zi z)) (by unfold sp_count; first | exact k0 | exact k1 | exact k2 | exact k3 | exact k4 | exact k5 | exact k6 | exact k7 | exact k8 | (rw [if_neg (by omega), if_neg (by omega), if_neg (by omega), if_neg (by omega), if_neg (by omega), if_neg (by omega), if_neg (by omega), if_neg (by omega), if_neg (by omega)]))⟩
  ·
    subst hv
    refine z_tab_in (pc := 1) (off := 112) (tgt := 113) h dX10_count_1 ⟨by decide, by decide⟩ (by decide) (by decide) rfl (by decide) ?_
    refine z_aload_n (pc := 113) h dX10_count_113 rfl ?_
    refine z_getI (pc := 114) h dX10_count_114 clX10 lkX10_281 (by decide) rfl rfl ?_
    exact z_iret (pc := 117) h dX10_count_117 rfl ⟨rfl, congrArg (fun z => some (zi z)) (by unfold sp_count; first | exact k0 | exact k1 | exact k2 | exact k3 | exact k4 | exact k5 | exact k6 | exact k7 | exact k8 | (rw [if_neg (by omega), if_neg (by omega), if_neg (by omega), if_neg (by omega), if_neg (by omega), if_neg (by omega), if_neg (by omega), if_neg (by omega), if_neg (by omega)]))⟩

/-! the reference's public calls on strips -/

set_option maxRecDepth 100000 in
set_option maxHeartbeats 4000000 in
theorem m_X11_type (a b : Int) (A S : SS) (ha : r32 a) (hb : r32 b) (hR : mRel S A) (hm : MI A) : zM LM yX11_type cX11_type 3 (some .int) 2 42 [zr 0, zi a, zi b] S (fun r S' => r = some (zi (sp_type A a b)) ∧ mRel S' (st_type A a b)) := by
  refine zM_of (own := RX11) rfl (by decide +kernel) [some (zr 0), some (zi a), some (zi b)] (Nat.le_of_ble_eq_true rfl) rfl ?_
  intro x h
  refine z_iload_n (pc := 0) h dX11_type_0 rfl ?_
  refine z_callS (pc := 1) (rest := ([] : List zV)) h (m_X11_isStrip a S ⟨by omega, by omega⟩) dX11_type_1 mcX11_isStrip msX11_isStrip mlX11_79 rfl rfl ⟨by decide, by decide⟩ rfl (Nat.le_of_ble_eq_true rfl) ?_
  rintro _ _ ⟨rfl, ⟨hr1, rfl⟩ | ⟨hr1, rfl⟩⟩
  ·
    show zG x LM 4 [some (zr 0), some (zi a), some (zi b)] [zi 1] S
    refine z_if_eq (pc := 4) (tgt := 18) h dX11_type_4 (by decide) ⟨by decide, by decide⟩ (fun hc4 => absurd hc4 (by decide)) (fun hc4 => ?_)
    refine z_iload_n (pc := 7) h dX11_type_7 rfl ?_
    refine z_iconst (pc := 8) h dX11_type_8 ?_
    refine z_sipush (pc := 9) h dX11_type_9 rfl ?_
    refine z_callS (pc := 12) (rest := ([] : List zV)) h (m_X11_in b 0 255 S ⟨by omega, by omega⟩ ⟨by decide, by decide⟩ ⟨by decide, by decide⟩) dX11_type_12 mcX11_in msX11_in mlX11_75 rfl rfl ⟨by decide, by decide⟩ rfl (Nat.le_of_ble_eq_true rfl) ?_
    rintro _ _ ⟨rfl, ⟨hr12, rfl⟩ | ⟨hr12, rfl⟩⟩
    ·
      show zG x LM 15 [some (zr 0), some (zi a), some (zi b)] [zi 1] S
      refine z_if_ne (pc := 15) (tgt := 21) h dX11_type_15 (by decide) ⟨by decide, by decide⟩ (fun hc15 => ?_) (fun hc15 => absurd hc15 (by decide))
      have e2 : S 2 a.toNat = nA A a := mr_at hR _ (by decide)
      have hb2 := mA_b hm hr1
      have ei : Int.toNat (80 * a + nA A a) = 80 * a.toNat + (nA A a).toNat := by omega
      refine z_aload_n (pc := 21) h dX11_type_21 rfl ?_
      refine z_getR (a := 2) (pc := 22) h dX11_type_22 clX11 lkX11_13 (by decide) rfl rfl ?_
      refine z_iload_n (pc := 25) h dX11_type_25 rfl ?_
      refine z_iald (pc := 26) h dX11_type_26 rfl (by decide) (by omega) (by omega) ?_
      refine z_bipush (pc := 27) h dX11_type_27 rfl ?_
      refine z_icmp_ne (pc := 29) (tgt := 35) h dX11_type_29 (by decide) ⟨by omega, by omega⟩ ⟨by decide, by decide⟩ (fun hc29 => ?_) (fun hc29 => ?_)
      ·
        refine z_aload_n (pc := 35) h dX11_type_35 rfl ?_
        refine z_getR (a := 1) (pc := 36) h dX11_type_36 clX11 lkX11_7 (by decide) rfl rfl ?_
        refine z_bipush (pc := 39) h dX11_type_39 rfl ?_
        refine z_iload_n (pc := 41) h dX11_type_41 rfl ?_
        refine z_imul (pc := 42) h dX11_type_42 ?_
        refine z_aload_n (pc := 43) h dX11_type_43 rfl ?_
        refine z_getR (a := 2) (pc := 44) h dX11_type_44 clX11 lkX11_13 (by decide) rfl rfl ?_
        refine z_iload_n (pc := 47) h dX11_type_47 rfl ?_
        refine z_iald (pc := 48) h dX11_type_48 rfl (by decide) (by omega) (by omega) ?_
        refine z_iadd (pc := 49) h dX11_type_49 ?_
        refine z_iload_n (pc := 50) h dX11_type_50 rfl ?_
        refine z_iast (pc := 51) h dX11_type_51 rfl (by decide) (by omega) (by omega) ?_
        refine z_nmS (fun S1 h_S1 => ?_)
        have f2 : S1 2 a.toNat = nA A a := by rw [h_S1, up2_k _ _ (by decide)]; exact e2
        refine z_aload_n (pc := 52) h dX11_type_52 rfl ?_
        refine z_getR (a := 2) (pc := 53) h dX11_type_53 clX11 lkX11_13 (by decide) rfl rfl ?_
        refine z_iload_n (pc := 56) h dX11_type_56 rfl ?_
        refine z_dup2 (pc := 57) h dX11_type_57 rfl rfl ?_
        refine z_iald (pc := 58) h dX11_type_58 rfl (by decide) (by omega) (by omega) ?_
        refine z_iconst (pc := 59) h dX11_type_59 ?_
        refine z_iadd (pc := 60) h dX11_type_60 ?_
        refine z_iast (pc := 61) h dX11_type_61 rfl (by decide) (by omega) (by omega) ?_
        refine z_aload_n (pc := 62) h dX11_type_62 rfl ?_
        refine z_getR (a := 2) (pc := 63) h dX11_type_63 clX11 lkX11_13 (by decide) rfl rfl ?_
        refine z_iload_n (pc := 66) h dX11_type_66 rfl ?_
        refine z_iald (pc := 67) h dX11_type_67 rfl (by decide) (by omega) (by omega) ?_
        exact z_iret (pc := 68) h dX11_type_68 rfl (⟨ap_some (by unfold sp_type; rw [if_pos (by omega), if_neg (by omega), up2_s, f2]), by unfold st_type; rw [if_pos (by omega), if_neg (by omega), f2, h_S1, e2, ei]; exact mr_up (k := 2) (mr_up (k := 1) hR _ _ (by decide)) _ _ (by decide)⟩)
      ·
        refine z_bipush (pc := 32) h dX11_type_32 rfl ?_
        exact z_iret (pc := 34) h dX11_type_34 rfl (⟨ap_some (by unfold sp_type; rw [if_pos (by omega), if_pos (by omega)]), by unfold st_type; rw [if_pos (by omega), if_pos (by omega)]; exact hR⟩)
    ·
      show zG x LM 15 [some (zr 0), some (zi a), some (zi b)] [zi 0] S
      refine z_if_ne (pc := 15) (tgt := 21) h dX11_type_15 (by decide) ⟨by decide, by decide⟩ (fun hc15 => absurd hc15 (by decide)) (fun hc15 => ?_)
      refine z_bipush (pc := 18) h dX11_type_18 rfl ?_
      exact z_iret (pc := 20) h dX11_type_20 rfl (⟨ap_some (by unfold sp_type; rw [if_neg (by omega)]), by unfold st_type; rw [if_neg (by omega)]; exact hR⟩)
  ·
    show zG x LM 4 [some (zr 0), some (zi a), some (zi b)] [zi 0] S
    refine z_if_eq (pc := 4) (tgt := 18) h dX11_type_4 (by decide) ⟨by decide, by decide⟩ (fun hc4 => ?_) (fun hc4 => absurd hc4 (by decide))
    refine z_bipush (pc := 18) h dX11_type_18 rfl ?_
    exact z_iret (pc := 20) h dX11_type_20 rfl (⟨ap_some (by unfold sp_type; rw [if_neg (by omega)]), by unfold st_type; rw [if_neg (by omega)]; exact hR⟩)

set_option maxRecDepth 100000 in
set_option maxHeartbeats 4000000 in
theorem m_X11_wipe (a : Int) (A S : SS) (ha : r32 a) (hR : mRel S A) (hm : MI A) : zM LM yX11_wipe cX11_wipe 3 (some .int) 2 42 [zr 0, zi a] S (fun r S' => r = some (zi (sp_wipe A a)) ∧ mRel S' (st_wipe A a)) := by
  refine zM_of (own := RX11) rfl (by decide +kernel) [some (zr 0), some (zi a), none] (Nat.le_of_ble_eq_true rfl) rfl ?_
  intro x h
  refine z_iload_n (pc := 0) h dX11_wipe_0 rfl ?_
  refine z_callS (pc := 1) (rest := ([] : List zV)) h (m_X11_isStrip a S ⟨by omega, by omega⟩) dX11_wipe_1 mcX11_isStrip msX11_isStrip mlX11_79 rfl rfl ⟨by decide, by decide⟩ rfl (Nat.le_of_ble_eq_true rfl) ?_
  rintro _ _ ⟨rfl, ⟨hr1, rfl⟩ | ⟨hr1, rfl⟩⟩
  ·
    show zG x LM 4 [some (zr 0), some (zi a), none] [zi 1] S
    refine z_if_ne (pc := 4) (tgt := 10) h dX11_wipe_4 (by decide) ⟨by decide, by decide⟩ (fun hc4 => ?_) (fun hc4 => absurd hc4 (by decide))
    have e2 : S 2 a.toNat = nA A a := mr_at hR _ (by decide)
    have hb2 := mA_b hm hr1
    refine z_aload_n (pc := 10) h dX11_wipe_10 rfl ?_
    refine z_getR (a := 2) (pc := 11) h dX11_wipe_11 clX11 lkX11_13 (by decide) rfl rfl ?_
    refine z_iload_n (pc := 14) h dX11_wipe_14 rfl ?_
    refine z_iald (pc := 15) h dX11_wipe_15 rfl (by decide) (by omega) (by omega) ?_
    refine z_istore_n (pc := 16) (loc' := [some (zr 0), some (zi a), some (zi (S 2 a.toNat))]) h dX11_wipe_16 rfl (Nat.le_of_ble_eq_true rfl) rfl rfl ?_
    refine z_aload_n (pc := 17) h dX11_wipe_17 rfl ?_
    refine z_getR (a := 2) (pc := 18) h dX11_wipe_18 clX11 lkX11_13 (by decide) rfl rfl ?_
    refine z_iload_n (pc := 21) h dX11_wipe_21 rfl ?_
    refine z_iconst (pc := 22) h dX11_wipe_22 ?_
    refine z_iast (pc := 23) h dX11_wipe_23 rfl (by decide) (by omega) (by omega) ?_
    refine z_iload_n (pc := 24) h dX11_wipe_24 rfl ?_
    exact z_iret (pc := 25) h dX11_wipe_25 rfl (⟨ap_some (by unfold sp_wipe; rw [if_pos (by omega)]; exact e2), by unfold st_wipe; rw [if_pos (by omega)]; exact mr_up hR _ _ (by decide)⟩)
  ·
    show zG x LM 4 [some (zr 0), some (zi a), none] [zi 0] S
    refine z_if_ne (pc := 4) (tgt := 10) h dX11_wipe_4 (by decide) ⟨by decide, by decide⟩ (fun hc4 => absurd hc4 (by decide)) (fun hc4 => ?_)
    refine z_bipush (pc := 7) h dX11_wipe_7 rfl ?_
    exact z_iret (pc := 9) h dX11_wipe_9 rfl (⟨ap_some (by unfold sp_wipe; rw [if_neg (by omega)]), by unfold st_wipe; rw [if_neg (by omega)]; exact hR⟩)

set_option maxRecDepth 100000 in
set_option maxHeartbeats 4000000 in
theorem m_X11_fault (a : Int) (A S : SS) (ha : r32 a) (hR : mRel S A) (hm : MI A) : zM LM yX11_fault cX11_fault 2 (some .int) 2 47 [zr 0, zi a] S (fun r S' => r = some (zi (sp_fault A a)) ∧ mRel S' A) := by
  refine zM_of (own := RX11) rfl (by decide +kernel) [some (zr 0), some (zi a)] (Nat.le_of_ble_eq_true rfl) rfl ?_
  intro x h
  refine z_iload_n (pc := 0) h dX11_fault_0 rfl ?_
  refine z_callS (pc := 1) (rest := ([] : List zV)) h (m_X11_isStrip a S ⟨by omega, by omega⟩) dX11_fault_1 mcX11_isStrip msX11_isStrip mlX11_79 rfl rfl ⟨by decide, by decide⟩ rfl (Nat.le_of_ble_eq_true rfl) ?_
  rintro _ _ ⟨rfl, ⟨hr1, rfl⟩ | ⟨hr1, rfl⟩⟩
  ·
    show zG x LM 4 [some (zr 0), some (zi a)] [zi 1] S
    refine z_if_eq (pc := 4) (tgt := 15) h dX11_fault_4 (by decide) ⟨by decide, by decide⟩ (fun hc4 => absurd hc4 (by decide)) (fun hc4 => ?_)
    refine z_aload_n (pc := 7) h dX11_fault_7 rfl ?_
    refine z_iload_n (pc := 8) h dX11_fault_8 rfl ?_
    refine z_callV (pc := 9) (rest := ([] : List zV)) h (m_X11_faultNow a _ S (by first | assumption | omega) (by first | assumption | omega) (by first | assumption | omega)) dX11_fault_9 mcX11_faultNow miX11_faultNow mlX11_86 rfl rfl ⟨by decide, by decide⟩ clX11 rfl rfl rfl (Nat.le_of_ble_eq_true rfl) ?_
    rintro _ S9 ⟨rfl, hr9E, hr9R, hr9P⟩
    show zG x LM 12 [some (zr 0), some (zi a)] [zi (faultF (tA A a) (nA A a))] S9
    refine z_goto (pc := 12) (tgt := 17) h dX11_fault_12 (by decide) ?_
    refine z_iret (pc := 17) h dX11_fault_17 rfl ?_
    first
      | exact ⟨ap_some (by unfold sp_fault; rw [if_pos (by omega)]), by first | exact hr9R | exact hR | exact hr11R⟩
      | exact ⟨ap_some (by unfold sp_fault; rw [if_neg (by omega)]), by first | exact hr9R | exact hR | exact hr11R⟩
  ·
    show zG x LM 4 [some (zr 0), some (zi a)] [zi 0] S
    refine z_if_eq (pc := 4) (tgt := 15) h dX11_fault_4 (by decide) ⟨by decide, by decide⟩ (fun hc4 => ?_) (fun hc4 => absurd hc4 (by decide))
    refine z_bipush (pc := 15) h dX11_fault_15 rfl ?_
    refine z_iret (pc := 17) h dX11_fault_17 rfl ?_
    first
      | exact ⟨ap_some (by unfold sp_fault; rw [if_pos (by omega)]), by first | exact hr9R | exact hR | exact hr11R⟩
      | exact ⟨ap_some (by unfold sp_fault; rw [if_neg (by omega)]), by first | exact hr9R | exact hR | exact hr11R⟩

set_option maxRecDepth 100000 in
set_option maxHeartbeats 4000000 in
theorem m_X11_place (a b c : Int) (A S : SS) (ha : r32 a) (hb : r32 b) (hc : r32 c) (hR : mRel S A) (hm : MI A) : zM LM yX11_place cX11_place 4 (some .int) 3 69 [zr 0, zi a, zi b, zi c] S (fun r S' => r = some (zi (sp_place A a b c)) ∧ mRel S' A) := by
  refine zM_of (own := RX11) rfl (by decide +kernel) [some (zr 0), some (zi a), some (zi b), some (zi c)] (Nat.le_of_ble_eq_true rfl) rfl ?_
  intro x h
  refine z_iload_n (pc := 0) h dX11_place_0 rfl ?_
  refine z_callS (pc := 1) (rest := ([] : List zV)) h (m_X11_isStrip a S ⟨by omega, by omega⟩) dX11_place_1 mcX11_isStrip msX11_isStrip mlX11_79 rfl rfl ⟨by decide, by decide⟩ rfl (Nat.le_of_ble_eq_true rfl) ?_
  rintro _ _ ⟨rfl, ⟨hr1, rfl⟩ | ⟨hr1, rfl⟩⟩
  ·
    show zG x LM 4 [some (zr 0), some (zi a), some (zi b), some (zi c)] [zi 1] S
    refine z_if_eq (pc := 4) (tgt := 31) h dX11_place_4 (by decide) ⟨by decide, by decide⟩ (fun hc4 => absurd hc4 (by decide)) (fun hc4 => ?_)
    have hb2 := mA_b hm hr1
    refine z_iload_n (pc := 7) h dX11_place_7 rfl ?_
    refine z_iconst (pc := 8) h dX11_place_8 ?_
    refine z_aload_n (pc := 9) h dX11_place_9 rfl ?_
    refine z_iload_n (pc := 10) h dX11_place_10 rfl ?_
    refine z_callV (pc := 11) (rest := [zi 0, zi b]) h (m_X11_pictures a _ S (by first | assumption | omega) (by first | assumption | omega) (by first | assumption | omega)) dX11_place_11 mcX11_pictures miX11_pictures mlX11_89 rfl rfl ⟨by decide, by decide⟩ clX11 rfl rfl rfl (Nat.le_of_ble_eq_true rfl) ?_
    rintro _ S11 ⟨rfl, hr11E, hr11R, hr11P⟩
    show zG x LM 14 [some (zr 0), some (zi a), some (zi b), some (zi c)] [zi (mA A a), zi 0, zi b] S11
    refine z_iconst (pc := 14) h dX11_place_14 ?_
    refine z_isub (pc := 15) h dX11_place_15 ?_
    refine z_callS (pc := 16) (rest := ([] : List zV)) h (m_X11_in b 0 ((mA A a) - 1) S11 ⟨by omega, by omega⟩ ⟨by decide, by decide⟩ ⟨by omega, by omega⟩) dX11_place_16 mcX11_in msX11_in mlX11_75 rfl rfl ⟨by decide, by decide⟩ rfl (Nat.le_of_ble_eq_true rfl) ?_
    rintro _ _ ⟨rfl, ⟨hr16, rfl⟩ | ⟨hr16, rfl⟩⟩
    ·
      show zG x LM 19 [some (zr 0), some (zi a), some (zi b), some (zi c)] [zi 1] S11
      refine z_if_eq (pc := 19) (tgt := 31) h dX11_place_19 (by decide) ⟨by decide, by decide⟩ (fun hc19 => absurd hc19 (by decide)) (fun hc19 => ?_)
      refine z_iload_n (pc := 22) h dX11_place_22 rfl ?_
      refine z_iconst (pc := 23) h dX11_place_23 ?_
      refine z_iconst (pc := 24) h dX11_place_24 ?_
      refine z_callS (pc := 25) (rest := ([] : List zV)) h (m_X11_in c 0 3 S11 ⟨by omega, by omega⟩ ⟨by decide, by decide⟩ ⟨by decide, by decide⟩) dX11_place_25 mcX11_in msX11_in mlX11_75 rfl rfl ⟨by decide, by decide⟩ rfl (Nat.le_of_ble_eq_true rfl) ?_
      rintro _ _ ⟨rfl, ⟨hr25, rfl⟩ | ⟨hr25, rfl⟩⟩
      ·
        show zG x LM 28 [some (zr 0), some (zi a), some (zi b), some (zi c)] [zi 1] S11
        refine z_if_ne (pc := 28) (tgt := 34) h dX11_place_28 (by decide) ⟨by decide, by decide⟩ (fun hc28 => ?_) (fun hc28 => absurd hc28 (by decide))
        refine z_aload_n (pc := 34) h dX11_place_34 rfl ?_
        refine z_getR (a := 4) (pc := 35) h dX11_place_35 clX11 lkX11_19 (by decide) rfl rfl ?_
        refine z_bipush (pc := 38) h dX11_place_38 rfl ?_
        refine z_iload_n (pc := 40) h dX11_place_40 rfl ?_
        refine z_imul (pc := 41) h dX11_place_41 ?_
        refine z_iconst (pc := 42) h dX11_place_42 ?_
        refine z_iload_n (pc := 43) h dX11_place_43 rfl ?_
        refine z_imul (pc := 44) h dX11_place_44 ?_
        refine z_iadd (pc := 45) h dX11_place_45 ?_
        refine z_iload_n (pc := 46) h dX11_place_46 rfl ?_
        refine z_iadd (pc := 47) h dX11_place_47 ?_
        refine z_iald (pc := 48) h dX11_place_48 rfl (by decide) (by omega) (by omega) ?_
        refine z_iret (pc := 49) h dX11_place_49 rfl ?_
        first
          | exact ⟨ap_some (by unfold sp_place; rw [if_pos (by omega)]; exact hr11P.2 b c (by omega) (by omega) (by omega) (by omega)), by first | exact hr11R | exact hR | exact hr11R⟩
          | exact ⟨ap_some (by unfold sp_place; rw [if_neg (by omega)]), by first | exact hr11R | exact hR | exact hr11R⟩
      ·
        show zG x LM 28 [some (zr 0), some (zi a), some (zi b), some (zi c)] [zi 0] S11
        refine z_if_ne (pc := 28) (tgt := 34) h dX11_place_28 (by decide) ⟨by decide, by decide⟩ (fun hc28 => absurd hc28 (by decide)) (fun hc28 => ?_)
        refine z_bipush (pc := 31) h dX11_place_31 rfl ?_
        refine z_iret (pc := 33) h dX11_place_33 rfl ?_
        first
          | exact ⟨ap_some (by unfold sp_place; rw [if_pos (by omega)]; exact hr11P.2 b c (by omega) (by omega) (by omega) (by omega)), by first | exact hr11R | exact hR | exact hr11R⟩
          | exact ⟨ap_some (by unfold sp_place; rw [if_neg (by omega)]), by first | exact hr11R | exact hR | exact hr11R⟩
    ·
      show zG x LM 19 [some (zr 0), some (zi a), some (zi b), some (zi c)] [zi 0] S11
      refine z_if_eq (pc := 19) (tgt := 31) h dX11_place_19 (by decide) ⟨by decide, by decide⟩ (fun hc19 => ?_) (fun hc19 => absurd hc19 (by decide))
      refine z_bipush (pc := 31) h dX11_place_31 rfl ?_
      refine z_iret (pc := 33) h dX11_place_33 rfl ?_
      first
        | exact ⟨ap_some (by unfold sp_place; rw [if_pos (by omega)]; exact hr11P.2 b c (by omega) (by omega) (by omega) (by omega)), by first | exact hr11R | exact hR | exact hr11R⟩
        | exact ⟨ap_some (by unfold sp_place; rw [if_neg (by omega)]), by first | exact hr11R | exact hR | exact hr11R⟩
  ·
    show zG x LM 4 [some (zr 0), some (zi a), some (zi b), some (zi c)] [zi 0] S
    refine z_if_eq (pc := 4) (tgt := 31) h dX11_place_4 (by decide) ⟨by decide, by decide⟩ (fun hc4 => ?_) (fun hc4 => absurd hc4 (by decide))
    refine z_bipush (pc := 31) h dX11_place_31 rfl ?_
    refine z_iret (pc := 33) h dX11_place_33 rfl ?_
    first
      | exact ⟨ap_some (by unfold sp_place; rw [if_pos (by omega)]; exact hr11P.2 b c (by omega) (by omega) (by omega) (by omega)), by first | exact hr11R | exact hR | exact hr11R⟩
      | exact ⟨ap_some (by unfold sp_place; rw [if_neg (by omega)]), by first | exact hr11R | exact hR | exact hr11R⟩

set_option maxRecDepth 100000 in
set_option maxHeartbeats 4000000 in
theorem m_X11_step (a b c : Int) (A S : SS) (ha : r32 a) (hb : r32 b) (hc : r32 c) (hR : mRel S A) (hm : MI A) : zM LM yX11_step cX11_step 5 (some .int) 3 69 [zr 0, zi a, zi b, zi c] S (fun r S' => r = some (zi (sp_step A a b c)) ∧ mRel S' A) := by
  refine zM_of (own := RX11) rfl (by decide +kernel) [some (zr 0), some (zi a), some (zi b), some (zi c), none] (Nat.le_of_ble_eq_true rfl) rfl ?_
  intro x h
  refine z_iload_n (pc := 0) h dX11_step_0 rfl ?_
  refine z_callS (pc := 1) (rest := ([] : List zV)) h (m_X11_isStrip a S ⟨by omega, by omega⟩) dX11_step_1 mcX11_isStrip msX11_isStrip mlX11_79 rfl rfl ⟨by decide, by decide⟩ rfl (Nat.le_of_ble_eq_true rfl) ?_
  rintro _ _ ⟨rfl, ⟨hr1, rfl⟩ | ⟨hr1, rfl⟩⟩
  ·
    show zG x LM 4 [some (zr 0), some (zi a), some (zi b), some (zi c), none] [zi 1] S
    refine z_if_ne (pc := 4) (tgt := 10) h dX11_step_4 (by decide) ⟨by decide, by decide⟩ (fun hc4 => ?_) (fun hc4 => absurd hc4 (by decide))
    have hb2 := mA_b hm hr1
    refine z_aload_n (pc := 10) h dX11_step_10 rfl ?_
    refine z_iload_n (pc := 11) h dX11_step_11 rfl ?_
    refine z_callV (pc := 12) (rest := ([] : List zV)) h (m_X11_pictures a _ S (by first | assumption | omega) (by first | assumption | omega) (by first | assumption | omega)) dX11_step_12 mcX11_pictures miX11_pictures mlX11_89 rfl rfl ⟨by decide, by decide⟩ clX11 rfl rfl rfl (Nat.le_of_ble_eq_true rfl) ?_
    rintro _ S12 ⟨rfl, hr12E, hr12R, hr12P⟩
    show zG x LM 15 [some (zr 0), some (zi a), some (zi b), some (zi c), none] [zi (mA A a)] S12
    refine z_istore (pc := 15) (loc' := [some (zr 0), some (zi a), some (zi b), some (zi c), some (zi (mA A a))]) h dX11_step_15 (Nat.le_of_ble_eq_true rfl) rfl rfl ?_
    refine z_iload_n (pc := 17) h dX11_step_17 rfl ?_
    refine z_iconst (pc := 18) h dX11_step_18 ?_
    refine z_iload (pc := 19) h dX11_step_19 rfl ?_
    refine z_iconst (pc := 21) h dX11_step_21 ?_
    refine z_isub (pc := 22) h dX11_step_22 ?_
    refine z_callS (pc := 23) (rest := ([] : List zV)) h (m_X11_in b 0 ((mA A a) - 1) S12 ⟨by omega, by omega⟩ ⟨by decide, by decide⟩ ⟨by omega, by omega⟩) dX11_step_23 mcX11_in msX11_in mlX11_75 rfl rfl ⟨by decide, by decide⟩ rfl (Nat.le_of_ble_eq_true rfl) ?_
    rintro _ _ ⟨rfl, ⟨hr23, rfl⟩ | ⟨hr23, rfl⟩⟩
    ·
      show zG x LM 26 [some (zr 0), some (zi a), some (zi b), some (zi c), some (zi (mA A a))] [zi 1] S12
      refine z_if_eq (pc := 26) (tgt := 51) h dX11_step_26 (by decide) ⟨by decide, by decide⟩ (fun hc26 => absurd hc26 (by decide)) (fun hc26 => ?_)
      refine z_iload_n (pc := 29) h dX11_step_29 rfl ?_
      refine z_iconst (pc := 30) h dX11_step_30 ?_
      refine z_iload (pc := 31) h dX11_step_31 rfl ?_
      refine z_iconst (pc := 33) h dX11_step_33 ?_
      refine z_isub (pc := 34) h dX11_step_34 ?_
      refine z_callS (pc := 35) (rest := ([] : List zV)) h (m_X11_in c 0 ((mA A a) - 1) S12 ⟨by omega, by omega⟩ ⟨by decide, by decide⟩ ⟨by omega, by omega⟩) dX11_step_35 mcX11_in msX11_in mlX11_75 rfl rfl ⟨by decide, by decide⟩ rfl (Nat.le_of_ble_eq_true rfl) ?_
      rintro _ _ ⟨rfl, ⟨hr35, rfl⟩ | ⟨hr35, rfl⟩⟩
      ·
        show zG x LM 38 [some (zr 0), some (zi a), some (zi b), some (zi c), some (zi (mA A a))] [zi 1] S12
        refine z_if_eq (pc := 38) (tgt := 51) h dX11_step_38 (by decide) ⟨by decide, by decide⟩ (fun hc38 => absurd hc38 (by decide)) (fun hc38 => ?_)
        refine z_aload_n (pc := 41) h dX11_step_41 rfl ?_
        refine z_iload_n (pc := 42) h dX11_step_42 rfl ?_
        refine z_iload_n (pc := 43) h dX11_step_43 rfl ?_
        refine z_iload_n (pc := 44) h dX11_step_44 rfl ?_
        refine z_callV (pc := 45) (rest := ([] : List zV)) h (m_X11_stepOf a b c _ S12 (by first | assumption | omega) (by first | assumption | omega) (by first | assumption | omega) (by first | assumption | omega) (by first | assumption | omega) (by first | assumption | omega)) dX11_step_45 mcX11_stepOf miX11_stepOf mlX11_95 rfl rfl ⟨by decide, by decide⟩ clX11 rfl rfl rfl (Nat.le_of_ble_eq_true rfl) ?_
        rintro _ _ ⟨rfl, rfl⟩
        show zG x LM 48 [some (zr 0), some (zi a), some (zi b), some (zi c), some (zi (mA A a))] [zi (stepF (A 5 0) (qA A a) b c)] S12
        refine z_goto (pc := 48) (tgt := 53) h dX11_step_48 (by decide) ?_
        refine z_iret (pc := 53) h dX11_step_53 rfl ?_
        first
          | exact ⟨ap_some (by unfold sp_step; rw [if_pos (by omega)]), by first | exact hr12R | exact hR | exact hr11R⟩
          | exact ⟨ap_some (by unfold sp_step; rw [if_neg (by omega)]), by first | exact hr12R | exact hR | exact hr11R⟩
      ·
        show zG x LM 38 [some (zr 0), some (zi a), some (zi b), some (zi c), some (zi (mA A a))] [zi 0] S12
        refine z_if_eq (pc := 38) (tgt := 51) h dX11_step_38 (by decide) ⟨by decide, by decide⟩ (fun hc38 => ?_) (fun hc38 => absurd hc38 (by decide))
        refine z_bipush (pc := 51) h dX11_step_51 rfl ?_
        refine z_iret (pc := 53) h dX11_step_53 rfl ?_
        first
          | exact ⟨ap_some (by unfold sp_step; rw [if_pos (by omega)]), by first | exact hr12R | exact hR | exact hr11R⟩
          | exact ⟨ap_some (by unfold sp_step; rw [if_neg (by omega)]), by first | exact hr12R | exact hR | exact hr11R⟩
    ·
      show zG x LM 26 [some (zr 0), some (zi a), some (zi b), some (zi c), some (zi (mA A a))] [zi 0] S12
      refine z_if_eq (pc := 26) (tgt := 51) h dX11_step_26 (by decide) ⟨by decide, by decide⟩ (fun hc26 => ?_) (fun hc26 => absurd hc26 (by decide))
      refine z_bipush (pc := 51) h dX11_step_51 rfl ?_
      refine z_iret (pc := 53) h dX11_step_53 rfl ?_
      first
        | exact ⟨ap_some (by unfold sp_step; rw [if_pos (by omega)]), by first | exact hr12R | exact hR | exact hr11R⟩
        | exact ⟨ap_some (by unfold sp_step; rw [if_neg (by omega)]), by first | exact hr12R | exact hR | exact hr11R⟩
  ·
    show zG x LM 4 [some (zr 0), some (zi a), some (zi b), some (zi c), none] [zi 0] S
    refine z_if_ne (pc := 4) (tgt := 10) h dX11_step_4 (by decide) ⟨by decide, by decide⟩ (fun hc4 => absurd hc4 (by decide)) (fun hc4 => ?_)
    refine z_bipush (pc := 7) h dX11_step_7 rfl ?_
    refine z_iret (pc := 9) h dX11_step_9 rfl ?_
    first
      | exact ⟨ap_some (by unfold sp_step; rw [if_pos (by omega)]), by first | exact hr12R | exact hR | exact hr11R⟩
      | exact ⟨ap_some (by unfold sp_step; rw [if_neg (by omega)]), by first | exact hr12R | exact hR | exact hr11R⟩

set_option maxRecDepth 100000 in
set_option maxHeartbeats 4000000 in
theorem m_X11_whole (a : Int) (A S : SS) (ha : r32 a) (hR : mRel S A) (hm : MI A) : zM LM yX11_whole cX11_whole 2 (some .int) 4 93 [zr 0, zi a] S (fun r S' => r = some (zi (sp_whole A a)) ∧ mRel S' A) := by
  refine zM_of (own := RX11) rfl (by decide +kernel) [some (zr 0), some (zi a)] (Nat.le_of_ble_eq_true rfl) rfl ?_
  intro x h
  refine z_iload_n (pc := 0) h dX11_whole_0 rfl ?_
  refine z_callS (pc := 1) (rest := ([] : List zV)) h (m_X11_isStrip a S ⟨by omega, by omega⟩) dX11_whole_1 mcX11_isStrip msX11_isStrip mlX11_79 rfl rfl ⟨by decide, by decide⟩ rfl (Nat.le_of_ble_eq_true rfl) ?_
  rintro _ _ ⟨rfl, ⟨hr1, rfl⟩ | ⟨hr1, rfl⟩⟩
  ·
    show zG x LM 4 [some (zr 0), some (zi a)] [zi 1] S
    refine z_if_eq (pc := 4) (tgt := 15) h dX11_whole_4 (by decide) ⟨by decide, by decide⟩ (fun hc4 => absurd hc4 (by decide)) (fun hc4 => ?_)
    refine z_aload_n (pc := 7) h dX11_whole_7 rfl ?_
    refine z_iload_n (pc := 8) h dX11_whole_8 rfl ?_
    refine z_callV (pc := 9) (rest := ([] : List zV)) h (m_X11_wholeNow a _ S (by first | assumption | omega) (by first | assumption | omega) (by first | assumption | omega)) dX11_whole_9 mcX11_wholeNow miX11_wholeNow mlX11_99 rfl rfl ⟨by decide, by decide⟩ clX11 rfl rfl rfl (Nat.le_of_ble_eq_true rfl) ?_
    rintro _ S9 ⟨rfl, hr9E, hr9R, hr9P⟩
    show zG x LM 12 [some (zr 0), some (zi a)] [zi (wholeF (A 5 0) (qA A a) (mA A a))] S9
    refine z_goto (pc := 12) (tgt := 17) h dX11_whole_12 (by decide) ?_
    refine z_iret (pc := 17) h dX11_whole_17 rfl ?_
    first
      | exact ⟨ap_some (by unfold sp_whole; rw [if_pos (by omega)]), by first | exact hr9R | exact hR | exact hr11R⟩
      | exact ⟨ap_some (by unfold sp_whole; rw [if_neg (by omega)]), by first | exact hr9R | exact hR | exact hr11R⟩
  ·
    show zG x LM 4 [some (zr 0), some (zi a)] [zi 0] S
    refine z_if_eq (pc := 4) (tgt := 15) h dX11_whole_4 (by decide) ⟨by decide, by decide⟩ (fun hc4 => ?_) (fun hc4 => absurd hc4 (by decide))
    refine z_bipush (pc := 15) h dX11_whole_15 rfl ?_
    refine z_iret (pc := 17) h dX11_whole_17 rfl ?_
    first
      | exact ⟨ap_some (by unfold sp_whole; rw [if_pos (by omega)]), by first | exact hr9R | exact hR | exact hr11R⟩
      | exact ⟨ap_some (by unfold sp_whole; rw [if_neg (by omega)]), by first | exact hr9R | exact hR | exact hr11R⟩

set_option maxRecDepth 100000 in
set_option maxHeartbeats 4000000 in
theorem m_X11_seen (a b c : Int) (A S : SS) (ha : r32 a) (hb : r32 b) (hc : r32 c) (hR : mRel S A) (hm : MI A) : zM LM yX11_seen cX11_seen 4 (some .int) 4 94 [zr 0, zi a, zi b, zi c] S (fun r S' => r = some (zi (sp_seen A a b c)) ∧ mRel S' A) := by
  refine zM_of (own := RX11) rfl (by decide +kernel) [some (zr 0), some (zi a), some (zi b), some (zi c)] (Nat.le_of_ble_eq_true rfl) rfl ?_
  intro x h
  refine z_iload_n (pc := 0) h dX11_seen_0 rfl ?_
  refine z_callS (pc := 1) (rest := ([] : List zV)) h (m_X11_isStrip a S ⟨by omega, by omega⟩) dX11_seen_1 mcX11_isStrip msX11_isStrip mlX11_79 rfl rfl ⟨by decide, by decide⟩ rfl (Nat.le_of_ble_eq_true rfl) ?_
  rintro _ _ ⟨rfl, ⟨hr1, rfl⟩ | ⟨hr1, rfl⟩⟩
  ·
    show zG x LM 4 [some (zr 0), some (zi a), some (zi b), some (zi c)] [zi 1] S
    refine z_if_eq (pc := 4) (tgt := 35) h dX11_seen_4 (by decide) ⟨by decide, by decide⟩ (fun hc4 => absurd hc4 (by decide)) (fun hc4 => ?_)
    refine z_iload_n (pc := 7) h dX11_seen_7 rfl ?_
    refine z_callS (pc := 8) (rest := ([] : List zV)) h (m_X11_isDrum b S ⟨by omega, by omega⟩) dX11_seen_8 mcX11_isDrum msX11_isDrum mlX11_105 rfl rfl ⟨by decide, by decide⟩ rfl (Nat.le_of_ble_eq_true rfl) ?_
    rintro _ _ ⟨rfl, ⟨hr8, rfl⟩ | ⟨hr8, rfl⟩⟩
    ·
      show zG x LM 11 [some (zr 0), some (zi a), some (zi b), some (zi c)] [zi 1] S
      refine z_if_eq (pc := 11) (tgt := 35) h dX11_seen_11 (by decide) ⟨by decide, by decide⟩ (fun hc11 => absurd hc11 (by decide)) (fun hc11 => ?_)
      refine z_iload_n (pc := 14) h dX11_seen_14 rfl ?_
      refine z_iconst (pc := 15) h dX11_seen_15 ?_
      refine z_sipush (pc := 16) h dX11_seen_16 rfl ?_
      refine z_callS (pc := 19) (rest := ([] : List zV)) h (m_X11_in c (-1) 999 S ⟨by omega, by omega⟩ ⟨by decide, by decide⟩ ⟨by decide, by decide⟩) dX11_seen_19 mcX11_in msX11_in mlX11_75 rfl rfl ⟨by decide, by decide⟩ rfl (Nat.le_of_ble_eq_true rfl) ?_
      rintro _ _ ⟨rfl, ⟨hr19, rfl⟩ | ⟨hr19, rfl⟩⟩
      ·
        show zG x LM 22 [some (zr 0), some (zi a), some (zi b), some (zi c)] [zi 1] S
        refine z_if_eq (pc := 22) (tgt := 35) h dX11_seen_22 (by decide) ⟨by decide, by decide⟩ (fun hc22 => absurd hc22 (by decide)) (fun hc22 => ?_)
        refine z_aload_n (pc := 25) h dX11_seen_25 rfl ?_
        refine z_iload_n (pc := 26) h dX11_seen_26 rfl ?_
        refine z_iload_n (pc := 27) h dX11_seen_27 rfl ?_
        refine z_iload_n (pc := 28) h dX11_seen_28 rfl ?_
        refine z_callV (pc := 29) (rest := ([] : List zV)) h (m_X11_seenNow a b c _ S (by first | assumption | omega) (by first | assumption | omega) (by first | assumption | omega) (by first | assumption | omega) (by first | assumption | omega)) dX11_seen_29 mcX11_seenNow miX11_seenNow mlX11_119 rfl rfl ⟨by decide, by decide⟩ clX11 rfl rfl rfl (Nat.le_of_ble_eq_true rfl) ?_
        rintro _ S29 ⟨rfl, hr29E, hr29R, hr29P⟩
        show zG x LM 32 [some (zr 0), some (zi a), some (zi b), some (zi c)] [zi (seenF (mA A a) b c)] S29
        refine z_goto (pc := 32) (tgt := 37) h dX11_seen_32 (by decide) ?_
        refine z_iret (pc := 37) h dX11_seen_37 rfl ?_
        first
          | exact ⟨ap_some (by unfold sp_seen; rw [if_pos (by omega)]), by first | exact hr29R | exact hR | exact hr11R⟩
          | exact ⟨ap_some (by unfold sp_seen; rw [if_neg (by omega)]), by first | exact hr29R | exact hR | exact hr11R⟩
      ·
        show zG x LM 22 [some (zr 0), some (zi a), some (zi b), some (zi c)] [zi 0] S
        refine z_if_eq (pc := 22) (tgt := 35) h dX11_seen_22 (by decide) ⟨by decide, by decide⟩ (fun hc22 => ?_) (fun hc22 => absurd hc22 (by decide))
        refine z_bipush (pc := 35) h dX11_seen_35 rfl ?_
        refine z_iret (pc := 37) h dX11_seen_37 rfl ?_
        first
          | exact ⟨ap_some (by unfold sp_seen; rw [if_pos (by omega)]), by first | exact hr29R | exact hR | exact hr11R⟩
          | exact ⟨ap_some (by unfold sp_seen; rw [if_neg (by omega)]), by first | exact hr29R | exact hR | exact hr11R⟩
    ·
      show zG x LM 11 [some (zr 0), some (zi a), some (zi b), some (zi c)] [zi 0] S
      refine z_if_eq (pc := 11) (tgt := 35) h dX11_seen_11 (by decide) ⟨by decide, by decide⟩ (fun hc11 => ?_) (fun hc11 => absurd hc11 (by decide))
      refine z_bipush (pc := 35) h dX11_seen_35 rfl ?_
      refine z_iret (pc := 37) h dX11_seen_37 rfl ?_
      first
        | exact ⟨ap_some (by unfold sp_seen; rw [if_pos (by omega)]), by first | exact hr29R | exact hR | exact hr11R⟩
        | exact ⟨ap_some (by unfold sp_seen; rw [if_neg (by omega)]), by first | exact hr29R | exact hR | exact hr11R⟩
  ·
    show zG x LM 4 [some (zr 0), some (zi a), some (zi b), some (zi c)] [zi 0] S
    refine z_if_eq (pc := 4) (tgt := 35) h dX11_seen_4 (by decide) ⟨by decide, by decide⟩ (fun hc4 => ?_) (fun hc4 => absurd hc4 (by decide))
    refine z_bipush (pc := 35) h dX11_seen_35 rfl ?_
    refine z_iret (pc := 37) h dX11_seen_37 rfl ?_
    first
      | exact ⟨ap_some (by unfold sp_seen; rw [if_pos (by omega)]), by first | exact hr29R | exact hR | exact hr11R⟩
      | exact ⟨ap_some (by unfold sp_seen; rw [if_neg (by omega)]), by first | exact hr29R | exact hR | exact hr11R⟩

set_option maxRecDepth 100000 in
set_option maxHeartbeats 4000000 in
theorem m_X11_half (a b c : Int) (A S : SS) (ha : r32 a) (hb : r32 b) (hc : r32 c) (hR : mRel S A) (hm : MI A) : zM LM yX11_half cX11_half 4 (some .int) 3 69 [zr 0, zi a, zi b, zi c] S (fun r S' => r = some (zi (sp_half A a b c)) ∧ mRel S' A) := by
  refine zM_of (own := RX11) rfl (by decide +kernel) [some (zr 0), some (zi a), some (zi b), some (zi c)] (Nat.le_of_ble_eq_true rfl) rfl ?_
  intro x h
  refine z_iload_n (pc := 0) h dX11_half_0 rfl ?_
  refine z_callS (pc := 1) (rest := ([] : List zV)) h (m_X11_isStrip a S ⟨by omega, by omega⟩) dX11_half_1 mcX11_isStrip msX11_isStrip mlX11_79 rfl rfl ⟨by decide, by decide⟩ rfl (Nat.le_of_ble_eq_true rfl) ?_
  rintro _ _ ⟨rfl, ⟨hr1, rfl⟩ | ⟨hr1, rfl⟩⟩
  ·
    show zG x LM 4 [some (zr 0), some (zi a), some (zi b), some (zi c)] [zi 1] S
    refine z_if_eq (pc := 4) (tgt := 31) h dX11_half_4 (by decide) ⟨by decide, by decide⟩ (fun hc4 => absurd hc4 (by decide)) (fun hc4 => ?_)
    have hb2 := mA_b hm hr1
    refine z_iload_n (pc := 7) h dX11_half_7 rfl ?_
    refine z_iconst (pc := 8) h dX11_half_8 ?_
    refine z_aload_n (pc := 9) h dX11_half_9 rfl ?_
    refine z_iload_n (pc := 10) h dX11_half_10 rfl ?_
    refine z_callV (pc := 11) (rest := [zi 0, zi b]) h (m_X11_pictures a _ S (by first | assumption | omega) (by first | assumption | omega) (by first | assumption | omega)) dX11_half_11 mcX11_pictures miX11_pictures mlX11_89 rfl rfl ⟨by decide, by decide⟩ clX11 rfl rfl rfl (Nat.le_of_ble_eq_true rfl) ?_
    rintro _ S11 ⟨rfl, hr11E, hr11R, hr11P⟩
    show zG x LM 14 [some (zr 0), some (zi a), some (zi b), some (zi c)] [zi (mA A a), zi 0, zi b] S11
    refine z_iconst (pc := 14) h dX11_half_14 ?_
    refine z_isub (pc := 15) h dX11_half_15 ?_
    refine z_callS (pc := 16) (rest := ([] : List zV)) h (m_X11_in b 0 ((mA A a) - 1) S11 ⟨by omega, by omega⟩ ⟨by decide, by decide⟩ ⟨by omega, by omega⟩) dX11_half_16 mcX11_in msX11_in mlX11_75 rfl rfl ⟨by decide, by decide⟩ rfl (Nat.le_of_ble_eq_true rfl) ?_
    rintro _ _ ⟨rfl, ⟨hr16, rfl⟩ | ⟨hr16, rfl⟩⟩
    ·
      show zG x LM 19 [some (zr 0), some (zi a), some (zi b), some (zi c)] [zi 1] S11
      refine z_if_eq (pc := 19) (tgt := 31) h dX11_half_19 (by decide) ⟨by decide, by decide⟩ (fun hc19 => absurd hc19 (by decide)) (fun hc19 => ?_)
      refine z_iload_n (pc := 22) h dX11_half_22 rfl ?_
      refine z_iconst (pc := 23) h dX11_half_23 ?_
      refine z_iconst (pc := 24) h dX11_half_24 ?_
      refine z_callS (pc := 25) (rest := ([] : List zV)) h (m_X11_in c 0 3 S11 ⟨by omega, by omega⟩ ⟨by decide, by decide⟩ ⟨by decide, by decide⟩) dX11_half_25 mcX11_in msX11_in mlX11_75 rfl rfl ⟨by decide, by decide⟩ rfl (Nat.le_of_ble_eq_true rfl) ?_
      rintro _ _ ⟨rfl, ⟨hr25, rfl⟩ | ⟨hr25, rfl⟩⟩
      ·
        show zG x LM 28 [some (zr 0), some (zi a), some (zi b), some (zi c)] [zi 1] S11
        refine z_if_ne (pc := 28) (tgt := 34) h dX11_half_28 (by decide) ⟨by decide, by decide⟩ (fun hc28 => ?_) (fun hc28 => absurd hc28 (by decide))
        refine z_aload_n (pc := 34) h dX11_half_34 rfl ?_
        refine z_iload_n (pc := 35) h dX11_half_35 rfl ?_
        refine z_iload_n (pc := 36) h dX11_half_36 rfl ?_
        refine z_callV (pc := 37) (rest := ([] : List zV)) h (m_X11_halves a b _ S11 (by first | assumption | omega) (by first | assumption | omega) (by first | assumption | omega) (by first | assumption | omega) (by first | assumption | omega)) dX11_half_37 mcX11_halves miX11_halves mlX11_187 rfl rfl ⟨by decide, by decide⟩ clX11 rfl rfl rfl (Nat.le_of_ble_eq_true rfl) ?_
        rintro _ S37 ⟨rfl, hr37E, hr37H, hr37R, hr37P⟩
        show zG x LM 40 [some (zr 0), some (zi a), some (zi b), some (zi c)] ([] : List zV) S37
        refine z_aload_n (pc := 40) h dX11_half_40 rfl ?_
        refine z_getR (a := 4) (pc := 41) h dX11_half_41 clX11 lkX11_19 (by decide) rfl rfl ?_
        refine z_bipush (pc := 44) h dX11_half_44 rfl ?_
        refine z_iload_n (pc := 46) h dX11_half_46 rfl ?_
        refine z_iadd (pc := 47) h dX11_half_47 ?_
        refine z_iald (pc := 48) h dX11_half_48 rfl (by decide) (by omega) (by omega) ?_
        refine z_iret (pc := 49) h dX11_half_49 rfl ?_
        first
          | exact ⟨ap_some (by unfold sp_half; rw [if_pos (by omega)]; exact hr37H c (by omega) (by omega)), by first | exact hr37R | exact hR | exact hr11R⟩
          | exact ⟨ap_some (by unfold sp_half; rw [if_neg (by omega)]), by first | exact hr37R | exact hR | exact hr11R⟩
      ·
        show zG x LM 28 [some (zr 0), some (zi a), some (zi b), some (zi c)] [zi 0] S11
        refine z_if_ne (pc := 28) (tgt := 34) h dX11_half_28 (by decide) ⟨by decide, by decide⟩ (fun hc28 => absurd hc28 (by decide)) (fun hc28 => ?_)
        refine z_bipush (pc := 31) h dX11_half_31 rfl ?_
        refine z_iret (pc := 33) h dX11_half_33 rfl ?_
        first
          | exact ⟨ap_some (by unfold sp_half; rw [if_pos (by omega)]; exact hr37H c (by omega) (by omega)), by first | exact hr37R | exact hR | exact hr11R⟩
          | exact ⟨ap_some (by unfold sp_half; rw [if_neg (by omega)]), by first | exact hr37R | exact hR | exact hr11R⟩
    ·
      show zG x LM 19 [some (zr 0), some (zi a), some (zi b), some (zi c)] [zi 0] S11
      refine z_if_eq (pc := 19) (tgt := 31) h dX11_half_19 (by decide) ⟨by decide, by decide⟩ (fun hc19 => ?_) (fun hc19 => absurd hc19 (by decide))
      refine z_bipush (pc := 31) h dX11_half_31 rfl ?_
      refine z_iret (pc := 33) h dX11_half_33 rfl ?_
      first
        | exact ⟨ap_some (by unfold sp_half; rw [if_pos (by omega)]; exact hr37H c (by omega) (by omega)), by first | exact hr37R | exact hR | exact hr11R⟩
        | exact ⟨ap_some (by unfold sp_half; rw [if_neg (by omega)]), by first | exact hr37R | exact hR | exact hr11R⟩
  ·
    show zG x LM 4 [some (zr 0), some (zi a), some (zi b), some (zi c)] [zi 0] S
    refine z_if_eq (pc := 4) (tgt := 31) h dX11_half_4 (by decide) ⟨by decide, by decide⟩ (fun hc4 => ?_) (fun hc4 => absurd hc4 (by decide))
    refine z_bipush (pc := 31) h dX11_half_31 rfl ?_
    refine z_iret (pc := 33) h dX11_half_33 rfl ?_
    first
      | exact ⟨ap_some (by unfold sp_half; rw [if_pos (by omega)]; exact hr37H c (by omega) (by omega)), by first | exact hr37R | exact hR | exact hr11R⟩
      | exact ⟨ap_some (by unfold sp_half; rw [if_neg (by omega)]), by first | exact hr37R | exact hR | exact hr11R⟩

set_option maxRecDepth 100000 in
set_option maxHeartbeats 4000000 in
theorem m_X11_missing (a b : Int) (A S : SS) (ha : r32 a) (hb : r32 b) (hR : mRel S A) (hm : MI A) : zM LM yX11_missing cX11_missing 3 (some .int) 4 98 [zr 0, zi a, zi b] S (fun r S' => r = some (zi (sp_missing A a b)) ∧ mRel S' A) := by
  refine zM_of (own := RX11) rfl (by decide +kernel) [some (zr 0), some (zi a), some (zi b)] (Nat.le_of_ble_eq_true rfl) rfl ?_
  intro x h
  refine z_iload_n (pc := 0) h dX11_missing_0 rfl ?_
  refine z_callS (pc := 1) (rest := ([] : List zV)) h (m_X11_isStrip a S ⟨by omega, by omega⟩) dX11_missing_1 mcX11_isStrip msX11_isStrip mlX11_79 rfl rfl ⟨by decide, by decide⟩ rfl (Nat.le_of_ble_eq_true rfl) ?_
  rintro _ _ ⟨rfl, ⟨hr1, rfl⟩ | ⟨hr1, rfl⟩⟩
  ·
    show zG x LM 4 [some (zr 0), some (zi a), some (zi b)] [zi 1] S
    refine z_if_eq (pc := 4) (tgt := 25) h dX11_missing_4 (by decide) ⟨by decide, by decide⟩ (fun hc4 => absurd hc4 (by decide)) (fun hc4 => ?_)
    refine z_iload_n (pc := 7) h dX11_missing_7 rfl ?_
    refine z_iconst (pc := 8) h dX11_missing_8 ?_
    refine z_iconst (pc := 9) h dX11_missing_9 ?_
    refine z_callS (pc := 10) (rest := ([] : List zV)) h (m_X11_in b 0 1 S ⟨by omega, by omega⟩ ⟨by decide, by decide⟩ ⟨by decide, by decide⟩) dX11_missing_10 mcX11_in msX11_in mlX11_75 rfl rfl ⟨by decide, by decide⟩ rfl (Nat.le_of_ble_eq_true rfl) ?_
    rintro _ _ ⟨rfl, ⟨hr10, rfl⟩ | ⟨hr10, rfl⟩⟩
    ·
      show zG x LM 13 [some (zr 0), some (zi a), some (zi b)] [zi 1] S
      refine z_if_eq (pc := 13) (tgt := 25) h dX11_missing_13 (by decide) ⟨by decide, by decide⟩ (fun hc13 => absurd hc13 (by decide)) (fun hc13 => ?_)
      refine z_aload_n (pc := 16) h dX11_missing_16 rfl ?_
      refine z_iload_n (pc := 17) h dX11_missing_17 rfl ?_
      refine z_iload_n (pc := 18) h dX11_missing_18 rfl ?_
      refine z_callV (pc := 19) (rest := ([] : List zV)) h (m_X11_missingNow a b _ S (by first | assumption | omega) (by first | assumption | omega) (by first | assumption | omega) ⟨by omega, by omega⟩) dX11_missing_19 mcX11_missingNow miX11_missingNow mlX11_191 rfl rfl ⟨by decide, by decide⟩ clX11 rfl rfl rfl (Nat.le_of_ble_eq_true rfl) ?_
      rintro _ S19 ⟨rfl, hr19E, hr19R, hr19P⟩
      show zG x LM 22 [some (zr 0), some (zi a), some (zi b)] [zi (missV (A 5 0) (qA A a) (mA A a) b)] S19
      refine z_goto (pc := 22) (tgt := 27) h dX11_missing_22 (by decide) ?_
      refine z_iret (pc := 27) h dX11_missing_27 rfl ?_
      first
        | exact ⟨ap_some (by unfold sp_missing; rw [if_pos (by omega)]), by first | exact hr19R | exact hR | exact hr11R⟩
        | exact ⟨ap_some (by unfold sp_missing; rw [if_neg (by omega)]), by first | exact hr19R | exact hR | exact hr11R⟩
    ·
      show zG x LM 13 [some (zr 0), some (zi a), some (zi b)] [zi 0] S
      refine z_if_eq (pc := 13) (tgt := 25) h dX11_missing_13 (by decide) ⟨by decide, by decide⟩ (fun hc13 => ?_) (fun hc13 => absurd hc13 (by decide))
      refine z_bipush (pc := 25) h dX11_missing_25 rfl ?_
      refine z_iret (pc := 27) h dX11_missing_27 rfl ?_
      first
        | exact ⟨ap_some (by unfold sp_missing; rw [if_pos (by omega)]), by first | exact hr19R | exact hR | exact hr11R⟩
        | exact ⟨ap_some (by unfold sp_missing; rw [if_neg (by omega)]), by first | exact hr19R | exact hR | exact hr11R⟩
  ·
    show zG x LM 4 [some (zr 0), some (zi a), some (zi b)] [zi 0] S
    refine z_if_eq (pc := 4) (tgt := 25) h dX11_missing_4 (by decide) ⟨by decide, by decide⟩ (fun hc4 => ?_) (fun hc4 => absurd hc4 (by decide))
    refine z_bipush (pc := 25) h dX11_missing_25 rfl ?_
    refine z_iret (pc := 27) h dX11_missing_27 rfl ?_
    first
      | exact ⟨ap_some (by unfold sp_missing; rw [if_pos (by omega)]), by first | exact hr19R | exact hR | exact hr11R⟩
      | exact ⟨ap_some (by unfold sp_missing; rw [if_neg (by omega)]), by first | exact hr19R | exact hR | exact hr11R⟩

set_option maxRecDepth 100000 in
set_option maxHeartbeats 4000000 in
theorem m_X11_few (a b : Int) (A S : SS) (ha : r32 a) (hb : r32 b) (hR : mRel S A) (hm : MI A) : zM LM yX11_few cX11_few 3 (some .int) 4 98 [zr 0, zi a, zi b] S (fun r S' => r = some (zi (sp_few A a b)) ∧ mRel S' A) := by
  refine zM_of (own := RX11) rfl (by decide +kernel) [some (zr 0), some (zi a), some (zi b)] (Nat.le_of_ble_eq_true rfl) rfl ?_
  intro x h
  refine z_iload_n (pc := 0) h dX11_few_0 rfl ?_
  refine z_callS (pc := 1) (rest := ([] : List zV)) h (m_X11_isStrip a S ⟨by omega, by omega⟩) dX11_few_1 mcX11_isStrip msX11_isStrip mlX11_79 rfl rfl ⟨by decide, by decide⟩ rfl (Nat.le_of_ble_eq_true rfl) ?_
  rintro _ _ ⟨rfl, ⟨hr1, rfl⟩ | ⟨hr1, rfl⟩⟩
  ·
    show zG x LM 4 [some (zr 0), some (zi a), some (zi b)] [zi 1] S
    refine z_if_eq (pc := 4) (tgt := 26) h dX11_few_4 (by decide) ⟨by decide, by decide⟩ (fun hc4 => absurd hc4 (by decide)) (fun hc4 => ?_)
    refine z_iload_n (pc := 7) h dX11_few_7 rfl ?_
    refine z_iconst (pc := 8) h dX11_few_8 ?_
    refine z_bipush (pc := 9) h dX11_few_9 rfl ?_
    refine z_callS (pc := 11) (rest := ([] : List zV)) h (m_X11_in b 0 60 S ⟨by omega, by omega⟩ ⟨by decide, by decide⟩ ⟨by decide, by decide⟩) dX11_few_11 mcX11_in msX11_in mlX11_75 rfl rfl ⟨by decide, by decide⟩ rfl (Nat.le_of_ble_eq_true rfl) ?_
    rintro _ _ ⟨rfl, ⟨hr11, rfl⟩ | ⟨hr11, rfl⟩⟩
    ·
      show zG x LM 14 [some (zr 0), some (zi a), some (zi b)] [zi 1] S
      refine z_if_eq (pc := 14) (tgt := 26) h dX11_few_14 (by decide) ⟨by decide, by decide⟩ (fun hc14 => absurd hc14 (by decide)) (fun hc14 => ?_)
      refine z_aload_n (pc := 17) h dX11_few_17 rfl ?_
      refine z_iload_n (pc := 18) h dX11_few_18 rfl ?_
      refine z_iload_n (pc := 19) h dX11_few_19 rfl ?_
      refine z_callV (pc := 20) (rest := ([] : List zV)) h (m_X11_fewNow a b _ S (by first | assumption | omega) (by first | assumption | omega) (by first | assumption | omega) (by first | assumption | omega)) dX11_few_20 mcX11_fewNow miX11_fewNow mlX11_197 rfl rfl ⟨by decide, by decide⟩ clX11 rfl rfl rfl (Nat.le_of_ble_eq_true rfl) ?_
      rintro _ S20 ⟨rfl, hr20E, hr20R, hr20P⟩
      show zG x LM 23 [some (zr 0), some (zi a), some (zi b)] [zi (fewV (A 5 0) (qA A a) (mA A a) b)] S20
      refine z_goto (pc := 23) (tgt := 28) h dX11_few_23 (by decide) ?_
      refine z_iret (pc := 28) h dX11_few_28 rfl ?_
      first
        | exact ⟨ap_some (by unfold sp_few; rw [if_pos (by omega)]), by first | exact hr20R | exact hR | exact hr11R⟩
        | exact ⟨ap_some (by unfold sp_few; rw [if_neg (by omega)]), by first | exact hr20R | exact hR | exact hr11R⟩
    ·
      show zG x LM 14 [some (zr 0), some (zi a), some (zi b)] [zi 0] S
      refine z_if_eq (pc := 14) (tgt := 26) h dX11_few_14 (by decide) ⟨by decide, by decide⟩ (fun hc14 => ?_) (fun hc14 => absurd hc14 (by decide))
      refine z_bipush (pc := 26) h dX11_few_26 rfl ?_
      refine z_iret (pc := 28) h dX11_few_28 rfl ?_
      first
        | exact ⟨ap_some (by unfold sp_few; rw [if_pos (by omega)]), by first | exact hr20R | exact hR | exact hr11R⟩
        | exact ⟨ap_some (by unfold sp_few; rw [if_neg (by omega)]), by first | exact hr20R | exact hR | exact hr11R⟩
  ·
    show zG x LM 4 [some (zr 0), some (zi a), some (zi b)] [zi 0] S
    refine z_if_eq (pc := 4) (tgt := 26) h dX11_few_4 (by decide) ⟨by decide, by decide⟩ (fun hc4 => ?_) (fun hc4 => absurd hc4 (by decide))
    refine z_bipush (pc := 26) h dX11_few_26 rfl ?_
    refine z_iret (pc := 28) h dX11_few_28 rfl ?_
    first
      | exact ⟨ap_some (by unfold sp_few; rw [if_pos (by omega)]), by first | exact hr20R | exact hR | exact hr11R⟩
      | exact ⟨ap_some (by unfold sp_few; rw [if_neg (by omega)]), by first | exact hr20R | exact hR | exact hr11R⟩

set_option maxRecDepth 100000 in
set_option maxHeartbeats 4000000 in
theorem m_X11_set (a b : Int) (A S : SS) (ha : r32 a) (hb : r32 b) (hR : mRel S A) (hm : MI A) : zM LM yX11_set cX11_set 4 (some .int) 1 22 [zr 0, zi a, zi b] S (fun r S' => r = some (zi (sp_set A a b)) ∧ mRel S' (st_set A a b)) := by
  refine zM_of (own := RX11) rfl (by decide +kernel) [some (zr 0), some (zi a), some (zi b), none] (Nat.le_of_ble_eq_true rfl) rfl ?_
  intro x h
  refine z_iload_n (pc := 0) h dX11_set_0 rfl ?_
  refine z_iconst (pc := 1) h dX11_set_1 ?_
  refine z_iconst (pc := 2) h dX11_set_2 ?_
  refine z_callS (pc := 3) (rest := ([] : List zV)) h (m_X11_in a 0 1 S ⟨by omega, by omega⟩ ⟨by decide, by decide⟩ ⟨by decide, by decide⟩) dX11_set_3 mcX11_in msX11_in mlX11_75 rfl rfl ⟨by decide, by decide⟩ rfl (Nat.le_of_ble_eq_true rfl) ?_
  rintro _ _ ⟨rfl, ⟨hr3, rfl⟩ | ⟨hr3, rfl⟩⟩
  ·
    show zG x LM 6 [some (zr 0), some (zi a), some (zi b), none] [zi 1] S
    refine z_if_eq (pc := 6) (tgt := 28) h dX11_set_6 (by decide) ⟨by decide, by decide⟩ (fun hc6 => absurd hc6 (by decide)) (fun hc6 => ?_)
    refine z_iload_n (pc := 9) h dX11_set_9 rfl ?_
    refine z_iconst (pc := 10) h dX11_set_10 ?_
    refine z_iload_n (pc := 11) h dX11_set_11 rfl ?_
    refine z_if_ne (pc := 12) (tgt := 20) h dX11_set_12 (by decide) ⟨by omega, by omega⟩ (fun hc12 => ?_) (fun hc12 => ?_)
    ·
      refine z_bipush (pc := 20) h dX11_set_20 rfl ?_
      refine z_callS (pc := 22) (rest := ([] : List zV)) h (m_X11_in b 0 60 S ⟨by omega, by omega⟩ ⟨by decide, by decide⟩ ⟨by decide, by decide⟩) dX11_set_22 mcX11_in msX11_in mlX11_75 rfl rfl ⟨by decide, by decide⟩ rfl (Nat.le_of_ble_eq_true rfl) ?_
      rintro _ _ ⟨rfl, ⟨hr22, rfl⟩ | ⟨hr22, rfl⟩⟩
      ·
        show zG x LM 25 [some (zr 0), some (zi a), some (zi b), none] [zi 1] S
        refine z_if_ne (pc := 25) (tgt := 31) h dX11_set_25 (by decide) ⟨by decide, by decide⟩ (fun hc25 => ?_) (fun hc25 => absurd hc25 (by decide))
        have h01 : a = 0 ∨ a = 1 := by omega
        refine z_aload_n (pc := 31) h dX11_set_31 rfl ?_
        refine z_getR (a := 5) (pc := 32) h dX11_set_32 clX11 lkX11_22 (by decide) rfl rfl ?_
        refine z_iload_n (pc := 35) h dX11_set_35 rfl ?_
        refine z_iald (pc := 36) h dX11_set_36 rfl (by decide) (by omega) (by omega) ?_
        refine z_istore_n (pc := 37) (loc' := [some (zr 0), some (zi a), some (zi b), some (zi (S 5 a.toNat))]) h dX11_set_37 rfl (Nat.le_of_ble_eq_true rfl) rfl rfl ?_
        refine z_aload_n (pc := 38) h dX11_set_38 rfl ?_
        refine z_getR (a := 5) (pc := 39) h dX11_set_39 clX11 lkX11_22 (by decide) rfl rfl ?_
        refine z_iload_n (pc := 42) h dX11_set_42 rfl ?_
        refine z_iload_n (pc := 43) h dX11_set_43 rfl ?_
        refine z_iast (pc := 44) h dX11_set_44 rfl (by decide) (by omega) (by omega) ?_
        refine z_iload_n (pc := 45) h dX11_set_45 rfl ?_
        refine z_iret (pc := 46) h dX11_set_46 rfl ?_
        rcases h01 with h0 | h0
        · subst h0
          exact ⟨ap_some (by unfold sp_set; rw [if_pos (by omega)]; exact mr_at hR _ (by decide)), by unfold st_set; rw [if_pos (by omega)]; exact mr_up hR _ _ (by decide)⟩
        · subst h0
          exact ⟨ap_some (by unfold sp_set; rw [if_neg (by omega), if_pos (by omega)]; exact mr_at hR _ (by decide)), by unfold st_set; rw [if_neg (by omega), if_pos (by omega)]; exact mr_up hR _ _ (by decide)⟩
      ·
        show zG x LM 25 [some (zr 0), some (zi a), some (zi b), none] [zi 0] S
        refine z_if_ne (pc := 25) (tgt := 31) h dX11_set_25 (by decide) ⟨by decide, by decide⟩ (fun hc25 => absurd hc25 (by decide)) (fun hc25 => ?_)
        refine z_bipush (pc := 28) h dX11_set_28 rfl ?_
        exact z_iret (pc := 30) h dX11_set_30 rfl (⟨ap_some (by unfold sp_set; rw [if_neg (by omega), if_neg (by omega)]), by unfold st_set; rw [if_neg (by omega), if_neg (by omega)]; exact hR⟩)
    ·
      refine z_bipush (pc := 15) h dX11_set_15 rfl ?_
      refine z_goto (pc := 17) (tgt := 22) h dX11_set_17 (by decide) ?_
      refine z_callS (pc := 22) (rest := ([] : List zV)) h (m_X11_in b 0 9 S ⟨by omega, by omega⟩ ⟨by decide, by decide⟩ ⟨by decide, by decide⟩) dX11_set_22 mcX11_in msX11_in mlX11_75 rfl rfl ⟨by decide, by decide⟩ rfl (Nat.le_of_ble_eq_true rfl) ?_
      rintro _ _ ⟨rfl, ⟨hr22, rfl⟩ | ⟨hr22, rfl⟩⟩
      ·
        show zG x LM 25 [some (zr 0), some (zi a), some (zi b), none] [zi 1] S
        refine z_if_ne (pc := 25) (tgt := 31) h dX11_set_25 (by decide) ⟨by decide, by decide⟩ (fun hc25 => ?_) (fun hc25 => absurd hc25 (by decide))
        have h01 : a = 0 ∨ a = 1 := by omega
        refine z_aload_n (pc := 31) h dX11_set_31 rfl ?_
        refine z_getR (a := 5) (pc := 32) h dX11_set_32 clX11 lkX11_22 (by decide) rfl rfl ?_
        refine z_iload_n (pc := 35) h dX11_set_35 rfl ?_
        refine z_iald (pc := 36) h dX11_set_36 rfl (by decide) (by omega) (by omega) ?_
        refine z_istore_n (pc := 37) (loc' := [some (zr 0), some (zi a), some (zi b), some (zi (S 5 a.toNat))]) h dX11_set_37 rfl (Nat.le_of_ble_eq_true rfl) rfl rfl ?_
        refine z_aload_n (pc := 38) h dX11_set_38 rfl ?_
        refine z_getR (a := 5) (pc := 39) h dX11_set_39 clX11 lkX11_22 (by decide) rfl rfl ?_
        refine z_iload_n (pc := 42) h dX11_set_42 rfl ?_
        refine z_iload_n (pc := 43) h dX11_set_43 rfl ?_
        refine z_iast (pc := 44) h dX11_set_44 rfl (by decide) (by omega) (by omega) ?_
        refine z_iload_n (pc := 45) h dX11_set_45 rfl ?_
        refine z_iret (pc := 46) h dX11_set_46 rfl ?_
        rcases h01 with h0 | h0
        · subst h0
          exact ⟨ap_some (by unfold sp_set; rw [if_pos (by omega)]; exact mr_at hR _ (by decide)), by unfold st_set; rw [if_pos (by omega)]; exact mr_up hR _ _ (by decide)⟩
        · subst h0
          exact ⟨ap_some (by unfold sp_set; rw [if_neg (by omega), if_pos (by omega)]; exact mr_at hR _ (by decide)), by unfold st_set; rw [if_neg (by omega), if_pos (by omega)]; exact mr_up hR _ _ (by decide)⟩
      ·
        show zG x LM 25 [some (zr 0), some (zi a), some (zi b), none] [zi 0] S
        refine z_if_ne (pc := 25) (tgt := 31) h dX11_set_25 (by decide) ⟨by decide, by decide⟩ (fun hc25 => absurd hc25 (by decide)) (fun hc25 => ?_)
        refine z_bipush (pc := 28) h dX11_set_28 rfl ?_
        exact z_iret (pc := 30) h dX11_set_30 rfl (⟨ap_some (by unfold sp_set; rw [if_neg (by omega), if_neg (by omega)]), by unfold st_set; rw [if_neg (by omega), if_neg (by omega)]; exact hR⟩)
  ·
    show zG x LM 6 [some (zr 0), some (zi a), some (zi b), none] [zi 0] S
    refine z_if_eq (pc := 6) (tgt := 28) h dX11_set_6 (by decide) ⟨by decide, by decide⟩ (fun hc6 => ?_) (fun hc6 => absurd hc6 (by decide))
    refine z_bipush (pc := 28) h dX11_set_28 rfl ?_
    exact z_iret (pc := 30) h dX11_set_30 rfl (⟨ap_some (by unfold sp_set; rw [if_neg (by omega), if_neg (by omega)]), by unfold st_set; rw [if_neg (by omega), if_neg (by omega)]; exact hR⟩)

set_option maxRecDepth 100000 in
set_option maxHeartbeats 4000000 in
theorem m_X11_count (a : Int) (A S : SS) (ha : r32 a) (hR : mRel S A) (hm : MI A) : zM LM yX11_count cX11_count 2 (some .int) 3 69 [zr 0, zi a] S (fun r S' => r = some (zi (sp_count A a)) ∧ mRel S' A) := by
  refine zM_of (own := RX11) rfl (by decide +kernel) [some (zr 0), some (zi a)] (Nat.le_of_ble_eq_true rfl) rfl ?_
  intro x h
  refine z_iload_n (pc := 0) h dX11_count_0 rfl ?_
  by_cases ho1 : a < 0 ∨ 8 < a
  ·
    refine z_tab_out (pc := 1) (tgt := 93) h dX11_count_1 ⟨by omega, by omega⟩ ho1 (by decide) ?_
    refine z_bipush (pc := 93) h dX11_count_93 rfl ?_
    refine z_iret (pc := 95) h dX11_count_95 rfl ?_
    first
      | exact ⟨rfl, hr51R⟩
      | exact ⟨rfl, hr54R⟩
      | exact ⟨ap_some (mr_at hR _ (by decide)), hR⟩
      | exact ⟨ap_some (hR.1 0 14 (by decide) (by decide) (by decide) (by decide) (by decide) (by decide)), hR⟩
      | exact ⟨ap_some (hR.1 0 23 (by decide) (by decide) (by decide) (by decide) (by decide) (by decide)), hR⟩
      | exact ⟨ap_some (by unfold sp_count; rw [if_neg (by omega), if_neg (by omega), if_neg (by omega), if_neg (by omega), if_neg (by omega), if_neg (by omega), if_neg (by omega), if_neg (by omega), if_neg (by omega)]), hR⟩
  have hq1 : a = 0 ∨ a = 1 ∨ a = 2 ∨ a = 3 ∨ a = 4 ∨ a = 5 ∨ a = 6 ∨ a = 7 ∨ a = 8 := by omega
  rcases hq1 with hv | hv | hv | hv | hv | hv | hv | hv | hv
  ·
    subst hv
    refine z_tab_in (pc := 1) (off := 51) (tgt := 52) h dX11_count_1 ⟨by decide, by decide⟩ (by decide) (by decide) rfl (by decide) ?_
    refine z_aload_n (pc := 52) h dX11_count_52 rfl ?_
    refine z_iload_n (pc := 53) h dX11_count_53 rfl ?_
    refine z_callV (pc := 54) (rest := ([] : List zV)) h (m_X11_pictures 0 _ S (by first | assumption | omega) (by first | assumption | omega) (by first | assumption | omega)) dX11_count_54 mcX11_pictures miX11_pictures mlX11_89 rfl rfl ⟨by decide, by decide⟩ clX11 rfl rfl rfl (Nat.le_of_ble_eq_true rfl) ?_
    rintro _ S54 ⟨rfl, hr54E, hr54R, hr54P⟩
    show zG x LM 57 [some (zr 0), some (zi 0)] [zi (mA A 0)] S54
    refine z_iret (pc := 57) h dX11_count_57 rfl ?_
    first
      | exact ⟨rfl, hr51R⟩
      | exact ⟨rfl, hr54R⟩
      | exact ⟨ap_some (mr_at hR _ (by decide)), hR⟩
      | exact ⟨ap_some (hR.1 0 14 (by decide) (by decide) (by decide) (by decide) (by decide) (by decide)), hR⟩
      | exact ⟨ap_some (hR.1 0 23 (by decide) (by decide) (by decide) (by decide) (by decide) (by decide)), hR⟩
      | exact ⟨ap_some (by unfold sp_count; rw [if_neg (by omega), if_neg (by omega), if_neg (by omega), if_neg (by omega), if_neg (by omega), if_neg (by omega), if_neg (by omega), if_neg (by omega), if_neg (by omega)]), hR⟩
  ·
    subst hv
    refine z_tab_in (pc := 1) (off := 51) (tgt := 52) h dX11_count_1 ⟨by decide, by decide⟩ (by decide) (by decide) rfl (by decide) ?_
    refine z_aload_n (pc := 52) h dX11_count_52 rfl ?_
    refine z_iload_n (pc := 53) h dX11_count_53 rfl ?_
    refine z_callV (pc := 54) (rest := ([] : List zV)) h (m_X11_pictures 1 _ S (by first | assumption | omega) (by first | assumption | omega) (by first | assumption | omega)) dX11_count_54 mcX11_pictures miX11_pictures mlX11_89 rfl rfl ⟨by decide, by decide⟩ clX11 rfl rfl rfl (Nat.le_of_ble_eq_true rfl) ?_
    rintro _ S54 ⟨rfl, hr54E, hr54R, hr54P⟩
    show zG x LM 57 [some (zr 0), some (zi 1)] [zi (mA A 1)] S54
    refine z_iret (pc := 57) h dX11_count_57 rfl ?_
    first
      | exact ⟨rfl, hr51R⟩
      | exact ⟨rfl, hr54R⟩
      | exact ⟨ap_some (mr_at hR _ (by decide)), hR⟩
      | exact ⟨ap_some (hR.1 0 14 (by decide) (by decide) (by decide) (by decide) (by decide) (by decide)), hR⟩
      | exact ⟨ap_some (hR.1 0 23 (by decide) (by decide) (by decide) (by decide) (by decide) (by decide)), hR⟩
      | exact ⟨ap_some (by unfold sp_count; rw [if_neg (by omega), if_neg (by omega), if_neg (by omega), if_neg (by omega), if_neg (by omega), if_neg (by omega), if_neg (by omega), if_neg (by omega), if_neg (by omega)]), hR⟩
  ·
    subst hv
    refine z_tab_in (pc := 1) (off := 57) (tgt := 58) h dX11_count_1 ⟨by decide, by decide⟩ (by decide) (by decide) rfl (by decide) ?_
    refine z_aload_n (pc := 58) h dX11_count_58 rfl ?_
    refine z_getR (a := 2) (pc := 59) h dX11_count_59 clX11 lkX11_13 (by decide) rfl rfl ?_
    refine z_iload_n (pc := 62) h dX11_count_62 rfl ?_
    refine z_iconst (pc := 63) h dX11_count_63 ?_
    refine z_isub (pc := 64) h dX11_count_64 ?_
    refine z_iald (pc := 65) h dX11_count_65 rfl (by decide) (by decide) (by decide) ?_
    refine z_iret (pc := 66) h dX11_count_66 rfl ?_
    first
      | exact ⟨rfl, hr51R⟩
      | exact ⟨rfl, hr54R⟩
      | exact ⟨ap_some (mr_at hR _ (by decide)), hR⟩
      | exact ⟨ap_some (hR.1 0 14 (by decide) (by decide) (by decide) (by decide) (by decide) (by decide)), hR⟩
      | exact ⟨ap_some (hR.1 0 23 (by decide) (by decide) (by decide) (by decide) (by decide) (by decide)), hR⟩
      | exact ⟨ap_some (by unfold sp_count; rw [if_neg (by omega), if_neg (by omega), if_neg (by omega), if_neg (by omega), if_neg (by omega), if_neg (by omega), if_neg (by omega), if_neg (by omega), if_neg (by omega)]), hR⟩
  ·
    subst hv
    refine z_tab_in (pc := 1) (off := 57) (tgt := 58) h dX11_count_1 ⟨by decide, by decide⟩ (by decide) (by decide) rfl (by decide) ?_
    refine z_aload_n (pc := 58) h dX11_count_58 rfl ?_
    refine z_getR (a := 2) (pc := 59) h dX11_count_59 clX11 lkX11_13 (by decide) rfl rfl ?_
    refine z_iload_n (pc := 62) h dX11_count_62 rfl ?_
    refine z_iconst (pc := 63) h dX11_count_63 ?_
    refine z_isub (pc := 64) h dX11_count_64 ?_
    refine z_iald (pc := 65) h dX11_count_65 rfl (by decide) (by decide) (by decide) ?_
    refine z_iret (pc := 66) h dX11_count_66 rfl ?_
    first
      | exact ⟨rfl, hr51R⟩
      | exact ⟨rfl, hr54R⟩
      | exact ⟨ap_some (mr_at hR _ (by decide)), hR⟩
      | exact ⟨ap_some (hR.1 0 14 (by decide) (by decide) (by decide) (by decide) (by decide) (by decide)), hR⟩
      | exact ⟨ap_some (hR.1 0 23 (by decide) (by decide) (by decide) (by decide) (by decide) (by decide)), hR⟩
      | exact ⟨ap_some (by unfold sp_count; rw [if_neg (by omega), if_neg (by omega), if_neg (by omega), if_neg (by omega), if_neg (by omega), if_neg (by omega), if_neg (by omega), if_neg (by omega), if_neg (by omega)]), hR⟩
  ·
    subst hv
    refine z_tab_in (pc := 1) (off := 66) (tgt := 67) h dX11_count_1 ⟨by decide, by decide⟩ (by decide) (by decide) rfl (by decide) ?_
    refine z_aload_n (pc := 67) h dX11_count_67 rfl ?_
    refine z_getR (a := 6) (pc := 68) h dX11_count_68 clX11 lkX11_25 (by decide) rfl rfl ?_
    refine z_iload_n (pc := 71) h dX11_count_71 rfl ?_
    refine z_iconst (pc := 72) h dX11_count_72 ?_
    refine z_isub (pc := 73) h dX11_count_73 ?_
    refine z_iald (pc := 74) h dX11_count_74 rfl (by decide) (by decide) (by decide) ?_
    refine z_iret (pc := 75) h dX11_count_75 rfl ?_
    first
      | exact ⟨rfl, hr51R⟩
      | exact ⟨rfl, hr54R⟩
      | exact ⟨ap_some (mr_at hR _ (by decide)), hR⟩
      | exact ⟨ap_some (hR.1 0 14 (by decide) (by decide) (by decide) (by decide) (by decide) (by decide)), hR⟩
      | exact ⟨ap_some (hR.1 0 23 (by decide) (by decide) (by decide) (by decide) (by decide) (by decide)), hR⟩
      | exact ⟨ap_some (by unfold sp_count; rw [if_neg (by omega), if_neg (by omega), if_neg (by omega), if_neg (by omega), if_neg (by omega), if_neg (by omega), if_neg (by omega), if_neg (by omega), if_neg (by omega)]), hR⟩
  ·
    subst hv
    refine z_tab_in (pc := 1) (off := 66) (tgt := 67) h dX11_count_1 ⟨by decide, by decide⟩ (by decide) (by decide) rfl (by decide) ?_
    refine z_aload_n (pc := 67) h dX11_count_67 rfl ?_
    refine z_getR (a := 6) (pc := 68) h dX11_count_68 clX11 lkX11_25 (by decide) rfl rfl ?_
    refine z_iload_n (pc := 71) h dX11_count_71 rfl ?_
    refine z_iconst (pc := 72) h dX11_count_72 ?_
    refine z_isub (pc := 73) h dX11_count_73 ?_
    refine z_iald (pc := 74) h dX11_count_74 rfl (by decide) (by decide) (by decide) ?_
    refine z_iret (pc := 75) h dX11_count_75 rfl ?_
    first
      | exact ⟨rfl, hr51R⟩
      | exact ⟨rfl, hr54R⟩
      | exact ⟨ap_some (mr_at hR _ (by decide)), hR⟩
      | exact ⟨ap_some (hR.1 0 14 (by decide) (by decide) (by decide) (by decide) (by decide) (by decide)), hR⟩
      | exact ⟨ap_some (hR.1 0 23 (by decide) (by decide) (by decide) (by decide) (by decide) (by decide)), hR⟩
      | exact ⟨ap_some (by unfold sp_count; rw [if_neg (by omega), if_neg (by omega), if_neg (by omega), if_neg (by omega), if_neg (by omega), if_neg (by omega), if_neg (by omega), if_neg (by omega), if_neg (by omega)]), hR⟩
  ·
    subst hv
    refine z_tab_in (pc := 1) (off := 75) (tgt := 76) h dX11_count_1 ⟨by decide, by decide⟩ (by decide) (by decide) rfl (by decide) ?_
    refine z_aload_n (pc := 76) h dX11_count_76 rfl ?_
    refine z_getI (pc := 77) h dX11_count_77 clX11 lkX11_200 (by decide) rfl rfl ?_
    refine z_iret (pc := 80) h dX11_count_80 rfl ?_
    first
      | exact ⟨rfl, hr51R⟩
      | exact ⟨rfl, hr54R⟩
      | exact ⟨ap_some (mr_at hR _ (by decide)), hR⟩
      | exact ⟨ap_some (hR.1 0 14 (by decide) (by decide) (by decide) (by decide) (by decide) (by decide)), hR⟩
      | exact ⟨ap_some (hR.1 0 23 (by decide) (by decide) (by decide) (by decide) (by decide) (by decide)), hR⟩
      | exact ⟨ap_some (by unfold sp_count; rw [if_neg (by omega), if_neg (by omega), if_neg (by omega), if_neg (by omega), if_neg (by omega), if_neg (by omega), if_neg (by omega), if_neg (by omega), if_neg (by omega)]), hR⟩
  ·
    subst hv
    refine z_tab_in (pc := 1) (off := 80) (tgt := 81) h dX11_count_1 ⟨by decide, by decide⟩ (by decide) (by decide) rfl (by decide) ?_
    refine z_aload_n (pc := 81) h dX11_count_81 rfl ?_
    refine z_getR (a := 5) (pc := 82) h dX11_count_82 clX11 lkX11_22 (by decide) rfl rfl ?_
    refine z_iconst (pc := 85) h dX11_count_85 ?_
    refine z_iald (pc := 86) h dX11_count_86 rfl (by decide) (by decide) (by decide) ?_
    refine z_iret (pc := 87) h dX11_count_87 rfl ?_
    first
      | exact ⟨rfl, hr51R⟩
      | exact ⟨rfl, hr54R⟩
      | exact ⟨ap_some (mr_at hR _ (by decide)), hR⟩
      | exact ⟨ap_some (hR.1 0 14 (by decide) (by decide) (by decide) (by decide) (by decide) (by decide)), hR⟩
      | exact ⟨ap_some (hR.1 0 23 (by decide) (by decide) (by decide) (by decide) (by decide) (by decide)), hR⟩
      | exact ⟨ap_some (by unfold sp_count; rw [if_neg (by omega), if_neg (by omega), if_neg (by omega), if_neg (by omega), if_neg (by omega), if_neg (by omega), if_neg (by omega), if_neg (by omega), if_neg (by omega)]), hR⟩
  ·
    subst hv
    refine z_tab_in (pc := 1) (off := 87) (tgt := 88) h dX11_count_1 ⟨by decide, by decide⟩ (by decide) (by decide) rfl (by decide) ?_
    refine z_aload_n (pc := 88) h dX11_count_88 rfl ?_
    refine z_getI (pc := 89) h dX11_count_89 clX11 lkX11_209 (by decide) rfl rfl ?_
    refine z_iret (pc := 92) h dX11_count_92 rfl ?_
    first
      | exact ⟨rfl, hr51R⟩
      | exact ⟨rfl, hr54R⟩
      | exact ⟨ap_some (mr_at hR _ (by decide)), hR⟩
      | exact ⟨ap_some (hR.1 0 14 (by decide) (by decide) (by decide) (by decide) (by decide) (by decide)), hR⟩
      | exact ⟨ap_some (hR.1 0 23 (by decide) (by decide) (by decide) (by decide) (by decide) (by decide)), hR⟩
      | exact ⟨ap_some (by unfold sp_count; rw [if_neg (by omega), if_neg (by omega), if_neg (by omega), if_neg (by omega), if_neg (by omega), if_neg (by omega), if_neg (by omega), if_neg (by omega), if_neg (by omega)]), hR⟩

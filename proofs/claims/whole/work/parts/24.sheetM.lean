/-! the reference's dots and sheets -/
theorem mr_fn {S A S' A' : SS} (h : mRel S A) (hS : ∀ k j, k ≠ 3 → k ≠ 4 → k ≠ 9 → k ≠ 10 → k ≠ 18 → (k = 0 → j = 14 ∨ j = 23) → S' k j = A' k j) (h4 : ∀ j, S' 4 j = S 4 j) : mRel S' A' := ⟨hS, fun j => by rw [h4]; exact h.2 j⟩

set_option maxRecDepth 100000 in
set_option maxHeartbeats 4000000 in
theorem m_X11_isSheet (a : Int) (S : SS) (ha : r32 a) : zM LM yX11_isSheet cX11_isSheet 1 (some .boolean) 1 22 [zi a] S (fun r S' => S = S' ∧ ((isH a) ∧ r = some (zi 1) ∨ ¬ (isH a) ∧ r = some (zi 0))) := by
  refine zM_of (own := RX11) rfl (by decide +kernel) [some (zi a)] (Nat.le_of_ble_eq_true rfl) rfl ?_
  intro x h
  refine z_iload_n (pc := 0) h dX11_isSheet_0 rfl ?_
  refine z_iconst (pc := 1) h dX11_isSheet_1 ?_
  refine z_iconst (pc := 2) h dX11_isSheet_2 ?_
  refine z_callS (pc := 3) (rest := ([] : List zV)) h (m_X11_in a 0 3 S ⟨by omega, by omega⟩ ⟨by decide, by decide⟩ ⟨by decide, by decide⟩) dX11_isSheet_3 mcX11_in msX11_in mlX11_75 rfl rfl ⟨by decide, by decide⟩ rfl (Nat.le_of_ble_eq_true rfl) ?_
  rintro _ _ ⟨rfl, ⟨hr3, rfl⟩ | ⟨hr3, rfl⟩⟩
  ·
    show zG x LM 6 [some (zi a)] [zi 1] S
    exact z_zret (pc := 6) h dX11_isSheet_6 rfl (by decide) ⟨rfl, Or.inl ⟨by omega, rfl⟩⟩
  ·
    show zG x LM 6 [some (zi a)] [zi 0] S
    exact z_zret (pc := 6) h dX11_isSheet_6 rfl (by decide) ⟨rfl, Or.inr ⟨by omega, rfl⟩⟩

set_option maxRecDepth 100000 in
set_option maxHeartbeats 4000000 in
theorem m_X11_meets (a : Int) (S : SS)  : zM LM yX11_meets cX11_meets 2 (some .int) 0 0 [zr 0, zi a] S (fun r S' => up2 S 0 23 a = S' ∧ r = some (zi (-10 - a))) := by
  refine zM_of (own := RX11) rfl (by decide +kernel) [some (zr 0), some (zi a)] (Nat.le_of_ble_eq_true rfl) rfl ?_
  intro x h
  refine z_aload_n (pc := 0) h dX11_meets_0 rfl ?_
  refine z_iload_n (pc := 1) h dX11_meets_1 rfl ?_
  refine z_putI (pc := 2) h dX11_meets_2 clX11 lkX11_209 (by decide) rfl rfl rfl rfl ?_
  refine z_bipush (pc := 5) h dX11_meets_5 rfl ?_
  refine z_iload_n (pc := 7) h dX11_meets_7 rfl ?_
  refine z_isub (pc := 8) h dX11_meets_8 ?_
  exact z_iret (pc := 9) h dX11_meets_9 rfl (⟨rfl, rfl⟩)

set_option maxRecDepth 100000 in
set_option maxHeartbeats 4000000 in
theorem m_X11_dotMore (a b c : Int) (A S : SS) (ha : r32 a) (hb : r32 b) (hc : r32 c) (hR : mRel S A) (hm : MI A) : zM LM yX11_dotMore cX11_dotMore 4 (some .int) 1 22 [zr 0, zi a, zi b, zi c] S (fun r S' => r = some (zi (sp_dot A a b c)) ∧ mRel S' (st_dot A a b c)) := by
  refine zM_of (own := RX11) rfl (by decide +kernel) [some (zr 0), some (zi a), some (zi b), some (zi c)] (Nat.le_of_ble_eq_true rfl) rfl ?_
  intro x h
  refine z_iload_n (pc := 0) h dX11_dotMore_0 rfl ?_
  refine z_iconst (pc := 1) h dX11_dotMore_1 ?_
  refine z_iconst (pc := 2) h dX11_dotMore_2 ?_
  refine z_callS (pc := 3) (rest := ([] : List zV)) h (m_X11_in a 0 1 S ⟨by omega, by omega⟩ ⟨by decide, by decide⟩ ⟨by decide, by decide⟩) dX11_dotMore_3 mcX11_in msX11_in mlX11_75 rfl rfl ⟨by decide, by decide⟩ rfl (Nat.le_of_ble_eq_true rfl) ?_
  rintro _ _ ⟨rfl, ⟨hr3, rfl⟩ | ⟨hr3, rfl⟩⟩
  ·
    show zG x LM 6 [some (zr 0), some (zi a), some (zi b), some (zi c)] [zi 1] S
    refine z_if_eq (pc := 6) (tgt := 28) h dX11_dotMore_6 (by decide) ⟨by decide, by decide⟩ (fun hc6 => absurd hc6 (by decide)) (fun hc6 => ?_)
    refine z_iload_n (pc := 9) h dX11_dotMore_9 rfl ?_
    refine z_iconst (pc := 10) h dX11_dotMore_10 ?_
    refine z_bipush (pc := 11) h dX11_dotMore_11 rfl ?_
    refine z_callS (pc := 13) (rest := ([] : List zV)) h (m_X11_in b 0 59 S ⟨by omega, by omega⟩ ⟨by decide, by decide⟩ ⟨by decide, by decide⟩) dX11_dotMore_13 mcX11_in msX11_in mlX11_75 rfl rfl ⟨by decide, by decide⟩ rfl (Nat.le_of_ble_eq_true rfl) ?_
    rintro _ _ ⟨rfl, ⟨hr13, rfl⟩ | ⟨hr13, rfl⟩⟩
    ·
      show zG x LM 16 [some (zr 0), some (zi a), some (zi b), some (zi c)] [zi 1] S
      refine z_if_eq (pc := 16) (tgt := 28) h dX11_dotMore_16 (by decide) ⟨by decide, by decide⟩ (fun hc16 => absurd hc16 (by decide)) (fun hc16 => ?_)
      refine z_iload_n (pc := 19) h dX11_dotMore_19 rfl ?_
      refine z_iconst (pc := 20) h dX11_dotMore_20 ?_
      refine z_iconst (pc := 21) h dX11_dotMore_21 ?_
      refine z_callS (pc := 22) (rest := ([] : List zV)) h (m_X11_in c 0 3 S ⟨by omega, by omega⟩ ⟨by decide, by decide⟩ ⟨by decide, by decide⟩) dX11_dotMore_22 mcX11_in msX11_in mlX11_75 rfl rfl ⟨by decide, by decide⟩ rfl (Nat.le_of_ble_eq_true rfl) ?_
      rintro _ _ ⟨rfl, ⟨hr22, rfl⟩ | ⟨hr22, rfl⟩⟩
      ·
        show zG x LM 25 [some (zr 0), some (zi a), some (zi b), some (zi c)] [zi 1] S
        refine z_if_ne (pc := 25) (tgt := 31) h dX11_dotMore_25 (by decide) ⟨by decide, by decide⟩ (fun hc25 => ?_) (fun hc25 => absurd hc25 (by decide))
        refine z_aload_n (pc := 31) h dX11_dotMore_31 rfl ?_
        refine z_getR (a := 6) (pc := 32) h dX11_dotMore_32 clX11 lkX11_25 (by decide) rfl rfl ?_
        have e6 : S 6 a.toNat = dA A a := mr_at hR _ (by decide)
        have hdb := dA_b hm (a := a) (by omega)
        refine z_iload_n (pc := 35) h dX11_dotMore_35 rfl ?_
        refine z_iald (pc := 36) h dX11_dotMore_36 rfl (by decide) (by omega) (by omega) ?_
        refine z_bipush (pc := 37) h dX11_dotMore_37 rfl ?_
        refine z_icmp_ne (pc := 39) (tgt := 45) h dX11_dotMore_39 (by decide) ⟨by omega, by omega⟩ ⟨by decide, by decide⟩ (fun hc39 => ?_) (fun hc39 => ?_)
        ·
          refine z_aload_n (pc := 45) h dX11_dotMore_45 rfl ?_
          refine z_getR (a := 7) (pc := 46) h dX11_dotMore_46 clX11 lkX11_28 (by decide) rfl rfl ?_
          refine z_bipush (pc := 49) h dX11_dotMore_49 rfl ?_
          refine z_iload_n (pc := 51) h dX11_dotMore_51 rfl ?_
          refine z_imul (pc := 52) h dX11_dotMore_52 ?_
          refine z_aload_n (pc := 53) h dX11_dotMore_53 rfl ?_
          refine z_getR (a := 6) (pc := 54) h dX11_dotMore_54 clX11 lkX11_25 (by decide) rfl rfl ?_
          refine z_iload_n (pc := 57) h dX11_dotMore_57 rfl ?_
          refine z_iald (pc := 58) h dX11_dotMore_58 rfl (by decide) (by omega) (by omega) ?_
          refine z_iadd (pc := 59) h dX11_dotMore_59 ?_
          refine z_iload_n (pc := 60) h dX11_dotMore_60 rfl ?_
          refine z_iast (pc := 61) h dX11_dotMore_61 rfl (by decide) (by omega) (by omega) ?_
          refine z_nmS (fun S1 h_S1 => ?_)
          have f1 : S1 6 a.toNat = dA A a := by rw [h_S1, up2_k _ _ (by decide)]; exact e6
          refine z_aload_n (pc := 62) h dX11_dotMore_62 rfl ?_
          refine z_getR (a := 8) (pc := 63) h dX11_dotMore_63 clX11 lkX11_31 (by decide) rfl rfl ?_
          refine z_bipush (pc := 66) h dX11_dotMore_66 rfl ?_
          refine z_iload_n (pc := 68) h dX11_dotMore_68 rfl ?_
          refine z_imul (pc := 69) h dX11_dotMore_69 ?_
          refine z_aload_n (pc := 70) h dX11_dotMore_70 rfl ?_
          refine z_getR (a := 6) (pc := 71) h dX11_dotMore_71 clX11 lkX11_25 (by decide) rfl rfl ?_
          refine z_iload_n (pc := 74) h dX11_dotMore_74 rfl ?_
          refine z_iald (pc := 75) h dX11_dotMore_75 rfl (by decide) (by omega) (by omega) ?_
          refine z_iadd (pc := 76) h dX11_dotMore_76 ?_
          refine z_iload_n (pc := 77) h dX11_dotMore_77 rfl ?_
          refine z_iast (pc := 78) h dX11_dotMore_78 rfl (by decide) (by omega) (by omega) ?_
          refine z_nmS (fun S2 h_S2 => ?_)
          have f2 : S2 6 a.toNat = dA A a := by rw [h_S2, up2_k _ _ (by decide)]; exact f1
          refine z_aload_n (pc := 79) h dX11_dotMore_79 rfl ?_
          refine z_getR (a := 6) (pc := 80) h dX11_dotMore_80 clX11 lkX11_25 (by decide) rfl rfl ?_
          refine z_iload_n (pc := 83) h dX11_dotMore_83 rfl ?_
          refine z_dup2 (pc := 84) h dX11_dotMore_84 rfl rfl ?_
          refine z_iald (pc := 85) h dX11_dotMore_85 rfl (by decide) (by omega) (by omega) ?_
          refine z_iconst (pc := 86) h dX11_dotMore_86 ?_
          refine z_iadd (pc := 87) h dX11_dotMore_87 ?_
          refine z_iast (pc := 88) h dX11_dotMore_88 rfl (by decide) (by omega) (by omega) ?_
          refine z_nmS (fun S3 h_S3 => ?_)
          have f3 : S3 6 a.toNat = dA A a + 1 := by rw [h_S3, up2_s, f2]
          refine z_aload_n (pc := 89) h dX11_dotMore_89 rfl ?_
          refine z_getR (a := 6) (pc := 90) h dX11_dotMore_90 clX11 lkX11_25 (by decide) rfl rfl ?_
          refine z_iload_n (pc := 93) h dX11_dotMore_93 rfl ?_
          refine z_iald (pc := 94) h dX11_dotMore_94 rfl (by decide) (by omega) (by omega) ?_
          refine z_iconst (pc := 95) h dX11_dotMore_95 ?_
          refine z_isub (pc := 96) h dX11_dotMore_96 ?_
          refine z_iret (pc := 97) h dX11_dotMore_97 rfl ?_
          exact ⟨ap_some (by unfold sp_dot; rw [if_pos (by omega), if_neg (by omega), f3]; omega), by unfold st_dot; rw [if_pos (by omega), if_neg (by omega), h_S3, f2, h_S2, f1, h_S1, e6]; exact mr_up (k := 6) (mr_up (k := 8) (mr_up (k := 7) hR _ _ (by decide)) _ _ (by decide)) _ _ (by decide)⟩
        ·
          refine z_bipush (pc := 42) h dX11_dotMore_42 rfl ?_
          refine z_iret (pc := 44) h dX11_dotMore_44 rfl ?_
          exact ⟨ap_some (by unfold sp_dot; rw [if_pos (by omega), if_pos (by omega)]), by unfold st_dot; rw [if_pos (by omega), if_pos (by omega)]; exact hR⟩
      ·
        show zG x LM 25 [some (zr 0), some (zi a), some (zi b), some (zi c)] [zi 0] S
        refine z_if_ne (pc := 25) (tgt := 31) h dX11_dotMore_25 (by decide) ⟨by decide, by decide⟩ (fun hc25 => absurd hc25 (by decide)) (fun hc25 => ?_)
        refine z_bipush (pc := 28) h dX11_dotMore_28 rfl ?_
        refine z_iret (pc := 30) h dX11_dotMore_30 rfl ?_
        exact ⟨ap_some (by unfold sp_dot; rw [if_neg (by omega)]), by unfold st_dot; rw [if_neg (by omega)]; exact hR⟩
    ·
      show zG x LM 16 [some (zr 0), some (zi a), some (zi b), some (zi c)] [zi 0] S
      refine z_if_eq (pc := 16) (tgt := 28) h dX11_dotMore_16 (by decide) ⟨by decide, by decide⟩ (fun hc16 => ?_) (fun hc16 => absurd hc16 (by decide))
      refine z_bipush (pc := 28) h dX11_dotMore_28 rfl ?_
      refine z_iret (pc := 30) h dX11_dotMore_30 rfl ?_
      exact ⟨ap_some (by unfold sp_dot; rw [if_neg (by omega)]), by unfold st_dot; rw [if_neg (by omega)]; exact hR⟩
  ·
    show zG x LM 6 [some (zr 0), some (zi a), some (zi b), some (zi c)] [zi 0] S
    refine z_if_eq (pc := 6) (tgt := 28) h dX11_dotMore_6 (by decide) ⟨by decide, by decide⟩ (fun hc6 => ?_) (fun hc6 => absurd hc6 (by decide))
    refine z_bipush (pc := 28) h dX11_dotMore_28 rfl ?_
    refine z_iret (pc := 30) h dX11_dotMore_30 rfl ?_
    exact ⟨ap_some (by unfold sp_dot; rw [if_neg (by omega)]), by unfold st_dot; rw [if_neg (by omega)]; exact hR⟩

set_option maxRecDepth 100000 in
set_option maxHeartbeats 4000000 in
theorem m_X11_dot (a b c : Int) (A S : SS) (ha : r32 a) (hb : r32 b) (hc : r32 c) (hR : mRel S A) (hm : MI A) : zM LM yX11_dot cX11_dot 4 (some .int) 2 45 [zr 0, zi a, zi b, zi c] S (fun r S' => r = some (zi (sp_dot A a b c)) ∧ mRel S' (st_dot A a b c)) := by
  refine zM_of (own := RX11) rfl (by decide +kernel) [some (zr 0), some (zi a), some (zi b), some (zi c)] (Nat.le_of_ble_eq_true rfl) rfl ?_
  intro x h
  refine z_aload_n (pc := 0) h dX11_dot_0 rfl ?_
  refine z_iload_n (pc := 1) h dX11_dot_1 rfl ?_
  refine z_iload_n (pc := 2) h dX11_dot_2 rfl ?_
  refine z_iload_n (pc := 3) h dX11_dot_3 rfl ?_
  refine z_callV (pc := 4) (rest := ([] : List zV)) h (m_X11_dotMore a b c _ S ⟨by omega, by omega⟩ ⟨by omega, by omega⟩ ⟨by omega, by omega⟩ (by first | assumption | omega) (by first | assumption | omega)) dX11_dot_4 mcX11_dotMore miX11_dotMore mlX11_132 rfl rfl ⟨by decide, by decide⟩ clX11 rfl rfl rfl (Nat.le_of_ble_eq_true rfl) ?_
  rintro _ S4 ⟨rfl, hr4⟩
  show zG x LM 7 [some (zr 0), some (zi a), some (zi b), some (zi c)] [zi (sp_dot A a b c)] S4
  exact z_iret (pc := 7) h dX11_dot_7 rfl (⟨rfl, hr4⟩)

set_option maxRecDepth 100000 in
set_option maxHeartbeats 4000000 in
theorem m_X11_blink (a : Int) (A S : SS) (ha : r32 a) (hR : mRel S A) (hm : MI A) : zM LM yX11_blink cX11_blink 3 (some .int) 1 22 [zr 0, zi a] S (fun r S' => r = some (zi (sp_blink A a)) ∧ mRel S' (st_blink A a)) := by
  refine zM_of (own := RX11) rfl (by decide +kernel) [some (zr 0), some (zi a), none] (Nat.le_of_ble_eq_true rfl) rfl ?_
  intro x h
  refine z_iload_n (pc := 0) h dX11_blink_0 rfl ?_
  refine z_iconst (pc := 1) h dX11_blink_1 ?_
  refine z_iconst (pc := 2) h dX11_blink_2 ?_
  refine z_callS (pc := 3) (rest := ([] : List zV)) h (m_X11_in a 0 1 S ⟨by omega, by omega⟩ ⟨by decide, by decide⟩ ⟨by decide, by decide⟩) dX11_blink_3 mcX11_in msX11_in mlX11_75 rfl rfl ⟨by decide, by decide⟩ rfl (Nat.le_of_ble_eq_true rfl) ?_
  rintro _ _ ⟨rfl, ⟨hr3, rfl⟩ | ⟨hr3, rfl⟩⟩
  ·
    show zG x LM 6 [some (zr 0), some (zi a), none] [zi 1] S
    refine z_if_ne (pc := 6) (tgt := 12) h dX11_blink_6 (by decide) ⟨by decide, by decide⟩ (fun hc6 => ?_) (fun hc6 => absurd hc6 (by decide))
    have e6 : S 6 a.toNat = dA A a := mr_at hR _ (by decide)
    refine z_aload_n (pc := 12) h dX11_blink_12 rfl ?_
    refine z_getR (a := 6) (pc := 13) h dX11_blink_13 clX11 lkX11_25 (by decide) rfl rfl ?_
    refine z_iload_n (pc := 16) h dX11_blink_16 rfl ?_
    refine z_iald (pc := 17) h dX11_blink_17 rfl (by decide) (by omega) (by omega) ?_
    refine z_istore_n (pc := 18) (loc' := [some (zr 0), some (zi a), some (zi (S 6 a.toNat))]) h dX11_blink_18 rfl (Nat.le_of_ble_eq_true rfl) rfl rfl ?_
    refine z_aload_n (pc := 19) h dX11_blink_19 rfl ?_
    refine z_getR (a := 6) (pc := 20) h dX11_blink_20 clX11 lkX11_25 (by decide) rfl rfl ?_
    refine z_iload_n (pc := 23) h dX11_blink_23 rfl ?_
    refine z_iconst (pc := 24) h dX11_blink_24 ?_
    refine z_iast (pc := 25) h dX11_blink_25 rfl (by decide) (by omega) (by omega) ?_
    refine z_iload_n (pc := 26) h dX11_blink_26 rfl ?_
    refine z_iret (pc := 27) h dX11_blink_27 rfl ?_
    exact ⟨ap_some (by unfold sp_blink; rw [if_pos (by omega)]; exact e6), by unfold st_blink; rw [if_pos (by omega)]; exact mr_up hR _ _ (by decide)⟩
  ·
    show zG x LM 6 [some (zr 0), some (zi a), none] [zi 0] S
    refine z_if_ne (pc := 6) (tgt := 12) h dX11_blink_6 (by decide) ⟨by decide, by decide⟩ (fun hc6 => absurd hc6 (by decide)) (fun hc6 => ?_)
    refine z_bipush (pc := 9) h dX11_blink_9 rfl ?_
    refine z_iret (pc := 11) h dX11_blink_11 rfl ?_
    exact ⟨ap_some (by unfold sp_blink; rw [if_neg (by omega)]), by unfold st_blink; rw [if_neg (by omega)]; exact hR⟩

set_option maxRecDepth 100000 in
set_option maxHeartbeats 4000000 in
theorem m_X11_read (a b : Int) (A S : SS) (ha : r32 a) (hb : r32 b) (hR : mRel S A) (hm : MI A) : zM LM yX11_read cX11_read 4 (some .int) 2 45 [zr 0, zi a, zi b] S (fun r S' => r = some (zi (sp_read A a b)) ∧ mRel S' (st_read A a b)) := by
  refine zM_of (own := RX11) rfl (by decide +kernel) [some (zr 0), some (zi a), some (zi b), none] (Nat.le_of_ble_eq_true rfl) rfl ?_
  intro x h
  refine z_iload_n (pc := 0) h dX11_read_0 rfl ?_
  refine z_callS (pc := 1) (rest := ([] : List zV)) h (m_X11_isSheet a S ⟨by omega, by omega⟩) dX11_read_1 mcX11_isSheet msX11_isSheet mlX11_135 rfl rfl ⟨by decide, by decide⟩ rfl (Nat.le_of_ble_eq_true rfl) ?_
  rintro _ _ ⟨rfl, ⟨hr1, rfl⟩ | ⟨hr1, rfl⟩⟩
  ·
    show zG x LM 4 [some (zr 0), some (zi a), some (zi b), none] [zi 1] S
    refine z_if_eq (pc := 4) (tgt := 16) h dX11_read_4 (by decide) ⟨by decide, by decide⟩ (fun hc4 => absurd hc4 (by decide)) (fun hc4 => ?_)
    refine z_iload_n (pc := 7) h dX11_read_7 rfl ?_
    refine z_iconst (pc := 8) h dX11_read_8 ?_
    refine z_iconst (pc := 9) h dX11_read_9 ?_
    refine z_callS (pc := 10) (rest := ([] : List zV)) h (m_X11_in b 0 1 S ⟨by omega, by omega⟩ ⟨by decide, by decide⟩ ⟨by decide, by decide⟩) dX11_read_10 mcX11_in msX11_in mlX11_75 rfl rfl ⟨by decide, by decide⟩ rfl (Nat.le_of_ble_eq_true rfl) ?_
    rintro _ _ ⟨rfl, ⟨hr10, rfl⟩ | ⟨hr10, rfl⟩⟩
    ·
      show zG x LM 13 [some (zr 0), some (zi a), some (zi b), none] [zi 1] S
      refine z_if_ne (pc := 13) (tgt := 19) h dX11_read_13 (by decide) ⟨by decide, by decide⟩ (fun hc13 => ?_) (fun hc13 => absurd hc13 (by decide))
      have e14 : S 14 a.toNat = A 14 a.toNat := mr_at hR _ (by decide)
      have e15 : S 15 a.toNat = A 15 a.toNat := mr_at hR _ (by decide)
      have e16 : S 16 a.toNat = A 16 a.toNat := mr_at hR _ (by decide)
      have b14 := mi_h hm a.toNat
      have b15 := mi_hf hm a.toNat
      have b16 := mi_hn hm a.toNat
      refine z_aload_n (pc := 19) h dX11_read_19 rfl ?_
      refine z_getR (a := 14) (pc := 20) h dX11_read_20 clX11 lkX11_49 (by decide) rfl rfl ?_
      refine z_iload_n (pc := 23) h dX11_read_23 rfl ?_
      refine z_zald (pc := 24) h dX11_read_24 rfl (by decide) (by omega) (by omega) ?_
      refine z_if_ne (pc := 25) (tgt := 34) h dX11_read_25 (by decide) ⟨by omega, by omega⟩ (fun hc25 => ?_) (fun hc25 => ?_)
      ·
        refine z_iconst (pc := 34) h dX11_read_34 ?_
        refine z_istore_n (pc := 35) (loc' := [some (zr 0), some (zi a), some (zi b), some (zi 0)]) h dX11_read_35 rfl (Nat.le_of_ble_eq_true rfl) rfl rfl ?_
        have J36 : ∀ (N : Nat) (n : Int) (B S1 : SS) (hn : 0 ≤ n ∧ n ≤ A 16 a.toNat) (hB : ∀ k j, k ≠ 6 ∧ k ≠ 7 ∧ k ≠ 8 → B k j = A k j) (hm1 : MI B) (hR1 : mRel S1 B) (hI : rdR a b (A 16 a.toNat - n).toNat n B = rdF A a b) , (A 16 a.toNat - n).toNat = N → zG x LM 36 [some (zr 0), some (zi a), some (zi b), some (zi n)] ([] : List zV) S1 := by
          intro N
          induction N using Nat.strongRecOn with
          | _ N ih36 => ?_
          intro n B S1 hn hB hm1 hR1 hI hN36
          have y16 : S1 16 a.toNat = A 16 a.toNat := by rw [← hB 16 _ (by decide)]; exact mr_at hR1 _ (by decide)
          refine z_iload_n (pc := 36) h dX11_read_36 rfl ?_
          refine z_aload_n (pc := 37) h dX11_read_37 rfl ?_
          refine z_getR (a := 16) (pc := 38) h dX11_read_38 clX11 lkX11_56 (by decide) rfl rfl ?_
          refine z_iload_n (pc := 41) h dX11_read_41 rfl ?_
          refine z_iald (pc := 42) h dX11_read_42 rfl (by decide) (by omega) (by omega) ?_
          refine z_icmp_ge (pc := 43) (tgt := 72) h dX11_read_43 (by decide) ⟨by omega, by omega⟩ ⟨by omega, by omega⟩ (fun hc43 => ?_) (fun hc43 => ?_)
          ·
            refine z_iload_n (pc := 72) h dX11_read_72 rfl ?_
            refine z_iret (pc := 73) h dX11_read_73 rfl ?_
            first
              | (rw [rd_0 (by omega)] at hI; exact ⟨ap_some (by unfold sp_read; rw [if_pos (by omega), if_neg (by omega), ← hI]), by unfold st_read; rw [if_pos (by omega), if_neg (by omega), ← hI]; exact hR1⟩)
              | (rw [rd_s (r' := (A 16 a.toNat - (n + 1)).toNat) (by omega), if_neg (by omega)] at hI; exact ⟨ap_some (by unfold sp_read; rw [if_pos (by omega), if_neg (by omega), ← hI]), by unfold st_read; rw [if_pos (by omega), if_neg (by omega), ← hI]; rw [hsb.2.2 (by omega)] at hr60; exact hr60⟩)
          ·
            have i17 : S1 17 (60 * a + n).toNat = B 17 (60 * a + n).toNat := mr_at hR1 _ (by decide)
            refine z_aload_n (pc := 46) h dX11_read_46 rfl ?_
            refine z_iload_n (pc := 47) h dX11_read_47 rfl ?_
            refine z_aload_n (pc := 48) h dX11_read_48 rfl ?_
            refine z_getR (a := 17) (pc := 49) h dX11_read_49 clX11 lkX11_59 (by decide) rfl rfl ?_
            refine z_bipush (pc := 52) h dX11_read_52 rfl ?_
            refine z_iload_n (pc := 54) h dX11_read_54 rfl ?_
            refine z_imul (pc := 55) h dX11_read_55 ?_
            refine z_iload_n (pc := 56) h dX11_read_56 rfl ?_
            refine z_iadd (pc := 57) h dX11_read_57 ?_
            refine z_iald (pc := 58) h dX11_read_58 rfl (by decide) (by omega) (by omega) ?_
            refine z_cv (b := (B 17 (60 * a + n).toNat)) (by exact i17) ?_
            refine z_iconst (pc := 59) h dX11_read_59 ?_
            have hsb := sp_dot_b hm1 b (B 17 (60 * a + n).toNat) 0
            have hi17 := mi_hi hm1 (60 * a + n).toNat
            refine z_callV (pc := 60) (rest := ([] : List zV)) h (m_X11_dotMore b (B 17 (60 * a + n).toNat) 0 B S1 ⟨by omega, by omega⟩ hi17 ⟨by decide, by decide⟩ (by first | assumption | omega) (by first | assumption | omega)) dX11_read_60 mcX11_dotMore miX11_dotMore mlX11_132 rfl rfl ⟨by decide, by decide⟩ clX11 rfl rfl rfl (Nat.le_of_ble_eq_true rfl) ?_
            rintro _ S60 ⟨rfl, hr60⟩
            show zG x LM 63 [some (zr 0), some (zi a), some (zi b), some (zi n)] [zi (sp_dot B b (B 17 (60 * a + n).toNat) 0)] S60
            refine z_if_lt (pc := 63) (tgt := 72) h dX11_read_63 (by decide) ⟨by omega, by omega⟩ (fun hc63 => ?_) (fun hc63 => ?_)
            ·
              refine z_iload_n (pc := 72) h dX11_read_72 rfl ?_
              refine z_iret (pc := 73) h dX11_read_73 rfl ?_
              first
                | (rw [rd_0 (by omega)] at hI; exact ⟨ap_some (by unfold sp_read; rw [if_pos (by omega), if_neg (by omega), ← hI]), by unfold st_read; rw [if_pos (by omega), if_neg (by omega), ← hI]; exact hR1⟩)
                | (rw [rd_s (r' := (A 16 a.toNat - (n + 1)).toNat) (by omega), if_neg (by omega)] at hI; exact ⟨ap_some (by unfold sp_read; rw [if_pos (by omega), if_neg (by omega), ← hI]), by unfold st_read; rw [if_pos (by omega), if_neg (by omega), ← hI]; rw [hsb.2.2 (by omega)] at hr60; exact hr60⟩)
            ·
              refine z_iinc (pc := 66) (loc' := [some (zr 0), some (zi a), some (zi b), some (zi (n + 1))]) h dX11_read_66 rfl (Nat.le_of_ble_eq_true rfl) rfl rfl ?_
              refine z_goto (pc := 69) (tgt := 36) h dX11_read_69 (by decide) ?_
              exact ih36 _ (by omega) (n + 1) (st_dot B b (B 17 (60 * a + n).toNat) 0) S60 (by omega) (fun k j q => by rw [st_dot_k _ _ _ q]; exact hB k j q) (by exact st_dot_MI hm1 _ _ _) (by exact hr60) (by rw [rd_s (r' := (A 16 a.toNat - (n + 1)).toNat) (by omega), if_pos (by omega)] at hI; exact hI) rfl
        exact J36 _ 0 A S (by omega) (fun _ _ _ => rfl) (by exact hm) (by exact hR) (by unfold rdF; congr 1; omega) rfl
      ·
        refine z_aload_n (pc := 28) h dX11_read_28 rfl ?_
        refine z_iconst (pc := 29) h dX11_read_29 ?_
        refine z_callV (pc := 30) (rest := ([] : List zV)) h (m_X11_meets 1 S ) dX11_read_30 mcX11_meets miX11_meets mlX11_138 rfl rfl ⟨by decide, by decide⟩ clX11 rfl rfl rfl (Nat.le_of_ble_eq_true rfl) ?_
        rintro _ _ ⟨rfl, rfl⟩
        show zG x LM 33 [some (zr 0), some (zi a), some (zi b), none] [zi (-10 - 1)] (up2 S 0 23 1)
        refine z_iret (pc := 33) h dX11_read_33 rfl ?_
        exact ⟨ap_some (by unfold sp_read; rw [if_pos (by omega), if_pos (by omega)]; try omega), by unfold st_read; rw [if_pos (by omega), if_pos (by omega)]; exact mr_up hR 23 _ (by decide)⟩
    ·
      show zG x LM 13 [some (zr 0), some (zi a), some (zi b), none] [zi 0] S
      refine z_if_ne (pc := 13) (tgt := 19) h dX11_read_13 (by decide) ⟨by decide, by decide⟩ (fun hc13 => absurd hc13 (by decide)) (fun hc13 => ?_)
      refine z_bipush (pc := 16) h dX11_read_16 rfl ?_
      refine z_iret (pc := 18) h dX11_read_18 rfl ?_
      exact ⟨ap_some (by unfold sp_read; rw [if_neg (by omega)]), by unfold st_read; rw [if_neg (by omega)]; exact hR⟩
  ·
    show zG x LM 4 [some (zr 0), some (zi a), some (zi b), none] [zi 0] S
    refine z_if_eq (pc := 4) (tgt := 16) h dX11_read_4 (by decide) ⟨by decide, by decide⟩ (fun hc4 => ?_) (fun hc4 => absurd hc4 (by decide))
    refine z_bipush (pc := 16) h dX11_read_16 rfl ?_
    refine z_iret (pc := 18) h dX11_read_18 rfl ?_
    exact ⟨ap_some (by unfold sp_read; rw [if_neg (by omega)]), by unfold st_read; rw [if_neg (by omega)]; exact hR⟩

theorem mr_renew {S S' A : SS} {a b c n : Int} (h : mRel S A) (ha : isH a) (hn : 60 ≤ n) (h1 : ∀ (k j : Nat), ¬ (k = 17 ∧ (60 * a ≤ (j : Int) ∧ (j : Int) < 60 * a + n)) → S' k j = up2 (up2 (up2 S 14 a.toNat 1) 15 a.toNat b) 16 a.toNat c k j) (h2 : ∀ j : Nat, (60 * a ≤ (j : Int) ∧ (j : Int) < 60 * a + n) → S' 17 j = 0) (hn2 : n ≤ 60) : mRel S' (renewS A a.toNat b c) := by
  refine mr_fn h ?_ ?_
  · intro k j k3 k4 k9 k10 k18 k0
    have hA := h.1 k j k3 k4 k9 k10 k18 k0
    unfold renewS
    by_cases c17 : k = 17 ∧ (60 * a ≤ (j : Int) ∧ (j : Int) < 60 * a + n)
    · rw [c17.1, h2 j c17.2, if_neg (by omega), if_neg (by omega), if_neg (by omega), if_pos (by omega)]
    · rw [h1 k j c17, up2_e, up2_e, up2_e]
      by_cases c14 : k = 14 ∧ j = a.toNat
      · rw [if_neg (by omega), if_neg (by omega), if_pos c14, if_pos c14]
      · rw [if_neg c14, if_neg c14]
        by_cases c15 : k = 15 ∧ j = a.toNat
        · rw [if_neg (by omega), if_pos c15, if_pos c15]
        · rw [if_neg c15, if_neg c15]
          by_cases c16 : k = 16 ∧ j = a.toNat
          · rw [if_pos c16, if_pos c16]
          · rw [if_neg c16, if_neg c16, if_neg (by omega)]
            exact hA
  · intro j
    rw [h1 _ _ (by omega), up2_k _ _ (by decide), up2_k _ _ (by decide), up2_k _ _ (by decide)]
theorem mr_copy {S S' A : SS} {s i t j n : Int} (h : mRel S A) (hb : 0 ≤ i ∧ 0 ≤ s) (h1 : ∀ (k z : Nat), k ≠ 18 → ¬ (k = 17 ∧ (60 * t + j ≤ (z : Int) ∧ (z : Int) < 60 * t + j + n)) → S' k z = S k z) (h2 : ∀ z : Nat, 60 * t + j ≤ (z : Int) → (z : Int) < 60 * t + j + n → S' 17 z = S 17 (60 * s + i + ((z : Int) - (60 * t + j))).toNat) : mRel S' (copyS A s i t j n) := by
  refine mr_fn h ?_ ?_
  · intro k z k3 k4 k9 k10 k18 k0
    have hA := h.1 k z k3 k4 k9 k10 k18 k0
    unfold copyS
    by_cases c17 : k = 17 ∧ (60 * t + j ≤ (z : Int) ∧ (z : Int) < 60 * t + j + n)
    · rw [if_pos c17, c17.1, h2 z c17.2.1 c17.2.2]
      exact mr_at h _ (by decide)
    · rw [if_neg c17, h1 k z k18 c17]
      exact hA
  · intro z
    exact h1 _ _ (by decide) (by omega)

set_option maxRecDepth 100000 in
set_option maxHeartbeats 4000000 in
theorem m_X11_sheet (a b c : Int) (A S : SS) (ha : r32 a) (hb : r32 b) (hc : r32 c) (hR : mRel S A) (hm : MI A) : zM LM yX11_sheet cX11_sheet 5 (some .int) 2 42 [zr 0, zi a, zi b, zi c] S (fun r S' => r = some (zi (sp_sheet a b c)) ∧ mRel S' (st_sheet A a b c)) := by
  refine zM_of (own := RX11) rfl (by decide +kernel) [some (zr 0), some (zi a), some (zi b), some (zi c), none] (Nat.le_of_ble_eq_true rfl) rfl ?_
  intro x h
  refine z_iload_n (pc := 0) h dX11_sheet_0 rfl ?_
  refine z_callS (pc := 1) (rest := ([] : List zV)) h (m_X11_isSheet a S ⟨by omega, by omega⟩) dX11_sheet_1 mcX11_isSheet msX11_isSheet mlX11_135 rfl rfl ⟨by decide, by decide⟩ rfl (Nat.le_of_ble_eq_true rfl) ?_
  rintro _ _ ⟨rfl, ⟨hr1, rfl⟩ | ⟨hr1, rfl⟩⟩
  ·
    show zG x LM 4 [some (zr 0), some (zi a), some (zi b), some (zi c), none] [zi 1] S
    refine z_if_eq (pc := 4) (tgt := 22) h dX11_sheet_4 (by decide) ⟨by decide, by decide⟩ (fun hc4 => absurd hc4 (by decide)) (fun hc4 => ?_)
    refine z_iload_n (pc := 7) h dX11_sheet_7 rfl ?_
    refine z_iconst (pc := 8) h dX11_sheet_8 ?_
    refine z_iconst (pc := 9) h dX11_sheet_9 ?_
    refine z_callS (pc := 10) (rest := ([] : List zV)) h (m_X11_in b 0 2 S ⟨by omega, by omega⟩ ⟨by decide, by decide⟩ ⟨by decide, by decide⟩) dX11_sheet_10 mcX11_in msX11_in mlX11_75 rfl rfl ⟨by decide, by decide⟩ rfl (Nat.le_of_ble_eq_true rfl) ?_
    rintro _ _ ⟨rfl, ⟨hr10, rfl⟩ | ⟨hr10, rfl⟩⟩
    ·
      show zG x LM 13 [some (zr 0), some (zi a), some (zi b), some (zi c), none] [zi 1] S
      refine z_if_eq (pc := 13) (tgt := 22) h dX11_sheet_13 (by decide) ⟨by decide, by decide⟩ (fun hc13 => absurd hc13 (by decide)) (fun hc13 => ?_)
      refine z_iload_n (pc := 16) h dX11_sheet_16 rfl ?_
      refine z_bipush (pc := 17) h dX11_sheet_17 rfl ?_
      refine z_icmp_le (pc := 19) (tgt := 25) h dX11_sheet_19 (by decide) ⟨by omega, by omega⟩ ⟨by decide, by decide⟩ (fun hc19 => ?_) (fun hc19 => ?_)
      ·
        refine z_iload_n (pc := 25) h dX11_sheet_25 rfl ?_
        refine z_if_ge (pc := 26) (tgt := 35) h dX11_sheet_26 (by decide) ⟨by omega, by omega⟩ (fun hc26 => ?_) (fun hc26 => ?_)
        ·
          refine z_aload_n (pc := 35) h dX11_sheet_35 rfl ?_
          refine z_getR (a := 14) (pc := 36) h dX11_sheet_36 clX11 lkX11_49 (by decide) rfl rfl ?_
          refine z_iload_n (pc := 39) h dX11_sheet_39 rfl ?_
          refine z_iconst (pc := 40) h dX11_sheet_40 ?_
          refine z_zast (pc := 41) h dX11_sheet_41 rfl (by decide) (by omega) (by omega) (by decide) ?_
          refine z_aload_n (pc := 42) h dX11_sheet_42 rfl ?_
          refine z_getR (a := 15) (pc := 43) h dX11_sheet_43 clX11 lkX11_53 (by decide) rfl rfl ?_
          refine z_iload_n (pc := 46) h dX11_sheet_46 rfl ?_
          refine z_iload_n (pc := 47) h dX11_sheet_47 rfl ?_
          refine z_iast (pc := 48) h dX11_sheet_48 rfl (by decide) (by omega) (by omega) ?_
          refine z_aload_n (pc := 49) h dX11_sheet_49 rfl ?_
          refine z_getR (a := 16) (pc := 50) h dX11_sheet_50 clX11 lkX11_56 (by decide) rfl rfl ?_
          refine z_iload_n (pc := 53) h dX11_sheet_53 rfl ?_
          refine z_iload_n (pc := 54) h dX11_sheet_54 rfl ?_
          refine z_iast (pc := 55) h dX11_sheet_55 rfl (by decide) (by omega) (by omega) ?_
          refine z_iconst (pc := 56) h dX11_sheet_56 ?_
          refine z_istore (pc := 57) (loc' := [some (zr 0), some (zi a), some (zi b), some (zi c), some (zi 0)]) h dX11_sheet_57 (Nat.le_of_ble_eq_true rfl) rfl rfl ?_
          have J59 : ∀ (N : Nat) (n : Int) (S1 : SS) (hn : 0 ≤ n ∧ n ≤ 60) (h1 : ∀ (k j : Nat), ¬ (k = 17 ∧ (60 * a ≤ (j : Int) ∧ (j : Int) < 60 * a + n)) → S1 k j = up2 (up2 (up2 S 14 a.toNat 1) 15 a.toNat b) 16 a.toNat c k j) (h2 : ∀ j : Nat, (60 * a ≤ (j : Int) ∧ (j : Int) < 60 * a + n) → S1 17 j = 0) , (60 - n).toNat = N → zG x LM 59 [some (zr 0), some (zi a), some (zi b), some (zi c), some (zi n)] ([] : List zV) S1 := by
            intro N
            induction N using Nat.strongRecOn with
            | _ N ih59 => ?_
            intro n S1 hn h1 h2 hN59
            refine z_iload (pc := 59) h dX11_sheet_59 rfl ?_
            refine z_bipush (pc := 61) h dX11_sheet_61 rfl ?_
            refine z_icmp_ge (pc := 63) (tgt := 85) h dX11_sheet_63 (by decide) ⟨by omega, by omega⟩ ⟨by decide, by decide⟩ (fun hc63 => ?_) (fun hc63 => ?_)
            ·
              refine z_iload_n (pc := 85) h dX11_sheet_85 rfl ?_
              refine z_iret (pc := 86) h dX11_sheet_86 rfl ?_
              exact ⟨ap_some (by unfold sp_sheet; rw [if_pos (by omega), if_neg (by omega)]), by unfold st_sheet; rw [if_pos (by omega), if_neg (by omega)]; exact mr_renew hR (by omega) hc63 h1 h2 hn.2⟩
            ·
              refine z_aload_n (pc := 66) h dX11_sheet_66 rfl ?_
              refine z_getR (a := 17) (pc := 67) h dX11_sheet_67 clX11 lkX11_59 (by decide) rfl rfl ?_
              refine z_bipush (pc := 70) h dX11_sheet_70 rfl ?_
              refine z_iload_n (pc := 72) h dX11_sheet_72 rfl ?_
              refine z_imul (pc := 73) h dX11_sheet_73 ?_
              refine z_iload (pc := 74) h dX11_sheet_74 rfl ?_
              refine z_iadd (pc := 76) h dX11_sheet_76 ?_
              refine z_iconst (pc := 77) h dX11_sheet_77 ?_
              refine z_iast (pc := 78) h dX11_sheet_78 rfl (by decide) (by omega) (by omega) ?_
              refine z_iinc (pc := 79) (loc' := [some (zr 0), some (zi a), some (zi b), some (zi c), some (zi (n + 1))]) h dX11_sheet_79 rfl (Nat.le_of_ble_eq_true rfl) rfl rfl ?_
              refine z_goto (pc := 82) (tgt := 59) h dX11_sheet_82 (by decide) ?_
              exact ih59 _ (by omega) (n + 1) (up2 S1 17 (Int.toNat ((60 * a) + n)) 0) (by omega) (fun k j q => by rw [up2_e, if_neg (by omega)]; exact h1 k j (by omega)) (by intro j hj; rw [up2_e]; split; rfl; exact h2 j (by omega)) rfl
          exact J59 _ 0 (up2 (up2 (up2 S 14 a.toNat 1) 15 a.toNat b) 16 a.toNat c) (by omega) (fun k j _ => rfl) (fun j hj => by omega) rfl
        ·
          refine z_aload_n (pc := 29) h dX11_sheet_29 rfl ?_
          refine z_iconst (pc := 30) h dX11_sheet_30 ?_
          refine z_callV (pc := 31) (rest := ([] : List zV)) h (m_X11_meets 5 S ) dX11_sheet_31 mcX11_meets miX11_meets mlX11_138 rfl rfl ⟨by decide, by decide⟩ clX11 rfl rfl rfl (Nat.le_of_ble_eq_true rfl) ?_
          rintro _ _ ⟨rfl, rfl⟩
          show zG x LM 34 [some (zr 0), some (zi a), some (zi b), some (zi c), none] [zi (-10 - 5)] (up2 S 0 23 5)
          refine z_iret (pc := 34) h dX11_sheet_34 rfl ?_
          exact ⟨ap_some (by unfold sp_sheet; rw [if_pos (by omega), if_pos (by omega)]; try omega), by unfold st_sheet; rw [if_pos (by omega), if_pos (by omega)]; exact mr_up hR 23 _ (by decide)⟩
      ·
        refine z_bipush (pc := 22) h dX11_sheet_22 rfl ?_
        refine z_iret (pc := 24) h dX11_sheet_24 rfl ?_
        exact ⟨ap_some (by unfold sp_sheet; rw [if_neg (by omega)]), by unfold st_sheet; rw [if_neg (by omega)]; exact hR⟩
    ·
      show zG x LM 13 [some (zr 0), some (zi a), some (zi b), some (zi c), none] [zi 0] S
      refine z_if_eq (pc := 13) (tgt := 22) h dX11_sheet_13 (by decide) ⟨by decide, by decide⟩ (fun hc13 => ?_) (fun hc13 => absurd hc13 (by decide))
      refine z_bipush (pc := 22) h dX11_sheet_22 rfl ?_
      refine z_iret (pc := 24) h dX11_sheet_24 rfl ?_
      exact ⟨ap_some (by unfold sp_sheet; rw [if_neg (by omega)]), by unfold st_sheet; rw [if_neg (by omega)]; exact hR⟩
  ·
    show zG x LM 4 [some (zr 0), some (zi a), some (zi b), some (zi c), none] [zi 0] S
    refine z_if_eq (pc := 4) (tgt := 22) h dX11_sheet_4 (by decide) ⟨by decide, by decide⟩ (fun hc4 => ?_) (fun hc4 => absurd hc4 (by decide))
    refine z_bipush (pc := 22) h dX11_sheet_22 rfl ?_
    refine z_iret (pc := 24) h dX11_sheet_24 rfl ?_
    exact ⟨ap_some (by unfold sp_sheet; rw [if_neg (by omega)]), by unfold st_sheet; rw [if_neg (by omega)]; exact hR⟩

set_option maxRecDepth 100000 in
set_option maxHeartbeats 4000000 in
theorem m_X11_lose (a : Int) (A S : SS) (ha : r32 a) (hR : mRel S A) (hm : MI A) : zM LM yX11_lose cX11_lose 2 (some .int) 2 42 [zr 0, zi a] S (fun r S' => r = some (zi (sp_lose A a)) ∧ mRel S' (st_lose A a)) := by
  refine zM_of (own := RX11) rfl (by decide +kernel) [some (zr 0), some (zi a)] (Nat.le_of_ble_eq_true rfl) rfl ?_
  intro x h
  refine z_iload_n (pc := 0) h dX11_lose_0 rfl ?_
  refine z_callS (pc := 1) (rest := ([] : List zV)) h (m_X11_isSheet a S ⟨by omega, by omega⟩) dX11_lose_1 mcX11_isSheet msX11_isSheet mlX11_135 rfl rfl ⟨by decide, by decide⟩ rfl (Nat.le_of_ble_eq_true rfl) ?_
  rintro _ _ ⟨rfl, ⟨hr1, rfl⟩ | ⟨hr1, rfl⟩⟩
  ·
    show zG x LM 4 [some (zr 0), some (zi a)] [zi 1] S
    refine z_if_ne (pc := 4) (tgt := 10) h dX11_lose_4 (by decide) ⟨by decide, by decide⟩ (fun hc4 => ?_) (fun hc4 => absurd hc4 (by decide))
    have e14 : S 14 a.toNat = A 14 a.toNat := mr_at hR _ (by decide)
    have e15 : S 15 a.toNat = A 15 a.toNat := mr_at hR _ (by decide)
    have e16 : S 16 a.toNat = A 16 a.toNat := mr_at hR _ (by decide)
    have b14 := mi_h hm a.toNat
    have b15 := mi_hf hm a.toNat
    have b16 := mi_hn hm a.toNat
    refine z_aload_n (pc := 10) h dX11_lose_10 rfl ?_
    refine z_getR (a := 14) (pc := 11) h dX11_lose_11 clX11 lkX11_49 (by decide) rfl rfl ?_
    refine z_iload_n (pc := 14) h dX11_lose_14 rfl ?_
    refine z_zald (pc := 15) h dX11_lose_15 rfl (by decide) (by omega) (by omega) ?_
    refine z_if_ne (pc := 16) (tgt := 25) h dX11_lose_16 (by decide) ⟨by omega, by omega⟩ (fun hc16 => ?_) (fun hc16 => ?_)
    ·
      refine z_aload_n (pc := 25) h dX11_lose_25 rfl ?_
      refine z_getR (a := 14) (pc := 26) h dX11_lose_26 clX11 lkX11_49 (by decide) rfl rfl ?_
      refine z_iload_n (pc := 29) h dX11_lose_29 rfl ?_
      refine z_iconst (pc := 30) h dX11_lose_30 ?_
      refine z_zast (pc := 31) h dX11_lose_31 rfl (by decide) (by omega) (by omega) (by decide) ?_
      refine z_aload_n (pc := 32) h dX11_lose_32 rfl ?_
      refine z_getR (a := 16) (pc := 33) h dX11_lose_33 clX11 lkX11_56 (by decide) rfl rfl ?_
      refine z_iload_n (pc := 36) h dX11_lose_36 rfl ?_
      refine z_iald (pc := 37) h dX11_lose_37 rfl (by decide) (by omega) (by omega) ?_
      refine z_iret (pc := 38) h dX11_lose_38 rfl ?_
      exact ⟨ap_some (by unfold sp_lose; rw [if_pos (by omega), if_neg (by omega)]; exact e16), by unfold st_lose; rw [if_pos (by omega), if_neg (by omega)]; exact mr_up hR _ _ (by decide)⟩
    ·
      refine z_aload_n (pc := 19) h dX11_lose_19 rfl ?_
      refine z_iconst (pc := 20) h dX11_lose_20 ?_
      refine z_callV (pc := 21) (rest := ([] : List zV)) h (m_X11_meets 1 S ) dX11_lose_21 mcX11_meets miX11_meets mlX11_138 rfl rfl ⟨by decide, by decide⟩ clX11 rfl rfl rfl (Nat.le_of_ble_eq_true rfl) ?_
      rintro _ _ ⟨rfl, rfl⟩
      show zG x LM 24 [some (zr 0), some (zi a)] [zi (-10 - 1)] (up2 S 0 23 1)
      refine z_iret (pc := 24) h dX11_lose_24 rfl ?_
      exact ⟨ap_some (by unfold sp_lose; rw [if_pos (by omega), if_pos (by omega)]; try omega), by unfold st_lose; rw [if_pos (by omega), if_pos (by omega)]; exact mr_up hR 23 _ (by decide)⟩
  ·
    show zG x LM 4 [some (zr 0), some (zi a)] [zi 0] S
    refine z_if_ne (pc := 4) (tgt := 10) h dX11_lose_4 (by decide) ⟨by decide, by decide⟩ (fun hc4 => absurd hc4 (by decide)) (fun hc4 => ?_)
    refine z_bipush (pc := 7) h dX11_lose_7 rfl ?_
    refine z_iret (pc := 9) h dX11_lose_9 rfl ?_
    exact ⟨ap_some (by unfold sp_lose; rw [if_neg (by omega)]), by unfold st_lose; rw [if_neg (by omega)]; exact hR⟩

set_option maxRecDepth 100000 in
set_option maxHeartbeats 4000000 in
theorem m_X11_lacks (a b c : Int) (A S : SS) (ha : isH a) (hb : r32 b) (hc : r32 c) (hR : mRel S A) (hm : MI A) : zM LM yX11_lacks cX11_lacks 4 (some .int) 1 22 [zr 0, zi a, zi b, zi c] S (fun r S' => S = S' ∧ r = some (zi (lackA A a b c))) := by
  refine zM_of (own := RX11) rfl (by decide +kernel) [some (zr 0), some (zi a), some (zi b), some (zi c)] (Nat.le_of_ble_eq_true rfl) rfl ?_
  intro x h
  have e14 : S 14 a.toNat = A 14 a.toNat := mr_at hR _ (by decide)
  have e15 : S 15 a.toNat = A 15 a.toNat := mr_at hR _ (by decide)
  have e16 : S 16 a.toNat = A 16 a.toNat := mr_at hR _ (by decide)
  have b14 := mi_h hm a.toNat
  have b15 := mi_hf hm a.toNat
  have b16 := mi_hn hm a.toNat
  refine z_aload_n (pc := 0) h dX11_lacks_0 rfl ?_
  refine z_getR (a := 14) (pc := 1) h dX11_lacks_1 clX11 lkX11_49 (by decide) rfl rfl ?_
  refine z_iload_n (pc := 4) h dX11_lacks_4 rfl ?_
  refine z_zald (pc := 5) h dX11_lacks_5 rfl (by decide) (by omega) (by omega) ?_
  refine z_if_ne (pc := 6) (tgt := 13) h dX11_lacks_6 (by decide) ⟨by omega, by omega⟩ (fun hc6 => ?_) (fun hc6 => ?_)
  ·
    refine z_aload_n (pc := 13) h dX11_lacks_13 rfl ?_
    refine z_getR (a := 15) (pc := 14) h dX11_lacks_14 clX11 lkX11_53 (by decide) rfl rfl ?_
    refine z_iload_n (pc := 17) h dX11_lacks_17 rfl ?_
    refine z_iald (pc := 18) h dX11_lacks_18 rfl (by decide) (by omega) (by omega) ?_
    refine z_iload_n (pc := 19) h dX11_lacks_19 rfl ?_
    refine z_icmp_eq (pc := 20) (tgt := 27) h dX11_lacks_20 (by decide) ⟨by omega, by omega⟩ ⟨by omega, by omega⟩ (fun hc20 => ?_) (fun hc20 => ?_)
    ·
      refine z_iload_n (pc := 27) h dX11_lacks_27 rfl ?_
      refine z_iconst (pc := 28) h dX11_lacks_28 ?_
      refine z_aload_n (pc := 29) h dX11_lacks_29 rfl ?_
      refine z_getR (a := 16) (pc := 30) h dX11_lacks_30 clX11 lkX11_56 (by decide) rfl rfl ?_
      refine z_iload_n (pc := 33) h dX11_lacks_33 rfl ?_
      refine z_iald (pc := 34) h dX11_lacks_34 rfl (by decide) (by omega) (by omega) ?_
      refine z_iconst (pc := 35) h dX11_lacks_35 ?_
      refine z_isub (pc := 36) h dX11_lacks_36 ?_
      refine z_callS (pc := 37) (rest := ([] : List zV)) h (m_X11_in c 0 ((S 16 a.toNat) - 1) S ⟨by omega, by omega⟩ ⟨by decide, by decide⟩ ⟨by omega, by omega⟩) dX11_lacks_37 mcX11_in msX11_in mlX11_75 rfl rfl ⟨by decide, by decide⟩ rfl (Nat.le_of_ble_eq_true rfl) ?_
      rintro _ _ ⟨rfl, ⟨hr37, rfl⟩ | ⟨hr37, rfl⟩⟩
      ·
        show zG x LM 40 [some (zr 0), some (zi a), some (zi b), some (zi c)] [zi 1] S
        refine z_if_eq (pc := 40) (tgt := 47) h dX11_lacks_40 (by decide) ⟨by decide, by decide⟩ (fun hc40 => absurd hc40 (by decide)) (fun hc40 => ?_)
        refine z_iconst (pc := 43) h dX11_lacks_43 ?_
        refine z_goto (pc := 44) (tgt := 48) h dX11_lacks_44 (by decide) ?_
        exact z_iret (pc := 48) h dX11_lacks_48 rfl ⟨rfl, congrArg (fun z => some (zi z)) (by unfold lackA lackF; first | (rw [if_pos (by omega)]) | (rw [if_neg (by omega), if_pos (by omega)]) | (rw [if_neg (by omega), if_neg (by omega), if_pos (by omega)]) | (rw [if_neg (by omega), if_neg (by omega), if_neg (by omega)]))⟩
      ·
        show zG x LM 40 [some (zr 0), some (zi a), some (zi b), some (zi c)] [zi 0] S
        refine z_if_eq (pc := 40) (tgt := 47) h dX11_lacks_40 (by decide) ⟨by decide, by decide⟩ (fun hc40 => ?_) (fun hc40 => absurd hc40 (by decide))
        refine z_iconst (pc := 47) h dX11_lacks_47 ?_
        exact z_iret (pc := 48) h dX11_lacks_48 rfl ⟨rfl, congrArg (fun z => some (zi z)) (by unfold lackA lackF; first | (rw [if_pos (by omega)]) | (rw [if_neg (by omega), if_pos (by omega)]) | (rw [if_neg (by omega), if_neg (by omega), if_pos (by omega)]) | (rw [if_neg (by omega), if_neg (by omega), if_neg (by omega)]))⟩
    ·
      refine z_iconst (pc := 23) h dX11_lacks_23 ?_
      refine z_goto (pc := 24) (tgt := 48) h dX11_lacks_24 (by decide) ?_
      exact z_iret (pc := 48) h dX11_lacks_48 rfl ⟨rfl, congrArg (fun z => some (zi z)) (by unfold lackA lackF; first | (rw [if_pos (by omega)]) | (rw [if_neg (by omega), if_pos (by omega)]) | (rw [if_neg (by omega), if_neg (by omega), if_pos (by omega)]) | (rw [if_neg (by omega), if_neg (by omega), if_neg (by omega)]))⟩
  ·
    refine z_iconst (pc := 9) h dX11_lacks_9 ?_
    refine z_goto (pc := 10) (tgt := 48) h dX11_lacks_10 (by decide) ?_
    exact z_iret (pc := 48) h dX11_lacks_48 rfl ⟨rfl, congrArg (fun z => some (zi z)) (by unfold lackA lackF; first | (rw [if_pos (by omega)]) | (rw [if_neg (by omega), if_pos (by omega)]) | (rw [if_neg (by omega), if_neg (by omega), if_pos (by omega)]) | (rw [if_neg (by omega), if_neg (by omega), if_neg (by omega)]))⟩

set_option maxRecDepth 100000 in
set_option maxHeartbeats 4000000 in
theorem m_X11_keep (a b c : Int) (A S : SS) (ha : isH a) (hb : 0 ≤ b ∧ b < 60) (hR : mRel S A) (hm : MI A) : zM LM yX11_keep cX11_keep 4 none 0 0 [zr 0, zi a, zi b, zi c] S (fun r S' => r = none ∧ mRel S' (keepS A a b c) ∧ ∀ k j, k ≠ 17 → S' k j = S k j) := by
  refine zM_of (own := RX11) rfl (by decide +kernel) [some (zr 0), some (zi a), some (zi b), some (zi c)] (Nat.le_of_ble_eq_true rfl) rfl ?_
  intro x h
  have e14 : S 14 a.toNat = A 14 a.toNat := mr_at hR _ (by decide)
  have e15 : S 15 a.toNat = A 15 a.toNat := mr_at hR _ (by decide)
  have e16 : S 16 a.toNat = A 16 a.toNat := mr_at hR _ (by decide)
  have b14 := mi_h hm a.toNat
  have b15 := mi_hf hm a.toNat
  have b16 := mi_hn hm a.toNat
  refine z_aload_n (pc := 0) h dX11_keep_0 rfl ?_
  refine z_getR (a := 17) (pc := 1) h dX11_keep_1 clX11 lkX11_59 (by decide) rfl rfl ?_
  refine z_bipush (pc := 4) h dX11_keep_4 rfl ?_
  refine z_iload_n (pc := 6) h dX11_keep_6 rfl ?_
  refine z_imul (pc := 7) h dX11_keep_7 ?_
  refine z_iload_n (pc := 8) h dX11_keep_8 rfl ?_
  refine z_iadd (pc := 9) h dX11_keep_9 ?_
  refine z_aload_n (pc := 10) h dX11_keep_10 rfl ?_
  refine z_getR (a := 15) (pc := 11) h dX11_keep_11 clX11 lkX11_53 (by decide) rfl rfl ?_
  refine z_iload_n (pc := 14) h dX11_keep_14 rfl ?_
  refine z_iald (pc := 15) h dX11_keep_15 rfl (by decide) (by omega) (by omega) ?_
  refine z_if_ne (pc := 16) (tgt := 24) h dX11_keep_16 (by decide) ⟨by omega, by omega⟩ (fun hc16 => ?_) (fun hc16 => ?_)
  ·
    refine z_aload_n (pc := 24) h dX11_keep_24 rfl ?_
    refine z_getR (a := 15) (pc := 25) h dX11_keep_25 clX11 lkX11_53 (by decide) rfl rfl ?_
    refine z_iload_n (pc := 28) h dX11_keep_28 rfl ?_
    refine z_iald (pc := 29) h dX11_keep_29 rfl (by decide) (by omega) (by omega) ?_
    refine z_iconst (pc := 30) h dX11_keep_30 ?_
    refine z_icmp_ne (pc := 31) (tgt := 39) h dX11_keep_31 (by decide) ⟨by omega, by omega⟩ ⟨by decide, by decide⟩ (fun hc31 => ?_) (fun hc31 => ?_)
    ·
      refine z_iload_n (pc := 39) h dX11_keep_39 rfl ?_
      refine z_iast (pc := 40) h dX11_keep_40 rfl (by decide) (by omega) (by omega) ?_
      refine z_vret (pc := 41) h dX11_keep_41 rfl ?_
      refine ⟨rfl, ?_, fun k j q => up2_k _ _ q⟩
      have hk : ∀ w, w = keepV (A 15 a.toNat) c → mRel (up2 S 17 (60 * a + b).toNat w) (keepS A a b c) := fun w hw => by rw [hw]; exact mr_up hR _ _ (by decide)
      apply hk
      unfold keepV
      first
        | (rw [if_pos (by omega)])
        | (rw [if_neg (by omega), if_pos (by omega)])
        | (rw [if_neg (by omega), if_neg (by omega)])
    ·
      refine z_iload_n (pc := 34) h dX11_keep_34 rfl ?_
      refine z_i2s (pc := 35) h dX11_keep_35 ?_
      refine z_goto (pc := 36) (tgt := 40) h dX11_keep_36 (by decide) ?_
      refine z_iast (pc := 40) h dX11_keep_40 rfl (by decide) (by omega) (by omega) ?_
      refine z_vret (pc := 41) h dX11_keep_41 rfl ?_
      refine ⟨rfl, ?_, fun k j q => up2_k _ _ q⟩
      have hk : ∀ w, w = keepV (A 15 a.toNat) c → mRel (up2 S 17 (60 * a + b).toNat w) (keepS A a b c) := fun w hw => by rw [hw]; exact mr_up hR _ _ (by decide)
      apply hk
      unfold keepV
      first
        | (rw [if_pos (by omega)])
        | (rw [if_neg (by omega), if_pos (by omega)])
        | (rw [if_neg (by omega), if_neg (by omega)])
  ·
    refine z_iload_n (pc := 19) h dX11_keep_19 rfl ?_
    refine z_i2b (pc := 20) h dX11_keep_20 ?_
    refine z_goto (pc := 21) (tgt := 40) h dX11_keep_21 (by decide) ?_
    refine z_iast (pc := 40) h dX11_keep_40 rfl (by decide) (by omega) (by omega) ?_
    refine z_vret (pc := 41) h dX11_keep_41 rfl ?_
    refine ⟨rfl, ?_, fun k j q => up2_k _ _ q⟩
    have hk : ∀ w, w = keepV (A 15 a.toNat) c → mRel (up2 S 17 (60 * a + b).toNat w) (keepS A a b c) := fun w hw => by rw [hw]; exact mr_up hR _ _ (by decide)
    apply hk
    unfold keepV
    first
      | (rw [if_pos (by omega)])
      | (rw [if_neg (by omega), if_pos (by omega)])
      | (rw [if_neg (by omega), if_neg (by omega)])

set_option maxRecDepth 100000 in
set_option maxHeartbeats 4000000 in
theorem m_X11_put (a b c d : Int) (A S : SS) (ha : r32 a) (hb : r32 b) (hc : r32 c) (hd : r32 d) (hR : mRel S A) (hm : MI A) : zM LM yX11_put cX11_put 6 (some .int) 2 45 [zr 0, zi a, zi b, zi c, zi d] S (fun r S' => r = some (zi (sp_put A a b c d)) ∧ mRel S' (st_put A a b c d)) := by
  refine zM_of (own := RX11) rfl (by decide +kernel) [some (zr 0), some (zi a), some (zi b), some (zi c), some (zi d), none] (Nat.le_of_ble_eq_true rfl) rfl ?_
  intro x h
  refine z_iload_n (pc := 0) h dX11_put_0 rfl ?_
  refine z_callS (pc := 1) (rest := ([] : List zV)) h (m_X11_isSheet a S ⟨by omega, by omega⟩) dX11_put_1 mcX11_isSheet msX11_isSheet mlX11_135 rfl rfl ⟨by decide, by decide⟩ rfl (Nat.le_of_ble_eq_true rfl) ?_
  rintro _ _ ⟨rfl, ⟨hr1, rfl⟩ | ⟨hr1, rfl⟩⟩
  ·
    show zG x LM 4 [some (zr 0), some (zi a), some (zi b), some (zi c), some (zi d), none] [zi 1] S
    refine z_if_eq (pc := 4) (tgt := 16) h dX11_put_4 (by decide) ⟨by decide, by decide⟩ (fun hc4 => absurd hc4 (by decide)) (fun hc4 => ?_)
    refine z_iload_n (pc := 7) h dX11_put_7 rfl ?_
    refine z_iconst (pc := 8) h dX11_put_8 ?_
    refine z_iconst (pc := 9) h dX11_put_9 ?_
    refine z_callS (pc := 10) (rest := ([] : List zV)) h (m_X11_in b 0 2 S ⟨by omega, by omega⟩ ⟨by decide, by decide⟩ ⟨by decide, by decide⟩) dX11_put_10 mcX11_in msX11_in mlX11_75 rfl rfl ⟨by decide, by decide⟩ rfl (Nat.le_of_ble_eq_true rfl) ?_
    rintro _ _ ⟨rfl, ⟨hr10, rfl⟩ | ⟨hr10, rfl⟩⟩
    ·
      show zG x LM 13 [some (zr 0), some (zi a), some (zi b), some (zi c), some (zi d), none] [zi 1] S
      refine z_if_ne (pc := 13) (tgt := 19) h dX11_put_13 (by decide) ⟨by decide, by decide⟩ (fun hc13 => ?_) (fun hc13 => absurd hc13 (by decide))
      have e14 : S 14 a.toNat = A 14 a.toNat := mr_at hR _ (by decide)
      have e15 : S 15 a.toNat = A 15 a.toNat := mr_at hR _ (by decide)
      have e16 : S 16 a.toNat = A 16 a.toNat := mr_at hR _ (by decide)
      have b14 := mi_h hm a.toNat
      have b15 := mi_hf hm a.toNat
      have b16 := mi_hn hm a.toNat
      have hlb := lackF_b (A 14 a.toNat) (A 15 a.toNat) (A 16 a.toNat) b c
      have hlA : lackA A a b c = lackF (A 14 a.toNat) (A 15 a.toNat) (A 16 a.toNat) b c := rfl
      refine z_aload_n (pc := 19) h dX11_put_19 rfl ?_
      refine z_iload_n (pc := 20) h dX11_put_20 rfl ?_
      refine z_iload_n (pc := 21) h dX11_put_21 rfl ?_
      refine z_iload_n (pc := 22) h dX11_put_22 rfl ?_
      refine z_callV (pc := 23) (rest := ([] : List zV)) h (m_X11_lacks a b c _ S (by first | assumption | omega) ⟨by omega, by omega⟩ ⟨by omega, by omega⟩ (by first | assumption | omega) (by first | assumption | omega)) dX11_put_23 mcX11_lacks miX11_lacks mlX11_212 rfl rfl ⟨by decide, by decide⟩ clX11 rfl rfl rfl (Nat.le_of_ble_eq_true rfl) ?_
      rintro _ _ ⟨rfl, rfl⟩
      show zG x LM 26 [some (zr 0), some (zi a), some (zi b), some (zi c), some (zi d), none] [zi (lackA A a b c)] S
      refine z_istore (pc := 26) (loc' := [some (zr 0), some (zi a), some (zi b), some (zi c), some (zi d), some (zi (lackA A a b c))]) h dX11_put_26 (Nat.le_of_ble_eq_true rfl) rfl rfl ?_
      refine z_iload (pc := 28) h dX11_put_28 rfl ?_
      refine z_if_le (pc := 30) (tgt := 40) h dX11_put_30 (by decide) ⟨by omega, by omega⟩ (fun hc30 => ?_) (fun hc30 => ?_)
      ·
        refine z_aload_n (pc := 40) h dX11_put_40 rfl ?_
        refine z_iload_n (pc := 41) h dX11_put_41 rfl ?_
        refine z_iload_n (pc := 42) h dX11_put_42 rfl ?_
        refine z_iload (pc := 43) h dX11_put_43 rfl ?_
        refine z_callV (pc := 45) (rest := ([] : List zV)) h (m_X11_keep a c d _ S (by first | assumption | omega) (by first | assumption | omega) (by first | assumption | omega) (by first | assumption | omega)) dX11_put_45 mcX11_keep miX11_keep mlX11_215 rfl rfl ⟨by decide, by decide⟩ clX11 rfl rfl rfl (Nat.le_of_ble_eq_true rfl) ?_
        rintro _ S45 ⟨rfl, hr45, hr45o⟩
        show zG x LM 48 [some (zr 0), some (zi a), some (zi b), some (zi c), some (zi d), some (zi (lackA A a b c))] ([] : List zV) S45
        refine z_iconst (pc := 48) h dX11_put_48 ?_
        refine z_iret (pc := 49) h dX11_put_49 rfl ?_
        exact ⟨ap_some (by unfold sp_put; rw [if_pos (by omega), if_pos (by omega)]), by unfold st_put; rw [if_pos (by omega), if_pos (by omega)]; exact hr45⟩
      ·
        refine z_aload_n (pc := 33) h dX11_put_33 rfl ?_
        refine z_iload (pc := 34) h dX11_put_34 rfl ?_
        refine z_callV (pc := 36) (rest := ([] : List zV)) h (m_X11_meets (lackA A a b c) S ) dX11_put_36 mcX11_meets miX11_meets mlX11_138 rfl rfl ⟨by decide, by decide⟩ clX11 rfl rfl rfl (Nat.le_of_ble_eq_true rfl) ?_
        rintro _ _ ⟨rfl, rfl⟩
        show zG x LM 39 [some (zr 0), some (zi a), some (zi b), some (zi c), some (zi d), some (zi (lackA A a b c))] [zi (-10 - (lackA A a b c))] (up2 S 0 23 (lackA A a b c))
        refine z_iret (pc := 39) h dX11_put_39 rfl ?_
        exact ⟨ap_some (by unfold sp_put; rw [if_pos (by omega), if_neg (by omega)]; try omega), by unfold st_put; rw [if_pos (by omega), if_neg (by omega)]; exact mr_up hR 23 _ (by decide)⟩
    ·
      show zG x LM 13 [some (zr 0), some (zi a), some (zi b), some (zi c), some (zi d), none] [zi 0] S
      refine z_if_ne (pc := 13) (tgt := 19) h dX11_put_13 (by decide) ⟨by decide, by decide⟩ (fun hc13 => absurd hc13 (by decide)) (fun hc13 => ?_)
      refine z_bipush (pc := 16) h dX11_put_16 rfl ?_
      refine z_iret (pc := 18) h dX11_put_18 rfl ?_
      exact ⟨ap_some (by unfold sp_put; rw [if_neg (by omega)]), by unfold st_put; rw [if_neg (by omega)]; exact hR⟩
  ·
    show zG x LM 4 [some (zr 0), some (zi a), some (zi b), some (zi c), some (zi d), none] [zi 0] S
    refine z_if_eq (pc := 4) (tgt := 16) h dX11_put_4 (by decide) ⟨by decide, by decide⟩ (fun hc4 => ?_) (fun hc4 => absurd hc4 (by decide))
    refine z_bipush (pc := 16) h dX11_put_16 rfl ?_
    refine z_iret (pc := 18) h dX11_put_18 rfl ?_
    exact ⟨ap_some (by unfold sp_put; rw [if_neg (by omega)]), by unfold st_put; rw [if_neg (by omega)]; exact hR⟩

set_option maxRecDepth 100000 in
set_option maxHeartbeats 4000000 in
theorem m_X11_get (a b c : Int) (A S : SS) (ha : r32 a) (hb : r32 b) (hc : r32 c) (hR : mRel S A) (hm : MI A) : zM LM yX11_get cX11_get 5 (some .int) 2 45 [zr 0, zi a, zi b, zi c] S (fun r S' => r = some (zi (sp_get A a b c)) ∧ mRel S' (st_get A a b c)) := by
  refine zM_of (own := RX11) rfl (by decide +kernel) [some (zr 0), some (zi a), some (zi b), some (zi c), none] (Nat.le_of_ble_eq_true rfl) rfl ?_
  intro x h
  refine z_iload_n (pc := 0) h dX11_get_0 rfl ?_
  refine z_callS (pc := 1) (rest := ([] : List zV)) h (m_X11_isSheet a S ⟨by omega, by omega⟩) dX11_get_1 mcX11_isSheet msX11_isSheet mlX11_135 rfl rfl ⟨by decide, by decide⟩ rfl (Nat.le_of_ble_eq_true rfl) ?_
  rintro _ _ ⟨rfl, ⟨hr1, rfl⟩ | ⟨hr1, rfl⟩⟩
  ·
    show zG x LM 4 [some (zr 0), some (zi a), some (zi b), some (zi c), none] [zi 1] S
    refine z_if_eq (pc := 4) (tgt := 16) h dX11_get_4 (by decide) ⟨by decide, by decide⟩ (fun hc4 => absurd hc4 (by decide)) (fun hc4 => ?_)
    refine z_iload_n (pc := 7) h dX11_get_7 rfl ?_
    refine z_iconst (pc := 8) h dX11_get_8 ?_
    refine z_iconst (pc := 9) h dX11_get_9 ?_
    refine z_callS (pc := 10) (rest := ([] : List zV)) h (m_X11_in b 0 2 S ⟨by omega, by omega⟩ ⟨by decide, by decide⟩ ⟨by decide, by decide⟩) dX11_get_10 mcX11_in msX11_in mlX11_75 rfl rfl ⟨by decide, by decide⟩ rfl (Nat.le_of_ble_eq_true rfl) ?_
    rintro _ _ ⟨rfl, ⟨hr10, rfl⟩ | ⟨hr10, rfl⟩⟩
    ·
      show zG x LM 13 [some (zr 0), some (zi a), some (zi b), some (zi c), none] [zi 1] S
      refine z_if_ne (pc := 13) (tgt := 19) h dX11_get_13 (by decide) ⟨by decide, by decide⟩ (fun hc13 => ?_) (fun hc13 => absurd hc13 (by decide))
      have e14 : S 14 a.toNat = A 14 a.toNat := mr_at hR _ (by decide)
      have e15 : S 15 a.toNat = A 15 a.toNat := mr_at hR _ (by decide)
      have e16 : S 16 a.toNat = A 16 a.toNat := mr_at hR _ (by decide)
      have b14 := mi_h hm a.toNat
      have b15 := mi_hf hm a.toNat
      have b16 := mi_hn hm a.toNat
      have hlb := lackF_b (A 14 a.toNat) (A 15 a.toNat) (A 16 a.toNat) b c
      have hlA : lackA A a b c = lackF (A 14 a.toNat) (A 15 a.toNat) (A 16 a.toNat) b c := rfl
      refine z_aload_n (pc := 19) h dX11_get_19 rfl ?_
      refine z_iload_n (pc := 20) h dX11_get_20 rfl ?_
      refine z_iload_n (pc := 21) h dX11_get_21 rfl ?_
      refine z_iload_n (pc := 22) h dX11_get_22 rfl ?_
      refine z_callV (pc := 23) (rest := ([] : List zV)) h (m_X11_lacks a b c _ S (by first | assumption | omega) ⟨by omega, by omega⟩ ⟨by omega, by omega⟩ (by first | assumption | omega) (by first | assumption | omega)) dX11_get_23 mcX11_lacks miX11_lacks mlX11_212 rfl rfl ⟨by decide, by decide⟩ clX11 rfl rfl rfl (Nat.le_of_ble_eq_true rfl) ?_
      rintro _ _ ⟨rfl, rfl⟩
      show zG x LM 26 [some (zr 0), some (zi a), some (zi b), some (zi c), none] [zi (lackA A a b c)] S
      refine z_istore (pc := 26) (loc' := [some (zr 0), some (zi a), some (zi b), some (zi c), some (zi (lackA A a b c))]) h dX11_get_26 (Nat.le_of_ble_eq_true rfl) rfl rfl ?_
      refine z_iload (pc := 28) h dX11_get_28 rfl ?_
      refine z_if_le (pc := 30) (tgt := 42) h dX11_get_30 (by decide) ⟨by omega, by omega⟩ (fun hc30 => ?_) (fun hc30 => ?_)
      ·
        refine z_aload_n (pc := 42) h dX11_get_42 rfl ?_
        refine z_getR (a := 17) (pc := 43) h dX11_get_43 clX11 lkX11_59 (by decide) rfl rfl ?_
        refine z_bipush (pc := 46) h dX11_get_46 rfl ?_
        refine z_iload_n (pc := 48) h dX11_get_48 rfl ?_
        refine z_imul (pc := 49) h dX11_get_49 ?_
        refine z_iload_n (pc := 50) h dX11_get_50 rfl ?_
        refine z_iadd (pc := 51) h dX11_get_51 ?_
        refine z_iald (pc := 52) h dX11_get_52 rfl (by decide) (by omega) (by omega) ?_
        refine z_iret (pc := 53) h dX11_get_53 rfl ?_
        exact ⟨ap_some (by unfold sp_get; rw [if_pos (by omega), if_pos (by omega)]; exact mr_at hR _ (by decide)), by unfold st_get; rw [if_pos (by omega), if_pos (by omega)]; exact hR⟩
      ·
        refine z_aload_n (pc := 33) h dX11_get_33 rfl ?_
        refine z_iload (pc := 34) h dX11_get_34 rfl ?_
        refine z_putI (pc := 36) h dX11_get_36 clX11 lkX11_209 (by decide) rfl rfl rfl rfl ?_
        refine z_ldc (pc := 39) (a := (-2147483648)) h kcX11_219 dX11_get_39 (by decide) ?_
        refine z_iret (pc := 41) h dX11_get_41 rfl ?_
        exact ⟨ap_some (by unfold sp_get; rw [if_pos (by omega), if_neg (by omega)]; try omega), by unfold st_get; rw [if_pos (by omega), if_neg (by omega)]; exact mr_up hR 23 _ (by decide)⟩
    ·
      show zG x LM 13 [some (zr 0), some (zi a), some (zi b), some (zi c), none] [zi 0] S
      refine z_if_ne (pc := 13) (tgt := 19) h dX11_get_13 (by decide) ⟨by decide, by decide⟩ (fun hc13 => absurd hc13 (by decide)) (fun hc13 => ?_)
      refine z_ldc (pc := 16) (a := (-2147483648)) h kcX11_219 dX11_get_16 (by decide) ?_
      refine z_iret (pc := 18) h dX11_get_18 rfl ?_
      exact ⟨ap_some (by unfold sp_get; rw [if_neg (by omega)]), by unfold st_get; rw [if_neg (by omega)]; exact hR⟩
  ·
    show zG x LM 4 [some (zr 0), some (zi a), some (zi b), some (zi c), none] [zi 0] S
    refine z_if_eq (pc := 4) (tgt := 16) h dX11_get_4 (by decide) ⟨by decide, by decide⟩ (fun hc4 => ?_) (fun hc4 => absurd hc4 (by decide))
    refine z_ldc (pc := 16) (a := (-2147483648)) h kcX11_219 dX11_get_16 (by decide) ?_
    refine z_iret (pc := 18) h dX11_get_18 rfl ?_
    exact ⟨ap_some (by unfold sp_get; rw [if_neg (by omega)]), by unfold st_get; rw [if_neg (by omega)]; exact hR⟩

set_option maxRecDepth 100000 in
set_option maxHeartbeats 4000000 in
theorem m_X11_copy (a b c d e : Int) (A S : SS) (ha : r32 a) (hb : r32 b) (hc : r32 c) (hd : r32 d) (he : r32 e) (hR : mRel S A) (hm : MI A) : zM LM yX11_copy cX11_copy 7 (some .int) 2 42 [zr 0, zi a, zi b, zi c, zi d, zi e] S (fun r S' => r = some (zi (sp_copy A a b c d e)) ∧ mRel S' (st_copy A a b c d e)) := by
  refine zM_of (own := RX11) rfl (by decide +kernel) [some (zr 0), some (zi a), some (zi b), some (zi c), some (zi d), some (zi e), none] (Nat.le_of_ble_eq_true rfl) rfl ?_
  intro x h
  refine z_iload_n (pc := 0) h dX11_copy_0 rfl ?_
  refine z_callS (pc := 1) (rest := ([] : List zV)) h (m_X11_isSheet a S ⟨by omega, by omega⟩) dX11_copy_1 mcX11_isSheet msX11_isSheet mlX11_135 rfl rfl ⟨by decide, by decide⟩ rfl (Nat.le_of_ble_eq_true rfl) ?_
  rintro _ _ ⟨rfl, ⟨hr1, rfl⟩ | ⟨hr1, rfl⟩⟩
  ·
    show zG x LM 4 [some (zr 0), some (zi a), some (zi b), some (zi c), some (zi d), some (zi e), none] [zi 1] S
    refine z_if_eq (pc := 4) (tgt := 14) h dX11_copy_4 (by decide) ⟨by decide, by decide⟩ (fun hc4 => absurd hc4 (by decide)) (fun hc4 => ?_)
    refine z_iload_n (pc := 7) h dX11_copy_7 rfl ?_
    refine z_callS (pc := 8) (rest := ([] : List zV)) h (m_X11_isSheet c S ⟨by omega, by omega⟩) dX11_copy_8 mcX11_isSheet msX11_isSheet mlX11_135 rfl rfl ⟨by decide, by decide⟩ rfl (Nat.le_of_ble_eq_true rfl) ?_
    rintro _ _ ⟨rfl, ⟨hr8, rfl⟩ | ⟨hr8, rfl⟩⟩
    ·
      show zG x LM 11 [some (zr 0), some (zi a), some (zi b), some (zi c), some (zi d), some (zi e), none] [zi 1] S
      refine z_if_ne (pc := 11) (tgt := 17) h dX11_copy_11 (by decide) ⟨by decide, by decide⟩ (fun hc11 => ?_) (fun hc11 => absurd hc11 (by decide))
      have e14 : S 14 a.toNat = A 14 a.toNat := mr_at hR _ (by decide)
      have e15 : S 15 a.toNat = A 15 a.toNat := mr_at hR _ (by decide)
      have e16 : S 16 a.toNat = A 16 a.toNat := mr_at hR _ (by decide)
      have b14 := mi_h hm a.toNat
      have b15 := mi_hf hm a.toNat
      have b16 := mi_hn hm a.toNat
      have f14 : S 14 c.toNat = A 14 c.toNat := mr_at hR _ (by decide)
      have f15 : S 15 c.toNat = A 15 c.toNat := mr_at hR _ (by decide)
      have f16 : S 16 c.toNat = A 16 c.toNat := mr_at hR _ (by decide)
      have c14 := mi_h hm c.toNat
      have c15 := mi_hf hm c.toNat
      have c16 := mi_hn hm c.toNat
      refine z_aload_n (pc := 17) h dX11_copy_17 rfl ?_
      refine z_getR (a := 14) (pc := 18) h dX11_copy_18 clX11 lkX11_49 (by decide) rfl rfl ?_
      refine z_iload_n (pc := 21) h dX11_copy_21 rfl ?_
      refine z_zald (pc := 22) h dX11_copy_22 rfl (by decide) (by omega) (by omega) ?_
      refine z_if_eq (pc := 23) (tgt := 35) h dX11_copy_23 (by decide) ⟨by omega, by omega⟩ (fun hc23 => ?_) (fun hc23 => ?_)
      ·
        refine z_aload_n (pc := 35) h dX11_copy_35 rfl ?_
        refine z_iconst (pc := 36) h dX11_copy_36 ?_
        refine z_callV (pc := 37) (rest := ([] : List zV)) h (m_X11_meets 1 S ) dX11_copy_37 mcX11_meets miX11_meets mlX11_138 rfl rfl ⟨by decide, by decide⟩ clX11 rfl rfl rfl (Nat.le_of_ble_eq_true rfl) ?_
        rintro _ _ ⟨rfl, rfl⟩
        show zG x LM 40 [some (zr 0), some (zi a), some (zi b), some (zi c), some (zi d), some (zi e), none] [zi (-10 - 1)] (up2 S 0 23 1)
        refine z_iret (pc := 40) h dX11_copy_40 rfl ?_
        have hf : cpF A a b c d e = 1 := by unfold cpF; rw [if_pos (by omega)]
        exact ⟨ap_some (by unfold sp_copy; rw [if_pos (by omega), if_neg (by omega), hf]), by unfold st_copy; rw [if_pos (by omega), if_neg (by omega), hf]; exact mr_up hR 23 _ (by decide)⟩
      ·
        refine z_aload_n (pc := 26) h dX11_copy_26 rfl ?_
        refine z_getR (a := 14) (pc := 27) h dX11_copy_27 clX11 lkX11_49 (by decide) rfl rfl ?_
        refine z_iload_n (pc := 30) h dX11_copy_30 rfl ?_
        refine z_zald (pc := 31) h dX11_copy_31 rfl (by decide) (by omega) (by omega) ?_
        refine z_if_ne (pc := 32) (tgt := 41) h dX11_copy_32 (by decide) ⟨by omega, by omega⟩ (fun hc32 => ?_) (fun hc32 => ?_)
        ·
          refine z_aload_n (pc := 41) h dX11_copy_41 rfl ?_
          refine z_getR (a := 15) (pc := 42) h dX11_copy_42 clX11 lkX11_53 (by decide) rfl rfl ?_
          refine z_iload_n (pc := 45) h dX11_copy_45 rfl ?_
          refine z_iald (pc := 46) h dX11_copy_46 rfl (by decide) (by omega) (by omega) ?_
          refine z_aload_n (pc := 47) h dX11_copy_47 rfl ?_
          refine z_getR (a := 15) (pc := 48) h dX11_copy_48 clX11 lkX11_53 (by decide) rfl rfl ?_
          refine z_iload_n (pc := 51) h dX11_copy_51 rfl ?_
          refine z_iald (pc := 52) h dX11_copy_52 rfl (by decide) (by omega) (by omega) ?_
          refine z_icmp_eq (pc := 53) (tgt := 62) h dX11_copy_53 (by decide) ⟨by omega, by omega⟩ ⟨by omega, by omega⟩ (fun hc53 => ?_) (fun hc53 => ?_)
          ·
            refine z_iload_n (pc := 62) h dX11_copy_62 rfl ?_
            refine z_if_lt (pc := 63) (tgt := 111) h dX11_copy_63 (by decide) ⟨by omega, by omega⟩ (fun hc63 => ?_) (fun hc63 => ?_)
            ·
              refine z_aload_n (pc := 111) h dX11_copy_111 rfl ?_
              refine z_iconst (pc := 112) h dX11_copy_112 ?_
              refine z_callV (pc := 113) (rest := ([] : List zV)) h (m_X11_meets 2 S ) dX11_copy_113 mcX11_meets miX11_meets mlX11_138 rfl rfl ⟨by decide, by decide⟩ clX11 rfl rfl rfl (Nat.le_of_ble_eq_true rfl) ?_
              rintro _ _ ⟨rfl, rfl⟩
              show zG x LM 116 [some (zr 0), some (zi a), some (zi b), some (zi c), some (zi d), some (zi e), none] [zi (-10 - 2)] (up2 S 0 23 2)
              refine z_iret (pc := 116) h dX11_copy_116 rfl ?_
              have hf : cpF A a b c d e = 2 := by unfold cpF; rw [if_neg (by omega), if_neg (by omega), if_neg (by omega)]
              exact ⟨ap_some (by unfold sp_copy; rw [if_pos (by omega), if_neg (by omega), hf]), by unfold st_copy; rw [if_pos (by omega), if_neg (by omega), hf]; exact mr_up hR 23 _ (by decide)⟩
            ·
              refine z_iload (pc := 66) h dX11_copy_66 rfl ?_
              refine z_if_lt (pc := 68) (tgt := 111) h dX11_copy_68 (by decide) ⟨by omega, by omega⟩ (fun hc68 => ?_) (fun hc68 => ?_)
              ·
                refine z_aload_n (pc := 111) h dX11_copy_111 rfl ?_
                refine z_iconst (pc := 112) h dX11_copy_112 ?_
                refine z_callV (pc := 113) (rest := ([] : List zV)) h (m_X11_meets 2 S ) dX11_copy_113 mcX11_meets miX11_meets mlX11_138 rfl rfl ⟨by decide, by decide⟩ clX11 rfl rfl rfl (Nat.le_of_ble_eq_true rfl) ?_
                rintro _ _ ⟨rfl, rfl⟩
                show zG x LM 116 [some (zr 0), some (zi a), some (zi b), some (zi c), some (zi d), some (zi e), none] [zi (-10 - 2)] (up2 S 0 23 2)
                refine z_iret (pc := 116) h dX11_copy_116 rfl ?_
                have hf : cpF A a b c d e = 2 := by unfold cpF; rw [if_neg (by omega), if_neg (by omega), if_neg (by omega)]
                exact ⟨ap_some (by unfold sp_copy; rw [if_pos (by omega), if_neg (by omega), hf]), by unfold st_copy; rw [if_pos (by omega), if_neg (by omega), hf]; exact mr_up hR 23 _ (by decide)⟩
              ·
                refine z_iload (pc := 71) h dX11_copy_71 rfl ?_
                refine z_if_lt (pc := 73) (tgt := 111) h dX11_copy_73 (by decide) ⟨by omega, by omega⟩ (fun hc73 => ?_) (fun hc73 => ?_)
                ·
                  refine z_aload_n (pc := 111) h dX11_copy_111 rfl ?_
                  refine z_iconst (pc := 112) h dX11_copy_112 ?_
                  refine z_callV (pc := 113) (rest := ([] : List zV)) h (m_X11_meets 2 S ) dX11_copy_113 mcX11_meets miX11_meets mlX11_138 rfl rfl ⟨by decide, by decide⟩ clX11 rfl rfl rfl (Nat.le_of_ble_eq_true rfl) ?_
                  rintro _ _ ⟨rfl, rfl⟩
                  show zG x LM 116 [some (zr 0), some (zi a), some (zi b), some (zi c), some (zi d), some (zi e), none] [zi (-10 - 2)] (up2 S 0 23 2)
                  refine z_iret (pc := 116) h dX11_copy_116 rfl ?_
                  have hf : cpF A a b c d e = 2 := by unfold cpF; rw [if_neg (by omega), if_neg (by omega), if_neg (by omega)]
                  exact ⟨ap_some (by unfold sp_copy; rw [if_pos (by omega), if_neg (by omega), hf]), by unfold st_copy; rw [if_pos (by omega), if_neg (by omega), hf]; exact mr_up hR 23 _ (by decide)⟩
                ·
                  refine z_iload_n (pc := 76) h dX11_copy_76 rfl ?_
                  refine z_i2l (pc := 77) h dX11_copy_77 ⟨by omega, by omega⟩ ?_
                  refine z_iload (pc := 78) h dX11_copy_78 rfl ?_
                  refine z_i2l (pc := 80) h dX11_copy_80 ⟨by omega, by omega⟩ ?_
                  refine z_ladd (pc := 81) h dX11_copy_81 ?_
                  refine z_aload_n (pc := 82) h dX11_copy_82 rfl ?_
                  refine z_getR (a := 16) (pc := 83) h dX11_copy_83 clX11 lkX11_56 (by decide) rfl rfl ?_
                  refine z_iload_n (pc := 86) h dX11_copy_86 rfl ?_
                  refine z_iald (pc := 87) h dX11_copy_87 rfl (by decide) (by omega) (by omega) ?_
                  refine z_i2l (pc := 88) h dX11_copy_88 ⟨by omega, by omega⟩ ?_
                  refine z_lcmp (pc := 89) h dX11_copy_89 ⟨by omega, by omega⟩ ⟨by omega, by omega⟩ (fun hl89 => ?_) (fun hl89 => ?_) (fun hl89 => ?_)
                  ·
                    refine z_if_gt (pc := 90) (tgt := 111) h dX11_copy_90 (by decide) ⟨by decide, by decide⟩ (fun hc90 => absurd hc90 (by decide)) (fun hc90 => ?_)
                    refine z_iload (pc := 93) h dX11_copy_93 rfl ?_
                    refine z_i2l (pc := 95) h dX11_copy_95 ⟨by omega, by omega⟩ ?_
                    refine z_iload (pc := 96) h dX11_copy_96 rfl ?_
                    refine z_i2l (pc := 98) h dX11_copy_98 ⟨by omega, by omega⟩ ?_
                    refine z_ladd (pc := 99) h dX11_copy_99 ?_
                    refine z_aload_n (pc := 100) h dX11_copy_100 rfl ?_
                    refine z_getR (a := 16) (pc := 101) h dX11_copy_101 clX11 lkX11_56 (by decide) rfl rfl ?_
                    refine z_iload_n (pc := 104) h dX11_copy_104 rfl ?_
                    refine z_iald (pc := 105) h dX11_copy_105 rfl (by decide) (by omega) (by omega) ?_
                    refine z_i2l (pc := 106) h dX11_copy_106 ⟨by omega, by omega⟩ ?_
                    refine z_lcmp (pc := 107) h dX11_copy_107 ⟨by omega, by omega⟩ ⟨by omega, by omega⟩ (fun hl107 => ?_) (fun hl107 => ?_) (fun hl107 => ?_)
                    ·
                      refine z_if_le (pc := 108) (tgt := 117) h dX11_copy_108 (by decide) ⟨by decide, by decide⟩ (fun hc108 => ?_) (fun hc108 => absurd hc108 (by decide))
                      refine z_iconst (pc := 117) h dX11_copy_117 ?_
                      refine z_istore (pc := 118) (loc' := [some (zr 0), some (zi a), some (zi b), some (zi c), some (zi d), some (zi e), some (zi 0)]) h dX11_copy_118 (Nat.le_of_ble_eq_true rfl) rfl rfl ?_
                      have J120 : ∀ (N : Nat) (n : Int) (S1 : SS) (hn : 0 ≤ n ∧ n ≤ e) (h1 : ∀ k j, k ≠ 18 → S1 k j = S k j) (h2 : ∀ j : Nat, (j : Int) < n → S1 18 j = S 17 (60 * a + b + j).toNat) , (e - n).toNat = N → zG x LM 120 [some (zr 0), some (zi a), some (zi b), some (zi c), some (zi d), some (zi e), some (zi n)] ([] : List zV) S1 := by
                        intro N
                        induction N using Nat.strongRecOn with
                        | _ N ih120 => ?_
                        intro n S1 hn h1 h2 hN120
                        have k0 := h1 0
                        refine z_iload (pc := 120) h dX11_copy_120 rfl ?_
                        refine z_iload (pc := 122) h dX11_copy_122 rfl ?_
                        refine z_icmp_ge (pc := 124) (tgt := 154) h dX11_copy_124 (by decide) ⟨by omega, by omega⟩ ⟨by omega, by omega⟩ (fun hc124 => ?_) (fun hc124 => ?_)
                        ·
                          refine z_iconst (pc := 154) h dX11_copy_154 ?_
                          refine z_istore (pc := 155) (loc' := [some (zr 0), some (zi a), some (zi b), some (zi c), some (zi d), some (zi e), some (zi 0)]) h dX11_copy_155 (Nat.le_of_ble_eq_true rfl) rfl rfl ?_
                          have J157 : ∀ (N : Nat) (n2 : Int) (S2 : SS) (hn2 : 0 ≤ n2 ∧ n2 ≤ e) (h18 : ∀ j : Nat, (j : Int) < e → S2 18 j = S 17 (60 * a + b + j).toNat) (h3 : ∀ (k z : Nat), k ≠ 18 → ¬ (k = 17 ∧ (60 * c + d ≤ (z : Int) ∧ (z : Int) < 60 * c + d + n2)) → S2 k z = S k z) (h4 : ∀ z : Nat, 60 * c + d ≤ (z : Int) → (z : Int) < 60 * c + d + n2 → S2 17 z = S 17 (60 * a + b + ((z : Int) - (60 * c + d))).toNat) , (e - n2).toNat = N → zG x LM 157 [some (zr 0), some (zi a), some (zi b), some (zi c), some (zi d), some (zi e), some (zi n2)] ([] : List zV) S2 := by
                            intro N
                            induction N using Nat.strongRecOn with
                            | _ N ih157 => ?_
                            intro n2 S2 hn2 h18 h3 h4 hN157
                            refine z_iload (pc := 157) h dX11_copy_157 rfl ?_
                            refine z_iload (pc := 159) h dX11_copy_159 rfl ?_
                            refine z_icmp_ge (pc := 161) (tgt := 192) h dX11_copy_161 (by decide) ⟨by omega, by omega⟩ ⟨by omega, by omega⟩ (fun hc161 => ?_) (fun hc161 => ?_)
                            ·
                              refine z_iconst (pc := 192) h dX11_copy_192 ?_
                              refine z_iret (pc := 193) h dX11_copy_193 rfl ?_
                              have hf : cpF A a b c d e = 0 := by unfold cpF; rw [if_neg (by omega), if_neg (by omega), if_pos (by omega)]
                              exact ⟨ap_some (by unfold sp_copy; rw [if_pos (by omega), if_pos (by omega)]), by unfold st_copy; rw [if_pos (by omega), if_pos (by omega)]; exact mr_copy hR ⟨by omega, by omega⟩ (fun k z q q2 => h3 k z q (fun q3 => q2 ⟨q3.1, q3.2.1, by omega⟩)) (fun z z1 z2 => h4 z z1 (by omega))⟩
                            ·
                              refine z_aload_n (pc := 164) h dX11_copy_164 rfl ?_
                              refine z_getR (a := 17) (pc := 165) h dX11_copy_165 clX11 lkX11_59 (by decide) rfl rfl ?_
                              refine z_bipush (pc := 168) h dX11_copy_168 rfl ?_
                              refine z_iload_n (pc := 170) h dX11_copy_170 rfl ?_
                              refine z_imul (pc := 171) h dX11_copy_171 ?_
                              refine z_iload (pc := 172) h dX11_copy_172 rfl ?_
                              refine z_iadd (pc := 174) h dX11_copy_174 ?_
                              refine z_iload (pc := 175) h dX11_copy_175 rfl ?_
                              refine z_iadd (pc := 177) h dX11_copy_177 ?_
                              refine z_aload_n (pc := 178) h dX11_copy_178 rfl ?_
                              refine z_getR (a := 18) (pc := 179) h dX11_copy_179 clX11 lkX11_62 (by decide) rfl rfl ?_
                              refine z_iload (pc := 182) h dX11_copy_182 rfl ?_
                              refine z_iald (pc := 184) h dX11_copy_184 rfl (by decide) (by omega) (by omega) ?_
                              refine z_iast (pc := 185) h dX11_copy_185 rfl (by decide) (by omega) (by omega) ?_
                              refine z_iinc (pc := 186) (loc' := [some (zr 0), some (zi a), some (zi b), some (zi c), some (zi d), some (zi e), some (zi (n2 + 1))]) h dX11_copy_186 rfl (Nat.le_of_ble_eq_true rfl) rfl rfl ?_
                              refine z_goto (pc := 189) (tgt := 157) h dX11_copy_189 (by decide) ?_
                              exact ih157 _ (by omega) (n2 + 1) (up2 S2 17 (Int.toNat (((60 * c) + d) + n2)) (S2 18 n2.toNat)) (by omega) (fun j hj => by rw [up2_k _ _ (by decide)]; exact h18 j hj) (fun k z q q2 => by rw [up2_e, if_neg (by omega)]; exact h3 k z q (by omega)) (by intro z z1 z2; by_cases hz : z = (60 * c + d + n2).toNat; (subst hz; rw [up2_s, h18 _ (by omega)]; congr 1; omega); (rw [up2_j _ _ hz]; exact h4 z z1 (by omega))) rfl
                          exact J157 _ 0 S1 (by omega) (fun j hj => h2 j (by omega)) (fun k z q _ => h1 k z q) (fun z z1 z2 => by omega) rfl
                        ·
                          refine z_aload_n (pc := 127) h dX11_copy_127 rfl ?_
                          refine z_getR (a := 18) (pc := 128) h dX11_copy_128 clX11 lkX11_62 (by decide) rfl rfl ?_
                          refine z_iload (pc := 131) h dX11_copy_131 rfl ?_
                          refine z_aload_n (pc := 133) h dX11_copy_133 rfl ?_
                          refine z_getR (a := 17) (pc := 134) h dX11_copy_134 clX11 lkX11_59 (by decide) rfl rfl ?_
                          refine z_bipush (pc := 137) h dX11_copy_137 rfl ?_
                          refine z_iload_n (pc := 139) h dX11_copy_139 rfl ?_
                          refine z_imul (pc := 140) h dX11_copy_140 ?_
                          refine z_iload_n (pc := 141) h dX11_copy_141 rfl ?_
                          refine z_iadd (pc := 142) h dX11_copy_142 ?_
                          refine z_iload (pc := 143) h dX11_copy_143 rfl ?_
                          refine z_iadd (pc := 145) h dX11_copy_145 ?_
                          refine z_iald (pc := 146) h dX11_copy_146 rfl (by decide) (by omega) (by omega) ?_
                          refine z_iast (pc := 147) h dX11_copy_147 rfl (by decide) (by omega) (by omega) ?_
                          refine z_iinc (pc := 148) (loc' := [some (zr 0), some (zi a), some (zi b), some (zi c), some (zi d), some (zi e), some (zi (n + 1))]) h dX11_copy_148 rfl (Nat.le_of_ble_eq_true rfl) rfl rfl ?_
                          refine z_goto (pc := 151) (tgt := 120) h dX11_copy_151 (by decide) ?_
                          exact ih120 _ (by omega) (n + 1) (up2 S1 18 n.toNat (S1 17 (Int.toNat (((60 * a) + b) + n)))) (by omega) (fun k j q => by rw [up2_k _ _ q]; exact h1 k j q) (by intro j hj; by_cases hj2 : j = n.toNat; (subst hj2; rw [up2_s, h1 _ _ (by decide), show ((n.toNat : Nat) : Int) = n by omega]); (rw [up2_j _ _ hj2]; exact h2 j (by omega))) rfl
                      exact J120 _ 0 S (by omega) (fun _ _ _ => rfl) (fun j hj => by omega) rfl
                    ·
                      refine z_if_le (pc := 108) (tgt := 117) h dX11_copy_108 (by decide) ⟨by decide, by decide⟩ (fun hc108 => ?_) (fun hc108 => absurd hc108 (by decide))
                      refine z_iconst (pc := 117) h dX11_copy_117 ?_
                      refine z_istore (pc := 118) (loc' := [some (zr 0), some (zi a), some (zi b), some (zi c), some (zi d), some (zi e), some (zi 0)]) h dX11_copy_118 (Nat.le_of_ble_eq_true rfl) rfl rfl ?_
                      have J120 : ∀ (N : Nat) (n : Int) (S1 : SS) (hn : 0 ≤ n ∧ n ≤ e) (h1 : ∀ k j, k ≠ 18 → S1 k j = S k j) (h2 : ∀ j : Nat, (j : Int) < n → S1 18 j = S 17 (60 * a + b + j).toNat) , (e - n).toNat = N → zG x LM 120 [some (zr 0), some (zi a), some (zi b), some (zi c), some (zi d), some (zi e), some (zi n)] ([] : List zV) S1 := by
                        intro N
                        induction N using Nat.strongRecOn with
                        | _ N ih120 => ?_
                        intro n S1 hn h1 h2 hN120
                        have k0 := h1 0
                        refine z_iload (pc := 120) h dX11_copy_120 rfl ?_
                        refine z_iload (pc := 122) h dX11_copy_122 rfl ?_
                        refine z_icmp_ge (pc := 124) (tgt := 154) h dX11_copy_124 (by decide) ⟨by omega, by omega⟩ ⟨by omega, by omega⟩ (fun hc124 => ?_) (fun hc124 => ?_)
                        ·
                          refine z_iconst (pc := 154) h dX11_copy_154 ?_
                          refine z_istore (pc := 155) (loc' := [some (zr 0), some (zi a), some (zi b), some (zi c), some (zi d), some (zi e), some (zi 0)]) h dX11_copy_155 (Nat.le_of_ble_eq_true rfl) rfl rfl ?_
                          have J157 : ∀ (N : Nat) (n2 : Int) (S2 : SS) (hn2 : 0 ≤ n2 ∧ n2 ≤ e) (h18 : ∀ j : Nat, (j : Int) < e → S2 18 j = S 17 (60 * a + b + j).toNat) (h3 : ∀ (k z : Nat), k ≠ 18 → ¬ (k = 17 ∧ (60 * c + d ≤ (z : Int) ∧ (z : Int) < 60 * c + d + n2)) → S2 k z = S k z) (h4 : ∀ z : Nat, 60 * c + d ≤ (z : Int) → (z : Int) < 60 * c + d + n2 → S2 17 z = S 17 (60 * a + b + ((z : Int) - (60 * c + d))).toNat) , (e - n2).toNat = N → zG x LM 157 [some (zr 0), some (zi a), some (zi b), some (zi c), some (zi d), some (zi e), some (zi n2)] ([] : List zV) S2 := by
                            intro N
                            induction N using Nat.strongRecOn with
                            | _ N ih157 => ?_
                            intro n2 S2 hn2 h18 h3 h4 hN157
                            refine z_iload (pc := 157) h dX11_copy_157 rfl ?_
                            refine z_iload (pc := 159) h dX11_copy_159 rfl ?_
                            refine z_icmp_ge (pc := 161) (tgt := 192) h dX11_copy_161 (by decide) ⟨by omega, by omega⟩ ⟨by omega, by omega⟩ (fun hc161 => ?_) (fun hc161 => ?_)
                            ·
                              refine z_iconst (pc := 192) h dX11_copy_192 ?_
                              refine z_iret (pc := 193) h dX11_copy_193 rfl ?_
                              have hf : cpF A a b c d e = 0 := by unfold cpF; rw [if_neg (by omega), if_neg (by omega), if_pos (by omega)]
                              exact ⟨ap_some (by unfold sp_copy; rw [if_pos (by omega), if_pos (by omega)]), by unfold st_copy; rw [if_pos (by omega), if_pos (by omega)]; exact mr_copy hR ⟨by omega, by omega⟩ (fun k z q q2 => h3 k z q (fun q3 => q2 ⟨q3.1, q3.2.1, by omega⟩)) (fun z z1 z2 => h4 z z1 (by omega))⟩
                            ·
                              refine z_aload_n (pc := 164) h dX11_copy_164 rfl ?_
                              refine z_getR (a := 17) (pc := 165) h dX11_copy_165 clX11 lkX11_59 (by decide) rfl rfl ?_
                              refine z_bipush (pc := 168) h dX11_copy_168 rfl ?_
                              refine z_iload_n (pc := 170) h dX11_copy_170 rfl ?_
                              refine z_imul (pc := 171) h dX11_copy_171 ?_
                              refine z_iload (pc := 172) h dX11_copy_172 rfl ?_
                              refine z_iadd (pc := 174) h dX11_copy_174 ?_
                              refine z_iload (pc := 175) h dX11_copy_175 rfl ?_
                              refine z_iadd (pc := 177) h dX11_copy_177 ?_
                              refine z_aload_n (pc := 178) h dX11_copy_178 rfl ?_
                              refine z_getR (a := 18) (pc := 179) h dX11_copy_179 clX11 lkX11_62 (by decide) rfl rfl ?_
                              refine z_iload (pc := 182) h dX11_copy_182 rfl ?_
                              refine z_iald (pc := 184) h dX11_copy_184 rfl (by decide) (by omega) (by omega) ?_
                              refine z_iast (pc := 185) h dX11_copy_185 rfl (by decide) (by omega) (by omega) ?_
                              refine z_iinc (pc := 186) (loc' := [some (zr 0), some (zi a), some (zi b), some (zi c), some (zi d), some (zi e), some (zi (n2 + 1))]) h dX11_copy_186 rfl (Nat.le_of_ble_eq_true rfl) rfl rfl ?_
                              refine z_goto (pc := 189) (tgt := 157) h dX11_copy_189 (by decide) ?_
                              exact ih157 _ (by omega) (n2 + 1) (up2 S2 17 (Int.toNat (((60 * c) + d) + n2)) (S2 18 n2.toNat)) (by omega) (fun j hj => by rw [up2_k _ _ (by decide)]; exact h18 j hj) (fun k z q q2 => by rw [up2_e, if_neg (by omega)]; exact h3 k z q (by omega)) (by intro z z1 z2; by_cases hz : z = (60 * c + d + n2).toNat; (subst hz; rw [up2_s, h18 _ (by omega)]; congr 1; omega); (rw [up2_j _ _ hz]; exact h4 z z1 (by omega))) rfl
                          exact J157 _ 0 S1 (by omega) (fun j hj => h2 j (by omega)) (fun k z q _ => h1 k z q) (fun z z1 z2 => by omega) rfl
                        ·
                          refine z_aload_n (pc := 127) h dX11_copy_127 rfl ?_
                          refine z_getR (a := 18) (pc := 128) h dX11_copy_128 clX11 lkX11_62 (by decide) rfl rfl ?_
                          refine z_iload (pc := 131) h dX11_copy_131 rfl ?_
                          refine z_aload_n (pc := 133) h dX11_copy_133 rfl ?_
                          refine z_getR (a := 17) (pc := 134) h dX11_copy_134 clX11 lkX11_59 (by decide) rfl rfl ?_
                          refine z_bipush (pc := 137) h dX11_copy_137 rfl ?_
                          refine z_iload_n (pc := 139) h dX11_copy_139 rfl ?_
                          refine z_imul (pc := 140) h dX11_copy_140 ?_
                          refine z_iload_n (pc := 141) h dX11_copy_141 rfl ?_
                          refine z_iadd (pc := 142) h dX11_copy_142 ?_
                          refine z_iload (pc := 143) h dX11_copy_143 rfl ?_
                          refine z_iadd (pc := 145) h dX11_copy_145 ?_
                          refine z_iald (pc := 146) h dX11_copy_146 rfl (by decide) (by omega) (by omega) ?_
                          refine z_iast (pc := 147) h dX11_copy_147 rfl (by decide) (by omega) (by omega) ?_
                          refine z_iinc (pc := 148) (loc' := [some (zr 0), some (zi a), some (zi b), some (zi c), some (zi d), some (zi e), some (zi (n + 1))]) h dX11_copy_148 rfl (Nat.le_of_ble_eq_true rfl) rfl rfl ?_
                          refine z_goto (pc := 151) (tgt := 120) h dX11_copy_151 (by decide) ?_
                          exact ih120 _ (by omega) (n + 1) (up2 S1 18 n.toNat (S1 17 (Int.toNat (((60 * a) + b) + n)))) (by omega) (fun k j q => by rw [up2_k _ _ q]; exact h1 k j q) (by intro j hj; by_cases hj2 : j = n.toNat; (subst hj2; rw [up2_s, h1 _ _ (by decide), show ((n.toNat : Nat) : Int) = n by omega]); (rw [up2_j _ _ hj2]; exact h2 j (by omega))) rfl
                      exact J120 _ 0 S (by omega) (fun _ _ _ => rfl) (fun j hj => by omega) rfl
                    ·
                      refine z_if_le (pc := 108) (tgt := 117) h dX11_copy_108 (by decide) ⟨by decide, by decide⟩ (fun hc108 => absurd hc108 (by decide)) (fun hc108 => ?_)
                      refine z_aload_n (pc := 111) h dX11_copy_111 rfl ?_
                      refine z_iconst (pc := 112) h dX11_copy_112 ?_
                      refine z_callV (pc := 113) (rest := ([] : List zV)) h (m_X11_meets 2 S ) dX11_copy_113 mcX11_meets miX11_meets mlX11_138 rfl rfl ⟨by decide, by decide⟩ clX11 rfl rfl rfl (Nat.le_of_ble_eq_true rfl) ?_
                      rintro _ _ ⟨rfl, rfl⟩
                      show zG x LM 116 [some (zr 0), some (zi a), some (zi b), some (zi c), some (zi d), some (zi e), none] [zi (-10 - 2)] (up2 S 0 23 2)
                      refine z_iret (pc := 116) h dX11_copy_116 rfl ?_
                      have hf : cpF A a b c d e = 2 := by unfold cpF; rw [if_neg (by omega), if_neg (by omega), if_neg (by omega)]
                      exact ⟨ap_some (by unfold sp_copy; rw [if_pos (by omega), if_neg (by omega), hf]), by unfold st_copy; rw [if_pos (by omega), if_neg (by omega), hf]; exact mr_up hR 23 _ (by decide)⟩
                  ·
                    refine z_if_gt (pc := 90) (tgt := 111) h dX11_copy_90 (by decide) ⟨by decide, by decide⟩ (fun hc90 => absurd hc90 (by decide)) (fun hc90 => ?_)
                    refine z_iload (pc := 93) h dX11_copy_93 rfl ?_
                    refine z_i2l (pc := 95) h dX11_copy_95 ⟨by omega, by omega⟩ ?_
                    refine z_iload (pc := 96) h dX11_copy_96 rfl ?_
                    refine z_i2l (pc := 98) h dX11_copy_98 ⟨by omega, by omega⟩ ?_
                    refine z_ladd (pc := 99) h dX11_copy_99 ?_
                    refine z_aload_n (pc := 100) h dX11_copy_100 rfl ?_
                    refine z_getR (a := 16) (pc := 101) h dX11_copy_101 clX11 lkX11_56 (by decide) rfl rfl ?_
                    refine z_iload_n (pc := 104) h dX11_copy_104 rfl ?_
                    refine z_iald (pc := 105) h dX11_copy_105 rfl (by decide) (by omega) (by omega) ?_
                    refine z_i2l (pc := 106) h dX11_copy_106 ⟨by omega, by omega⟩ ?_
                    refine z_lcmp (pc := 107) h dX11_copy_107 ⟨by omega, by omega⟩ ⟨by omega, by omega⟩ (fun hl107 => ?_) (fun hl107 => ?_) (fun hl107 => ?_)
                    ·
                      refine z_if_le (pc := 108) (tgt := 117) h dX11_copy_108 (by decide) ⟨by decide, by decide⟩ (fun hc108 => ?_) (fun hc108 => absurd hc108 (by decide))
                      refine z_iconst (pc := 117) h dX11_copy_117 ?_
                      refine z_istore (pc := 118) (loc' := [some (zr 0), some (zi a), some (zi b), some (zi c), some (zi d), some (zi e), some (zi 0)]) h dX11_copy_118 (Nat.le_of_ble_eq_true rfl) rfl rfl ?_
                      have J120 : ∀ (N : Nat) (n : Int) (S1 : SS) (hn : 0 ≤ n ∧ n ≤ e) (h1 : ∀ k j, k ≠ 18 → S1 k j = S k j) (h2 : ∀ j : Nat, (j : Int) < n → S1 18 j = S 17 (60 * a + b + j).toNat) , (e - n).toNat = N → zG x LM 120 [some (zr 0), some (zi a), some (zi b), some (zi c), some (zi d), some (zi e), some (zi n)] ([] : List zV) S1 := by
                        intro N
                        induction N using Nat.strongRecOn with
                        | _ N ih120 => ?_
                        intro n S1 hn h1 h2 hN120
                        have k0 := h1 0
                        refine z_iload (pc := 120) h dX11_copy_120 rfl ?_
                        refine z_iload (pc := 122) h dX11_copy_122 rfl ?_
                        refine z_icmp_ge (pc := 124) (tgt := 154) h dX11_copy_124 (by decide) ⟨by omega, by omega⟩ ⟨by omega, by omega⟩ (fun hc124 => ?_) (fun hc124 => ?_)
                        ·
                          refine z_iconst (pc := 154) h dX11_copy_154 ?_
                          refine z_istore (pc := 155) (loc' := [some (zr 0), some (zi a), some (zi b), some (zi c), some (zi d), some (zi e), some (zi 0)]) h dX11_copy_155 (Nat.le_of_ble_eq_true rfl) rfl rfl ?_
                          have J157 : ∀ (N : Nat) (n2 : Int) (S2 : SS) (hn2 : 0 ≤ n2 ∧ n2 ≤ e) (h18 : ∀ j : Nat, (j : Int) < e → S2 18 j = S 17 (60 * a + b + j).toNat) (h3 : ∀ (k z : Nat), k ≠ 18 → ¬ (k = 17 ∧ (60 * c + d ≤ (z : Int) ∧ (z : Int) < 60 * c + d + n2)) → S2 k z = S k z) (h4 : ∀ z : Nat, 60 * c + d ≤ (z : Int) → (z : Int) < 60 * c + d + n2 → S2 17 z = S 17 (60 * a + b + ((z : Int) - (60 * c + d))).toNat) , (e - n2).toNat = N → zG x LM 157 [some (zr 0), some (zi a), some (zi b), some (zi c), some (zi d), some (zi e), some (zi n2)] ([] : List zV) S2 := by
                            intro N
                            induction N using Nat.strongRecOn with
                            | _ N ih157 => ?_
                            intro n2 S2 hn2 h18 h3 h4 hN157
                            refine z_iload (pc := 157) h dX11_copy_157 rfl ?_
                            refine z_iload (pc := 159) h dX11_copy_159 rfl ?_
                            refine z_icmp_ge (pc := 161) (tgt := 192) h dX11_copy_161 (by decide) ⟨by omega, by omega⟩ ⟨by omega, by omega⟩ (fun hc161 => ?_) (fun hc161 => ?_)
                            ·
                              refine z_iconst (pc := 192) h dX11_copy_192 ?_
                              refine z_iret (pc := 193) h dX11_copy_193 rfl ?_
                              have hf : cpF A a b c d e = 0 := by unfold cpF; rw [if_neg (by omega), if_neg (by omega), if_pos (by omega)]
                              exact ⟨ap_some (by unfold sp_copy; rw [if_pos (by omega), if_pos (by omega)]), by unfold st_copy; rw [if_pos (by omega), if_pos (by omega)]; exact mr_copy hR ⟨by omega, by omega⟩ (fun k z q q2 => h3 k z q (fun q3 => q2 ⟨q3.1, q3.2.1, by omega⟩)) (fun z z1 z2 => h4 z z1 (by omega))⟩
                            ·
                              refine z_aload_n (pc := 164) h dX11_copy_164 rfl ?_
                              refine z_getR (a := 17) (pc := 165) h dX11_copy_165 clX11 lkX11_59 (by decide) rfl rfl ?_
                              refine z_bipush (pc := 168) h dX11_copy_168 rfl ?_
                              refine z_iload_n (pc := 170) h dX11_copy_170 rfl ?_
                              refine z_imul (pc := 171) h dX11_copy_171 ?_
                              refine z_iload (pc := 172) h dX11_copy_172 rfl ?_
                              refine z_iadd (pc := 174) h dX11_copy_174 ?_
                              refine z_iload (pc := 175) h dX11_copy_175 rfl ?_
                              refine z_iadd (pc := 177) h dX11_copy_177 ?_
                              refine z_aload_n (pc := 178) h dX11_copy_178 rfl ?_
                              refine z_getR (a := 18) (pc := 179) h dX11_copy_179 clX11 lkX11_62 (by decide) rfl rfl ?_
                              refine z_iload (pc := 182) h dX11_copy_182 rfl ?_
                              refine z_iald (pc := 184) h dX11_copy_184 rfl (by decide) (by omega) (by omega) ?_
                              refine z_iast (pc := 185) h dX11_copy_185 rfl (by decide) (by omega) (by omega) ?_
                              refine z_iinc (pc := 186) (loc' := [some (zr 0), some (zi a), some (zi b), some (zi c), some (zi d), some (zi e), some (zi (n2 + 1))]) h dX11_copy_186 rfl (Nat.le_of_ble_eq_true rfl) rfl rfl ?_
                              refine z_goto (pc := 189) (tgt := 157) h dX11_copy_189 (by decide) ?_
                              exact ih157 _ (by omega) (n2 + 1) (up2 S2 17 (Int.toNat (((60 * c) + d) + n2)) (S2 18 n2.toNat)) (by omega) (fun j hj => by rw [up2_k _ _ (by decide)]; exact h18 j hj) (fun k z q q2 => by rw [up2_e, if_neg (by omega)]; exact h3 k z q (by omega)) (by intro z z1 z2; by_cases hz : z = (60 * c + d + n2).toNat; (subst hz; rw [up2_s, h18 _ (by omega)]; congr 1; omega); (rw [up2_j _ _ hz]; exact h4 z z1 (by omega))) rfl
                          exact J157 _ 0 S1 (by omega) (fun j hj => h2 j (by omega)) (fun k z q _ => h1 k z q) (fun z z1 z2 => by omega) rfl
                        ·
                          refine z_aload_n (pc := 127) h dX11_copy_127 rfl ?_
                          refine z_getR (a := 18) (pc := 128) h dX11_copy_128 clX11 lkX11_62 (by decide) rfl rfl ?_
                          refine z_iload (pc := 131) h dX11_copy_131 rfl ?_
                          refine z_aload_n (pc := 133) h dX11_copy_133 rfl ?_
                          refine z_getR (a := 17) (pc := 134) h dX11_copy_134 clX11 lkX11_59 (by decide) rfl rfl ?_
                          refine z_bipush (pc := 137) h dX11_copy_137 rfl ?_
                          refine z_iload_n (pc := 139) h dX11_copy_139 rfl ?_
                          refine z_imul (pc := 140) h dX11_copy_140 ?_
                          refine z_iload_n (pc := 141) h dX11_copy_141 rfl ?_
                          refine z_iadd (pc := 142) h dX11_copy_142 ?_
                          refine z_iload (pc := 143) h dX11_copy_143 rfl ?_
                          refine z_iadd (pc := 145) h dX11_copy_145 ?_
                          refine z_iald (pc := 146) h dX11_copy_146 rfl (by decide) (by omega) (by omega) ?_
                          refine z_iast (pc := 147) h dX11_copy_147 rfl (by decide) (by omega) (by omega) ?_
                          refine z_iinc (pc := 148) (loc' := [some (zr 0), some (zi a), some (zi b), some (zi c), some (zi d), some (zi e), some (zi (n + 1))]) h dX11_copy_148 rfl (Nat.le_of_ble_eq_true rfl) rfl rfl ?_
                          refine z_goto (pc := 151) (tgt := 120) h dX11_copy_151 (by decide) ?_
                          exact ih120 _ (by omega) (n + 1) (up2 S1 18 n.toNat (S1 17 (Int.toNat (((60 * a) + b) + n)))) (by omega) (fun k j q => by rw [up2_k _ _ q]; exact h1 k j q) (by intro j hj; by_cases hj2 : j = n.toNat; (subst hj2; rw [up2_s, h1 _ _ (by decide), show ((n.toNat : Nat) : Int) = n by omega]); (rw [up2_j _ _ hj2]; exact h2 j (by omega))) rfl
                      exact J120 _ 0 S (by omega) (fun _ _ _ => rfl) (fun j hj => by omega) rfl
                    ·
                      refine z_if_le (pc := 108) (tgt := 117) h dX11_copy_108 (by decide) ⟨by decide, by decide⟩ (fun hc108 => ?_) (fun hc108 => absurd hc108 (by decide))
                      refine z_iconst (pc := 117) h dX11_copy_117 ?_
                      refine z_istore (pc := 118) (loc' := [some (zr 0), some (zi a), some (zi b), some (zi c), some (zi d), some (zi e), some (zi 0)]) h dX11_copy_118 (Nat.le_of_ble_eq_true rfl) rfl rfl ?_
                      have J120 : ∀ (N : Nat) (n : Int) (S1 : SS) (hn : 0 ≤ n ∧ n ≤ e) (h1 : ∀ k j, k ≠ 18 → S1 k j = S k j) (h2 : ∀ j : Nat, (j : Int) < n → S1 18 j = S 17 (60 * a + b + j).toNat) , (e - n).toNat = N → zG x LM 120 [some (zr 0), some (zi a), some (zi b), some (zi c), some (zi d), some (zi e), some (zi n)] ([] : List zV) S1 := by
                        intro N
                        induction N using Nat.strongRecOn with
                        | _ N ih120 => ?_
                        intro n S1 hn h1 h2 hN120
                        have k0 := h1 0
                        refine z_iload (pc := 120) h dX11_copy_120 rfl ?_
                        refine z_iload (pc := 122) h dX11_copy_122 rfl ?_
                        refine z_icmp_ge (pc := 124) (tgt := 154) h dX11_copy_124 (by decide) ⟨by omega, by omega⟩ ⟨by omega, by omega⟩ (fun hc124 => ?_) (fun hc124 => ?_)
                        ·
                          refine z_iconst (pc := 154) h dX11_copy_154 ?_
                          refine z_istore (pc := 155) (loc' := [some (zr 0), some (zi a), some (zi b), some (zi c), some (zi d), some (zi e), some (zi 0)]) h dX11_copy_155 (Nat.le_of_ble_eq_true rfl) rfl rfl ?_
                          have J157 : ∀ (N : Nat) (n2 : Int) (S2 : SS) (hn2 : 0 ≤ n2 ∧ n2 ≤ e) (h18 : ∀ j : Nat, (j : Int) < e → S2 18 j = S 17 (60 * a + b + j).toNat) (h3 : ∀ (k z : Nat), k ≠ 18 → ¬ (k = 17 ∧ (60 * c + d ≤ (z : Int) ∧ (z : Int) < 60 * c + d + n2)) → S2 k z = S k z) (h4 : ∀ z : Nat, 60 * c + d ≤ (z : Int) → (z : Int) < 60 * c + d + n2 → S2 17 z = S 17 (60 * a + b + ((z : Int) - (60 * c + d))).toNat) , (e - n2).toNat = N → zG x LM 157 [some (zr 0), some (zi a), some (zi b), some (zi c), some (zi d), some (zi e), some (zi n2)] ([] : List zV) S2 := by
                            intro N
                            induction N using Nat.strongRecOn with
                            | _ N ih157 => ?_
                            intro n2 S2 hn2 h18 h3 h4 hN157
                            refine z_iload (pc := 157) h dX11_copy_157 rfl ?_
                            refine z_iload (pc := 159) h dX11_copy_159 rfl ?_
                            refine z_icmp_ge (pc := 161) (tgt := 192) h dX11_copy_161 (by decide) ⟨by omega, by omega⟩ ⟨by omega, by omega⟩ (fun hc161 => ?_) (fun hc161 => ?_)
                            ·
                              refine z_iconst (pc := 192) h dX11_copy_192 ?_
                              refine z_iret (pc := 193) h dX11_copy_193 rfl ?_
                              have hf : cpF A a b c d e = 0 := by unfold cpF; rw [if_neg (by omega), if_neg (by omega), if_pos (by omega)]
                              exact ⟨ap_some (by unfold sp_copy; rw [if_pos (by omega), if_pos (by omega)]), by unfold st_copy; rw [if_pos (by omega), if_pos (by omega)]; exact mr_copy hR ⟨by omega, by omega⟩ (fun k z q q2 => h3 k z q (fun q3 => q2 ⟨q3.1, q3.2.1, by omega⟩)) (fun z z1 z2 => h4 z z1 (by omega))⟩
                            ·
                              refine z_aload_n (pc := 164) h dX11_copy_164 rfl ?_
                              refine z_getR (a := 17) (pc := 165) h dX11_copy_165 clX11 lkX11_59 (by decide) rfl rfl ?_
                              refine z_bipush (pc := 168) h dX11_copy_168 rfl ?_
                              refine z_iload_n (pc := 170) h dX11_copy_170 rfl ?_
                              refine z_imul (pc := 171) h dX11_copy_171 ?_
                              refine z_iload (pc := 172) h dX11_copy_172 rfl ?_
                              refine z_iadd (pc := 174) h dX11_copy_174 ?_
                              refine z_iload (pc := 175) h dX11_copy_175 rfl ?_
                              refine z_iadd (pc := 177) h dX11_copy_177 ?_
                              refine z_aload_n (pc := 178) h dX11_copy_178 rfl ?_
                              refine z_getR (a := 18) (pc := 179) h dX11_copy_179 clX11 lkX11_62 (by decide) rfl rfl ?_
                              refine z_iload (pc := 182) h dX11_copy_182 rfl ?_
                              refine z_iald (pc := 184) h dX11_copy_184 rfl (by decide) (by omega) (by omega) ?_
                              refine z_iast (pc := 185) h dX11_copy_185 rfl (by decide) (by omega) (by omega) ?_
                              refine z_iinc (pc := 186) (loc' := [some (zr 0), some (zi a), some (zi b), some (zi c), some (zi d), some (zi e), some (zi (n2 + 1))]) h dX11_copy_186 rfl (Nat.le_of_ble_eq_true rfl) rfl rfl ?_
                              refine z_goto (pc := 189) (tgt := 157) h dX11_copy_189 (by decide) ?_
                              exact ih157 _ (by omega) (n2 + 1) (up2 S2 17 (Int.toNat (((60 * c) + d) + n2)) (S2 18 n2.toNat)) (by omega) (fun j hj => by rw [up2_k _ _ (by decide)]; exact h18 j hj) (fun k z q q2 => by rw [up2_e, if_neg (by omega)]; exact h3 k z q (by omega)) (by intro z z1 z2; by_cases hz : z = (60 * c + d + n2).toNat; (subst hz; rw [up2_s, h18 _ (by omega)]; congr 1; omega); (rw [up2_j _ _ hz]; exact h4 z z1 (by omega))) rfl
                          exact J157 _ 0 S1 (by omega) (fun j hj => h2 j (by omega)) (fun k z q _ => h1 k z q) (fun z z1 z2 => by omega) rfl
                        ·
                          refine z_aload_n (pc := 127) h dX11_copy_127 rfl ?_
                          refine z_getR (a := 18) (pc := 128) h dX11_copy_128 clX11 lkX11_62 (by decide) rfl rfl ?_
                          refine z_iload (pc := 131) h dX11_copy_131 rfl ?_
                          refine z_aload_n (pc := 133) h dX11_copy_133 rfl ?_
                          refine z_getR (a := 17) (pc := 134) h dX11_copy_134 clX11 lkX11_59 (by decide) rfl rfl ?_
                          refine z_bipush (pc := 137) h dX11_copy_137 rfl ?_
                          refine z_iload_n (pc := 139) h dX11_copy_139 rfl ?_
                          refine z_imul (pc := 140) h dX11_copy_140 ?_
                          refine z_iload_n (pc := 141) h dX11_copy_141 rfl ?_
                          refine z_iadd (pc := 142) h dX11_copy_142 ?_
                          refine z_iload (pc := 143) h dX11_copy_143 rfl ?_
                          refine z_iadd (pc := 145) h dX11_copy_145 ?_
                          refine z_iald (pc := 146) h dX11_copy_146 rfl (by decide) (by omega) (by omega) ?_
                          refine z_iast (pc := 147) h dX11_copy_147 rfl (by decide) (by omega) (by omega) ?_
                          refine z_iinc (pc := 148) (loc' := [some (zr 0), some (zi a), some (zi b), some (zi c), some (zi d), some (zi e), some (zi (n + 1))]) h dX11_copy_148 rfl (Nat.le_of_ble_eq_true rfl) rfl rfl ?_
                          refine z_goto (pc := 151) (tgt := 120) h dX11_copy_151 (by decide) ?_
                          exact ih120 _ (by omega) (n + 1) (up2 S1 18 n.toNat (S1 17 (Int.toNat (((60 * a) + b) + n)))) (by omega) (fun k j q => by rw [up2_k _ _ q]; exact h1 k j q) (by intro j hj; by_cases hj2 : j = n.toNat; (subst hj2; rw [up2_s, h1 _ _ (by decide), show ((n.toNat : Nat) : Int) = n by omega]); (rw [up2_j _ _ hj2]; exact h2 j (by omega))) rfl
                      exact J120 _ 0 S (by omega) (fun _ _ _ => rfl) (fun j hj => by omega) rfl
                    ·
                      refine z_if_le (pc := 108) (tgt := 117) h dX11_copy_108 (by decide) ⟨by decide, by decide⟩ (fun hc108 => absurd hc108 (by decide)) (fun hc108 => ?_)
                      refine z_aload_n (pc := 111) h dX11_copy_111 rfl ?_
                      refine z_iconst (pc := 112) h dX11_copy_112 ?_
                      refine z_callV (pc := 113) (rest := ([] : List zV)) h (m_X11_meets 2 S ) dX11_copy_113 mcX11_meets miX11_meets mlX11_138 rfl rfl ⟨by decide, by decide⟩ clX11 rfl rfl rfl (Nat.le_of_ble_eq_true rfl) ?_
                      rintro _ _ ⟨rfl, rfl⟩
                      show zG x LM 116 [some (zr 0), some (zi a), some (zi b), some (zi c), some (zi d), some (zi e), none] [zi (-10 - 2)] (up2 S 0 23 2)
                      refine z_iret (pc := 116) h dX11_copy_116 rfl ?_
                      have hf : cpF A a b c d e = 2 := by unfold cpF; rw [if_neg (by omega), if_neg (by omega), if_neg (by omega)]
                      exact ⟨ap_some (by unfold sp_copy; rw [if_pos (by omega), if_neg (by omega), hf]), by unfold st_copy; rw [if_pos (by omega), if_neg (by omega), hf]; exact mr_up hR 23 _ (by decide)⟩
                  ·
                    refine z_if_gt (pc := 90) (tgt := 111) h dX11_copy_90 (by decide) ⟨by decide, by decide⟩ (fun hc90 => ?_) (fun hc90 => absurd hc90 (by decide))
                    refine z_aload_n (pc := 111) h dX11_copy_111 rfl ?_
                    refine z_iconst (pc := 112) h dX11_copy_112 ?_
                    refine z_callV (pc := 113) (rest := ([] : List zV)) h (m_X11_meets 2 S ) dX11_copy_113 mcX11_meets miX11_meets mlX11_138 rfl rfl ⟨by decide, by decide⟩ clX11 rfl rfl rfl (Nat.le_of_ble_eq_true rfl) ?_
                    rintro _ _ ⟨rfl, rfl⟩
                    show zG x LM 116 [some (zr 0), some (zi a), some (zi b), some (zi c), some (zi d), some (zi e), none] [zi (-10 - 2)] (up2 S 0 23 2)
                    refine z_iret (pc := 116) h dX11_copy_116 rfl ?_
                    have hf : cpF A a b c d e = 2 := by unfold cpF; rw [if_neg (by omega), if_neg (by omega), if_neg (by omega)]
                    exact ⟨ap_some (by unfold sp_copy; rw [if_pos (by omega), if_neg (by omega), hf]), by unfold st_copy; rw [if_pos (by omega), if_neg (by omega), hf]; exact mr_up hR 23 _ (by decide)⟩
          ·
            refine z_aload_n (pc := 56) h dX11_copy_56 rfl ?_
            refine z_iconst (pc := 57) h dX11_copy_57 ?_
            refine z_callV (pc := 58) (rest := ([] : List zV)) h (m_X11_meets 4 S ) dX11_copy_58 mcX11_meets miX11_meets mlX11_138 rfl rfl ⟨by decide, by decide⟩ clX11 rfl rfl rfl (Nat.le_of_ble_eq_true rfl) ?_
            rintro _ _ ⟨rfl, rfl⟩
            show zG x LM 61 [some (zr 0), some (zi a), some (zi b), some (zi c), some (zi d), some (zi e), none] [zi (-10 - 4)] (up2 S 0 23 4)
            refine z_iret (pc := 61) h dX11_copy_61 rfl ?_
            have hf : cpF A a b c d e = 4 := by unfold cpF; rw [if_neg (by omega), if_pos (by omega)]
            exact ⟨ap_some (by unfold sp_copy; rw [if_pos (by omega), if_neg (by omega), hf]), by unfold st_copy; rw [if_pos (by omega), if_neg (by omega), hf]; exact mr_up hR 23 _ (by decide)⟩
        ·
          refine z_aload_n (pc := 35) h dX11_copy_35 rfl ?_
          refine z_iconst (pc := 36) h dX11_copy_36 ?_
          refine z_callV (pc := 37) (rest := ([] : List zV)) h (m_X11_meets 1 S ) dX11_copy_37 mcX11_meets miX11_meets mlX11_138 rfl rfl ⟨by decide, by decide⟩ clX11 rfl rfl rfl (Nat.le_of_ble_eq_true rfl) ?_
          rintro _ _ ⟨rfl, rfl⟩
          show zG x LM 40 [some (zr 0), some (zi a), some (zi b), some (zi c), some (zi d), some (zi e), none] [zi (-10 - 1)] (up2 S 0 23 1)
          refine z_iret (pc := 40) h dX11_copy_40 rfl ?_
          have hf : cpF A a b c d e = 1 := by unfold cpF; rw [if_pos (by omega)]
          exact ⟨ap_some (by unfold sp_copy; rw [if_pos (by omega), if_neg (by omega), hf]), by unfold st_copy; rw [if_pos (by omega), if_neg (by omega), hf]; exact mr_up hR 23 _ (by decide)⟩
    ·
      show zG x LM 11 [some (zr 0), some (zi a), some (zi b), some (zi c), some (zi d), some (zi e), none] [zi 0] S
      refine z_if_ne (pc := 11) (tgt := 17) h dX11_copy_11 (by decide) ⟨by decide, by decide⟩ (fun hc11 => absurd hc11 (by decide)) (fun hc11 => ?_)
      refine z_bipush (pc := 14) h dX11_copy_14 rfl ?_
      refine z_iret (pc := 16) h dX11_copy_16 rfl ?_
      exact ⟨ap_some (by unfold sp_copy; rw [if_neg (by omega)]), by unfold st_copy; rw [if_neg (by omega)]; exact hR⟩
  ·
    show zG x LM 4 [some (zr 0), some (zi a), some (zi b), some (zi c), some (zi d), some (zi e), none] [zi 0] S
    refine z_if_eq (pc := 4) (tgt := 14) h dX11_copy_4 (by decide) ⟨by decide, by decide⟩ (fun hc4 => ?_) (fun hc4 => absurd hc4 (by decide))
    refine z_bipush (pc := 14) h dX11_copy_14 rfl ?_
    refine z_iret (pc := 16) h dX11_copy_16 rfl ?_
    exact ⟨ap_some (by unfold sp_copy; rw [if_neg (by omega)]), by unfold st_copy; rw [if_neg (by omega)]; exact hR⟩

set_option maxRecDepth 100000 in
set_option maxHeartbeats 4000000 in
theorem m_X11_write (a b c : Int) (A S : SS) (ha : r32 a) (hb : r32 b) (hc : r32 c) (hR : mRel S A) (hm : MI A) : zM LM yX11_write cX11_write 5 (some .int) 4 94 [zr 0, zi a, zi b, zi c] S (fun r S' => r = some (zi (sp_write A a b c)) ∧ mRel S' (st_write A a b c)) := by
  refine zM_of (own := RX11) rfl (by decide +kernel) [some (zr 0), some (zi a), some (zi b), some (zi c), none] (Nat.le_of_ble_eq_true rfl) rfl ?_
  intro x h
  refine z_iload_n (pc := 0) h dX11_write_0 rfl ?_
  refine z_callS (pc := 1) (rest := ([] : List zV)) h (m_X11_isStrip a S ⟨by omega, by omega⟩) dX11_write_1 mcX11_isStrip msX11_isStrip mlX11_79 rfl rfl ⟨by decide, by decide⟩ rfl (Nat.le_of_ble_eq_true rfl) ?_
  rintro _ _ ⟨rfl, ⟨hr1, rfl⟩ | ⟨hr1, rfl⟩⟩
  ·
    show zG x LM 4 [some (zr 0), some (zi a), some (zi b), some (zi c), none] [zi 1] S
    refine z_if_eq (pc := 4) (tgt := 21) h dX11_write_4 (by decide) ⟨by decide, by decide⟩ (fun hc4 => absurd hc4 (by decide)) (fun hc4 => ?_)
    refine z_iload_n (pc := 7) h dX11_write_7 rfl ?_
    refine z_callS (pc := 8) (rest := ([] : List zV)) h (m_X11_isDrum b S ⟨by omega, by omega⟩) dX11_write_8 mcX11_isDrum msX11_isDrum mlX11_105 rfl rfl ⟨by decide, by decide⟩ rfl (Nat.le_of_ble_eq_true rfl) ?_
    rintro _ _ ⟨rfl, ⟨hr8, rfl⟩ | ⟨hr8, rfl⟩⟩
    ·
      show zG x LM 11 [some (zr 0), some (zi a), some (zi b), some (zi c), none] [zi 1] S
      refine z_if_eq (pc := 11) (tgt := 21) h dX11_write_11 (by decide) ⟨by decide, by decide⟩ (fun hc11 => absurd hc11 (by decide)) (fun hc11 => ?_)
      refine z_iload_n (pc := 14) h dX11_write_14 rfl ?_
      refine z_callS (pc := 15) (rest := ([] : List zV)) h (m_X11_isSheet c S ⟨by omega, by omega⟩) dX11_write_15 mcX11_isSheet msX11_isSheet mlX11_135 rfl rfl ⟨by decide, by decide⟩ rfl (Nat.le_of_ble_eq_true rfl) ?_
      rintro _ _ ⟨rfl, ⟨hr15, rfl⟩ | ⟨hr15, rfl⟩⟩
      ·
        show zG x LM 18 [some (zr 0), some (zi a), some (zi b), some (zi c), none] [zi 1] S
        refine z_if_ne (pc := 18) (tgt := 24) h dX11_write_18 (by decide) ⟨by decide, by decide⟩ (fun hc18 => ?_) (fun hc18 => absurd hc18 (by decide))
        have e14 : S 14 c.toNat = A 14 c.toNat := mr_at hR _ (by decide)
        have e15 : S 15 c.toNat = A 15 c.toNat := mr_at hR _ (by decide)
        have e16 : S 16 c.toNat = A 16 c.toNat := mr_at hR _ (by decide)
        have b14 := mi_h hm c.toNat
        have b15 := mi_hf hm c.toNat
        have b16 := mi_hn hm c.toNat
        have hb9 := mA_b hm (a := a) (by omega)
        refine z_aload_n (pc := 24) h dX11_write_24 rfl ?_
        refine z_getR (a := 14) (pc := 25) h dX11_write_25 clX11 lkX11_49 (by decide) rfl rfl ?_
        refine z_iload_n (pc := 28) h dX11_write_28 rfl ?_
        refine z_zald (pc := 29) h dX11_write_29 rfl (by decide) (by omega) (by omega) ?_
        refine z_if_ne (pc := 30) (tgt := 39) h dX11_write_30 (by decide) ⟨by omega, by omega⟩ (fun hc30 => ?_) (fun hc30 => ?_)
        ·
          refine z_aload_n (pc := 39) h dX11_write_39 rfl ?_
          refine z_iload_n (pc := 40) h dX11_write_40 rfl ?_
          refine z_callV (pc := 41) (rest := ([] : List zV)) h (m_X11_pictures a _ S (by first | assumption | omega) (by first | assumption | omega) (by first | assumption | omega)) dX11_write_41 mcX11_pictures miX11_pictures mlX11_89 rfl rfl ⟨by decide, by decide⟩ clX11 rfl rfl rfl (Nat.le_of_ble_eq_true rfl) ?_
          rintro _ S41 ⟨rfl, hr41E, hr41R, hr41P⟩
          show zG x LM 44 [some (zr 0), some (zi a), some (zi b), some (zi c), none] [zi (mA A a)] S41
          refine z_if_ne (pc := 44) (tgt := 50) h dX11_write_44 (by decide) ⟨by omega, by omega⟩ (fun hc44 => ?_) (fun hc44 => ?_)
          ·
            have hpk := fun k : Int => pk_b (k := k) (s := b) (p := mA A a) (by omega)
            refine z_iconst (pc := 50) h dX11_write_50 ?_
            refine z_istore (pc := 51) (loc' := [some (zr 0), some (zi a), some (zi b), some (zi c), some (zi 0)]) h dX11_write_51 (Nat.le_of_ble_eq_true rfl) rfl rfl ?_
            have J53 : ∀ (N : Nat) (n : Int) (B S1 : SS) (hn : 0 ≤ n ∧ n ≤ A 16 c.toNat) (hB : ∀ k j, k ≠ 17 → B k j = A k j) (hm1 : MI B) (hR1 : mRel S1 B) (hI : wrR c (mA A a) b (A 16 c.toNat - n).toNat n B = wrF A c (mA A a) b) , (A 16 c.toNat - n).toNat = N → zG x LM 53 [some (zr 0), some (zi a), some (zi b), some (zi c), some (zi n)] ([] : List zV) S1 := by
              intro N
              induction N using Nat.strongRecOn with
              | _ N ih53 => ?_
              intro n B S1 hn hB hm1 hR1 hI hN53
              have y16 : S1 16 c.toNat = A 16 c.toNat := by rw [← hB 16 _ (by decide)]; exact mr_at hR1 _ (by decide)
              refine z_iload (pc := 53) h dX11_write_53 rfl ?_
              refine z_aload_n (pc := 55) h dX11_write_55 rfl ?_
              refine z_getR (a := 16) (pc := 56) h dX11_write_56 clX11 lkX11_56 (by decide) rfl rfl ?_
              refine z_iload_n (pc := 59) h dX11_write_59 rfl ?_
              refine z_iald (pc := 60) h dX11_write_60 rfl (by decide) (by omega) (by omega) ?_
              refine z_icmp_ge (pc := 61) (tgt := 85) h dX11_write_61 (by decide) ⟨by omega, by omega⟩ ⟨by omega, by omega⟩ (fun hc61 => ?_) (fun hc61 => ?_)
              ·
                refine z_aload_n (pc := 85) h dX11_write_85 rfl ?_
                refine z_getR (a := 16) (pc := 86) h dX11_write_86 clX11 lkX11_56 (by decide) rfl rfl ?_
                refine z_iload_n (pc := 89) h dX11_write_89 rfl ?_
                refine z_iald (pc := 90) h dX11_write_90 rfl (by decide) (by omega) (by omega) ?_
                refine z_iret (pc := 91) h dX11_write_91 rfl ?_
                rw [wr_0 (by omega)] at hI
                exact ⟨ap_some (by unfold sp_write; rw [if_pos (by omega), if_neg (by omega), if_neg (by omega)]; exact y16), by unfold st_write; rw [if_pos (by omega), if_neg (by omega), if_neg (by omega), ← hI]; exact hR1⟩
              ·
                refine z_aload_n (pc := 64) h dX11_write_64 rfl ?_
                refine z_iload_n (pc := 65) h dX11_write_65 rfl ?_
                refine z_iload (pc := 66) h dX11_write_66 rfl ?_
                refine z_aload_n (pc := 68) h dX11_write_68 rfl ?_
                refine z_iload_n (pc := 69) h dX11_write_69 rfl ?_
                refine z_iload_n (pc := 70) h dX11_write_70 rfl ?_
                refine z_iload (pc := 71) h dX11_write_71 rfl ?_
                have hmB := (mA_c (fun j => hB 1 j (by decide)) (fun j => hB 2 j (by decide)) a).1
                have hsv : seenF (mA B a) b n = n * nearF (mA A a) b % (mA A a) := by unfold seenF; rw [hmB, if_neg (by omega), if_neg (by omega)]
                refine z_callV (pc := 73) (rest := [zi n, zi c, zr 0]) h (m_X11_seenNow a b n B S1 (by first | assumption | omega) (by first | assumption | omega) (by first | assumption | omega) (by first | assumption | omega) (by first | assumption | omega)) dX11_write_73 mcX11_seenNow miX11_seenNow mlX11_119 rfl rfl ⟨by decide, by decide⟩ clX11 rfl rfl rfl (Nat.le_of_ble_eq_true rfl) ?_
                rintro _ S73 ⟨rfl, hr73E, hr73R, hr73P⟩
                show zG x LM 76 [some (zr 0), some (zi a), some (zi b), some (zi c), some (zi n)] [zi (seenF (mA B a) b n), zi n, zi c, zr 0] S73
                refine z_cv (b := (n * nearF (mA A a) b % (mA A a))) (by exact hsv) ?_
                refine z_callV (pc := 76) (rest := ([] : List zV)) h (m_X11_keep c n (n * nearF (mA A a) b % (mA A a)) B S73 (by first | assumption | omega) (by first | assumption | omega) (by first | assumption | omega) (by first | assumption | omega)) dX11_write_76 mcX11_keep miX11_keep mlX11_215 rfl rfl ⟨by decide, by decide⟩ clX11 rfl rfl rfl (Nat.le_of_ble_eq_true rfl) ?_
                rintro _ S76 ⟨rfl, hr76, hr76o⟩
                show zG x LM 79 [some (zr 0), some (zi a), some (zi b), some (zi c), some (zi n)] ([] : List zV) S76
                refine z_iinc (pc := 79) (loc' := [some (zr 0), some (zi a), some (zi b), some (zi c), some (zi (n + 1))]) h dX11_write_79 rfl (Nat.le_of_ble_eq_true rfl) rfl rfl ?_
                refine z_goto (pc := 82) (tgt := 53) h dX11_write_82 (by decide) ?_
                exact ih53 _ (by omega) (n + 1) (keepS B c n (n * nearF (mA A a) b % (mA A a))) S76 (by omega) (fun k j q => by rw [keepS_k q]; exact hB k j q) (by exact keepS_MI hm1 _ _ (hpk n)) (by exact hr76) (by rw [wr_s (r' := (A 16 c.toNat - (n + 1)).toNat) (by omega)] at hI; exact hI) rfl
            exact J53 _ 0 A S41 (by omega) (fun _ _ _ => rfl) (by exact hm) (by exact hr41R) (by unfold wrF; congr 1; omega) rfl
          ·
            refine z_bipush (pc := 47) h dX11_write_47 rfl ?_
            refine z_iret (pc := 49) h dX11_write_49 rfl ?_
            exact ⟨ap_some (by unfold sp_write; rw [if_pos (by omega), if_neg (by omega), if_pos (by omega)]), by unfold st_write; rw [if_pos (by omega), if_neg (by omega), if_pos (by omega)]; exact hr41R⟩
        ·
          refine z_aload_n (pc := 33) h dX11_write_33 rfl ?_
          refine z_iconst (pc := 34) h dX11_write_34 ?_
          refine z_callV (pc := 35) (rest := ([] : List zV)) h (m_X11_meets 1 S ) dX11_write_35 mcX11_meets miX11_meets mlX11_138 rfl rfl ⟨by decide, by decide⟩ clX11 rfl rfl rfl (Nat.le_of_ble_eq_true rfl) ?_
          rintro _ _ ⟨rfl, rfl⟩
          show zG x LM 38 [some (zr 0), some (zi a), some (zi b), some (zi c), none] [zi (-10 - 1)] (up2 S 0 23 1)
          refine z_iret (pc := 38) h dX11_write_38 rfl ?_
          exact ⟨ap_some (by unfold sp_write; rw [if_pos (by omega), if_pos (by omega)]; try omega), by unfold st_write; rw [if_pos (by omega), if_pos (by omega)]; exact mr_up hR 23 _ (by decide)⟩
      ·
        show zG x LM 18 [some (zr 0), some (zi a), some (zi b), some (zi c), none] [zi 0] S
        refine z_if_ne (pc := 18) (tgt := 24) h dX11_write_18 (by decide) ⟨by decide, by decide⟩ (fun hc18 => absurd hc18 (by decide)) (fun hc18 => ?_)
        refine z_bipush (pc := 21) h dX11_write_21 rfl ?_
        refine z_iret (pc := 23) h dX11_write_23 rfl ?_
        exact ⟨ap_some (by unfold sp_write; rw [if_neg (by omega)]), by unfold st_write; rw [if_neg (by omega)]; exact hR⟩
    ·
      show zG x LM 11 [some (zr 0), some (zi a), some (zi b), some (zi c), none] [zi 0] S
      refine z_if_eq (pc := 11) (tgt := 21) h dX11_write_11 (by decide) ⟨by decide, by decide⟩ (fun hc11 => ?_) (fun hc11 => absurd hc11 (by decide))
      refine z_bipush (pc := 21) h dX11_write_21 rfl ?_
      refine z_iret (pc := 23) h dX11_write_23 rfl ?_
      exact ⟨ap_some (by unfold sp_write; rw [if_neg (by omega)]), by unfold st_write; rw [if_neg (by omega)]; exact hR⟩
  ·
    show zG x LM 4 [some (zr 0), some (zi a), some (zi b), some (zi c), none] [zi 0] S
    refine z_if_eq (pc := 4) (tgt := 21) h dX11_write_4 (by decide) ⟨by decide, by decide⟩ (fun hc4 => ?_) (fun hc4 => absurd hc4 (by decide))
    refine z_bipush (pc := 21) h dX11_write_21 rfl ?_
    refine z_iret (pc := 23) h dX11_write_23 rfl ?_
    exact ⟨ap_some (by unfold sp_write; rw [if_neg (by omega)]), by unfold st_write; rw [if_neg (by omega)]; exact hR⟩

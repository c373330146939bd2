/-! the class's dots and sheets -/

set_option maxRecDepth 100000 in
set_option maxHeartbeats 4000000 in
theorem m_X4_add (k : Nat) (b c : Int) (S : SS) (hk : isLook k) (ho : 0 ≤ S k 2 ∧ S k 2 ≤ 6) (hb : r32 b) (hc : r32 c) : zM LX yX4_add cX4_add 3 (some .int) 1 22 [zr k, zi b, zi c] S (fun r S' => (¬ okD b c ∧ r = some (zi (-2)) ∧ S = S') ∨ (okD b c ∧ S k 2 = 6 ∧ r = some (zi (-4)) ∧ S = S') ∨ (okD b c ∧ S k 2 < 6 ∧ r = some (zi (S k 2)) ∧ up2 (up2 (up2 S (k + 1) (S k 2).toNat b) (k + 2) (S k 2).toNat c) k 2 (S k 2 + 1) = S')) := by
  refine zM_of (own := RX4) rfl (by decide +kernel) [some (zr k), some (zi b), some (zi c)] (Nat.le_of_ble_eq_true rfl) rfl ?_
  intro x h
  refine z_iload_n (pc := 0) h dX4_add_0 rfl ?_
  refine z_iconst (pc := 1) h dX4_add_1 ?_
  refine z_bipush (pc := 2) h dX4_add_2 rfl ?_
  refine z_callS (pc := 4) (rest := ([] : List zV)) h (m_X10_within b 0 59 S ⟨by omega, by omega⟩ ⟨by decide, by decide⟩ ⟨by decide, by decide⟩) dX4_add_4 mcX10_within msX10_within mlX4_18 rfl rfl ⟨by decide, by decide⟩ rfl (Nat.le_of_ble_eq_true rfl) ?_
  rintro _ _ ⟨rfl, ⟨hr4, rfl⟩ | ⟨hr4, rfl⟩⟩
  ·
    show zG x LX 7 [some (zr k), some (zi b), some (zi c)] [zi 1] S
    refine z_if_eq (pc := 7) (tgt := 19) h dX4_add_7 (by decide) ⟨by decide, by decide⟩ (fun hc7 => absurd hc7 (by decide)) (fun hc7 => ?_)
    refine z_iload_n (pc := 10) h dX4_add_10 rfl ?_
    refine z_iconst (pc := 11) h dX4_add_11 ?_
    refine z_iconst (pc := 12) h dX4_add_12 ?_
    refine z_callS (pc := 13) (rest := ([] : List zV)) h (m_X10_within c 0 3 S ⟨by omega, by omega⟩ ⟨by decide, by decide⟩ ⟨by decide, by decide⟩) dX4_add_13 mcX10_within msX10_within mlX4_18 rfl rfl ⟨by decide, by decide⟩ rfl (Nat.le_of_ble_eq_true rfl) ?_
    rintro _ _ ⟨rfl, ⟨hr13, rfl⟩ | ⟨hr13, rfl⟩⟩
    ·
      show zG x LX 16 [some (zr k), some (zi b), some (zi c)] [zi 1] S
      refine z_if_ne (pc := 16) (tgt := 22) h dX4_add_16 (by decide) ⟨by decide, by decide⟩ (fun hc16 => ?_) (fun hc16 => absurd hc16 (by decide))
      refine z_aload_n (pc := 22) h dX4_add_22 rfl ?_
      refine z_getI (pc := 23) h dX4_add_23 clX4 lkX4_22 (by decide) hk.1 rfl ?_
      refine z_if_lt (pc := 26) (tgt := 38) h dX4_add_26 (by decide) ⟨by omega, by omega⟩ (fun hc26 => absurd hc26 (by omega)) (fun hc26 => ?_)
      refine z_aload_n (pc := 29) h dX4_add_29 rfl ?_
      refine z_getI (pc := 30) h dX4_add_30 clX4 lkX4_22 (by decide) hk.1 rfl ?_
      refine z_bipush (pc := 33) h dX4_add_33 rfl ?_
      refine z_icmp_lt (pc := 35) (tgt := 41) h dX4_add_35 (by decide) ⟨by omega, by omega⟩ ⟨by decide, by decide⟩ (fun hc35 => ?_) (fun hc35 => ?_)
      ·
        refine z_aload_n (pc := 41) h dX4_add_41 rfl ?_
        refine z_getR (a := k + 1) (pc := 42) h dX4_add_42 clX4 lkX4_9 (by decide) hk.1 rfl ?_
        refine z_aload_n (pc := 45) h dX4_add_45 rfl ?_
        refine z_getI (pc := 46) h dX4_add_46 clX4 lkX4_22 (by decide) hk.1 rfl ?_
        refine z_iload_n (pc := 49) h dX4_add_49 rfl ?_
        refine z_iast (pc := 50) h dX4_add_50 hk.2.1 (by decide) (by omega) (by omega) ?_
        refine z_nmS (fun S1 h_S1 => ?_)
        have e1 : S1 k 2 = S k 2 := by rw [h_S1, up2_k _ _ (by omega)]
        refine z_aload_n (pc := 51) h dX4_add_51 rfl ?_
        refine z_getR (a := k + 2) (pc := 52) h dX4_add_52 clX4 lkX4_15 (by decide) hk.1 rfl ?_
        refine z_aload_n (pc := 55) h dX4_add_55 rfl ?_
        refine z_getI (pc := 56) h dX4_add_56 clX4 lkX4_22 (by decide) hk.1 rfl ?_
        refine z_iload_n (pc := 59) h dX4_add_59 rfl ?_
        refine z_iast (pc := 60) h dX4_add_60 hk.2.2 (by decide) (by omega) (by omega) ?_
        refine z_nmS (fun S2 h_S2 => ?_)
        have e2 : S2 k 2 = S k 2 := by rw [h_S2, up2_k _ _ (by omega), e1]
        refine z_aload_n (pc := 61) h dX4_add_61 rfl ?_
        refine z_dup (pc := 62) h dX4_add_62 rfl ?_
        refine z_getI (pc := 63) h dX4_add_63 clX4 lkX4_22 (by decide) hk.1 rfl ?_
        refine z_iconst (pc := 66) h dX4_add_66 ?_
        refine z_iadd (pc := 67) h dX4_add_67 ?_
        refine z_putI (pc := 68) h dX4_add_68 clX4 lkX4_22 (by decide) hk.1 rfl rfl rfl ?_
        refine z_nmS (fun S3 h_S3 => ?_)
        have e3 : S3 k 2 = S k 2 + 1 := by rw [h_S3, up2_s, e2]
        refine z_aload_n (pc := 71) h dX4_add_71 rfl ?_
        refine z_getI (pc := 72) h dX4_add_72 clX4 lkX4_22 (by decide) hk.1 rfl ?_
        refine z_iconst (pc := 75) h dX4_add_75 ?_
        refine z_isub (pc := 76) h dX4_add_76 ?_
        exact z_iret (pc := 77) h dX4_add_77 rfl (Or.inr (Or.inr ⟨by omega, by omega, ap_some (by omega), by rw [h_S3, e2, h_S2, e1, h_S1]⟩))
      ·
        refine z_bipush (pc := 38) h dX4_add_38 rfl ?_
        exact z_iret (pc := 40) h dX4_add_40 rfl (Or.inr (Or.inl ⟨by omega, by omega, rfl, rfl⟩))
    ·
      show zG x LX 16 [some (zr k), some (zi b), some (zi c)] [zi 0] S
      refine z_if_ne (pc := 16) (tgt := 22) h dX4_add_16 (by decide) ⟨by decide, by decide⟩ (fun hc16 => absurd hc16 (by decide)) (fun hc16 => ?_)
      refine z_bipush (pc := 19) h dX4_add_19 rfl ?_
      exact z_iret (pc := 21) h dX4_add_21 rfl (Or.inl ⟨by omega, rfl, rfl⟩)
  ·
    show zG x LX 7 [some (zr k), some (zi b), some (zi c)] [zi 0] S
    refine z_if_eq (pc := 7) (tgt := 19) h dX4_add_7 (by decide) ⟨by decide, by decide⟩ (fun hc7 => ?_) (fun hc7 => absurd hc7 (by decide))
    refine z_bipush (pc := 19) h dX4_add_19 rfl ?_
    exact z_iret (pc := 21) h dX4_add_21 rfl (Or.inl ⟨by omega, rfl, rfl⟩)

set_option maxRecDepth 100000 in
set_option maxHeartbeats 4000000 in
theorem m_X4_clear (k : Nat) (S : SS) (hk : isLook k) : zM LX yX4_clear cX4_clear 2 (some .int) 0 0 [zr k] S (fun r S' => r = some (zi (S k 2)) ∧ up2 S k 2 0 = S') := by
  refine zM_of (own := RX4) rfl (by decide +kernel) [some (zr k), none] (Nat.le_of_ble_eq_true rfl) rfl ?_
  intro x h
  refine z_aload_n (pc := 0) h dX4_clear_0 rfl ?_
  refine z_getI (pc := 1) h dX4_clear_1 clX4 lkX4_22 (by decide) hk.1 rfl ?_
  refine z_istore_n (pc := 4) (loc' := [some (zr k), some (zi (S k 2))]) h dX4_clear_4 rfl (Nat.le_of_ble_eq_true rfl) rfl rfl ?_
  refine z_aload_n (pc := 5) h dX4_clear_5 rfl ?_
  refine z_iconst (pc := 6) h dX4_clear_6 ?_
  refine z_putI (pc := 7) h dX4_clear_7 clX4 lkX4_22 (by decide) hk.1 rfl rfl rfl ?_
  refine z_iload_n (pc := 10) h dX4_clear_10 rfl ?_
  exact z_iret (pc := 11) h dX4_clear_11 rfl (⟨rfl, rfl⟩)

theorem rel_look {X A : SS} (h : cRel X A) {k : Nat} {l : Int} (hk : (k = 9 ∧ l = 0) ∨ (k = 12 ∧ l = 1)) : isLook k ∧ relL X A k l.toNat ∧ X k 2 = dA A l ∧ isS l := by
  rcases hk with ⟨rfl, rfl⟩ | ⟨rfl, rfl⟩
  · exact ⟨isLook9, h.2.2.2.1.1, h.2.2.2.1.1.1, by omega, by omega⟩
  · exact ⟨isLook12, h.2.2.2.1.2, h.2.2.2.1.2.1, by omega, by omega⟩
theorem cRel_dot {X A : SS} {k : Nat} {l b c : Int} (h : cRel X A) (hk : (k = 9 ∧ l = 0) ∨ (k = 12 ∧ l = 1)) (hd : okD b c) (hn : dA A l < 6) : cRel (up2 (up2 (up2 X (k + 1) (X k 2).toNat b) (k + 2) (X k 2).toNat c) k 2 (X k 2 + 1)) (st_dot A l b c) := by
  obtain ⟨-, hr, he, hs⟩ := rel_look h hk
  have hb := dA_b h.1 hs
  have hm := st_dot_MI h.1 l b c
  unfold st_dot at hm ⊢
  rw [if_pos ⟨hs, hd⟩, if_neg (by omega)] at hm ⊢
  have hi : (6 * l + dA A l).toNat = 6 * l.toNat + (dA A l).toNat := by omega
  refine cRel_look (k := k) (l := l.toNat) h (by omega) ?_ hm ?_ ?_ ?_ ?_
  · intro x y h1 h2 h3
    rw [up2_k _ _ h1, up2_k _ _ h3, up2_k _ _ h2]
  · intro x h1 h2 h3
    rw [up2_row _ _ h1, up2_row _ _ h3, up2_row _ _ h2]
  · intro j hj
    rw [up2_j _ _ hj, up2_k _ _ (by omega), up2_k _ _ (by omega)]
  · intro j hj
    constructor
    · rw [up2_k _ _ (by omega), up2_k _ _ (by omega), up2_j _ _ (by omega)]
    · rw [up2_k _ _ (by omega), up2_j _ _ (by omega), up2_k _ _ (by omega)]
  · refine ⟨by rw [up2_s, up2_s, he], fun j hj => ?_⟩
    have h9 := hr.2 j hj
    rw [he]
    constructor
    · rw [show up2 (up2 (up2 X (k + 1) (dA A l).toNat b) (k + 2) (dA A l).toNat c) k 2 (dA A l + 1) (k + 1) j = up2 X (k + 1) (dA A l).toNat b (k + 1) j by rw [up2_k _ _ (by omega), up2_k _ _ (by omega)], show up2 (up2 (up2 A 7 (6 * l + dA A l).toNat b) 8 (6 * l + dA A l).toNat c) 6 l.toNat (dA A l + 1) 7 (6 * l.toNat + j) = up2 A 7 (6 * l + dA A l).toNat b 7 (6 * l.toNat + j) by rw [up2_k _ _ (by omega), up2_k _ _ (by omega)], up2_e, up2_e, hi]
      by_cases hj2 : j = (dA A l).toNat
      · rw [if_pos ⟨rfl, hj2⟩, if_pos ⟨rfl, by omega⟩]
      · rw [if_neg (fun q => hj2 q.2), if_neg (fun q => hj2 (by omega))]
        exact h9.1
    · rw [show up2 (up2 (up2 X (k + 1) (dA A l).toNat b) (k + 2) (dA A l).toNat c) k 2 (dA A l + 1) (k + 2) j = up2 (up2 X (k + 1) (dA A l).toNat b) (k + 2) (dA A l).toNat c (k + 2) j by rw [up2_k _ _ (by omega)], show up2 (up2 (up2 A 7 (6 * l + dA A l).toNat b) 8 (6 * l + dA A l).toNat c) 6 l.toNat (dA A l + 1) 8 (6 * l.toNat + j) = up2 (up2 A 7 (6 * l + dA A l).toNat b) 8 (6 * l + dA A l).toNat c 8 (6 * l.toNat + j) by rw [up2_k _ _ (by omega)], up2_e (up2 X (k + 1) (dA A l).toNat b) (k + 2), up2_e (up2 A 7 (6 * l + dA A l).toNat b) 8, hi]
      by_cases hj2 : j = (dA A l).toNat
      · rw [if_pos ⟨rfl, hj2⟩, if_pos ⟨rfl, by omega⟩]
      · rw [if_neg (fun q => hj2 q.2), if_neg (fun q => hj2 (by omega)), up2_k _ _ (by omega), up2_k _ _ (by omega)]
        exact h9.2

theorem m_X4_addR (k : Nat) (l b c : Int) (A S : SS) (hk : (k = 9 ∧ l = 0) ∨ (k = 12 ∧ l = 1)) (hR : cRel S A) (hb : r32 b) (hc : r32 c) : zM LX yX4_add cX4_add 3 (some .int) 1 22 [zr k, zi b, zi c] S (fun r S' => r = some (zi (sp_dot A l b c)) ∧ cRel S' (st_dot A l b c)) := by
  obtain ⟨h1, h2, h3, h4⟩ := rel_look hR hk
  have h5 := dA_b hR.1 h4
  refine zM_post (m_X4_add k b c S h1 (by omega) hb hc) ?_
  rintro r S' (⟨q1, rfl, rfl⟩ | ⟨q1, q2, rfl, rfl⟩ | ⟨q1, q2, rfl, rfl⟩)
  · exact ⟨ap_some (by unfold sp_dot; rw [if_neg (fun q => q1 q.2)]), by unfold st_dot; rw [if_neg (fun q => q1 q.2)]; exact hR⟩
  · exact ⟨ap_some (by unfold sp_dot; rw [if_pos ⟨h4, q1⟩, if_pos (by omega)]), by unfold st_dot; rw [if_pos ⟨h4, q1⟩, if_pos (by omega)]; exact hR⟩
  · exact ⟨ap_some (by unfold sp_dot; rw [if_pos ⟨h4, q1⟩, if_neg (by omega), h3]), cRel_dot hR hk q1 (by omega)⟩

set_option maxRecDepth 100000 in
set_option maxHeartbeats 4000000 in
theorem m_X10_dot (a b c : Int) (A S : SS) (ha : r32 a) (hb : r32 b) (hc : r32 c) (hR : cRel S A) : zM LX yX10_dot cX10_dot 5 (some .int) 2 44 [zr 0, zi a, zi b, zi c] S (fun r S' => r = some (zi (sp_dot A a b c)) ∧ cRel S' (st_dot A a b c)) := by
  refine zM_of (own := RX10) rfl (by decide +kernel) [some (zr 0), some (zi a), some (zi b), some (zi c), none] (Nat.le_of_ble_eq_true rfl) rfl ?_
  intro x h
  refine z_aload_n (pc := 0) h dX10_dot_0 rfl ?_
  refine z_iload_n (pc := 1) h dX10_dot_1 rfl ?_
  refine z_callV (pc := 2) (rest := ([] : List zV)) h (m_X10_lookAt a S ⟨by omega, by omega⟩) dX10_dot_2 mcX10_lookAt miX10_lookAt mlX10_161 rfl rfl ⟨by decide, by decide⟩ clX10 rfl rfl rfl (Nat.le_of_ble_eq_true rfl) ?_
  rintro _ _ ⟨rfl, ⟨hr2, rfl⟩ | ⟨hr2, rfl⟩ | ⟨hr2, rfl⟩⟩
  ·
    show zG x LX 5 [some (zr 0), some (zi a), some (zi b), some (zi c), none] [zr 9] S
    refine z_astore (pc := 5) (loc' := [some (zr 0), some (zi a), some (zi b), some (zi c), some (zr 9)]) h dX10_dot_5 (Nat.le_of_ble_eq_true rfl) rfl rfl ?_
    refine z_aload (pc := 7) h dX10_dot_7 rfl ?_
    refine z_ifnonnull_r (pc := 9) (tgt := 17) h dX10_dot_9 (by decide) ?_
    refine z_aload (pc := 17) h dX10_dot_17 rfl ?_
    refine z_iload_n (pc := 19) h dX10_dot_19 rfl ?_
    refine z_iload_n (pc := 20) h dX10_dot_20 rfl ?_
    refine z_callV (pc := 21) (rest := ([] : List zV)) h (m_X4_addR 9 a b c A S (by first | assumption | omega) (by first | assumption | omega) ⟨by omega, by omega⟩ ⟨by omega, by omega⟩) dX10_dot_21 mcX4_add miX4_add mlX10_165 rfl rfl ⟨by decide, by decide⟩ clX4 rfl rfl rfl (Nat.le_of_ble_eq_true rfl) ?_
    rintro _ S21 ⟨rfl, hr21⟩
    show zG x LX 24 [some (zr 0), some (zi a), some (zi b), some (zi c), some (zr 9)] [zi (sp_dot A a b c)] S21
    refine z_iret (pc := 24) h dX10_dot_24 rfl ?_
    first
      | exact ⟨rfl, hr21⟩
      | exact ⟨ap_some (by unfold sp_dot; rw [if_neg (by omega)]), by unfold st_dot; rw [if_neg (by omega)]; exact hR⟩
  ·
    show zG x LX 5 [some (zr 0), some (zi a), some (zi b), some (zi c), none] [zr 12] S
    refine z_astore (pc := 5) (loc' := [some (zr 0), some (zi a), some (zi b), some (zi c), some (zr 12)]) h dX10_dot_5 (Nat.le_of_ble_eq_true rfl) rfl rfl ?_
    refine z_aload (pc := 7) h dX10_dot_7 rfl ?_
    refine z_ifnonnull_r (pc := 9) (tgt := 17) h dX10_dot_9 (by decide) ?_
    refine z_aload (pc := 17) h dX10_dot_17 rfl ?_
    refine z_iload_n (pc := 19) h dX10_dot_19 rfl ?_
    refine z_iload_n (pc := 20) h dX10_dot_20 rfl ?_
    refine z_callV (pc := 21) (rest := ([] : List zV)) h (m_X4_addR 12 a b c A S (by first | assumption | omega) (by first | assumption | omega) ⟨by omega, by omega⟩ ⟨by omega, by omega⟩) dX10_dot_21 mcX4_add miX4_add mlX10_165 rfl rfl ⟨by decide, by decide⟩ clX4 rfl rfl rfl (Nat.le_of_ble_eq_true rfl) ?_
    rintro _ S21 ⟨rfl, hr21⟩
    show zG x LX 24 [some (zr 0), some (zi a), some (zi b), some (zi c), some (zr 12)] [zi (sp_dot A a b c)] S21
    refine z_iret (pc := 24) h dX10_dot_24 rfl ?_
    first
      | exact ⟨rfl, hr21⟩
      | exact ⟨ap_some (by unfold sp_dot; rw [if_neg (by omega)]), by unfold st_dot; rw [if_neg (by omega)]; exact hR⟩
  ·
    show zG x LX 5 [some (zr 0), some (zi a), some (zi b), some (zi c), none] [zn] S
    refine z_nstore (pc := 5) (loc' := [some (zr 0), some (zi a), some (zi b), some (zi c), some (zn)]) h dX10_dot_5 (Nat.le_of_ble_eq_true rfl) rfl rfl ?_
    refine z_nload (pc := 7) h dX10_dot_7 rfl ?_
    refine z_ifnonnull_n (pc := 9) h dX10_dot_9 ?_
    refine z_bipush (pc := 12) h dX10_dot_12 rfl ?_
    refine z_goto (pc := 14) (tgt := 24) h dX10_dot_14 (by decide) ?_
    refine z_iret (pc := 24) h dX10_dot_24 rfl ?_
    first
      | exact ⟨rfl, hr21⟩
      | exact ⟨ap_some (by unfold sp_dot; rw [if_neg (by omega)]), by unfold st_dot; rw [if_neg (by omega)]; exact hR⟩

theorem cRel_blink {X A : SS} {k : Nat} {l : Int} (h : cRel X A) (hk : (k = 9 ∧ l = 0) ∨ (k = 12 ∧ l = 1)) : cRel (up2 X k 2 0) (up2 A 6 l.toNat 0) := by
  obtain ⟨-, hr, he, hs⟩ := rel_look h hk
  refine cRel_look (k := k) (l := l.toNat) h (by omega) ?_ (h.1.u_d (by omega)) ?_ ?_ ?_ ?_
  · intro x y h1 h2 h3
    rw [up2_k _ _ h1]
  · intro x h1 h2 h3
    rw [up2_row _ _ h1]
  · intro j hj
    rw [up2_j _ _ hj]
  · intro j hj
    exact ⟨by rw [up2_k _ _ (by omega)], by rw [up2_k _ _ (by omega)]⟩
  · refine ⟨by rw [up2_s, up2_s], fun j hj => ?_⟩
    rw [up2_k _ _ (by omega), up2_k _ _ (by omega), up2_k _ _ (by omega), up2_k _ _ (by omega)]
    exact hr.2 j hj

set_option maxRecDepth 100000 in
set_option maxHeartbeats 4000000 in
theorem m_X10_blink (a : Int) (A S : SS) (ha : r32 a) (hR : cRel S A) : zM LX yX10_blink cX10_blink 3 (some .int) 1 21 [zr 0, zi a] S (fun r S' => r = some (zi (sp_blink A a)) ∧ cRel S' (st_blink A a)) := by
  refine zM_of (own := RX10) rfl (by decide +kernel) [some (zr 0), some (zi a), none] (Nat.le_of_ble_eq_true rfl) rfl ?_
  intro x h
  have k4 : S 9 2 = A 6 0 := hR.2.2.2.1.1.1
  have k5 : S 12 2 = A 6 1 := hR.2.2.2.1.2.1
  refine z_aload_n (pc := 0) h dX10_blink_0 rfl ?_
  refine z_iload_n (pc := 1) h dX10_blink_1 rfl ?_
  refine z_callV (pc := 2) (rest := ([] : List zV)) h (m_X10_lookAt a S ⟨by omega, by omega⟩) dX10_blink_2 mcX10_lookAt miX10_lookAt mlX10_161 rfl rfl ⟨by decide, by decide⟩ clX10 rfl rfl rfl (Nat.le_of_ble_eq_true rfl) ?_
  rintro _ _ ⟨rfl, ⟨hr2, rfl⟩ | ⟨hr2, rfl⟩ | ⟨hr2, rfl⟩⟩
  ·
    show zG x LX 5 [some (zr 0), some (zi a), none] [zr 9] S
    refine z_astore_n (pc := 5) (loc' := [some (zr 0), some (zi a), some (zr 9)]) h dX10_blink_5 rfl (Nat.le_of_ble_eq_true rfl) rfl rfl ?_
    refine z_aload_n (pc := 6) h dX10_blink_6 rfl ?_
    refine z_ifnonnull_r (pc := 7) (tgt := 15) h dX10_blink_7 (by decide) ?_
    refine z_aload_n (pc := 15) h dX10_blink_15 rfl ?_
    refine z_callV (pc := 16) (rest := ([] : List zV)) h (m_X4_clear 9 S (by first | exact isLook9 | exact isLook12)) dX10_blink_16 mcX4_clear miX4_clear mlX10_185 rfl rfl ⟨by decide, by decide⟩ clX4 rfl rfl rfl (Nat.le_of_ble_eq_true rfl) ?_
    rintro _ _ ⟨rfl, rfl⟩
    show zG x LX 19 [some (zr 0), some (zi a), some (zr 9)] [zi (S 9 2)] (up2 S 9 2 0)
    refine z_iret (pc := 19) h dX10_blink_19 rfl ?_
    first
      | exact ⟨ap_some (by unfold sp_blink dA; rw [if_pos (by omega), hr2]; exact k4), by unfold st_blink; rw [if_pos (by omega)]; exact cRel_blink hR (by omega)⟩
      | exact ⟨ap_some (by unfold sp_blink dA; rw [if_pos (by omega), hr2]; exact k5), by unfold st_blink; rw [if_pos (by omega)]; exact cRel_blink hR (by omega)⟩
      | exact ⟨ap_some (by unfold sp_blink; rw [if_neg (by omega)]), by unfold st_blink; rw [if_neg (by omega)]; exact hR⟩
  ·
    show zG x LX 5 [some (zr 0), some (zi a), none] [zr 12] S
    refine z_astore_n (pc := 5) (loc' := [some (zr 0), some (zi a), some (zr 12)]) h dX10_blink_5 rfl (Nat.le_of_ble_eq_true rfl) rfl rfl ?_
    refine z_aload_n (pc := 6) h dX10_blink_6 rfl ?_
    refine z_ifnonnull_r (pc := 7) (tgt := 15) h dX10_blink_7 (by decide) ?_
    refine z_aload_n (pc := 15) h dX10_blink_15 rfl ?_
    refine z_callV (pc := 16) (rest := ([] : List zV)) h (m_X4_clear 12 S (by first | exact isLook9 | exact isLook12)) dX10_blink_16 mcX4_clear miX4_clear mlX10_185 rfl rfl ⟨by decide, by decide⟩ clX4 rfl rfl rfl (Nat.le_of_ble_eq_true rfl) ?_
    rintro _ _ ⟨rfl, rfl⟩
    show zG x LX 19 [some (zr 0), some (zi a), some (zr 12)] [zi (S 12 2)] (up2 S 12 2 0)
    refine z_iret (pc := 19) h dX10_blink_19 rfl ?_
    first
      | exact ⟨ap_some (by unfold sp_blink dA; rw [if_pos (by omega), hr2]; exact k4), by unfold st_blink; rw [if_pos (by omega)]; exact cRel_blink hR (by omega)⟩
      | exact ⟨ap_some (by unfold sp_blink dA; rw [if_pos (by omega), hr2]; exact k5), by unfold st_blink; rw [if_pos (by omega)]; exact cRel_blink hR (by omega)⟩
      | exact ⟨ap_some (by unfold sp_blink; rw [if_neg (by omega)]), by unfold st_blink; rw [if_neg (by omega)]; exact hR⟩
  ·
    show zG x LX 5 [some (zr 0), some (zi a), none] [zn] S
    refine z_nstore_n (pc := 5) (loc' := [some (zr 0), some (zi a), some (zn)]) h dX10_blink_5 rfl (Nat.le_of_ble_eq_true rfl) rfl rfl ?_
    refine z_nload_n (pc := 6) h dX10_blink_6 rfl ?_
    refine z_ifnonnull_n (pc := 7) h dX10_blink_7 ?_
    refine z_bipush (pc := 10) h dX10_blink_10 rfl ?_
    refine z_goto (pc := 12) (tgt := 19) h dX10_blink_12 (by decide) ?_
    refine z_iret (pc := 19) h dX10_blink_19 rfl ?_
    first
      | exact ⟨ap_some (by unfold sp_blink dA; rw [if_pos (by omega), hr2]; exact k4), by unfold st_blink; rw [if_pos (by omega)]; exact cRel_blink hR (by omega)⟩
      | exact ⟨ap_some (by unfold sp_blink dA; rw [if_pos (by omega), hr2]; exact k5), by unfold st_blink; rw [if_pos (by omega)]; exact cRel_blink hR (by omega)⟩
      | exact ⟨ap_some (by unfold sp_blink; rw [if_neg (by omega)]), by unfold st_blink; rw [if_neg (by omega)]; exact hR⟩

set_option maxRecDepth 100000 in
set_option maxHeartbeats 4000000 in
theorem m_X6_isForm (f : Int) (S : SS) (hf : r32 f) : zM LX yX6_isForm cX6_isForm 1 (some .boolean) 1 22 [zi f] S (fun r S' => S = S' ∧ ((0 ≤ f ∧ f ≤ 2) ∧ r = some (zi 1) ∨ ¬ (0 ≤ f ∧ f ≤ 2) ∧ r = some (zi 0))) := by
  refine zM_of (own := RX6) rfl (by decide +kernel) [some (zi f)] (Nat.le_of_ble_eq_true rfl) rfl ?_
  intro x h
  refine z_iload_n (pc := 0) h dX6_isForm_0 rfl ?_
  refine z_iconst (pc := 1) h dX6_isForm_1 ?_
  refine z_iconst (pc := 2) h dX6_isForm_2 ?_
  refine z_callS (pc := 3) (rest := ([] : List zV)) h (m_X10_within f 0 2 S ⟨by omega, by omega⟩ ⟨by decide, by decide⟩ ⟨by decide, by decide⟩) dX6_isForm_3 mcX10_within msX10_within mlX6_19 rfl rfl ⟨by decide, by decide⟩ rfl (Nat.le_of_ble_eq_true rfl) ?_
  rintro _ _ ⟨rfl, ⟨hr3, rfl⟩ | ⟨hr3, rfl⟩⟩
  ·
    show zG x LX 6 [some (zi f)] [zi 1] S
    exact z_zret (pc := 6) h dX6_isForm_6 rfl (by decide) ⟨rfl, Or.inl ⟨by omega, rfl⟩⟩
  ·
    show zG x LX 6 [some (zi f)] [zi 0] S
    exact z_zret (pc := 6) h dX6_isForm_6 rfl (by decide) ⟨rfl, Or.inr ⟨by omega, rfl⟩⟩

set_option maxRecDepth 100000 in
set_option maxHeartbeats 4000000 in
theorem m_X6_renew (k : Nat) (f n : Int) (S : SS) (hk : isSheet k) (hf : 0 ≤ f ∧ f ≤ 2) (hn : 0 ≤ n ∧ n ≤ 60) : zM LX yX6_renew cX6_renew 3 none 1 23 [zr k, zi f, zi n] S (fun r S' => r = none ∧ S' k 1 = 0 ∧ S' k 2 = f ∧ S' k 3 = n ∧ (∀ j, j < 60 → S' (k + 1) j = 0) ∧ ∀ a b, a ≠ k → a ≠ k + 1 → S' a b = S a b) := by
  refine zM_of (own := RX6) rfl (by decide +kernel) [some (zr k), some (zi f), some (zi n)] (Nat.le_of_ble_eq_true rfl) rfl ?_
  intro x h
  refine z_aload_n (pc := 0) h dX6_renew_0 rfl ?_
  refine z_iconst (pc := 1) h dX6_renew_1 ?_
  refine z_putZ (pc := 2) h dX6_renew_2 clX6 lkX6_15 (by decide) hk.1 rfl rfl rfl (by decide) ?_
  refine z_aload_n (pc := 5) h dX6_renew_5 rfl ?_
  refine z_iload_n (pc := 6) h dX6_renew_6 rfl ?_
  refine z_putI (pc := 7) h dX6_renew_7 clX6 lkX6_23 (by decide) hk.1 rfl rfl rfl ?_
  refine z_aload_n (pc := 10) h dX6_renew_10 rfl ?_
  refine z_iload_n (pc := 11) h dX6_renew_11 rfl ?_
  refine z_bipush (pc := 12) h dX6_renew_12 rfl ?_
  refine z_callS (pc := 14) (rest := [zr k]) h (m_J9_min_7cf53 n 60 (up2 (up2 S k 1 0) k 2 f) ⟨by omega, by omega⟩ ⟨by decide, by decide⟩) dX6_renew_14 mcJ9_min_7cf53 msJ9_min_7cf53 mlX6_27 rfl rfl ⟨by decide, by decide⟩ rfl (Nat.le_of_ble_eq_true rfl) ?_
  rintro _ _ ⟨rfl, rfl⟩
  show zG x LX 17 [some (zr k), some (zi f), some (zi n)] [zi (min n 60), zr k] (up2 (up2 S k 1 0) k 2 f)
  refine z_cv (b := n) (by omega) ?_
  refine z_putI (pc := 17) h dX6_renew_17 clX6 lkX6_33 (by decide) hk.1 rfl rfl rfl ?_
  refine z_aload_n (pc := 20) h dX6_renew_20 rfl ?_
  refine z_getR (a := k + 1) (pc := 21) h dX6_renew_21 clX6 lkX6_9 (by decide) hk.1 rfl ?_
  refine z_iconst (pc := 24) h dX6_renew_24 ?_
  refine z_callS (pc := 25) (rest := ([] : List zV)) h (m_J7_fill_53178 (k + 1) 0 (up2 (up2 (up2 S k 1 0) k 2 f) k 3 n) hk.2) dX6_renew_25 mcJ7_fill_53178 msJ7_fill_53178 mlX6_36 rfl rfl ⟨by decide, by decide⟩ rfl (Nat.le_of_ble_eq_true rfl) ?_
  rintro _ S25 ⟨rfl, hr25a, hr25b⟩
  show zG x LX 28 [some (zr k), some (zi f), some (zi n)] ([] : List zV) S25
  exact z_vret (pc := 28) h dX6_renew_28 rfl (⟨rfl, by rw [hr25b _ _ (by omega), up2_j _ _ (by omega), up2_j _ _ (by omega), up2_s], by rw [hr25b _ _ (by omega), up2_j _ _ (by omega), up2_s], by rw [hr25b _ _ (by omega), up2_s], hr25a, fun a b h4 h5 => by rw [hr25b _ _ (by omega), up2_k _ _ h4, up2_k _ _ h4, up2_k _ _ h4]⟩)

set_option maxRecDepth 100000 in
set_option maxHeartbeats 4000000 in
theorem m_X6_findingAt (k : Nat) (f i : Int) (S : SS) (hk : isSheet k) (h1 : S k 1 = 0 ∨ S k 1 = 1) (h2 : 0 ≤ S k 2 ∧ S k 2 ≤ 2) (h3 : 0 ≤ S k 3 ∧ S k 3 ≤ 60) (hf : r32 f) (hi : r32 i) : zM LX yX6_findingAt cX6_findingAt 3 (some .int) 1 22 [zr k, zi f, zi i] S (fun r S' => S = S' ∧ r = some (zi (lackF (1 - S k 1) (S k 2) (S k 3) f i))) := by
  refine zM_of (own := RX6) rfl (by decide +kernel) [some (zr k), some (zi f), some (zi i)] (Nat.le_of_ble_eq_true rfl) rfl ?_
  intro x h
  refine z_aload_n (pc := 0) h dX6_findingAt_0 rfl ?_
  refine z_getI (pc := 1) h dX6_findingAt_1 clX6 lkX6_15 (by decide) hk.1 rfl ?_
  refine z_if_eq (pc := 4) (tgt := 9) h dX6_findingAt_4 (by decide) ⟨by omega, by omega⟩ (fun hc4 => ?_) (fun hc4 => ?_)
  ·
    refine z_aload_n (pc := 9) h dX6_findingAt_9 rfl ?_
    refine z_getI (pc := 10) h dX6_findingAt_10 clX6 lkX6_23 (by decide) hk.1 rfl ?_
    refine z_iload_n (pc := 13) h dX6_findingAt_13 rfl ?_
    refine z_icmp_eq (pc := 14) (tgt := 19) h dX6_findingAt_14 (by decide) ⟨by omega, by omega⟩ ⟨by omega, by omega⟩ (fun hc14 => ?_) (fun hc14 => ?_)
    ·
      refine z_iload_n (pc := 19) h dX6_findingAt_19 rfl ?_
      refine z_iconst (pc := 20) h dX6_findingAt_20 ?_
      refine z_aload_n (pc := 21) h dX6_findingAt_21 rfl ?_
      refine z_getI (pc := 22) h dX6_findingAt_22 clX6 lkX6_33 (by decide) hk.1 rfl ?_
      refine z_iconst (pc := 25) h dX6_findingAt_25 ?_
      refine z_isub (pc := 26) h dX6_findingAt_26 ?_
      refine z_callS (pc := 27) (rest := ([] : List zV)) h (m_X10_within i 0 ((S k 3) - 1) S ⟨by omega, by omega⟩ ⟨by decide, by decide⟩ ⟨by omega, by omega⟩) dX6_findingAt_27 mcX10_within msX10_within mlX6_19 rfl rfl ⟨by decide, by decide⟩ rfl (Nat.le_of_ble_eq_true rfl) ?_
      rintro _ _ ⟨rfl, ⟨hr27, rfl⟩ | ⟨hr27, rfl⟩⟩
      ·
        show zG x LX 30 [some (zr k), some (zi f), some (zi i)] [zi 1] S
        refine z_if_eq (pc := 30) (tgt := 37) h dX6_findingAt_30 (by decide) ⟨by decide, by decide⟩ (fun hc30 => absurd hc30 (by decide)) (fun hc30 => ?_)
        refine z_iconst (pc := 33) h dX6_findingAt_33 ?_
        refine z_goto (pc := 34) (tgt := 38) h dX6_findingAt_34 (by decide) ?_
        exact z_iret (pc := 38) h dX6_findingAt_38 rfl ⟨rfl, congrArg (fun z => some (zi z)) (by unfold lackF; first | (rw [if_pos (by omega)]) | (rw [if_neg (by omega), if_pos (by omega)]) | (rw [if_neg (by omega), if_neg (by omega), if_pos (by omega)]) | (rw [if_neg (by omega), if_neg (by omega), if_neg (by omega)]))⟩
      ·
        show zG x LX 30 [some (zr k), some (zi f), some (zi i)] [zi 0] S
        refine z_if_eq (pc := 30) (tgt := 37) h dX6_findingAt_30 (by decide) ⟨by decide, by decide⟩ (fun hc30 => ?_) (fun hc30 => absurd hc30 (by decide))
        refine z_iconst (pc := 37) h dX6_findingAt_37 ?_
        exact z_iret (pc := 38) h dX6_findingAt_38 rfl ⟨rfl, congrArg (fun z => some (zi z)) (by unfold lackF; first | (rw [if_pos (by omega)]) | (rw [if_neg (by omega), if_pos (by omega)]) | (rw [if_neg (by omega), if_neg (by omega), if_pos (by omega)]) | (rw [if_neg (by omega), if_neg (by omega), if_neg (by omega)]))⟩
    ·
      refine z_iconst (pc := 17) h dX6_findingAt_17 ?_
      exact z_iret (pc := 18) h dX6_findingAt_18 rfl ⟨rfl, congrArg (fun z => some (zi z)) (by unfold lackF; first | (rw [if_pos (by omega)]) | (rw [if_neg (by omega), if_pos (by omega)]) | (rw [if_neg (by omega), if_neg (by omega), if_pos (by omega)]) | (rw [if_neg (by omega), if_neg (by omega), if_neg (by omega)]))⟩
  ·
    refine z_iconst (pc := 7) h dX6_findingAt_7 ?_
    exact z_iret (pc := 8) h dX6_findingAt_8 rfl ⟨rfl, congrArg (fun z => some (zi z)) (by unfold lackF; first | (rw [if_pos (by omega)]) | (rw [if_neg (by omega), if_pos (by omega)]) | (rw [if_neg (by omega), if_neg (by omega), if_pos (by omega)]) | (rw [if_neg (by omega), if_neg (by omega), if_neg (by omega)]))⟩

set_option maxRecDepth 100000 in
set_option maxHeartbeats 4000000 in
theorem m_X6_holds (k : Nat) (i n : Int) (S : SS) (hk : isSheet k) (h3 : 0 ≤ S k 3 ∧ S k 3 ≤ 60) (hi : r32 i) (hn : r32 n) : zM LX yX6_holds cX6_holds 3 (some .boolean) 1 22 [zr k, zi i, zi n] S (fun r S' => S = S' ∧ ((0 ≤ n ∧ 0 ≤ i ∧ i + n ≤ S k 3) ∧ r = some (zi 1) ∨ ¬ (0 ≤ n ∧ 0 ≤ i ∧ i + n ≤ S k 3) ∧ r = some (zi 0))) := by
  refine zM_of (own := RX6) rfl (by decide +kernel) [some (zr k), some (zi i), some (zi n)] (Nat.le_of_ble_eq_true rfl) rfl ?_
  intro x h
  refine z_iload_n (pc := 0) h dX6_holds_0 rfl ?_
  refine z_if_lt (pc := 1) (tgt := 30) h dX6_holds_1 (by decide) ⟨by omega, by omega⟩ (fun hc1 => ?_) (fun hc1 => ?_)
  ·
    refine z_iconst (pc := 30) h dX6_holds_30 ?_
    exact z_zret (pc := 31) h dX6_holds_31 rfl (by decide) ⟨rfl, Or.inr ⟨by omega, rfl⟩⟩
  ·
    refine z_iload_n (pc := 4) h dX6_holds_4 rfl ?_
    refine z_aload_n (pc := 5) h dX6_holds_5 rfl ?_
    refine z_getI (pc := 6) h dX6_holds_6 clX6 lkX6_33 (by decide) hk.1 rfl ?_
    refine z_icmp_gt (pc := 9) (tgt := 30) h dX6_holds_9 (by decide) ⟨by omega, by omega⟩ ⟨by omega, by omega⟩ (fun hc9 => ?_) (fun hc9 => ?_)
    ·
      refine z_iconst (pc := 30) h dX6_holds_30 ?_
      exact z_zret (pc := 31) h dX6_holds_31 rfl (by decide) ⟨rfl, Or.inr ⟨by omega, rfl⟩⟩
    ·
      refine z_iload_n (pc := 12) h dX6_holds_12 rfl ?_
      refine z_iconst (pc := 13) h dX6_holds_13 ?_
      refine z_aload_n (pc := 14) h dX6_holds_14 rfl ?_
      refine z_getI (pc := 15) h dX6_holds_15 clX6 lkX6_33 (by decide) hk.1 rfl ?_
      refine z_iload_n (pc := 18) h dX6_holds_18 rfl ?_
      refine z_isub (pc := 19) h dX6_holds_19 ?_
      refine z_callS (pc := 20) (rest := ([] : List zV)) h (m_X10_within i 0 ((S k 3) - n) S ⟨by omega, by omega⟩ ⟨by decide, by decide⟩ ⟨by omega, by omega⟩) dX6_holds_20 mcX10_within msX10_within mlX6_19 rfl rfl ⟨by decide, by decide⟩ rfl (Nat.le_of_ble_eq_true rfl) ?_
      rintro _ _ ⟨rfl, ⟨hr20, rfl⟩ | ⟨hr20, rfl⟩⟩
      ·
        show zG x LX 23 [some (zr k), some (zi i), some (zi n)] [zi 1] S
        refine z_if_eq (pc := 23) (tgt := 30) h dX6_holds_23 (by decide) ⟨by decide, by decide⟩ (fun hc23 => absurd hc23 (by decide)) (fun hc23 => ?_)
        refine z_iconst (pc := 26) h dX6_holds_26 ?_
        refine z_goto (pc := 27) (tgt := 31) h dX6_holds_27 (by decide) ?_
        exact z_zret (pc := 31) h dX6_holds_31 rfl (by decide) ⟨rfl, Or.inl ⟨by omega, rfl⟩⟩
      ·
        show zG x LX 23 [some (zr k), some (zi i), some (zi n)] [zi 0] S
        refine z_if_eq (pc := 23) (tgt := 30) h dX6_holds_23 (by decide) ⟨by decide, by decide⟩ (fun hc23 => ?_) (fun hc23 => absurd hc23 (by decide))
        refine z_iconst (pc := 30) h dX6_holds_30 ?_
        exact z_zret (pc := 31) h dX6_holds_31 rfl (by decide) ⟨rfl, Or.inr ⟨by omega, rfl⟩⟩

def itF (t : Nat → Int) (n i : Int) : Int := if 0 ≤ i ∧ i < n then t i.toNat else 0
set_option maxRecDepth 100000 in
set_option maxHeartbeats 4000000 in
theorem m_X6_itemAt (k : Nat) (i : Int) (S : SS) (hk : isSheet k) (h3 : 0 ≤ S k 3 ∧ S k 3 ≤ 60) (hi : r32 i) : zM LX yX6_itemAt cX6_itemAt 2 (some .int) 1 22 [zr k, zi i] S (fun r S' => S = S' ∧ r = some (zi (itF (S (k + 1)) (S k 3) i))) := by
  refine zM_of (own := RX6) rfl (by decide +kernel) [some (zr k), some (zi i)] (Nat.le_of_ble_eq_true rfl) rfl ?_
  intro x h
  refine z_iload_n (pc := 0) h dX6_itemAt_0 rfl ?_
  refine z_iconst (pc := 1) h dX6_itemAt_1 ?_
  refine z_aload_n (pc := 2) h dX6_itemAt_2 rfl ?_
  refine z_getI (pc := 3) h dX6_itemAt_3 clX6 lkX6_33 (by decide) hk.1 rfl ?_
  refine z_iconst (pc := 6) h dX6_itemAt_6 ?_
  refine z_isub (pc := 7) h dX6_itemAt_7 ?_
  refine z_callS (pc := 8) (rest := ([] : List zV)) h (m_X10_within i 0 ((S k 3) - 1) S ⟨by omega, by omega⟩ ⟨by decide, by decide⟩ ⟨by omega, by omega⟩) dX6_itemAt_8 mcX10_within msX10_within mlX6_19 rfl rfl ⟨by decide, by decide⟩ rfl (Nat.le_of_ble_eq_true rfl) ?_
  rintro _ _ ⟨rfl, ⟨hr8, rfl⟩ | ⟨hr8, rfl⟩⟩
  ·
    show zG x LX 11 [some (zr k), some (zi i)] [zi 1] S
    refine z_if_eq (pc := 11) (tgt := 23) h dX6_itemAt_11 (by decide) ⟨by decide, by decide⟩ (fun hc11 => absurd hc11 (by decide)) (fun hc11 => ?_)
    refine z_aload_n (pc := 14) h dX6_itemAt_14 rfl ?_
    refine z_getR (a := k + 1) (pc := 15) h dX6_itemAt_15 clX6 lkX6_9 (by decide) hk.1 rfl ?_
    refine z_iload_n (pc := 18) h dX6_itemAt_18 rfl ?_
    refine z_iald (pc := 19) h dX6_itemAt_19 hk.2 (by decide) (by omega) (by omega) ?_
    refine z_goto (pc := 20) (tgt := 24) h dX6_itemAt_20 (by decide) ?_
    exact z_iret (pc := 24) h dX6_itemAt_24 rfl ⟨rfl, congrArg (fun z => some (zi z)) (by unfold itF; first | (rw [if_pos (by omega)]) | (rw [if_neg (by omega)]))⟩
  ·
    show zG x LX 11 [some (zr k), some (zi i)] [zi 0] S
    refine z_if_eq (pc := 11) (tgt := 23) h dX6_itemAt_11 (by decide) ⟨by decide, by decide⟩ (fun hc11 => ?_) (fun hc11 => absurd hc11 (by decide))
    refine z_iconst (pc := 23) h dX6_itemAt_23 ?_
    exact z_iret (pc := 24) h dX6_itemAt_24 rfl ⟨rfl, congrArg (fun z => some (zi z)) (by unfold itF; first | (rw [if_pos (by omega)]) | (rw [if_neg (by omega)]))⟩

set_option maxRecDepth 100000 in
set_option maxHeartbeats 4000000 in
theorem m_X6_store (k : Nat) (i v : Int) (S : SS) (hk : isSheet k) (h2 : 0 ≤ S k 2 ∧ S k 2 ≤ 2) (h3 : 0 ≤ S k 3 ∧ S k 3 ≤ 60) (hi : 0 ≤ i ∧ i < S k 3) : zM LX yX6_store cX6_store 3 none 1 22 [zr k, zi i, zi v] S (fun r S' => r = none ∧ up2 S (k + 1) i.toNat (keepV (S k 2) v) = S') := by
  refine zM_of (own := RX6) rfl (by decide +kernel) [some (zr k), some (zi i), some (zi v)] (Nat.le_of_ble_eq_true rfl) rfl ?_
  intro x h
  refine z_iload_n (pc := 0) h dX6_store_0 rfl ?_
  refine z_iconst (pc := 1) h dX6_store_1 ?_
  refine z_aload_n (pc := 2) h dX6_store_2 rfl ?_
  refine z_getI (pc := 3) h dX6_store_3 clX6 lkX6_33 (by decide) hk.1 rfl ?_
  refine z_iconst (pc := 6) h dX6_store_6 ?_
  refine z_isub (pc := 7) h dX6_store_7 ?_
  refine z_callS (pc := 8) (rest := ([] : List zV)) h (m_X10_within i 0 ((S k 3) - 1) S ⟨by omega, by omega⟩ ⟨by decide, by decide⟩ ⟨by omega, by omega⟩) dX6_store_8 mcX10_within msX10_within mlX6_19 rfl rfl ⟨by decide, by decide⟩ rfl (Nat.le_of_ble_eq_true rfl) ?_
  rintro _ _ ⟨rfl, ⟨hr8, rfl⟩ | ⟨hr8, rfl⟩⟩
  ·
    show zG x LX 11 [some (zr k), some (zi i), some (zi v)] [zi 1] S
    refine z_if_eq (pc := 11) (tgt := 46) h dX6_store_11 (by decide) ⟨by decide, by decide⟩ (fun hc11 => absurd hc11 (by decide)) (fun hc11 => ?_)
    refine z_aload_n (pc := 14) h dX6_store_14 rfl ?_
    refine z_getR (a := k + 1) (pc := 15) h dX6_store_15 clX6 lkX6_9 (by decide) hk.1 rfl ?_
    refine z_iload_n (pc := 18) h dX6_store_18 rfl ?_
    refine z_aload_n (pc := 19) h dX6_store_19 rfl ?_
    refine z_getI (pc := 20) h dX6_store_20 clX6 lkX6_23 (by decide) hk.1 rfl ?_
    refine z_if_ne (pc := 23) (tgt := 31) h dX6_store_23 (by decide) ⟨by omega, by omega⟩ (fun hc23 => ?_) (fun hc23 => ?_)
    ·
      refine z_aload_n (pc := 31) h dX6_store_31 rfl ?_
      refine z_getI (pc := 32) h dX6_store_32 clX6 lkX6_23 (by decide) hk.1 rfl ?_
      refine z_iconst (pc := 35) h dX6_store_35 ?_
      refine z_icmp_ne (pc := 36) (tgt := 44) h dX6_store_36 (by decide) ⟨by omega, by omega⟩ ⟨by decide, by decide⟩ (fun hc36 => ?_) (fun hc36 => ?_)
      ·
        refine z_iload_n (pc := 44) h dX6_store_44 rfl ?_
        refine z_iast (pc := 45) h dX6_store_45 hk.2 (by decide) (by omega) (by omega) ?_
        refine z_vret (pc := 46) h dX6_store_46 rfl ?_
        first
          | omega
          | (refine ⟨rfl, ?_⟩; unfold keepV; first | (rw [if_pos (by omega)]) | (rw [if_neg (by omega), if_pos (by omega)]) | (rw [if_neg (by omega), if_neg (by omega)]))
      ·
        refine z_iload_n (pc := 39) h dX6_store_39 rfl ?_
        refine z_i2s (pc := 40) h dX6_store_40 ?_
        refine z_goto (pc := 41) (tgt := 45) h dX6_store_41 (by decide) ?_
        refine z_iast (pc := 45) h dX6_store_45 hk.2 (by decide) (by omega) (by omega) ?_
        refine z_vret (pc := 46) h dX6_store_46 rfl ?_
        first
          | omega
          | (refine ⟨rfl, ?_⟩; unfold keepV; first | (rw [if_pos (by omega)]) | (rw [if_neg (by omega), if_pos (by omega)]) | (rw [if_neg (by omega), if_neg (by omega)]))
    ·
      refine z_iload_n (pc := 26) h dX6_store_26 rfl ?_
      refine z_i2b (pc := 27) h dX6_store_27 ?_
      refine z_goto (pc := 28) (tgt := 45) h dX6_store_28 (by decide) ?_
      refine z_iast (pc := 45) h dX6_store_45 hk.2 (by decide) (by omega) (by omega) ?_
      refine z_vret (pc := 46) h dX6_store_46 rfl ?_
      first
        | omega
        | (refine ⟨rfl, ?_⟩; unfold keepV; first | (rw [if_pos (by omega)]) | (rw [if_neg (by omega), if_pos (by omega)]) | (rw [if_neg (by omega), if_neg (by omega)]))
  ·
    show zG x LX 11 [some (zr k), some (zi i), some (zi v)] [zi 0] S
    refine z_if_eq (pc := 11) (tgt := 46) h dX6_store_11 (by decide) ⟨by decide, by decide⟩ (fun hc11 => ?_) (fun hc11 => absurd hc11 (by decide))
    refine z_vret (pc := 46) h dX6_store_46 rfl ?_
    first
      | omega
      | (refine ⟨rfl, ?_⟩; unfold keepV; first | (rw [if_pos (by omega)]) | (rw [if_neg (by omega), if_pos (by omega)]) | (rw [if_neg (by omega), if_neg (by omega)]))

theorem rel_sheet {X A : SS} (h : cRel X A) {k : Nat} {s : Int} (hs : isH s) (hk : k = 16 + 2 * s.toNat) : relH X A k s.toNat ∧ X k 1 = 1 - A 14 s.toNat ∧ X k 2 = A 15 s.toNat ∧ X k 3 = A 16 s.toNat ∧ (A 14 s.toNat = 0 ∨ A 14 s.toNat = 1) ∧ (0 ≤ A 15 s.toNat ∧ A 15 s.toNat ≤ 2) ∧ (0 ≤ A 16 s.toNat ∧ A 16 s.toNat ≤ 60) := by
  have h1 := h.2.2.2.2.1 s.toNat (by omega)
  rw [← hk] at h1
  have h2 := mi_h h.1 s.toNat
  exact ⟨h1, h1.1, h1.2.1, h1.2.2.1, by omega, mi_hf h.1 _, mi_hn h.1 _⟩
theorem rel_item {X A : SS} (h : cRel X A) {k : Nat} {s i : Int} (hs : isH s) (hk : k = 16 + 2 * s.toNat) (hi : 0 ≤ i ∧ i < 60) : X (k + 1) i.toNat = A 17 (60 * s + i).toNat ∧ r32 (X (k + 1) i.toNat) := by
  have h1 := (rel_sheet h hs hk).1.2.2.2 i.toNat (by omega)
  have h2 : 60 * s.toNat + i.toNat = (60 * s + i).toNat := by omega
  rw [h2] at h1
  rw [h1]
  exact ⟨rfl, mi_hi h.1 _⟩
theorem cRel_find {X A : SS} (h : cRel X A) {v : Int} (hv : 0 ≤ v ∧ v ≤ 5) : cRel (up2 X 0 11 v) (up2 A 0 23 v) := cRel_field h (by omega)
theorem cRel_renew {X X' A : SS} {k : Nat} {s f n : Int} (h : cRel X A) (hs : isH s) (hk : k = 16 + 2 * s.toNat) (hf : 0 ≤ f ∧ f ≤ 2) (hn : 0 ≤ n ∧ n ≤ 60) (h1 : X' k 1 = 0) (h2 : X' k 2 = f) (h3 : X' k 3 = n) (h4 : ∀ j, j < 60 → X' (k + 1) j = 0) (h5 : ∀ a b, a ≠ k → a ≠ k + 1 → X' a b = X a b) : cRel X' (renewS A s.toNat f n) := by
  refine cRel_sheet (k := k) (s := s.toNat) h (by omega) h5 (renewS_MI h.1 hf hn) ?_ ?_ ?_ ⟨?_, ?_, ?_, ?_⟩
  · intro a ha
    funext b
    unfold renewS
    rw [if_neg (by omega), if_neg (by omega), if_neg (by omega), if_neg (by omega)]
  · intro j hj
    unfold renewS
    refine ⟨?_, ?_, ?_⟩ <;> rw [if_neg (by omega), if_neg (by omega), if_neg (by omega), if_neg (by omega)]
  · intro j hj
    unfold renewS
    rw [if_neg (by omega), if_neg (by omega), if_neg (by omega), if_neg (by omega)]
  · rw [h1]; unfold renewS; rw [if_pos ⟨rfl, rfl⟩]; rfl
  · rw [h2]; unfold renewS; rw [if_neg (by omega), if_pos ⟨rfl, rfl⟩]
  · rw [h3]; unfold renewS; rw [if_neg (by omega), if_neg (by omega), if_pos ⟨rfl, rfl⟩]
  · intro j hj
    rw [h4 j hj]; unfold renewS; rw [if_neg (by omega), if_neg (by omega), if_neg (by omega), if_pos (by omega)]
theorem cRel_lose {X A : SS} {k : Nat} {s : Int} (h : cRel X A) (hs : isH s) (hk : k = 16 + 2 * s.toNat) : cRel (up2 X k 1 1) (up2 A 14 s.toNat 0) := by
  obtain ⟨h1, -⟩ := rel_sheet h hs hk
  refine cRel_sheet (k := k) (s := s.toNat) h (by omega) ?_ (h.1.u_h (by omega)) ?_ ?_ ?_ ⟨?_, ?_, ?_, ?_⟩
  · intro a b a1 a2
    rw [up2_k _ _ a1]
  · intro a ha
    rw [up2_row _ _ (by omega)]
  · intro j hj
    rw [up2_j _ _ hj, up2_k _ _ (by omega), up2_k _ _ (by omega)]
    exact ⟨rfl, rfl, rfl⟩
  · intro j hj
    rw [up2_k _ _ (by omega)]
  · rw [up2_s, up2_s]; rfl
  · rw [up2_j _ _ (by omega), up2_k _ _ (by omega)]; exact h1.2.1
  · rw [up2_j _ _ (by omega), up2_k _ _ (by omega)]; exact h1.2.2.1
  · intro j hj
    rw [up2_k _ _ (by omega), up2_k _ _ (by omega)]; exact h1.2.2.2 j hj
theorem cRel_store {X A : SS} {k : Nat} {s i v : Int} (h : cRel X A) (hs : isH s) (hk : k = 16 + 2 * s.toNat) (hi : 0 ≤ i ∧ i < 60) (hv : r32 v) : cRel (up2 X (k + 1) i.toNat (keepV (X k 2) v)) (keepS A s i v) := by
  obtain ⟨h1, -, h3, -⟩ := rel_sheet h hs hk
  refine cRel_sheet (k := k) (s := s.toNat) h (by omega) ?_ (keepS_MI h.1 _ _ hv) ?_ ?_ ?_ ⟨?_, ?_, ?_, ?_⟩
  · intro a b a1 a2
    rw [up2_k _ _ a2]
  · intro a ha
    exact up2_row _ _ (by omega)
  · intro j hj
    rw [keepS_k (by omega), keepS_k (by omega), keepS_k (by omega)]
    exact ⟨rfl, rfl, rfl⟩
  · intro j hj
    exact up2_j _ _ (by omega)
  · rw [up2_k _ _ (by omega), keepS_k (by omega)]; exact h1.1
  · rw [up2_k _ _ (by omega), keepS_k (by omega)]; exact h1.2.1
  · rw [up2_k _ _ (by omega), keepS_k (by omega)]; exact h1.2.2.1
  · intro j hj
    unfold keepS
    rw [up2_e, up2_e, h3]
    by_cases hj2 : j = i.toNat
    · rw [if_pos ⟨rfl, hj2⟩, if_pos ⟨rfl, by omega⟩]
    · rw [if_neg (fun q => hj2 q.2), if_neg (fun q => hj2 (by omega))]
      exact h1.2.2.2 j hj
theorem cRel_copy {X X' A : SS} {k k' : Nat} {s i t j n : Int} (h : cRel X A) (hs : isH s) (ht : isH t) (hk : k = 16 + 2 * s.toNat) (hk' : k' = 16 + 2 * t.toNat) (hi : 0 ≤ i ∧ i + n ≤ 60) (hj : 0 ≤ j ∧ j + n ≤ 60) (hn : 0 ≤ n)
    (hX : ∀ (a b : Nat), ¬ (a = k' + 1 ∧ (j ≤ (b : Int) ∧ (b : Int) < j + n)) → X' a b = X a b) (hC : ∀ b : Nat, j ≤ (b : Int) → (b : Int) < j + n → X' (k' + 1) b = X (k + 1) (i + ((b : Int) - j)).toNat) : cRel X' (copyS A s i t j n) := by
  obtain ⟨h1, -⟩ := rel_sheet h ht hk'
  have e : ∀ a z, a ≠ 17 → copyS A s i t j n a z = A a z := fun a z ha => if_neg (fun q => ha q.1)
  refine cRel_sheet (k := k') (s := t.toNat) h (by omega) ?_ (copyS_MI h.1 _ _ _ _ _) ?_ ?_ ?_ ⟨?_, ?_, ?_, ?_⟩
  · intro a b a1 a2
    exact hX a b (fun q => a2 q.1)
  · intro a ha
    funext z
    exact e a z (by omega)
  · intro z hz
    rw [e _ _ (by omega), e _ _ (by omega), e _ _ (by omega)]
    exact ⟨rfl, rfl, rfl⟩
  · intro z hz
    unfold copyS
    rw [if_neg (by omega)]
  · rw [hX _ _ (by omega), e _ _ (by omega)]; exact h1.1
  · rw [hX _ _ (by omega), e _ _ (by omega)]; exact h1.2.1
  · rw [hX _ _ (by omega), e _ _ (by omega)]; exact h1.2.2.1
  · intro z hz
    unfold copyS
    by_cases hz2 : j ≤ (z : Int) ∧ (z : Int) < j + n
    · rw [hC z hz2.1 hz2.2, if_pos (by omega), (rel_item h hs hk (i := i + ((z : Int) - j)) (by omega)).1]
      congr 1
      omega
    · rw [hX _ _ (fun q => hz2 q.2), if_neg (by omega)]
      exact h1.2.2.2 z hz

set_option maxRecDepth 100000 in
set_option maxHeartbeats 4000000 in
theorem m_X10_sheet (a b c : Int) (A S : SS) (ha : r32 a) (hb : r32 b) (hc : r32 c) (hR : cRel S A) : zM LX yX10_sheet cX10_sheet 5 (some .int) 2 45 [zr 0, zi a, zi b, zi c] S (fun r S' => r = some (zi (sp_sheet a b c)) ∧ cRel S' (st_sheet A a b c)) := by
  refine zM_of (own := RX10) rfl (by decide +kernel) [some (zr 0), some (zi a), some (zi b), some (zi c), none] (Nat.le_of_ble_eq_true rfl) rfl ?_
  intro x h
  refine z_aload_n (pc := 0) h dX10_sheet_0 rfl ?_
  refine z_iload_n (pc := 1) h dX10_sheet_1 rfl ?_
  refine z_callV (pc := 2) (rest := ([] : List zV)) h (m_X10_sheetAt a S ⟨by omega, by omega⟩) dX10_sheet_2 mcX10_sheetAt miX10_sheetAt mlX10_168 rfl rfl ⟨by decide, by decide⟩ clX10 rfl rfl rfl (Nat.le_of_ble_eq_true rfl) ?_
  rintro _ _ ⟨rfl, ⟨hr2, v2, hr2k, hr2e, rfl⟩ | ⟨hr2, rfl⟩⟩
  ·
    show zG x LX 5 [some (zr 0), some (zi a), some (zi b), some (zi c), none] [zr v2] S
    refine z_astore (pc := 5) (loc' := [some (zr 0), some (zi a), some (zi b), some (zi c), some (zr v2)]) h dX10_sheet_5 (Nat.le_of_ble_eq_true rfl) rfl rfl ?_
    refine z_aload (pc := 7) h dX10_sheet_7 rfl ?_
    refine z_ifnull_r (pc := 9) h dX10_sheet_9 ?_
    refine z_iload_n (pc := 12) h dX10_sheet_12 rfl ?_
    refine z_callS (pc := 13) (rest := ([] : List zV)) h (m_X6_isForm b S ⟨by omega, by omega⟩) dX10_sheet_13 mcX6_isForm msX6_isForm mlX10_267 rfl rfl ⟨by decide, by decide⟩ rfl (Nat.le_of_ble_eq_true rfl) ?_
    rintro _ _ ⟨rfl, ⟨hr13, rfl⟩ | ⟨hr13, rfl⟩⟩
    ·
      show zG x LX 16 [some (zr 0), some (zi a), some (zi b), some (zi c), some (zr v2)] [zi 1] S
      refine z_if_eq (pc := 16) (tgt := 25) h dX10_sheet_16 (by decide) ⟨by decide, by decide⟩ (fun hc16 => absurd hc16 (by decide)) (fun hc16 => ?_)
      refine z_iload_n (pc := 19) h dX10_sheet_19 rfl ?_
      refine z_bipush (pc := 20) h dX10_sheet_20 rfl ?_
      refine z_icmp_le (pc := 22) (tgt := 28) h dX10_sheet_22 (by decide) ⟨by omega, by omega⟩ ⟨by decide, by decide⟩ (fun hc22 => ?_) (fun hc22 => ?_)
      ·
        refine z_iload_n (pc := 28) h dX10_sheet_28 rfl ?_
        refine z_if_ge (pc := 29) (tgt := 38) h dX10_sheet_29 (by decide) ⟨by omega, by omega⟩ (fun hc29 => ?_) (fun hc29 => ?_)
        ·
          refine z_aload (pc := 38) h dX10_sheet_38 rfl ?_
          refine z_iload_n (pc := 40) h dX10_sheet_40 rfl ?_
          refine z_iload_n (pc := 41) h dX10_sheet_41 rfl ?_
          refine z_callV (pc := 42) (rest := ([] : List zV)) h (m_X6_renew v2 b c S (by assumption) (by first | assumption | omega) (by first | assumption | omega)) dX10_sheet_42 mcX6_renew miX6_renew mlX10_270 rfl rfl ⟨by decide, by decide⟩ clX6 hr2k.1 rfl rfl (Nat.le_of_ble_eq_true rfl) ?_
          rintro _ S42 ⟨rfl, hr42a, hr42b, hr42c, hr42d, hr42e⟩
          show zG x LX 45 [some (zr 0), some (zi a), some (zi b), some (zi c), some (zr v2)] ([] : List zV) S42
          refine z_iload_n (pc := 45) h dX10_sheet_45 rfl ?_
          refine z_iret (pc := 46) h dX10_sheet_46 rfl ?_
          exact ⟨ap_some (by unfold sp_sheet; rw [if_pos (by omega), if_neg (by omega)]), by unfold st_sheet; rw [if_pos (by omega), if_neg (by omega)]; exact cRel_renew hR hr2 hr2e (by omega) (by omega) hr42a hr42b hr42c hr42d hr42e⟩
        ·
          refine z_aload_n (pc := 32) h dX10_sheet_32 rfl ?_
          refine z_iconst (pc := 33) h dX10_sheet_33 ?_
          refine z_callV (pc := 34) (rest := ([] : List zV)) h (m_X10_finding 5 S ) dX10_sheet_34 mcX10_finding miX10_finding mlX10_176 rfl rfl ⟨by decide, by decide⟩ clX10 rfl rfl rfl (Nat.le_of_ble_eq_true rfl) ?_
          rintro _ _ ⟨rfl, rfl⟩
          show zG x LX 37 [some (zr 0), some (zi a), some (zi b), some (zi c), some (zr v2)] [zi (-10 - 5)] (up2 S 0 11 5)
          refine z_iret (pc := 37) h dX10_sheet_37 rfl ?_
          exact ⟨ap_some (by unfold sp_sheet; rw [if_pos (by omega), if_pos (by omega)]; try omega), by unfold st_sheet; rw [if_pos (by omega), if_pos (by omega)]; exact cRel_find hR (by omega)⟩
      ·
        refine z_bipush (pc := 25) h dX10_sheet_25 rfl ?_
        refine z_iret (pc := 27) h dX10_sheet_27 rfl ?_
        exact ⟨ap_some (by unfold sp_sheet; rw [if_neg (by omega)]), by unfold st_sheet; rw [if_neg (by omega)]; exact hR⟩
    ·
      show zG x LX 16 [some (zr 0), some (zi a), some (zi b), some (zi c), some (zr v2)] [zi 0] S
      refine z_if_eq (pc := 16) (tgt := 25) h dX10_sheet_16 (by decide) ⟨by decide, by decide⟩ (fun hc16 => ?_) (fun hc16 => absurd hc16 (by decide))
      refine z_bipush (pc := 25) h dX10_sheet_25 rfl ?_
      refine z_iret (pc := 27) h dX10_sheet_27 rfl ?_
      exact ⟨ap_some (by unfold sp_sheet; rw [if_neg (by omega)]), by unfold st_sheet; rw [if_neg (by omega)]; exact hR⟩
  ·
    show zG x LX 5 [some (zr 0), some (zi a), some (zi b), some (zi c), none] [zn] S
    refine z_nstore (pc := 5) (loc' := [some (zr 0), some (zi a), some (zi b), some (zi c), some (zn)]) h dX10_sheet_5 (Nat.le_of_ble_eq_true rfl) rfl rfl ?_
    refine z_nload (pc := 7) h dX10_sheet_7 rfl ?_
    refine z_ifnull_n (pc := 9) (tgt := 25) h dX10_sheet_9 (by decide) ?_
    refine z_bipush (pc := 25) h dX10_sheet_25 rfl ?_
    refine z_iret (pc := 27) h dX10_sheet_27 rfl ?_
    exact ⟨ap_some (by unfold sp_sheet; rw [if_neg (by omega)]), by unfold st_sheet; rw [if_neg (by omega)]; exact hR⟩

set_option maxRecDepth 100000 in
set_option maxHeartbeats 4000000 in
theorem m_X10_lose (a : Int) (A S : SS) (ha : r32 a) (hR : cRel S A) : zM LX yX10_lose cX10_lose 3 (some .int) 2 43 [zr 0, zi a] S (fun r S' => r = some (zi (sp_lose A a)) ∧ cRel S' (st_lose A a)) := by
  refine zM_of (own := RX10) rfl (by decide +kernel) [some (zr 0), some (zi a), none] (Nat.le_of_ble_eq_true rfl) rfl ?_
  intro x h
  refine z_aload_n (pc := 0) h dX10_lose_0 rfl ?_
  refine z_iload_n (pc := 1) h dX10_lose_1 rfl ?_
  refine z_callV (pc := 2) (rest := ([] : List zV)) h (m_X10_sheetAt a S ⟨by omega, by omega⟩) dX10_lose_2 mcX10_sheetAt miX10_sheetAt mlX10_168 rfl rfl ⟨by decide, by decide⟩ clX10 rfl rfl rfl (Nat.le_of_ble_eq_true rfl) ?_
  rintro _ _ ⟨rfl, ⟨hr2, v2, hr2k, hr2e, rfl⟩ | ⟨hr2, rfl⟩⟩
  ·
    show zG x LX 5 [some (zr 0), some (zi a), none] [zr v2] S
    refine z_astore_n (pc := 5) (loc' := [some (zr 0), some (zi a), some (zr v2)]) h dX10_lose_5 rfl (Nat.le_of_ble_eq_true rfl) rfl rfl ?_
    refine z_aload_n (pc := 6) h dX10_lose_6 rfl ?_
    refine z_ifnonnull_r (pc := 7) (tgt := 13) h dX10_lose_7 (by decide) ?_
    obtain ⟨g0, g1, g2, g3, g4, g5, g6⟩ := rel_sheet hR hr2 hr2e
    refine z_aload_n (pc := 13) h dX10_lose_13 rfl ?_
    refine z_getI (pc := 14) h dX10_lose_14 clX6 lkX10_172 (by decide) hr2k.1 rfl ?_
    refine z_if_eq (pc := 17) (tgt := 26) h dX10_lose_17 (by decide) ⟨by omega, by omega⟩ (fun hc17 => ?_) (fun hc17 => ?_)
    ·
      refine z_aload_n (pc := 26) h dX10_lose_26 rfl ?_
      refine z_iconst (pc := 27) h dX10_lose_27 ?_
      refine z_putZ (pc := 28) h dX10_lose_28 clX6 lkX10_172 (by decide) hr2k.1 rfl rfl rfl (by decide) ?_
      refine z_aload_n (pc := 31) h dX10_lose_31 rfl ?_
      refine z_getI (pc := 32) h dX10_lose_32 clX6 lkX10_179 (by decide) hr2k.1 rfl ?_
      refine z_iret (pc := 35) h dX10_lose_35 rfl ?_
      exact ⟨ap_some (by unfold sp_lose; rw [if_pos (by omega), if_neg (by omega), up2_j _ _ (by omega)]; exact g3), by unfold st_lose; rw [if_pos (by omega), if_neg (by omega)]; exact cRel_lose hR hr2 hr2e⟩
    ·
      refine z_aload_n (pc := 20) h dX10_lose_20 rfl ?_
      refine z_iconst (pc := 21) h dX10_lose_21 ?_
      refine z_callV (pc := 22) (rest := ([] : List zV)) h (m_X10_finding 1 S ) dX10_lose_22 mcX10_finding miX10_finding mlX10_176 rfl rfl ⟨by decide, by decide⟩ clX10 rfl rfl rfl (Nat.le_of_ble_eq_true rfl) ?_
      rintro _ _ ⟨rfl, rfl⟩
      show zG x LX 25 [some (zr 0), some (zi a), some (zr v2)] [zi (-10 - 1)] (up2 S 0 11 1)
      refine z_iret (pc := 25) h dX10_lose_25 rfl ?_
      exact ⟨ap_some (by unfold sp_lose; rw [if_pos (by omega), if_pos (by omega)]; try omega), by unfold st_lose; rw [if_pos (by omega), if_pos (by omega)]; exact cRel_find hR (by omega)⟩
  ·
    show zG x LX 5 [some (zr 0), some (zi a), none] [zn] S
    refine z_nstore_n (pc := 5) (loc' := [some (zr 0), some (zi a), some (zn)]) h dX10_lose_5 rfl (Nat.le_of_ble_eq_true rfl) rfl rfl ?_
    refine z_nload_n (pc := 6) h dX10_lose_6 rfl ?_
    refine z_ifnonnull_n (pc := 7) h dX10_lose_7 ?_
    refine z_bipush (pc := 10) h dX10_lose_10 rfl ?_
    refine z_iret (pc := 12) h dX10_lose_12 rfl ?_
    exact ⟨ap_some (by unfold sp_lose; rw [if_neg (by omega)]), by unfold st_lose; rw [if_neg (by omega)]; exact hR⟩

set_option maxRecDepth 100000 in
set_option maxHeartbeats 4000000 in
theorem m_X10_put (a b c d : Int) (A S : SS) (ha : r32 a) (hb : r32 b) (hc : r32 c) (hd : r32 d) (hR : cRel S A) : zM LX yX10_put cX10_put 7 (some .int) 2 44 [zr 0, zi a, zi b, zi c, zi d] S (fun r S' => r = some (zi (sp_put A a b c d)) ∧ cRel S' (st_put A a b c d)) := by
  refine zM_of (own := RX10) rfl (by decide +kernel) [some (zr 0), some (zi a), some (zi b), some (zi c), some (zi d), none, none] (Nat.le_of_ble_eq_true rfl) rfl ?_
  intro x h
  refine z_aload_n (pc := 0) h dX10_put_0 rfl ?_
  refine z_iload_n (pc := 1) h dX10_put_1 rfl ?_
  refine z_callV (pc := 2) (rest := ([] : List zV)) h (m_X10_sheetAt a S ⟨by omega, by omega⟩) dX10_put_2 mcX10_sheetAt miX10_sheetAt mlX10_168 rfl rfl ⟨by decide, by decide⟩ clX10 rfl rfl rfl (Nat.le_of_ble_eq_true rfl) ?_
  rintro _ _ ⟨rfl, ⟨hr2, v2, hr2k, hr2e, rfl⟩ | ⟨hr2, rfl⟩⟩
  ·
    show zG x LX 5 [some (zr 0), some (zi a), some (zi b), some (zi c), some (zi d), none, none] [zr v2] S
    refine z_astore (pc := 5) (loc' := [some (zr 0), some (zi a), some (zi b), some (zi c), some (zi d), some (zr v2), none]) h dX10_put_5 (Nat.le_of_ble_eq_true rfl) rfl rfl ?_
    refine z_aload (pc := 7) h dX10_put_7 rfl ?_
    refine z_ifnull_r (pc := 9) h dX10_put_9 ?_
    refine z_iload_n (pc := 12) h dX10_put_12 rfl ?_
    refine z_callS (pc := 13) (rest := ([] : List zV)) h (m_X6_isForm b S ⟨by omega, by omega⟩) dX10_put_13 mcX6_isForm msX6_isForm mlX10_267 rfl rfl ⟨by decide, by decide⟩ rfl (Nat.le_of_ble_eq_true rfl) ?_
    rintro _ _ ⟨rfl, ⟨hr13, rfl⟩ | ⟨hr13, rfl⟩⟩
    ·
      show zG x LX 16 [some (zr 0), some (zi a), some (zi b), some (zi c), some (zi d), some (zr v2), none] [zi 1] S
      refine z_if_ne (pc := 16) (tgt := 22) h dX10_put_16 (by decide) ⟨by decide, by decide⟩ (fun hc16 => ?_) (fun hc16 => absurd hc16 (by decide))
      obtain ⟨g0, g1, g2, g3, g4, g5, g6⟩ := rel_sheet hR hr2 hr2e
      have hlk : lackF (1 - S v2 1) (S v2 2) (S v2 3) b c = lackA A a b c := by unfold lackA; rw [g1, g2, g3, show 1 - (1 - A 14 a.toNat) = A 14 a.toNat by omega]
      have hlb := lackF_b (A 14 a.toNat) (A 15 a.toNat) (A 16 a.toNat) b c
      have hlA : lackA A a b c = lackF (A 14 a.toNat) (A 15 a.toNat) (A 16 a.toNat) b c := rfl
      refine z_aload (pc := 22) h dX10_put_22 rfl ?_
      refine z_iload_n (pc := 24) h dX10_put_24 rfl ?_
      refine z_iload_n (pc := 25) h dX10_put_25 rfl ?_
      refine z_callV (pc := 26) (rest := ([] : List zV)) h (m_X6_findingAt v2 b c S (by assumption) (by first | assumption | omega) (by first | assumption | omega) (by first | assumption | omega) ⟨by omega, by omega⟩ ⟨by omega, by omega⟩) dX10_put_26 mcX6_findingAt miX6_findingAt mlX10_274 rfl rfl ⟨by decide, by decide⟩ clX6 hr2k.1 rfl rfl (Nat.le_of_ble_eq_true rfl) ?_
      rintro _ _ ⟨rfl, rfl⟩
      show zG x LX 29 [some (zr 0), some (zi a), some (zi b), some (zi c), some (zi d), some (zr v2), none] [zi (lackF (1 - S v2 1) (S v2 2) (S v2 3) b c)] S
      refine z_cv (b := (lackA A a b c)) (by exact hlk) ?_
      refine z_istore (pc := 29) (loc' := [some (zr 0), some (zi a), some (zi b), some (zi c), some (zi d), some (zr v2), some (zi (lackA A a b c))]) h dX10_put_29 (Nat.le_of_ble_eq_true rfl) rfl rfl ?_
      refine z_iload (pc := 31) h dX10_put_31 rfl ?_
      refine z_if_eq (pc := 33) (tgt := 43) h dX10_put_33 (by decide) ⟨by omega, by omega⟩ (fun hc33 => ?_) (fun hc33 => ?_)
      ·
        refine z_aload (pc := 43) h dX10_put_43 rfl ?_
        refine z_iload_n (pc := 45) h dX10_put_45 rfl ?_
        refine z_iload (pc := 46) h dX10_put_46 rfl ?_
        refine z_callV (pc := 48) (rest := ([] : List zV)) h (m_X6_store v2 c d S (by assumption) (by first | assumption | omega) (by first | assumption | omega) (by first | assumption | omega)) dX10_put_48 mcX6_store miX6_store mlX10_277 rfl rfl ⟨by decide, by decide⟩ clX6 hr2k.1 rfl rfl (Nat.le_of_ble_eq_true rfl) ?_
        rintro _ _ ⟨rfl, rfl⟩
        show zG x LX 51 [some (zr 0), some (zi a), some (zi b), some (zi c), some (zi d), some (zr v2), some (zi (lackA A a b c))] ([] : List zV) (up2 S (v2 + 1) c.toNat (keepV (S v2 2) d))
        refine z_iconst (pc := 51) h dX10_put_51 ?_
        refine z_iret (pc := 52) h dX10_put_52 rfl ?_
        exact ⟨ap_some (by unfold sp_put; rw [if_pos (by omega), if_pos (by omega)]), by unfold st_put; rw [if_pos (by omega), if_pos (by omega)]; exact cRel_store hR hr2 hr2e (by omega) hd⟩
      ·
        refine z_aload_n (pc := 36) h dX10_put_36 rfl ?_
        refine z_iload (pc := 37) h dX10_put_37 rfl ?_
        refine z_callV (pc := 39) (rest := ([] : List zV)) h (m_X10_finding (lackA A a b c) S ) dX10_put_39 mcX10_finding miX10_finding mlX10_176 rfl rfl ⟨by decide, by decide⟩ clX10 rfl rfl rfl (Nat.le_of_ble_eq_true rfl) ?_
        rintro _ _ ⟨rfl, rfl⟩
        show zG x LX 42 [some (zr 0), some (zi a), some (zi b), some (zi c), some (zi d), some (zr v2), some (zi (lackA A a b c))] [zi (-10 - (lackA A a b c))] (up2 S 0 11 (lackA A a b c))
        refine z_iret (pc := 42) h dX10_put_42 rfl ?_
        exact ⟨ap_some (by unfold sp_put; rw [if_pos (by omega), if_neg (by omega)]; try omega), by unfold st_put; rw [if_pos (by omega), if_neg (by omega)]; exact cRel_find hR (by omega)⟩
    ·
      show zG x LX 16 [some (zr 0), some (zi a), some (zi b), some (zi c), some (zi d), some (zr v2), none] [zi 0] S
      refine z_if_ne (pc := 16) (tgt := 22) h dX10_put_16 (by decide) ⟨by decide, by decide⟩ (fun hc16 => absurd hc16 (by decide)) (fun hc16 => ?_)
      refine z_bipush (pc := 19) h dX10_put_19 rfl ?_
      refine z_iret (pc := 21) h dX10_put_21 rfl ?_
      exact ⟨ap_some (by unfold sp_put; rw [if_neg (by omega)]), by unfold st_put; rw [if_neg (by omega)]; exact hR⟩
  ·
    show zG x LX 5 [some (zr 0), some (zi a), some (zi b), some (zi c), some (zi d), none, none] [zn] S
    refine z_nstore (pc := 5) (loc' := [some (zr 0), some (zi a), some (zi b), some (zi c), some (zi d), some (zn), none]) h dX10_put_5 (Nat.le_of_ble_eq_true rfl) rfl rfl ?_
    refine z_nload (pc := 7) h dX10_put_7 rfl ?_
    refine z_ifnull_n (pc := 9) (tgt := 19) h dX10_put_9 (by decide) ?_
    refine z_bipush (pc := 19) h dX10_put_19 rfl ?_
    refine z_iret (pc := 21) h dX10_put_21 rfl ?_
    exact ⟨ap_some (by unfold sp_put; rw [if_neg (by omega)]), by unfold st_put; rw [if_neg (by omega)]; exact hR⟩

set_option maxRecDepth 100000 in
set_option maxHeartbeats 4000000 in
theorem m_X10_get (a b c : Int) (A S : SS) (ha : r32 a) (hb : r32 b) (hc : r32 c) (hR : cRel S A) : zM LX yX10_get cX10_get 6 (some .int) 2 44 [zr 0, zi a, zi b, zi c] S (fun r S' => r = some (zi (sp_get A a b c)) ∧ cRel S' (st_get A a b c)) := by
  refine zM_of (own := RX10) rfl (by decide +kernel) [some (zr 0), some (zi a), some (zi b), some (zi c), none, none] (Nat.le_of_ble_eq_true rfl) rfl ?_
  intro x h
  refine z_aload_n (pc := 0) h dX10_get_0 rfl ?_
  refine z_iload_n (pc := 1) h dX10_get_1 rfl ?_
  refine z_callV (pc := 2) (rest := ([] : List zV)) h (m_X10_sheetAt a S ⟨by omega, by omega⟩) dX10_get_2 mcX10_sheetAt miX10_sheetAt mlX10_168 rfl rfl ⟨by decide, by decide⟩ clX10 rfl rfl rfl (Nat.le_of_ble_eq_true rfl) ?_
  rintro _ _ ⟨rfl, ⟨hr2, v2, hr2k, hr2e, rfl⟩ | ⟨hr2, rfl⟩⟩
  ·
    show zG x LX 5 [some (zr 0), some (zi a), some (zi b), some (zi c), none, none] [zr v2] S
    refine z_astore (pc := 5) (loc' := [some (zr 0), some (zi a), some (zi b), some (zi c), some (zr v2), none]) h dX10_get_5 (Nat.le_of_ble_eq_true rfl) rfl rfl ?_
    refine z_aload (pc := 7) h dX10_get_7 rfl ?_
    refine z_ifnull_r (pc := 9) h dX10_get_9 ?_
    refine z_iload_n (pc := 12) h dX10_get_12 rfl ?_
    refine z_callS (pc := 13) (rest := ([] : List zV)) h (m_X6_isForm b S ⟨by omega, by omega⟩) dX10_get_13 mcX6_isForm msX6_isForm mlX10_267 rfl rfl ⟨by decide, by decide⟩ rfl (Nat.le_of_ble_eq_true rfl) ?_
    rintro _ _ ⟨rfl, ⟨hr13, rfl⟩ | ⟨hr13, rfl⟩⟩
    ·
      show zG x LX 16 [some (zr 0), some (zi a), some (zi b), some (zi c), some (zr v2), none] [zi 1] S
      refine z_if_ne (pc := 16) (tgt := 23) h dX10_get_16 (by decide) ⟨by decide, by decide⟩ (fun hc16 => ?_) (fun hc16 => absurd hc16 (by decide))
      obtain ⟨g0, g1, g2, g3, g4, g5, g6⟩ := rel_sheet hR hr2 hr2e
      have hlk : lackF (1 - S v2 1) (S v2 2) (S v2 3) b c = lackA A a b c := by unfold lackA; rw [g1, g2, g3, show 1 - (1 - A 14 a.toNat) = A 14 a.toNat by omega]
      have hlb := lackF_b (A 14 a.toNat) (A 15 a.toNat) (A 16 a.toNat) b c
      have hlA : lackA A a b c = lackF (A 14 a.toNat) (A 15 a.toNat) (A 16 a.toNat) b c := rfl
      refine z_aload (pc := 23) h dX10_get_23 rfl ?_
      refine z_iload_n (pc := 25) h dX10_get_25 rfl ?_
      refine z_iload_n (pc := 26) h dX10_get_26 rfl ?_
      refine z_callV (pc := 27) (rest := ([] : List zV)) h (m_X6_findingAt v2 b c S (by assumption) (by first | assumption | omega) (by first | assumption | omega) (by first | assumption | omega) ⟨by omega, by omega⟩ ⟨by omega, by omega⟩) dX10_get_27 mcX6_findingAt miX6_findingAt mlX10_274 rfl rfl ⟨by decide, by decide⟩ clX6 hr2k.1 rfl rfl (Nat.le_of_ble_eq_true rfl) ?_
      rintro _ _ ⟨rfl, rfl⟩
      show zG x LX 30 [some (zr 0), some (zi a), some (zi b), some (zi c), some (zr v2), none] [zi (lackF (1 - S v2 1) (S v2 2) (S v2 3) b c)] S
      refine z_cv (b := (lackA A a b c)) (by exact hlk) ?_
      refine z_istore (pc := 30) (loc' := [some (zr 0), some (zi a), some (zi b), some (zi c), some (zr v2), some (zi (lackA A a b c))]) h dX10_get_30 (Nat.le_of_ble_eq_true rfl) rfl rfl ?_
      refine z_iload (pc := 32) h dX10_get_32 rfl ?_
      refine z_if_eq (pc := 34) (tgt := 47) h dX10_get_34 (by decide) ⟨by omega, by omega⟩ (fun hc34 => ?_) (fun hc34 => ?_)
      ·
        refine z_aload (pc := 47) h dX10_get_47 rfl ?_
        refine z_iload_n (pc := 49) h dX10_get_49 rfl ?_
        refine z_callV (pc := 50) (rest := ([] : List zV)) h (m_X6_itemAt v2 c S (by assumption) (by first | assumption | omega) ⟨by omega, by omega⟩) dX10_get_50 mcX6_itemAt miX6_itemAt mlX10_182 rfl rfl ⟨by decide, by decide⟩ clX6 hr2k.1 rfl rfl (Nat.le_of_ble_eq_true rfl) ?_
        rintro _ _ ⟨rfl, rfl⟩
        show zG x LX 53 [some (zr 0), some (zi a), some (zi b), some (zi c), some (zr v2), some (zi (lackA A a b c))] [zi (itF (S (v2 + 1)) (S v2 3) c)] S
        refine z_iret (pc := 53) h dX10_get_53 rfl ?_
        exact ⟨ap_some (by unfold sp_get itF; rw [if_pos (by omega), if_pos (by omega), if_pos (by omega)]; exact (rel_item hR hr2 hr2e (by omega)).1), by unfold st_get; rw [if_pos (by omega), if_pos (by omega)]; exact hR⟩
      ·
        refine z_aload_n (pc := 37) h dX10_get_37 rfl ?_
        refine z_iload (pc := 38) h dX10_get_38 rfl ?_
        refine z_putI (pc := 40) h dX10_get_40 clX10 lkX10_281 (by decide) rfl rfl rfl rfl ?_
        refine z_ldcw (pc := 43) (a := (-2147483648)) h kcX10_280 dX10_get_43 (by decide) ?_
        refine z_iret (pc := 46) h dX10_get_46 rfl ?_
        exact ⟨ap_some (by unfold sp_get; rw [if_pos (by omega), if_neg (by omega)]; try omega), by unfold st_get; rw [if_pos (by omega), if_neg (by omega)]; exact cRel_find hR (by omega)⟩
    ·
      show zG x LX 16 [some (zr 0), some (zi a), some (zi b), some (zi c), some (zr v2), none] [zi 0] S
      refine z_if_ne (pc := 16) (tgt := 23) h dX10_get_16 (by decide) ⟨by decide, by decide⟩ (fun hc16 => absurd hc16 (by decide)) (fun hc16 => ?_)
      refine z_ldcw (pc := 19) (a := (-2147483648)) h kcX10_280 dX10_get_19 (by decide) ?_
      refine z_iret (pc := 22) h dX10_get_22 rfl ?_
      exact ⟨ap_some (by unfold sp_get; rw [if_neg (by omega)]), by unfold st_get; rw [if_neg (by omega)]; exact hR⟩
  ·
    show zG x LX 5 [some (zr 0), some (zi a), some (zi b), some (zi c), none, none] [zn] S
    refine z_nstore (pc := 5) (loc' := [some (zr 0), some (zi a), some (zi b), some (zi c), some (zn), none]) h dX10_get_5 (Nat.le_of_ble_eq_true rfl) rfl rfl ?_
    refine z_nload (pc := 7) h dX10_get_7 rfl ?_
    refine z_ifnull_n (pc := 9) (tgt := 19) h dX10_get_9 (by decide) ?_
    refine z_ldcw (pc := 19) (a := (-2147483648)) h kcX10_280 dX10_get_19 (by decide) ?_
    refine z_iret (pc := 22) h dX10_get_22 rfl ?_
    exact ⟨ap_some (by unfold sp_get; rw [if_neg (by omega)]), by unfold st_get; rw [if_neg (by omega)]; exact hR⟩

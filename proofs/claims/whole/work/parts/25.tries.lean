/-! tries, on both sides -/
theorem wrgF_b {A : SS} (hm : MI A) (a b : Int) : 0 ≤ wrgF A a b ∧ wrgF A a b ≤ 40 := by
  have h1 := wrg_b A a b (A 0 14).toNat
  have h2 := mi_y hm
  unfold wrgF
  omega
theorem lnR_le {A : SS} : ∀ (r t : Nat) (q : Int × Int), (lnR A r t q).2 ≤ q.2
  | 0, _, q => Int.le_refl _
  | r + 1, t, q => by
    rw [ln_s (r' := r) (z := (t : Int)) rfl rfl]
    refine Int.le_trans (lnR_le r _ _) ?_
    split
    · next h => exact Int.le_of_lt h
    · exact Int.le_refl _
theorem lnF_2 {A : SS} (hm : MI A) : (lnF A).2 ≤ 40 ∧ ∀ g, lnR A 610 0 (g, 41) = lnF A := by
  have hb := wrgF_b hm (0 / 10) (0 % 10)
  have h1 : ∀ g : Int, lnR A 610 0 (g, 41) = lnR A 609 1 (0, wrgF A (0 / 10) (0 % 10)) := fun g => by
    rw [ln_s (r' := 609) (z := 0) rfl rfl, if_pos (show wrgF A (0 / 10) (0 % 10) < 41 by omega)]
    rfl
  refine ⟨?_, fun g => by unfold lnF; rw [h1 g, h1 0]⟩
  unfold lnF
  rw [h1 0]
  refine Int.le_trans (lnR_le 609 1 _) ?_
  exact hb.2
def lnP (A S1 : SS) (t : Int) : Prop := ∃ q : Int × Int, S1 37 6 = q.2 ∧ (q.2 = 41 ∨ (q.1 / 10 = S1 37 4 ∧ q.1 % 10 = S1 37 5)) ∧ lnR A (610 - t).toNat t.toNat q = lnF A
theorem lnP_0 {A S1 : SS} (h : S1 37 6 = 41) : lnP A S1 0 := ⟨(0, 41), h, Or.inl rfl, rfl⟩
theorem lnP_t {A S1 S2 : SS} {s p w : Int} (h : lnP A S1 (10 * s + p)) (hs : 0 ≤ s ∧ s ≤ 60) (hp : 0 ≤ p ∧ p ≤ 9) (hw : w = wrgF A s p) (hl : w < S1 37 6) (h6 : S2 37 6 = w) (h4 : S2 37 4 = s) (h5 : S2 37 5 = p) : lnP A S2 (10 * s + (p + 1)) := by
  obtain ⟨q, q1, q2, q3⟩ := h
  rw [ln_s (r' := (610 - (10 * s + (p + 1))).toNat) (z := 10 * s + p) (by omega) (by omega), show (10 * s + p) / 10 = s by omega, show (10 * s + p) % 10 = p by omega, if_pos (by rw [← hw, ← q1]; exact hl)] at q3
  refine ⟨(10 * s + p, wrgF A s p), by rw [h6, hw], Or.inr ⟨?_, ?_⟩, ?_⟩
  · show (10 * s + p) / 10 = _
    omega
  · show (10 * s + p) % 10 = _
    omega
  · rw [show 10 * s + (p + 1) = 10 * s + p + 1 by omega] at q3 ⊢
    exact q3
theorem lnP_f {A S1 : SS} {s p w : Int} (h : lnP A S1 (10 * s + p)) (hs : 0 ≤ s ∧ s ≤ 60) (hp : 0 ≤ p ∧ p ≤ 9) (hw : w = wrgF A s p) (hl : S1 37 6 ≤ w) : lnP A S1 (10 * s + (p + 1)) := by
  obtain ⟨q, q1, q2, q3⟩ := h
  rw [ln_s (r' := (610 - (10 * s + (p + 1))).toNat) (z := 10 * s + p) (by omega) (by omega), show (10 * s + p) / 10 = s by omega, show (10 * s + p) % 10 = p by omega, if_neg (by rw [← hw, ← q1]; omega)] at q3
  refine ⟨q, q1, q2, ?_⟩
  rw [show 10 * s + (p + 1) = 10 * s + p + 1 by omega] at q3 ⊢
  exact q3
theorem lnP_e {A S1 : SS} {t : Int} (h : lnP A S1 t) (ht : t = 610) (hm : MI A) : S1 37 4 = (lnF A).1 / 10 ∧ S1 37 5 = (lnF A).1 % 10 ∧ S1 37 6 = (lnF A).2 := by
  subst ht
  obtain ⟨q, q1, q2, q3⟩ := h
  rw [ln_0 (by decide)] at q3
  have h2 := (lnF_2 hm).1
  rw [← q3] at h2 ⊢
  rcases q2 with q2 | ⟨q2, q4⟩
  · omega
  · exact ⟨q2.symm, q4.symm, q1⟩
theorem cRel_tr {X A : SS} {p b o n : Int} (h : cRel X A) (hp : (1 ≤ p ∧ p ≤ 60) ∧ (0 ≤ b ∧ b ≤ 9) ∧ (0 ≤ o ∧ o ≤ 1)) (hn : n = A 0 14 ∧ A 0 14 < 40) : cRel (up2 (up2 (up2 (up2 X 38 n.toNat p) 39 n.toNat b) 40 n.toNat o) 37 3 (n + 1)) (up2 (up2 (up2 (up2 A 11 (A 0 14).toNat p) 12 (A 0 14).toNat b) 13 (A 0 14).toNat o) 0 14 (A 0 14 + 1)) := by
  obtain ⟨hn1, hn2⟩ := hn
  subst hn1
  have hy := mi_y h.1
  have ht := h.2.2.2.2.2
  refine cRel_tries h ?_ ((((h.1.u_yp (by omega)).u_yb (by omega)).u_yo (by omega)).u_y (by omega)) ?_ ?_ ⟨?_, ?_⟩
  · intro a c hac
    rw [up2_k _ _ (by omega), up2_k _ _ (by omega), up2_k _ _ (by omega), up2_k _ _ (by omega)]
  · intro a h0 h1 h2 h3
    rw [up2_row _ _ h0, up2_row _ _ h3, up2_row _ _ h2, up2_row _ _ h1]
  · rw [up2_j _ _ (by decide), up2_k _ _ (by decide), up2_k _ _ (by decide), up2_k _ _ (by decide)]
  · rw [up2_s, up2_s]
  · intro j hj
    obtain ⟨t1, t2, t3⟩ := ht.2 j hj
    by_cases hj2 : j = (A 0 14).toNat
    · subst hj2
      refine ⟨?_, ?_, ?_⟩
      · rw [up2_k _ _ (by decide), up2_k _ _ (by decide), up2_k _ _ (by decide), up2_s, up2_k _ _ (by decide), up2_k _ _ (by decide), up2_k _ _ (by decide), up2_s]
      · rw [up2_k _ _ (by decide), up2_k _ _ (by decide), up2_s, up2_k _ _ (by decide), up2_k _ _ (by decide), up2_s]
      · rw [up2_k _ _ (by decide), up2_s, up2_k _ _ (by decide), up2_s]
    · refine ⟨?_, ?_, ?_⟩
      · rw [up2_k _ _ (by decide), up2_k _ _ (by decide), up2_k _ _ (by decide), up2_j _ _ hj2, up2_k _ _ (by decide), up2_k _ _ (by decide), up2_k _ _ (by decide), up2_j _ _ hj2]; exact t1
      · rw [up2_k _ _ (by decide), up2_k _ _ (by decide), up2_j _ _ hj2, up2_k _ _ (by decide), up2_k _ _ (by decide), up2_k _ _ (by decide), up2_j _ _ hj2, up2_k _ _ (by decide)]; exact t2
      · rw [up2_k _ _ (by decide), up2_j _ _ hj2, up2_k _ _ (by decide), up2_k _ _ (by decide), up2_k _ _ (by decide), up2_j _ _ hj2, up2_k _ _ (by decide), up2_k _ _ (by decide)]; exact t3

set_option maxRecDepth 100000 in
set_option maxHeartbeats 4000000 in
theorem m_X8_add (a b c : Int) (S : SS) (ho : 0 ≤ S 37 3 ∧ S 37 3 ≤ 40) : zM LX yX8_add cX8_add 4 (some .int) 0 0 [zr 37, zi a, zi b, zi c] S (fun r S' => (S 37 3 = 40 ∧ r = some (zi (-4)) ∧ S = S') ∨ (S 37 3 < 40 ∧ r = some (zi (S 37 3 + 1)) ∧ up2 (up2 (up2 (up2 S 38 (S 37 3).toNat a) 39 (S 37 3).toNat b) 40 (S 37 3).toNat c) 37 3 (S 37 3 + 1) = S')) := by
  refine zM_of (own := RX8) rfl (by decide +kernel) [some (zr 37), some (zi a), some (zi b), some (zi c)] (Nat.le_of_ble_eq_true rfl) rfl ?_
  intro x h
  refine z_aload_n (pc := 0) h dX8_add_0 rfl ?_
  refine z_getI (pc := 1) h dX8_add_1 clX8 lkX8_21 (by decide) rfl rfl ?_
  refine z_if_lt (pc := 4) (tgt := 16) h dX8_add_4 (by decide) ⟨by omega, by omega⟩ (fun hc4 => absurd hc4 (by omega)) (fun hc4 => ?_)
  refine z_aload_n (pc := 7) h dX8_add_7 rfl ?_
  refine z_getI (pc := 8) h dX8_add_8 clX8 lkX8_21 (by decide) rfl rfl ?_
  refine z_bipush (pc := 11) h dX8_add_11 rfl ?_
  refine z_icmp_lt (pc := 13) (tgt := 19) h dX8_add_13 (by decide) ⟨by omega, by omega⟩ ⟨by decide, by decide⟩ (fun hc13 => ?_) (fun hc13 => ?_)
  ·
    refine z_aload_n (pc := 19) h dX8_add_19 rfl ?_
    refine z_getR (a := 38) (pc := 20) h dX8_add_20 clX8 lkX8_9 (by decide) rfl rfl ?_
    refine z_aload_n (pc := 23) h dX8_add_23 rfl ?_
    refine z_getI (pc := 24) h dX8_add_24 clX8 lkX8_21 (by decide) rfl rfl ?_
    refine z_iload_n (pc := 27) h dX8_add_27 rfl ?_
    refine z_iast (pc := 28) h dX8_add_28 rfl (by decide) (by omega) (by omega) ?_
    refine z_aload_n (pc := 29) h dX8_add_29 rfl ?_
    refine z_getR (a := 39) (pc := 30) h dX8_add_30 clX8 lkX8_15 (by decide) rfl rfl ?_
    refine z_aload_n (pc := 33) h dX8_add_33 rfl ?_
    refine z_getI (pc := 34) h dX8_add_34 clX8 lkX8_21 (by decide) rfl rfl ?_
    refine z_cv (b := (S 37 3)) (by rw [up2_k _ _ (by decide)]) ?_
    refine z_iload_n (pc := 37) h dX8_add_37 rfl ?_
    refine z_iast (pc := 38) h dX8_add_38 rfl (by decide) (by omega) (by omega) ?_
    refine z_aload_n (pc := 39) h dX8_add_39 rfl ?_
    refine z_getR (a := 40) (pc := 40) h dX8_add_40 clX8 lkX8_18 (by decide) rfl rfl ?_
    refine z_aload_n (pc := 43) h dX8_add_43 rfl ?_
    refine z_getI (pc := 44) h dX8_add_44 clX8 lkX8_21 (by decide) rfl rfl ?_
    refine z_cv (b := (S 37 3)) (by rw [up2_k _ _ (by decide), up2_k _ _ (by decide)]) ?_
    refine z_iload_n (pc := 47) h dX8_add_47 rfl ?_
    refine z_iast (pc := 48) h dX8_add_48 rfl (by decide) (by omega) (by omega) ?_
    refine z_aload_n (pc := 49) h dX8_add_49 rfl ?_
    refine z_dup (pc := 50) h dX8_add_50 rfl ?_
    refine z_getI (pc := 51) h dX8_add_51 clX8 lkX8_21 (by decide) rfl rfl ?_
    refine z_cv (b := (S 37 3)) (by rw [up2_k _ _ (by decide), up2_k _ _ (by decide), up2_k _ _ (by decide)]) ?_
    refine z_iconst (pc := 54) h dX8_add_54 ?_
    refine z_iadd (pc := 55) h dX8_add_55 ?_
    refine z_putI (pc := 56) h dX8_add_56 clX8 lkX8_21 (by decide) rfl rfl rfl rfl ?_
    refine z_aload_n (pc := 59) h dX8_add_59 rfl ?_
    refine z_getI (pc := 60) h dX8_add_60 clX8 lkX8_21 (by decide) rfl rfl ?_
    refine z_cv (b := ((S 37 3) + 1)) (by rw [up2_s]) ?_
    exact z_iret (pc := 63) h dX8_add_63 rfl (Or.inr ⟨by omega, rfl, rfl⟩)
  ·
    refine z_bipush (pc := 16) h dX8_add_16 rfl ?_
    exact z_iret (pc := 18) h dX8_add_18 rfl (Or.inl ⟨by omega, rfl, rfl⟩)

set_option maxRecDepth 100000 in
set_option maxHeartbeats 4000000 in
theorem m_X8_toldOtherwise (a b : Int) (A S : SS) (ha : 0 ≤ a ∧ a ≤ 60) (hb : 0 ≤ b ∧ b ≤ 9) (hT : relT S A) (hm : MI A) : zM LX yX8_toldOtherwise cX8_toldOtherwise 6 (some .int) 0 0 [zr 37, zi a, zi b] S (fun r S' => S = S' ∧ r = some (zi (wrgF A a b))) := by
  refine zM_of (own := RX8) rfl (by decide +kernel) [some (zr 37), some (zi a), some (zi b), none, none, none] (Nat.le_of_ble_eq_true rfl) rfl ?_
  intro x h
  have hy := mi_y hm
  have e3 : S 37 3 = A 0 14 := hT.1
  refine z_iconst (pc := 0) h dX8_toldOtherwise_0 ?_
  refine z_istore_n (pc := 1) (loc' := [some (zr 37), some (zi a), some (zi b), some (zi 0), none, none]) h dX8_toldOtherwise_1 rfl (Nat.le_of_ble_eq_true rfl) rfl rfl ?_
  refine z_iconst (pc := 2) h dX8_toldOtherwise_2 ?_
  refine z_istore (pc := 3) (loc' := [some (zr 37), some (zi a), some (zi b), some (zi 0), some (zi 0), none]) h dX8_toldOtherwise_3 (Nat.le_of_ble_eq_true rfl) rfl rfl ?_
  have J5 : ∀ (N : Nat) (z i : Int) (hi : 0 ≤ i ∧ i ≤ A 0 14) (hz : z = wrgR A a b i.toNat) , (A 0 14 - i).toNat = N → zG x LX 5 [some (zr 37), some (zi a), some (zi b), some (zi z), some (zi i), none] ([] : List zV) S := by
    intro N
    induction N using Nat.strongRecOn with
    | _ N ih5 => ?_
    intro z i hi hz hN5
    refine z_iload (pc := 5) h dX8_toldOtherwise_5 rfl ?_
    refine z_aload_n (pc := 7) h dX8_toldOtherwise_7 rfl ?_
    refine z_getI (pc := 8) h dX8_toldOtherwise_8 clX8 lkX8_21 (by decide) rfl rfl ?_
    refine z_icmp_ge (pc := 11) (tgt := 70) h dX8_toldOtherwise_11 (by decide) ⟨by omega, by omega⟩ ⟨by omega, by omega⟩ (fun hc11 => ?_) (fun hc11 => ?_)
    ·
      refine z_iload_n (pc := 70) h dX8_toldOtherwise_70 rfl ?_
      exact z_iret (pc := 71) h dX8_toldOtherwise_71 rfl ⟨rfl, congrArg (fun z => some (zi z)) (by unfold wrgF; rw [hz, show i = A 0 14 by omega])⟩
    ·
      have hy1 := mi_yp hm i.toNat
      have hy2 := mi_yb hm i.toNat
      have hy3 := mi_yo hm i.toNat
      have hmb := mul_bd (a := b) (A := 9) hb (b := A 12 i.toNat) (B := 9) hy2
      have hwb := wrg_b A a b i.toNat
      obtain ⟨t1, t2, t3⟩ := hT.2 i.toNat (by omega)
      refine z_iload (pc := 14) h dX8_toldOtherwise_14 rfl ?_
      refine z_bipush (pc := 16) h dX8_toldOtherwise_16 rfl ?_
      refine z_icmp_ge (pc := 18) (tgt := 70) h dX8_toldOtherwise_18 (by decide) ⟨by omega, by omega⟩ ⟨by decide, by decide⟩ (fun hc18 => absurd hc18 (by omega)) (fun hc18 => ?_)
      have J47 : ∀ (v : Int) (hv : v = if a + b * A 12 i.toNat ≤ A 11 i.toNat then (1 : Int) else 0) (hv1 : v = 0 ∨ v = 1) , zG x LX 47 [some (zr 37), some (zi a), some (zi b), some (zi z), some (zi i), none] [zi v] S := by
        intro v hv hv1
        refine z_istore (pc := 47) (loc' := [some (zr 37), some (zi a), some (zi b), some (zi z), some (zi i), some (zi v)]) h dX8_toldOtherwise_47 (Nat.le_of_ble_eq_true rfl) rfl rfl ?_
        have J64 : ∀ (z2 : Int) (hz2 : z2 = wrgR A a b (i + 1).toNat) , zG x LX 64 [some (zr 37), some (zi a), some (zi b), some (zi z2), some (zi i), some (zi v)] ([] : List zV) S := by
          intro z2 hz2
          refine z_iinc (pc := 64) (loc' := [some (zr 37), some (zi a), some (zi b), some (zi z2), some (zi (i + 1)), some (zi v)]) h dX8_toldOtherwise_64 rfl (Nat.le_of_ble_eq_true rfl) rfl rfl ?_
          refine z_goto (pc := 67) (tgt := 5) h dX8_toldOtherwise_67 (by decide) ?_
          refine z_forget [true, true, true, true, true, false] (loc' := [some (zr 37), some (zi a), some (zi b), some (zi z2), some (zi (i + 1)), none]) rfl ?_
          exact ih5 _ (by omega) z2 (i + 1) (by omega) (by exact hz2) rfl
        refine z_iload (pc := 49) h dX8_toldOtherwise_49 rfl ?_
        refine z_aload_n (pc := 51) h dX8_toldOtherwise_51 rfl ?_
        refine z_getR (a := 40) (pc := 52) h dX8_toldOtherwise_52 clX8 lkX8_18 (by decide) rfl rfl ?_
        refine z_iload (pc := 55) h dX8_toldOtherwise_55 rfl ?_
        refine z_iald (pc := 57) h dX8_toldOtherwise_57 rfl (by decide) (by omega) (by omega) ?_
        refine z_cv (b := (A 13 i.toNat)) (by exact t3) ?_
        refine z_icmp_eq (pc := 58) (tgt := 64) h dX8_toldOtherwise_58 (by decide) ⟨by omega, by omega⟩ ⟨by omega, by omega⟩ (fun hc58 => ?_) (fun hc58 => ?_)
        ·
          exact J64 z (by rw [wrg_s _ _ _ hi.1, ← hz]; unfold trsB; rw [← hv]; first | (rw [if_pos (by omega)]; omega) | (rw [if_neg (by omega)]))
        ·
          refine z_iinc (pc := 61) (loc' := [some (zr 37), some (zi a), some (zi b), some (zi (z + 1)), some (zi i), some (zi v)]) h dX8_toldOtherwise_61 rfl (Nat.le_of_ble_eq_true rfl) rfl rfl ?_
          exact J64 (z + 1) (by rw [wrg_s _ _ _ hi.1, ← hz]; unfold trsB; rw [← hv]; first | (rw [if_pos (by omega)]; omega) | (rw [if_neg (by omega)]))
      refine z_aload_n (pc := 21) h dX8_toldOtherwise_21 rfl ?_
      refine z_getR (a := 38) (pc := 22) h dX8_toldOtherwise_22 clX8 lkX8_9 (by decide) rfl rfl ?_
      refine z_iload (pc := 25) h dX8_toldOtherwise_25 rfl ?_
      refine z_iald (pc := 27) h dX8_toldOtherwise_27 rfl (by decide) (by omega) (by omega) ?_
      refine z_cv (b := (A 11 i.toNat)) (by exact t1) ?_
      refine z_iload_n (pc := 28) h dX8_toldOtherwise_28 rfl ?_
      refine z_iload_n (pc := 29) h dX8_toldOtherwise_29 rfl ?_
      refine z_aload_n (pc := 30) h dX8_toldOtherwise_30 rfl ?_
      refine z_getR (a := 39) (pc := 31) h dX8_toldOtherwise_31 clX8 lkX8_15 (by decide) rfl rfl ?_
      refine z_iload (pc := 34) h dX8_toldOtherwise_34 rfl ?_
      refine z_iald (pc := 36) h dX8_toldOtherwise_36 rfl (by decide) (by omega) (by omega) ?_
      refine z_cv (b := (A 12 i.toNat)) (by exact t2) ?_
      refine z_imul (pc := 37) h dX8_toldOtherwise_37 ?_
      refine z_iadd (pc := 38) h dX8_toldOtherwise_38 ?_
      refine z_icmp_lt (pc := 39) (tgt := 46) h dX8_toldOtherwise_39 (by decide) ⟨by omega, by omega⟩ ⟨by omega, by omega⟩ (fun hc39 => ?_) (fun hc39 => ?_)
      ·
        refine z_iconst (pc := 46) h dX8_toldOtherwise_46 ?_
        exact J47 0 (by first | (rw [if_pos (by omega)]) | (rw [if_neg (by omega)])) (by omega)
      ·
        refine z_iconst (pc := 42) h dX8_toldOtherwise_42 ?_
        refine z_goto (pc := 43) (tgt := 47) h dX8_toldOtherwise_43 (by decide) ?_
        exact J47 1 (by first | (rw [if_pos (by omega)]) | (rw [if_neg (by omega)])) (by omega)
  exact J5 _ 0 0 (by omega) (rfl) rfl

set_option maxRecDepth 100000 in
set_option maxHeartbeats 4000000 in
theorem m_X8_search (A S : SS) (hT : relT S A) (hm : MI A) : zM LX yX8_search cX8_search 4 none 1 25 [zr 37] S (fun r S' => r = none ∧ (∀ x y, ¬ (x = 37 ∧ 4 ≤ y) → S' x y = S x y) ∧ S' 37 4 = (lnF A).1 / 10 ∧ S' 37 5 = (lnF A).1 % 10 ∧ S' 37 6 = (lnF A).2) := by
  refine zM_of (own := RX8) rfl (by decide +kernel) [some (zr 37), none, none, none] (Nat.le_of_ble_eq_true rfl) rfl ?_
  intro x h
  refine z_aload_n (pc := 0) h dX8_search_0 rfl ?_
  refine z_bipush (pc := 1) h dX8_search_1 rfl ?_
  refine z_putI (pc := 3) h dX8_search_3 clX8 lkX8_25 (by decide) rfl rfl rfl rfl ?_
  refine z_iconst (pc := 6) h dX8_search_6 ?_
  refine z_istore_n (pc := 7) (loc' := [some (zr 37), some (zi 0), none, none]) h dX8_search_7 rfl (Nat.le_of_ble_eq_true rfl) rfl rfl ?_
  have J8 : ∀ (N : Nat) (s : Int) (S1 : SS) (hs : 0 ≤ s ∧ s ≤ 61) (hF : ∀ x y, ¬ (x = 37 ∧ 4 ≤ y) → S1 x y = S x y) (hP : lnP A S1 (10 * s)) (h6 : 0 ≤ S1 37 6 ∧ S1 37 6 ≤ 41) , (61 - s).toNat = N → zG x LX 8 [some (zr 37), some (zi s), none, none] ([] : List zV) S1 := by
    intro N
    induction N using Nat.strongRecOn with
    | _ N ih8 => ?_
    intro s S1 hs hF hP h6 hN8
    refine z_iload_n (pc := 8) h dX8_search_8 rfl ?_
    refine z_bipush (pc := 9) h dX8_search_9 rfl ?_
    refine z_icmp_gt (pc := 11) (tgt := 64) h dX8_search_11 (by decide) ⟨by omega, by omega⟩ ⟨by decide, by decide⟩ (fun hc11 => ?_) (fun hc11 => ?_)
    ·
      exact z_vret (pc := 64) h dX8_search_64 rfl (⟨rfl, hF, lnP_e hP (by omega) hm⟩)
    ·
      refine z_iconst (pc := 14) h dX8_search_14 ?_
      refine z_istore_n (pc := 15) (loc' := [some (zr 37), some (zi s), some (zi 0), none]) h dX8_search_15 rfl (Nat.le_of_ble_eq_true rfl) rfl rfl ?_
      have J16 : ∀ (N : Nat) (p : Int) (S2 : SS) (hp : 0 ≤ p ∧ p ≤ 10) (hF2 : ∀ x y, ¬ (x = 37 ∧ 4 ≤ y) → S2 x y = S x y) (hQ : lnP A S2 (10 * s + p)) (h62 : 0 ≤ S2 37 6 ∧ S2 37 6 ≤ 41) , (10 - p).toNat = N → zG x LX 16 [some (zr 37), some (zi s), some (zi p), none] ([] : List zV) S2 := by
        intro N
        induction N using Nat.strongRecOn with
        | _ N ih16 => ?_
        intro p S2 hp hF2 hQ h62 hN16
        refine z_iload_n (pc := 16) h dX8_search_16 rfl ?_
        refine z_bipush (pc := 17) h dX8_search_17 rfl ?_
        refine z_icmp_gt (pc := 19) (tgt := 58) h dX8_search_19 (by decide) ⟨by omega, by omega⟩ ⟨by decide, by decide⟩ (fun hc19 => ?_) (fun hc19 => ?_)
        ·
          refine z_iinc (pc := 58) (loc' := [some (zr 37), some (zi (s + 1)), some (zi p), none]) h dX8_search_58 rfl (Nat.le_of_ble_eq_true rfl) rfl rfl ?_
          refine z_goto (pc := 61) (tgt := 8) h dX8_search_61 (by decide) ?_
          refine z_forget [true, true, false, true] (loc' := [some (zr 37), some (zi (s + 1)), none, none]) rfl ?_
          exact ih8 _ (by omega) (s + 1) S2 (by omega) (by exact hF2) (by rw [show 10 * (s + 1) = 10 * s + p by omega]; exact hQ) (by exact h62) rfl
        ·
          have hT2 : relT S2 A := relT_keep hT (hF2 _ _ (by omega)) (funext fun y => hF2 _ _ (by omega)) (funext fun y => hF2 _ _ (by omega)) (funext fun y => hF2 _ _ (by omega)) rfl rfl rfl rfl
          refine z_aload_n (pc := 22) h dX8_search_22 rfl ?_
          refine z_iload_n (pc := 23) h dX8_search_23 rfl ?_
          refine z_iload_n (pc := 24) h dX8_search_24 rfl ?_
          refine z_callV (pc := 25) (rest := ([] : List zV)) h (m_X8_toldOtherwise s p A S2 (by first | assumption | omega) (by first | assumption | omega) hT2 (by first | assumption | omega)) dX8_search_25 mcX8_toldOtherwise miX8_toldOtherwise mlX8_28 rfl rfl ⟨by decide, by decide⟩ clX8 rfl rfl rfl (Nat.le_of_ble_eq_true rfl) ?_
          rintro _ _ ⟨rfl, rfl⟩
          show zG x LX 28 [some (zr 37), some (zi s), some (zi p), none] [zi (wrgF A s p)] S2
          refine z_istore_n (pc := 28) (loc' := [some (zr 37), some (zi s), some (zi p), some (zi (wrgF A s p))]) h dX8_search_28 rfl (Nat.le_of_ble_eq_true rfl) rfl rfl ?_
          have hwb := wrgF_b hm s p
          refine z_iload_n (pc := 29) h dX8_search_29 rfl ?_
          refine z_aload_n (pc := 30) h dX8_search_30 rfl ?_
          refine z_getI (pc := 31) h dX8_search_31 clX8 lkX8_25 (by decide) rfl rfl ?_
          refine z_icmp_ge (pc := 34) (tgt := 52) h dX8_search_34 (by decide) ⟨by omega, by omega⟩ ⟨by omega, by omega⟩ (fun hc34 => ?_) (fun hc34 => ?_)
          ·
            refine z_iinc (pc := 52) (loc' := [some (zr 37), some (zi s), some (zi (p + 1)), some (zi (wrgF A s p))]) h dX8_search_52 rfl (Nat.le_of_ble_eq_true rfl) rfl rfl ?_
            refine z_goto (pc := 55) (tgt := 16) h dX8_search_55 (by decide) ?_
            refine z_forget [true, true, true, false] (loc' := [some (zr 37), some (zi s), some (zi (p + 1)), none]) rfl ?_
            exact ih16 _ (by omega) (p + 1) S2 (by omega) (by first | exact hF2 | (intro x y q; rw [up2_e, if_neg (by omega), up2_e, if_neg (by omega), up2_e, if_neg (by omega)]; exact hF2 x y q)) (by first | exact lnP_f hQ (by omega) (by omega) rfl hc34 | exact lnP_t hQ (by omega) (by omega) rfl hc34 (by rw [up2_j _ _ (by decide), up2_j _ _ (by decide), up2_s]) (by rw [up2_j _ _ (by decide), up2_s]) (up2_s _ _ _ _)) (by first | exact h62 | (rw [up2_j _ _ (by decide), up2_j _ _ (by decide), up2_s]; omega)) rfl
          ·
            refine z_aload_n (pc := 37) h dX8_search_37 rfl ?_
            refine z_iload_n (pc := 38) h dX8_search_38 rfl ?_
            refine z_putI (pc := 39) h dX8_search_39 clX8 lkX8_25 (by decide) rfl rfl rfl rfl ?_
            refine z_aload_n (pc := 42) h dX8_search_42 rfl ?_
            refine z_iload_n (pc := 43) h dX8_search_43 rfl ?_
            refine z_putI (pc := 44) h dX8_search_44 clX8 lkX8_32 (by decide) rfl rfl rfl rfl ?_
            refine z_aload_n (pc := 47) h dX8_search_47 rfl ?_
            refine z_iload_n (pc := 48) h dX8_search_48 rfl ?_
            refine z_putI (pc := 49) h dX8_search_49 clX8 lkX8_35 (by decide) rfl rfl rfl rfl ?_
            refine z_iinc (pc := 52) (loc' := [some (zr 37), some (zi s), some (zi (p + 1)), some (zi (wrgF A s p))]) h dX8_search_52 rfl (Nat.le_of_ble_eq_true rfl) rfl rfl ?_
            refine z_goto (pc := 55) (tgt := 16) h dX8_search_55 (by decide) ?_
            refine z_forget [true, true, true, false] (loc' := [some (zr 37), some (zi s), some (zi (p + 1)), none]) rfl ?_
            exact ih16 _ (by omega) (p + 1) (up2 (up2 (up2 S2 37 6 (wrgF A s p)) 37 4 s) 37 5 p) (by omega) (by first | exact hF2 | (intro x y q; rw [up2_e, if_neg (by omega), up2_e, if_neg (by omega), up2_e, if_neg (by omega)]; exact hF2 x y q)) (by first | exact lnP_f hQ (by omega) (by omega) rfl hc34 | exact lnP_t hQ (by omega) (by omega) rfl hc34 (by rw [up2_j _ _ (by decide), up2_j _ _ (by decide), up2_s]) (by rw [up2_j _ _ (by decide), up2_s]) (up2_s _ _ _ _)) (by first | exact h62 | (rw [up2_j _ _ (by decide), up2_j _ _ (by decide), up2_s]; omega)) rfl
      exact J16 _ 0 S1 (by omega) (by exact hF) (by rw [Int.add_zero]; exact hP) (by exact h6) rfl
  exact J8 _ 0 (up2 S 37 6 41) (by omega) (fun x y q => by rw [up2_e, if_neg (by omega)]) (lnP_0 (up2_s _ _ _ _)) (by rw [up2_s]; omega) rfl

set_option maxRecDepth 100000 in
set_option maxHeartbeats 4000000 in
theorem m_X10_tries (a b c : Int) (A S : SS) (ha : r32 a) (hb : r32 b) (hc : r32 c) (hR : cRel S A) : zM LX yX10_tries cX10_tries 4 (some .int) 1 23 [zr 0, zi a, zi b, zi c] S (fun r S' => r = some (zi (sp_tries A a b c)) ∧ cRel S' (st_tries A a b c)) := by
  refine zM_of (own := RX10) rfl (by decide +kernel) [some (zr 0), some (zi a), some (zi b), some (zi c)] (Nat.le_of_ble_eq_true rfl) rfl ?_
  intro x h
  have hT := hR.2.2.2.2.2
  have hm := hR.1
  have hy := mi_y hm
  have e3 : S 37 3 = A 0 14 := hT.1
  refine z_iload_n (pc := 0) h dX10_tries_0 rfl ?_
  refine z_iconst (pc := 1) h dX10_tries_1 ?_
  refine z_bipush (pc := 2) h dX10_tries_2 rfl ?_
  refine z_callS (pc := 4) (rest := ([] : List zV)) h (m_X10_within a 1 60 S ⟨by omega, by omega⟩ ⟨by decide, by decide⟩ ⟨by decide, by decide⟩) dX10_tries_4 mcX10_within msX10_within mlX10_75 rfl rfl ⟨by decide, by decide⟩ rfl (Nat.le_of_ble_eq_true rfl) ?_
  rintro _ _ ⟨rfl, ⟨hr4, rfl⟩ | ⟨hr4, rfl⟩⟩
  ·
    show zG x LX 7 [some (zr 0), some (zi a), some (zi b), some (zi c)] [zi 1] S
    refine z_if_eq (pc := 7) (tgt := 29) h dX10_tries_7 (by decide) ⟨by decide, by decide⟩ (fun hc7 => absurd hc7 (by decide)) (fun hc7 => ?_)
    refine z_iload_n (pc := 10) h dX10_tries_10 rfl ?_
    refine z_iconst (pc := 11) h dX10_tries_11 ?_
    refine z_bipush (pc := 12) h dX10_tries_12 rfl ?_
    refine z_callS (pc := 14) (rest := ([] : List zV)) h (m_X10_within b 0 9 S ⟨by omega, by omega⟩ ⟨by decide, by decide⟩ ⟨by decide, by decide⟩) dX10_tries_14 mcX10_within msX10_within mlX10_75 rfl rfl ⟨by decide, by decide⟩ rfl (Nat.le_of_ble_eq_true rfl) ?_
    rintro _ _ ⟨rfl, ⟨hr14, rfl⟩ | ⟨hr14, rfl⟩⟩
    ·
      show zG x LX 17 [some (zr 0), some (zi a), some (zi b), some (zi c)] [zi 1] S
      refine z_if_eq (pc := 17) (tgt := 29) h dX10_tries_17 (by decide) ⟨by decide, by decide⟩ (fun hc17 => absurd hc17 (by decide)) (fun hc17 => ?_)
      refine z_iload_n (pc := 20) h dX10_tries_20 rfl ?_
      refine z_iconst (pc := 21) h dX10_tries_21 ?_
      refine z_iconst (pc := 22) h dX10_tries_22 ?_
      refine z_callS (pc := 23) (rest := ([] : List zV)) h (m_X10_within c 0 1 S ⟨by omega, by omega⟩ ⟨by decide, by decide⟩ ⟨by decide, by decide⟩) dX10_tries_23 mcX10_within msX10_within mlX10_75 rfl rfl ⟨by decide, by decide⟩ rfl (Nat.le_of_ble_eq_true rfl) ?_
      rintro _ _ ⟨rfl, ⟨hr23, rfl⟩ | ⟨hr23, rfl⟩⟩
      ·
        show zG x LX 26 [some (zr 0), some (zi a), some (zi b), some (zi c)] [zi 1] S
        refine z_if_ne (pc := 26) (tgt := 32) h dX10_tries_26 (by decide) ⟨by decide, by decide⟩ (fun hc26 => ?_) (fun hc26 => absurd hc26 (by decide))
        refine z_aload_n (pc := 32) h dX10_tries_32 rfl ?_
        refine z_getR (a := 37) (pc := 33) h dX10_tries_33 clX10 lkX10_53 (by decide) rfl rfl ?_
        refine z_iload_n (pc := 36) h dX10_tries_36 rfl ?_
        refine z_iload_n (pc := 37) h dX10_tries_37 rfl ?_
        refine z_iload_n (pc := 38) h dX10_tries_38 rfl ?_
        refine z_callV (pc := 39) (rest := ([] : List zV)) h (m_X8_add a b c S (by first | assumption | omega)) dX10_tries_39 mcX8_add miX8_add mlX10_238 rfl rfl ⟨by decide, by decide⟩ clX8 rfl rfl rfl (Nat.le_of_ble_eq_true rfl) ?_
        rintro _ _ (⟨hr39, rfl, rfl⟩ | ⟨hr39, rfl, rfl⟩)
        ·
          show zG x LX 42 [some (zr 0), some (zi a), some (zi b), some (zi c)] [zi (-4)] S
          refine z_iret (pc := 42) h dX10_tries_42 rfl ?_
          first
            | exact ⟨ap_some (by unfold sp_tries; rw [if_pos (by omega), if_pos (by omega)]), by unfold st_tries; rw [if_pos (by omega), if_pos (by omega)]; exact hR⟩
            | exact ⟨ap_some (by unfold sp_tries; rw [if_pos (by omega), if_neg (by omega), e3]), by unfold st_tries; rw [if_pos (by omega), if_neg (by omega)]; exact cRel_tr hR (by omega) ⟨e3, by omega⟩⟩
        ·
          show zG x LX 42 [some (zr 0), some (zi a), some (zi b), some (zi c)] [zi (S 37 3 + 1)] (up2 (up2 (up2 (up2 S 38 (S 37 3).toNat a) 39 (S 37 3).toNat b) 40 (S 37 3).toNat c) 37 3 (S 37 3 + 1))
          refine z_iret (pc := 42) h dX10_tries_42 rfl ?_
          first
            | exact ⟨ap_some (by unfold sp_tries; rw [if_pos (by omega), if_pos (by omega)]), by unfold st_tries; rw [if_pos (by omega), if_pos (by omega)]; exact hR⟩
            | exact ⟨ap_some (by unfold sp_tries; rw [if_pos (by omega), if_neg (by omega), e3]), by unfold st_tries; rw [if_pos (by omega), if_neg (by omega)]; exact cRel_tr hR (by omega) ⟨e3, by omega⟩⟩
      ·
        show zG x LX 26 [some (zr 0), some (zi a), some (zi b), some (zi c)] [zi 0] S
        refine z_if_ne (pc := 26) (tgt := 32) h dX10_tries_26 (by decide) ⟨by decide, by decide⟩ (fun hc26 => absurd hc26 (by decide)) (fun hc26 => ?_)
        refine z_bipush (pc := 29) h dX10_tries_29 rfl ?_
        refine z_iret (pc := 31) h dX10_tries_31 rfl ?_
        exact ⟨ap_some (by unfold sp_tries; rw [if_neg (by omega)]), by unfold st_tries; rw [if_neg (by omega)]; exact hR⟩
    ·
      show zG x LX 17 [some (zr 0), some (zi a), some (zi b), some (zi c)] [zi 0] S
      refine z_if_eq (pc := 17) (tgt := 29) h dX10_tries_17 (by decide) ⟨by decide, by decide⟩ (fun hc17 => ?_) (fun hc17 => absurd hc17 (by decide))
      refine z_bipush (pc := 29) h dX10_tries_29 rfl ?_
      refine z_iret (pc := 31) h dX10_tries_31 rfl ?_
      exact ⟨ap_some (by unfold sp_tries; rw [if_neg (by omega)]), by unfold st_tries; rw [if_neg (by omega)]; exact hR⟩
  ·
    show zG x LX 7 [some (zr 0), some (zi a), some (zi b), some (zi c)] [zi 0] S
    refine z_if_eq (pc := 7) (tgt := 29) h dX10_tries_7 (by decide) ⟨by decide, by decide⟩ (fun hc7 => ?_) (fun hc7 => absurd hc7 (by decide))
    refine z_bipush (pc := 29) h dX10_tries_29 rfl ?_
    refine z_iret (pc := 31) h dX10_tries_31 rfl ?_
    exact ⟨ap_some (by unfold sp_tries; rw [if_neg (by omega)]), by unfold st_tries; rw [if_neg (by omega)]; exact hR⟩

set_option maxRecDepth 100000 in
set_option maxHeartbeats 4000000 in
theorem m_X10_wrong (a b : Int) (A S : SS) (ha : r32 a) (hb : r32 b) (hR : cRel S A) : zM LX yX10_wrong cX10_wrong 3 (some .int) 1 25 [zr 0, zi a, zi b] S (fun r S' => S = S' ∧ r = some (zi (sp_wrong A a b))) := by
  refine zM_of (own := RX10) rfl (by decide +kernel) [some (zr 0), some (zi a), some (zi b)] (Nat.le_of_ble_eq_true rfl) rfl ?_
  intro x h
  have hT := hR.2.2.2.2.2
  have hm := hR.1
  refine z_iload_n (pc := 0) h dX10_wrong_0 rfl ?_
  refine z_iconst (pc := 1) h dX10_wrong_1 ?_
  refine z_bipush (pc := 2) h dX10_wrong_2 rfl ?_
  refine z_callS (pc := 4) (rest := ([] : List zV)) h (m_X10_within a 0 60 S ⟨by omega, by omega⟩ ⟨by decide, by decide⟩ ⟨by decide, by decide⟩) dX10_wrong_4 mcX10_within msX10_within mlX10_75 rfl rfl ⟨by decide, by decide⟩ rfl (Nat.le_of_ble_eq_true rfl) ?_
  rintro _ _ ⟨rfl, ⟨hr4, rfl⟩ | ⟨hr4, rfl⟩⟩
  ·
    show zG x LX 7 [some (zr 0), some (zi a), some (zi b)] [zi 1] S
    refine z_if_eq (pc := 7) (tgt := 20) h dX10_wrong_7 (by decide) ⟨by decide, by decide⟩ (fun hc7 => absurd hc7 (by decide)) (fun hc7 => ?_)
    refine z_iload_n (pc := 10) h dX10_wrong_10 rfl ?_
    refine z_iconst (pc := 11) h dX10_wrong_11 ?_
    refine z_bipush (pc := 12) h dX10_wrong_12 rfl ?_
    refine z_callS (pc := 14) (rest := ([] : List zV)) h (m_X10_within b 0 9 S ⟨by omega, by omega⟩ ⟨by decide, by decide⟩ ⟨by decide, by decide⟩) dX10_wrong_14 mcX10_within msX10_within mlX10_75 rfl rfl ⟨by decide, by decide⟩ rfl (Nat.le_of_ble_eq_true rfl) ?_
    rintro _ _ ⟨rfl, ⟨hr14, rfl⟩ | ⟨hr14, rfl⟩⟩
    ·
      show zG x LX 17 [some (zr 0), some (zi a), some (zi b)] [zi 1] S
      refine z_if_ne (pc := 17) (tgt := 23) h dX10_wrong_17 (by decide) ⟨by decide, by decide⟩ (fun hc17 => ?_) (fun hc17 => absurd hc17 (by decide))
      refine z_aload_n (pc := 23) h dX10_wrong_23 rfl ?_
      refine z_getR (a := 37) (pc := 24) h dX10_wrong_24 clX10 lkX10_53 (by decide) rfl rfl ?_
      refine z_iload_n (pc := 27) h dX10_wrong_27 rfl ?_
      refine z_iload_n (pc := 28) h dX10_wrong_28 rfl ?_
      refine z_callV (pc := 29) (rest := ([] : List zV)) h (m_X8_toldOtherwise a b A S (by first | assumption | omega) (by first | assumption | omega) (by first | assumption | omega) (by first | assumption | omega)) dX10_wrong_29 mcX8_toldOtherwise miX8_toldOtherwise mlX10_240 rfl rfl ⟨by decide, by decide⟩ clX8 rfl rfl rfl (Nat.le_of_ble_eq_true rfl) ?_
      rintro _ _ ⟨rfl, rfl⟩
      show zG x LX 32 [some (zr 0), some (zi a), some (zi b)] [zi (wrgF A a b)] S
      exact z_iret (pc := 32) h dX10_wrong_32 rfl ⟨rfl, congrArg (fun z => some (zi z)) (by unfold sp_wrong; first | (rw [if_pos (by omega)]) | (rw [if_neg (by omega)]))⟩
    ·
      show zG x LX 17 [some (zr 0), some (zi a), some (zi b)] [zi 0] S
      refine z_if_ne (pc := 17) (tgt := 23) h dX10_wrong_17 (by decide) ⟨by decide, by decide⟩ (fun hc17 => absurd hc17 (by decide)) (fun hc17 => ?_)
      refine z_bipush (pc := 20) h dX10_wrong_20 rfl ?_
      exact z_iret (pc := 22) h dX10_wrong_22 rfl ⟨rfl, congrArg (fun z => some (zi z)) (by unfold sp_wrong; first | (rw [if_pos (by omega)]) | (rw [if_neg (by omega)]))⟩
  ·
    show zG x LX 7 [some (zr 0), some (zi a), some (zi b)] [zi 0] S
    refine z_if_eq (pc := 7) (tgt := 20) h dX10_wrong_7 (by decide) ⟨by decide, by decide⟩ (fun hc7 => ?_) (fun hc7 => absurd hc7 (by decide))
    refine z_bipush (pc := 20) h dX10_wrong_20 rfl ?_
    exact z_iret (pc := 22) h dX10_wrong_22 rfl ⟨rfl, congrArg (fun z => some (zi z)) (by unfold sp_wrong; first | (rw [if_pos (by omega)]) | (rw [if_neg (by omega)]))⟩

set_option maxRecDepth 100000 in
set_option maxHeartbeats 4000000 in
theorem m_X10_line (a : Int) (A S : SS) (ha : r32 a) (hR : cRel S A) : zM LX yX10_line cX10_line 2 (some .int) 2 48 [zr 0, zi a] S (fun r S' => r = some (zi (sp_line A a)) ∧ cRel S' A) := by
  refine zM_of (own := RX10) rfl (by decide +kernel) [some (zr 0), some (zi a)] (Nat.le_of_ble_eq_true rfl) rfl ?_
  intro x h
  have hT := hR.2.2.2.2.2
  have hm := hR.1
  have hy := mi_y hm
  have e3 : S 37 3 = A 0 14 := hT.1
  refine z_iload_n (pc := 0) h dX10_line_0 rfl ?_
  refine z_iconst (pc := 1) h dX10_line_1 ?_
  refine z_iconst (pc := 2) h dX10_line_2 ?_
  refine z_callS (pc := 3) (rest := ([] : List zV)) h (m_X10_within a 0 2 S ⟨by omega, by omega⟩ ⟨by decide, by decide⟩ ⟨by decide, by decide⟩) dX10_line_3 mcX10_within msX10_within mlX10_75 rfl rfl ⟨by decide, by decide⟩ rfl (Nat.le_of_ble_eq_true rfl) ?_
  rintro _ _ ⟨rfl, ⟨hr3, rfl⟩ | ⟨hr3, rfl⟩⟩
  ·
    show zG x LX 6 [some (zr 0), some (zi a)] [zi 1] S
    refine z_if_ne (pc := 6) (tgt := 12) h dX10_line_6 (by decide) ⟨by decide, by decide⟩ (fun hc6 => ?_) (fun hc6 => absurd hc6 (by decide))
    refine z_aload_n (pc := 12) h dX10_line_12 rfl ?_
    refine z_getR (a := 37) (pc := 13) h dX10_line_13 clX10 lkX10_53 (by decide) rfl rfl ?_
    refine z_getI (pc := 16) h dX10_line_16 clX8 lkX10_243 (by decide) rfl rfl ?_
    refine z_if_ne (pc := 19) (tgt := 25) h dX10_line_19 (by decide) ⟨by omega, by omega⟩ (fun hc19 => ?_) (fun hc19 => ?_)
    ·
      refine z_aload_n (pc := 25) h dX10_line_25 rfl ?_
      refine z_getR (a := 37) (pc := 26) h dX10_line_26 clX10 lkX10_53 (by decide) rfl rfl ?_
      refine z_callV (pc := 29) (rest := ([] : List zV)) h (m_X8_search A S (by first | assumption | omega) (by first | assumption | omega)) dX10_line_29 mcX8_search miX8_search mlX10_246 rfl rfl ⟨by decide, by decide⟩ clX8 rfl rfl rfl (Nat.le_of_ble_eq_true rfl) ?_
      rintro _ S29 ⟨rfl, hr29f, hr29a, hr29b, hr29c⟩
      show zG x LX 32 [some (zr 0), some (zi a)] ([] : List zV) S29
      refine z_iload_n (pc := 32) h dX10_line_32 rfl ?_
      refine z_if_ne (pc := 33) (tgt := 46) h dX10_line_33 (by decide) ⟨by omega, by omega⟩ (fun hc33 => ?_) (fun hc33 => ?_)
      ·
        refine z_iload_n (pc := 46) h dX10_line_46 rfl ?_
        refine z_iconst (pc := 47) h dX10_line_47 ?_
        refine z_icmp_ne (pc := 48) (tgt := 61) h dX10_line_48 (by decide) ⟨by omega, by omega⟩ ⟨by decide, by decide⟩ (fun hc48 => ?_) (fun hc48 => ?_)
        ·
          refine z_aload_n (pc := 61) h dX10_line_61 rfl ?_
          refine z_getR (a := 37) (pc := 62) h dX10_line_62 clX10 lkX10_53 (by decide) rfl rfl ?_
          refine z_getI (pc := 65) h dX10_line_65 clX8 lkX10_254 (by decide) rfl rfl ?_
          refine z_iret (pc := 68) h dX10_line_68 rfl ?_
          refine ⟨ap_some ?_, cRel_keep hR (fun a b h1 h2 h3 h4 h5 => hr29f a b (by omega))⟩
          unfold sp_line
          rw [if_pos (by omega)]
          unfold lineF
          first
            | (rw [if_neg (by omega), if_pos (by omega)]; exact hr29a)
            | (rw [if_neg (by omega), if_neg (by omega), if_pos (by omega)]; exact hr29b)
            | (rw [if_neg (by omega), if_neg (by omega), if_neg (by omega)]; exact hr29c)
        ·
          refine z_aload_n (pc := 51) h dX10_line_51 rfl ?_
          refine z_getR (a := 37) (pc := 52) h dX10_line_52 clX10 lkX10_53 (by decide) rfl rfl ?_
          refine z_getI (pc := 55) h dX10_line_55 clX8 lkX10_251 (by decide) rfl rfl ?_
          refine z_goto (pc := 58) (tgt := 68) h dX10_line_58 (by decide) ?_
          refine z_iret (pc := 68) h dX10_line_68 rfl ?_
          refine ⟨ap_some ?_, cRel_keep hR (fun a b h1 h2 h3 h4 h5 => hr29f a b (by omega))⟩
          unfold sp_line
          rw [if_pos (by omega)]
          unfold lineF
          first
            | (rw [if_neg (by omega), if_pos (by omega)]; exact hr29a)
            | (rw [if_neg (by omega), if_neg (by omega), if_pos (by omega)]; exact hr29b)
            | (rw [if_neg (by omega), if_neg (by omega), if_neg (by omega)]; exact hr29c)
      ·
        refine z_aload_n (pc := 36) h dX10_line_36 rfl ?_
        refine z_getR (a := 37) (pc := 37) h dX10_line_37 clX10 lkX10_53 (by decide) rfl rfl ?_
        refine z_getI (pc := 40) h dX10_line_40 clX8 lkX10_248 (by decide) rfl rfl ?_
        refine z_goto (pc := 43) (tgt := 68) h dX10_line_43 (by decide) ?_
        refine z_iret (pc := 68) h dX10_line_68 rfl ?_
        refine ⟨ap_some ?_, cRel_keep hR (fun a b h1 h2 h3 h4 h5 => hr29f a b (by omega))⟩
        unfold sp_line
        rw [if_pos (by omega)]
        unfold lineF
        first
          | (rw [if_neg (by omega), if_pos (by omega)]; exact hr29a)
          | (rw [if_neg (by omega), if_neg (by omega), if_pos (by omega)]; exact hr29b)
          | (rw [if_neg (by omega), if_neg (by omega), if_neg (by omega)]; exact hr29c)
    ·
      refine z_bipush (pc := 22) h dX10_line_22 rfl ?_
      refine z_iret (pc := 24) h dX10_line_24 rfl ?_
      exact ⟨ap_some (by unfold sp_line; rw [if_pos (by omega)]; unfold lineF; rw [if_pos (by omega)]), hR⟩
  ·
    show zG x LX 6 [some (zr 0), some (zi a)] [zi 0] S
    refine z_if_ne (pc := 6) (tgt := 12) h dX10_line_6 (by decide) ⟨by decide, by decide⟩ (fun hc6 => absurd hc6 (by decide)) (fun hc6 => ?_)
    refine z_bipush (pc := 9) h dX10_line_9 rfl ?_
    refine z_iret (pc := 11) h dX10_line_11 rfl ?_
    exact ⟨ap_some (by unfold sp_line; rw [if_neg (by omega)]), hR⟩

set_option maxRecDepth 100000 in
set_option maxHeartbeats 4000000 in
theorem m_X11_tries (a b c : Int) (A S : SS) (ha : r32 a) (hb : r32 b) (hc : r32 c) (hR : mRel S A) (hm : MI A) : zM LM yX11_tries cX11_tries 4 (some .int) 1 22 [zr 0, zi a, zi b, zi c] S (fun r S' => r = some (zi (sp_tries A a b c)) ∧ mRel S' (st_tries A a b c)) := by
  refine zM_of (own := RX11) rfl (by decide +kernel) [some (zr 0), some (zi a), some (zi b), some (zi c)] (Nat.le_of_ble_eq_true rfl) rfl ?_
  intro x h
  have hy := mi_y hm
  have e3 : S 0 14 = A 0 14 := hR.1 0 14 (by decide) (by decide) (by decide) (by decide) (by decide) (fun _ => Or.inl rfl)
  refine z_iload_n (pc := 0) h dX11_tries_0 rfl ?_
  refine z_iconst (pc := 1) h dX11_tries_1 ?_
  refine z_bipush (pc := 2) h dX11_tries_2 rfl ?_
  refine z_callS (pc := 4) (rest := ([] : List zV)) h (m_X11_in a 1 60 S ⟨by omega, by omega⟩ ⟨by decide, by decide⟩ ⟨by decide, by decide⟩) dX11_tries_4 mcX11_in msX11_in mlX11_75 rfl rfl ⟨by decide, by decide⟩ rfl (Nat.le_of_ble_eq_true rfl) ?_
  rintro _ _ ⟨rfl, ⟨hr4, rfl⟩ | ⟨hr4, rfl⟩⟩
  ·
    show zG x LM 7 [some (zr 0), some (zi a), some (zi b), some (zi c)] [zi 1] S
    refine z_if_eq (pc := 7) (tgt := 29) h dX11_tries_7 (by decide) ⟨by decide, by decide⟩ (fun hc7 => absurd hc7 (by decide)) (fun hc7 => ?_)
    refine z_iload_n (pc := 10) h dX11_tries_10 rfl ?_
    refine z_iconst (pc := 11) h dX11_tries_11 ?_
    refine z_bipush (pc := 12) h dX11_tries_12 rfl ?_
    refine z_callS (pc := 14) (rest := ([] : List zV)) h (m_X11_in b 0 9 S ⟨by omega, by omega⟩ ⟨by decide, by decide⟩ ⟨by decide, by decide⟩) dX11_tries_14 mcX11_in msX11_in mlX11_75 rfl rfl ⟨by decide, by decide⟩ rfl (Nat.le_of_ble_eq_true rfl) ?_
    rintro _ _ ⟨rfl, ⟨hr14, rfl⟩ | ⟨hr14, rfl⟩⟩
    ·
      show zG x LM 17 [some (zr 0), some (zi a), some (zi b), some (zi c)] [zi 1] S
      refine z_if_eq (pc := 17) (tgt := 29) h dX11_tries_17 (by decide) ⟨by decide, by decide⟩ (fun hc17 => absurd hc17 (by decide)) (fun hc17 => ?_)
      refine z_iload_n (pc := 20) h dX11_tries_20 rfl ?_
      refine z_iconst (pc := 21) h dX11_tries_21 ?_
      refine z_iconst (pc := 22) h dX11_tries_22 ?_
      refine z_callS (pc := 23) (rest := ([] : List zV)) h (m_X11_in c 0 1 S ⟨by omega, by omega⟩ ⟨by decide, by decide⟩ ⟨by decide, by decide⟩) dX11_tries_23 mcX11_in msX11_in mlX11_75 rfl rfl ⟨by decide, by decide⟩ rfl (Nat.le_of_ble_eq_true rfl) ?_
      rintro _ _ ⟨rfl, ⟨hr23, rfl⟩ | ⟨hr23, rfl⟩⟩
      ·
        show zG x LM 26 [some (zr 0), some (zi a), some (zi b), some (zi c)] [zi 1] S
        refine z_if_ne (pc := 26) (tgt := 32) h dX11_tries_26 (by decide) ⟨by decide, by decide⟩ (fun hc26 => ?_) (fun hc26 => absurd hc26 (by decide))
        refine z_aload_n (pc := 32) h dX11_tries_32 rfl ?_
        refine z_getI (pc := 33) h dX11_tries_33 clX11 lkX11_200 (by decide) rfl rfl ?_
        refine z_bipush (pc := 36) h dX11_tries_36 rfl ?_
        refine z_icmp_ne (pc := 38) (tgt := 44) h dX11_tries_38 (by decide) ⟨by omega, by omega⟩ ⟨by decide, by decide⟩ (fun hc38 => ?_) (fun hc38 => ?_)
        ·
          refine z_aload_n (pc := 44) h dX11_tries_44 rfl ?_
          refine z_getR (a := 11) (pc := 45) h dX11_tries_45 clX11 lkX11_40 (by decide) rfl rfl ?_
          refine z_aload_n (pc := 48) h dX11_tries_48 rfl ?_
          refine z_getI (pc := 49) h dX11_tries_49 clX11 lkX11_200 (by decide) rfl rfl ?_
          refine z_iload_n (pc := 52) h dX11_tries_52 rfl ?_
          refine z_iast (pc := 53) h dX11_tries_53 rfl (by decide) (by omega) (by omega) ?_
          refine z_aload_n (pc := 54) h dX11_tries_54 rfl ?_
          refine z_getR (a := 12) (pc := 55) h dX11_tries_55 clX11 lkX11_43 (by decide) rfl rfl ?_
          refine z_aload_n (pc := 58) h dX11_tries_58 rfl ?_
          refine z_getI (pc := 59) h dX11_tries_59 clX11 lkX11_200 (by decide) rfl rfl ?_
          refine z_cv (b := (S 0 14)) (by rw [up2_k _ _ (by decide)]) ?_
          refine z_iload_n (pc := 62) h dX11_tries_62 rfl ?_
          refine z_iast (pc := 63) h dX11_tries_63 rfl (by decide) (by omega) (by omega) ?_
          refine z_aload_n (pc := 64) h dX11_tries_64 rfl ?_
          refine z_getR (a := 13) (pc := 65) h dX11_tries_65 clX11 lkX11_46 (by decide) rfl rfl ?_
          refine z_aload_n (pc := 68) h dX11_tries_68 rfl ?_
          refine z_getI (pc := 69) h dX11_tries_69 clX11 lkX11_200 (by decide) rfl rfl ?_
          refine z_cv (b := (S 0 14)) (by rw [up2_k _ _ (by decide), up2_k _ _ (by decide)]) ?_
          refine z_iload_n (pc := 72) h dX11_tries_72 rfl ?_
          refine z_iast (pc := 73) h dX11_tries_73 rfl (by decide) (by omega) (by omega) ?_
          refine z_aload_n (pc := 74) h dX11_tries_74 rfl ?_
          refine z_dup (pc := 75) h dX11_tries_75 rfl ?_
          refine z_getI (pc := 76) h dX11_tries_76 clX11 lkX11_200 (by decide) rfl rfl ?_
          refine z_cv (b := (S 0 14)) (by rw [up2_k _ _ (by decide), up2_k _ _ (by decide), up2_k _ _ (by decide)]) ?_
          refine z_iconst (pc := 79) h dX11_tries_79 ?_
          refine z_iadd (pc := 80) h dX11_tries_80 ?_
          refine z_putI (pc := 81) h dX11_tries_81 clX11 lkX11_200 (by decide) rfl rfl rfl rfl ?_
          refine z_aload_n (pc := 84) h dX11_tries_84 rfl ?_
          refine z_getI (pc := 85) h dX11_tries_85 clX11 lkX11_200 (by decide) rfl rfl ?_
          refine z_cv (b := ((S 0 14) + 1)) (by rw [up2_s]) ?_
          refine z_iret (pc := 88) h dX11_tries_88 rfl ?_
          exact ⟨ap_some (by unfold sp_tries; rw [if_pos (by omega), if_neg (by omega), e3]), by unfold st_tries; rw [if_pos (by omega), if_neg (by omega), e3]; exact mr_up (k := 0) (mr_up (k := 13) (mr_up (k := 12) (mr_up (k := 11) hR _ _ (by decide)) _ _ (by decide)) _ _ (by decide)) _ _ (by decide)⟩
        ·
          refine z_bipush (pc := 41) h dX11_tries_41 rfl ?_
          refine z_iret (pc := 43) h dX11_tries_43 rfl ?_
          exact ⟨ap_some (by unfold sp_tries; rw [if_pos (by omega), if_pos (by omega)]), by unfold st_tries; rw [if_pos (by omega), if_pos (by omega)]; exact hR⟩
      ·
        show zG x LM 26 [some (zr 0), some (zi a), some (zi b), some (zi c)] [zi 0] S
        refine z_if_ne (pc := 26) (tgt := 32) h dX11_tries_26 (by decide) ⟨by decide, by decide⟩ (fun hc26 => absurd hc26 (by decide)) (fun hc26 => ?_)
        refine z_bipush (pc := 29) h dX11_tries_29 rfl ?_
        refine z_iret (pc := 31) h dX11_tries_31 rfl ?_
        exact ⟨ap_some (by unfold sp_tries; rw [if_neg (by omega)]), by unfold st_tries; rw [if_neg (by omega)]; exact hR⟩
    ·
      show zG x LM 17 [some (zr 0), some (zi a), some (zi b), some (zi c)] [zi 0] S
      refine z_if_eq (pc := 17) (tgt := 29) h dX11_tries_17 (by decide) ⟨by decide, by decide⟩ (fun hc17 => ?_) (fun hc17 => absurd hc17 (by decide))
      refine z_bipush (pc := 29) h dX11_tries_29 rfl ?_
      refine z_iret (pc := 31) h dX11_tries_31 rfl ?_
      exact ⟨ap_some (by unfold sp_tries; rw [if_neg (by omega)]), by unfold st_tries; rw [if_neg (by omega)]; exact hR⟩
  ·
    show zG x LM 7 [some (zr 0), some (zi a), some (zi b), some (zi c)] [zi 0] S
    refine z_if_eq (pc := 7) (tgt := 29) h dX11_tries_7 (by decide) ⟨by decide, by decide⟩ (fun hc7 => ?_) (fun hc7 => absurd hc7 (by decide))
    refine z_bipush (pc := 29) h dX11_tries_29 rfl ?_
    refine z_iret (pc := 31) h dX11_tries_31 rfl ?_
    exact ⟨ap_some (by unfold sp_tries; rw [if_neg (by omega)]), by unfold st_tries; rw [if_neg (by omega)]; exact hR⟩

set_option maxRecDepth 100000 in
set_option maxHeartbeats 4000000 in
theorem m_X11_wrongOf (a b : Int) (A S : SS) (ha : 0 ≤ a ∧ a ≤ 60) (hb : 0 ≤ b ∧ b ≤ 9) (hR : mRel S A) (hm : MI A) : zM LM yX11_wrongOf cX11_wrongOf 6 (some .int) 0 0 [zr 0, zi a, zi b] S (fun r S' => S = S' ∧ r = some (zi (wrgF A a b))) := by
  refine zM_of (own := RX11) rfl (by decide +kernel) [some (zr 0), some (zi a), some (zi b), none, none, none] (Nat.le_of_ble_eq_true rfl) rfl ?_
  intro x h
  have hy := mi_y hm
  have e3 : S 0 14 = A 0 14 := hR.1 0 14 (by decide) (by decide) (by decide) (by decide) (by decide) (fun _ => Or.inl rfl)
  refine z_iconst (pc := 0) h dX11_wrongOf_0 ?_
  refine z_istore_n (pc := 1) (loc' := [some (zr 0), some (zi a), some (zi b), some (zi 0), none, none]) h dX11_wrongOf_1 rfl (Nat.le_of_ble_eq_true rfl) rfl rfl ?_
  refine z_iconst (pc := 2) h dX11_wrongOf_2 ?_
  refine z_istore (pc := 3) (loc' := [some (zr 0), some (zi a), some (zi b), some (zi 0), some (zi 0), none]) h dX11_wrongOf_3 (Nat.le_of_ble_eq_true rfl) rfl rfl ?_
  have J5 : ∀ (N : Nat) (z i : Int) (hi : 0 ≤ i ∧ i ≤ A 0 14) (hz : z = wrgR A a b i.toNat) , (A 0 14 - i).toNat = N → zG x LM 5 [some (zr 0), some (zi a), some (zi b), some (zi z), some (zi i), none] ([] : List zV) S := by
    intro N
    induction N using Nat.strongRecOn with
    | _ N ih5 => ?_
    intro z i hi hz hN5
    refine z_iload (pc := 5) h dX11_wrongOf_5 rfl ?_
    refine z_aload_n (pc := 7) h dX11_wrongOf_7 rfl ?_
    refine z_getI (pc := 8) h dX11_wrongOf_8 clX11 lkX11_200 (by decide) rfl rfl ?_
    refine z_icmp_ge (pc := 11) (tgt := 68) h dX11_wrongOf_11 (by decide) ⟨by omega, by omega⟩ ⟨by omega, by omega⟩ (fun hc11 => ?_) (fun hc11 => ?_)
    ·
      refine z_iload_n (pc := 68) h dX11_wrongOf_68 rfl ?_
      exact z_iret (pc := 69) h dX11_wrongOf_69 rfl ⟨rfl, congrArg (fun z => some (zi z)) (by unfold wrgF; rw [hz, show i = A 0 14 by omega])⟩
    ·
      have hy1 := mi_yp hm i.toNat
      have hy2 := mi_yb hm i.toNat
      have hy3 := mi_yo hm i.toNat
      have hmb := mul_bd (a := b) (A := 9) hb (b := A 12 i.toNat) (B := 9) hy2
      have hwb := wrg_b A a b i.toNat
      have t1 : S 11 i.toNat = A 11 i.toNat := mr_at hR _ (by decide)
      have t2 : S 12 i.toNat = A 12 i.toNat := mr_at hR _ (by decide)
      have t3 : S 13 i.toNat = A 13 i.toNat := mr_at hR _ (by decide)
      refine z_aload_n (pc := 14) h dX11_wrongOf_14 rfl ?_
      have J40 : ∀ (v : Int) (hv : v = if a + b * A 12 i.toNat ≤ A 11 i.toNat then (1 : Int) else 0) (hv1 : v = 0 ∨ v = 1) , zG x LM 40 [some (zr 0), some (zi a), some (zi b), some (zi z), some (zi i), none] [zi v] S := by
        intro v hv hv1
        refine z_istore (pc := 40) (loc' := [some (zr 0), some (zi a), some (zi b), some (zi z), some (zi i), some (zi v)]) h dX11_wrongOf_40 (Nat.le_of_ble_eq_true rfl) rfl rfl ?_
        refine z_iload_n (pc := 42) h dX11_wrongOf_42 rfl ?_
        have J60 : ∀ (y : Int) (hz2 : z + y = wrgR A a b (i + 1).toNat) , zG x LM 60 [some (zr 0), some (zi a), some (zi b), some (zi z), some (zi i), some (zi v)] [zi y, zi z] S := by
          intro y hz2
          refine z_iadd (pc := 60) h dX11_wrongOf_60 ?_
          refine z_istore_n (pc := 61) (loc' := [some (zr 0), some (zi a), some (zi b), some (zi (z + y)), some (zi i), some (zi v)]) h dX11_wrongOf_61 rfl (Nat.le_of_ble_eq_true rfl) rfl rfl ?_
          refine z_iinc (pc := 62) (loc' := [some (zr 0), some (zi a), some (zi b), some (zi (z + y)), some (zi (i + 1)), some (zi v)]) h dX11_wrongOf_62 rfl (Nat.le_of_ble_eq_true rfl) rfl rfl ?_
          refine z_goto (pc := 65) (tgt := 5) h dX11_wrongOf_65 (by decide) ?_
          refine z_forget [true, true, true, true, true, false] (loc' := [some (zr 0), some (zi a), some (zi b), some (zi (z + y)), some (zi (i + 1)), none]) rfl ?_
          exact ih5 _ (by omega) (z + y) (i + 1) (by omega) (by exact hz2) rfl
        refine z_iload (pc := 43) h dX11_wrongOf_43 rfl ?_
        refine z_aload_n (pc := 45) h dX11_wrongOf_45 rfl ?_
        refine z_getR (a := 13) (pc := 46) h dX11_wrongOf_46 clX11 lkX11_46 (by decide) rfl rfl ?_
        refine z_iload (pc := 49) h dX11_wrongOf_49 rfl ?_
        refine z_iald (pc := 51) h dX11_wrongOf_51 rfl (by decide) (by omega) (by omega) ?_
        refine z_cv (b := (A 13 i.toNat)) (by exact t3) ?_
        refine z_icmp_ne (pc := 52) (tgt := 59) h dX11_wrongOf_52 (by decide) ⟨by omega, by omega⟩ ⟨by omega, by omega⟩ (fun hc52 => ?_) (fun hc52 => ?_)
        ·
          refine z_iconst (pc := 59) h dX11_wrongOf_59 ?_
          exact J60 1 (by rw [wrg_s _ _ _ hi.1, ← hz]; unfold trsB; rw [← hv]; first | (rw [if_pos (by omega)]) | (rw [if_neg (by omega)]))
        ·
          refine z_iconst (pc := 55) h dX11_wrongOf_55 ?_
          refine z_goto (pc := 56) (tgt := 60) h dX11_wrongOf_56 (by decide) ?_
          exact J60 0 (by rw [wrg_s _ _ _ hi.1, ← hz]; unfold trsB; rw [← hv]; first | (rw [if_pos (by omega)]) | (rw [if_neg (by omega)]))
      refine z_getR (a := 11) (pc := 15) h dX11_wrongOf_15 clX11 lkX11_40 (by decide) rfl rfl ?_
      refine z_iload (pc := 18) h dX11_wrongOf_18 rfl ?_
      refine z_iald (pc := 20) h dX11_wrongOf_20 rfl (by decide) (by omega) (by omega) ?_
      refine z_cv (b := (A 11 i.toNat)) (by exact t1) ?_
      refine z_iload_n (pc := 21) h dX11_wrongOf_21 rfl ?_
      refine z_iload_n (pc := 22) h dX11_wrongOf_22 rfl ?_
      refine z_aload_n (pc := 23) h dX11_wrongOf_23 rfl ?_
      refine z_getR (a := 12) (pc := 24) h dX11_wrongOf_24 clX11 lkX11_43 (by decide) rfl rfl ?_
      refine z_iload (pc := 27) h dX11_wrongOf_27 rfl ?_
      refine z_iald (pc := 29) h dX11_wrongOf_29 rfl (by decide) (by omega) (by omega) ?_
      refine z_cv (b := (A 12 i.toNat)) (by exact t2) ?_
      refine z_imul (pc := 30) h dX11_wrongOf_30 ?_
      refine z_iadd (pc := 31) h dX11_wrongOf_31 ?_
      refine z_icmp_lt (pc := 32) (tgt := 39) h dX11_wrongOf_32 (by decide) ⟨by omega, by omega⟩ ⟨by omega, by omega⟩ (fun hc32 => ?_) (fun hc32 => ?_)
      ·
        refine z_iconst (pc := 39) h dX11_wrongOf_39 ?_
        exact J40 0 (by first | (rw [if_pos (by omega)]) | (rw [if_neg (by omega)])) (by omega)
      ·
        refine z_iconst (pc := 35) h dX11_wrongOf_35 ?_
        refine z_goto (pc := 36) (tgt := 40) h dX11_wrongOf_36 (by decide) ?_
        exact J40 1 (by first | (rw [if_pos (by omega)]) | (rw [if_neg (by omega)])) (by omega)
  exact J5 _ 0 0 (by omega) (rfl) rfl

set_option maxRecDepth 100000 in
set_option maxHeartbeats 4000000 in
theorem m_X11_wrong (a b : Int) (A S : SS) (ha : r32 a) (hb : r32 b) (hR : mRel S A) (hm : MI A) : zM LM yX11_wrong cX11_wrong 3 (some .int) 1 25 [zr 0, zi a, zi b] S (fun r S' => S = S' ∧ r = some (zi (sp_wrong A a b))) := by
  refine zM_of (own := RX11) rfl (by decide +kernel) [some (zr 0), some (zi a), some (zi b)] (Nat.le_of_ble_eq_true rfl) rfl ?_
  intro x h
  refine z_iload_n (pc := 0) h dX11_wrong_0 rfl ?_
  refine z_iconst (pc := 1) h dX11_wrong_1 ?_
  refine z_bipush (pc := 2) h dX11_wrong_2 rfl ?_
  refine z_callS (pc := 4) (rest := ([] : List zV)) h (m_X11_in a 0 60 S ⟨by omega, by omega⟩ ⟨by decide, by decide⟩ ⟨by decide, by decide⟩) dX11_wrong_4 mcX11_in msX11_in mlX11_75 rfl rfl ⟨by decide, by decide⟩ rfl (Nat.le_of_ble_eq_true rfl) ?_
  rintro _ _ ⟨rfl, ⟨hr4, rfl⟩ | ⟨hr4, rfl⟩⟩
  ·
    show zG x LM 7 [some (zr 0), some (zi a), some (zi b)] [zi 1] S
    refine z_if_eq (pc := 7) (tgt := 29) h dX11_wrong_7 (by decide) ⟨by decide, by decide⟩ (fun hc7 => absurd hc7 (by decide)) (fun hc7 => ?_)
    refine z_iload_n (pc := 10) h dX11_wrong_10 rfl ?_
    refine z_iconst (pc := 11) h dX11_wrong_11 ?_
    refine z_bipush (pc := 12) h dX11_wrong_12 rfl ?_
    refine z_callS (pc := 14) (rest := ([] : List zV)) h (m_X11_in b 0 9 S ⟨by omega, by omega⟩ ⟨by decide, by decide⟩ ⟨by decide, by decide⟩) dX11_wrong_14 mcX11_in msX11_in mlX11_75 rfl rfl ⟨by decide, by decide⟩ rfl (Nat.le_of_ble_eq_true rfl) ?_
    rintro _ _ ⟨rfl, ⟨hr14, rfl⟩ | ⟨hr14, rfl⟩⟩
    ·
      show zG x LM 17 [some (zr 0), some (zi a), some (zi b)] [zi 1] S
      refine z_if_eq (pc := 17) (tgt := 29) h dX11_wrong_17 (by decide) ⟨by decide, by decide⟩ (fun hc17 => absurd hc17 (by decide)) (fun hc17 => ?_)
      refine z_aload_n (pc := 20) h dX11_wrong_20 rfl ?_
      refine z_iload_n (pc := 21) h dX11_wrong_21 rfl ?_
      refine z_iload_n (pc := 22) h dX11_wrong_22 rfl ?_
      refine z_callV (pc := 23) (rest := ([] : List zV)) h (m_X11_wrongOf a b A S (by first | assumption | omega) (by first | assumption | omega) (by first | assumption | omega) (by first | assumption | omega)) dX11_wrong_23 mcX11_wrongOf miX11_wrongOf mlX11_203 rfl rfl ⟨by decide, by decide⟩ clX11 rfl rfl rfl (Nat.le_of_ble_eq_true rfl) ?_
      rintro _ _ ⟨rfl, rfl⟩
      show zG x LM 26 [some (zr 0), some (zi a), some (zi b)] [zi (wrgF A a b)] S
      refine z_goto (pc := 26) (tgt := 31) h dX11_wrong_26 (by decide) ?_
      exact z_iret (pc := 31) h dX11_wrong_31 rfl ⟨rfl, congrArg (fun z => some (zi z)) (by unfold sp_wrong; first | (rw [if_pos (by omega)]) | (rw [if_neg (by omega)]))⟩
    ·
      show zG x LM 17 [some (zr 0), some (zi a), some (zi b)] [zi 0] S
      refine z_if_eq (pc := 17) (tgt := 29) h dX11_wrong_17 (by decide) ⟨by decide, by decide⟩ (fun hc17 => ?_) (fun hc17 => absurd hc17 (by decide))
      refine z_bipush (pc := 29) h dX11_wrong_29 rfl ?_
      exact z_iret (pc := 31) h dX11_wrong_31 rfl ⟨rfl, congrArg (fun z => some (zi z)) (by unfold sp_wrong; first | (rw [if_pos (by omega)]) | (rw [if_neg (by omega)]))⟩
  ·
    show zG x LM 7 [some (zr 0), some (zi a), some (zi b)] [zi 0] S
    refine z_if_eq (pc := 7) (tgt := 29) h dX11_wrong_7 (by decide) ⟨by decide, by decide⟩ (fun hc7 => ?_) (fun hc7 => absurd hc7 (by decide))
    refine z_bipush (pc := 29) h dX11_wrong_29 rfl ?_
    exact z_iret (pc := 31) h dX11_wrong_31 rfl ⟨rfl, congrArg (fun z => some (zi z)) (by unfold sp_wrong; first | (rw [if_pos (by omega)]) | (rw [if_neg (by omega)]))⟩

set_option maxRecDepth 100000 in
set_option maxHeartbeats 4000000 in
theorem m_X11_lineNow (a : Int) (A S : SS) (ha : r32 a) (hR : mRel S A) (hm : MI A) : zM LM yX11_lineNow cX11_lineNow 6 (some .int) 1 25 [zr 0, zi a] S (fun r S' => S = S' ∧ r = some (zi (lineF A a))) := by
  refine zM_of (own := RX11) rfl (by decide +kernel) [some (zr 0), some (zi a), none, none, none, none] (Nat.le_of_ble_eq_true rfl) rfl ?_
  intro x h
  have hy := mi_y hm
  have e3 : S 0 14 = A 0 14 := hR.1 0 14 (by decide) (by decide) (by decide) (by decide) (by decide) (fun _ => Or.inl rfl)
  have hw0 := wrgF_b hm 0 0
  refine z_aload_n (pc := 0) h dX11_lineNow_0 rfl ?_
  refine z_getI (pc := 1) h dX11_lineNow_1 clX11 lkX11_200 (by decide) rfl rfl ?_
  refine z_if_ne (pc := 4) (tgt := 10) h dX11_lineNow_4 (by decide) ⟨by omega, by omega⟩ (fun hc4 => ?_) (fun hc4 => ?_)
  ·
    refine z_iconst (pc := 10) h dX11_lineNow_10 ?_
    refine z_istore_n (pc := 11) (loc' := [some (zr 0), some (zi a), some (zi 0), none, none, none]) h dX11_lineNow_11 rfl (Nat.le_of_ble_eq_true rfl) rfl rfl ?_
    refine z_aload_n (pc := 12) h dX11_lineNow_12 rfl ?_
    refine z_iconst (pc := 13) h dX11_lineNow_13 ?_
    refine z_iconst (pc := 14) h dX11_lineNow_14 ?_
    refine z_callV (pc := 15) (rest := ([] : List zV)) h (m_X11_wrongOf 0 0 A S (by first | assumption | omega) (by first | assumption | omega) (by first | assumption | omega) (by first | assumption | omega)) dX11_lineNow_15 mcX11_wrongOf miX11_wrongOf mlX11_203 rfl rfl ⟨by decide, by decide⟩ clX11 rfl rfl rfl (Nat.le_of_ble_eq_true rfl) ?_
    rintro _ _ ⟨rfl, rfl⟩
    show zG x LM 18 [some (zr 0), some (zi a), some (zi 0), none, none, none] [zi (wrgF A 0 0)] S
    refine z_istore_n (pc := 18) (loc' := [some (zr 0), some (zi a), some (zi 0), some (zi (wrgF A 0 0)), none, none]) h dX11_lineNow_18 rfl (Nat.le_of_ble_eq_true rfl) rfl rfl ?_
    refine z_iconst (pc := 19) h dX11_lineNow_19 ?_
    refine z_istore (pc := 20) (loc' := [some (zr 0), some (zi a), some (zi 0), some (zi (wrgF A 0 0)), some (zi 1), none]) h dX11_lineNow_20 (Nat.le_of_ble_eq_true rfl) rfl rfl ?_
    have J22 : ∀ (N : Nat) (z y t : Int) (ht : 1 ≤ t ∧ t ≤ 610) (hz : 0 ≤ z ∧ z ≤ 609) (hyb : 0 ≤ y ∧ y ≤ 40) (hI : lnR A (610 - t).toNat t.toNat (z, y) = lnF A) , (610 - t).toNat = N → zG x LM 22 [some (zr 0), some (zi a), some (zi z), some (zi y), some (zi t), none] ([] : List zV) S := by
      intro N
      induction N using Nat.strongRecOn with
      | _ N ih22 => ?_
      intro z y t ht hz hyb hI hN22
      refine z_iload (pc := 22) h dX11_lineNow_22 rfl ?_
      refine z_sipush (pc := 24) h dX11_lineNow_24 rfl ?_
      refine z_icmp_ge (pc := 27) (tgt := 78) h dX11_lineNow_27 (by decide) ⟨by omega, by omega⟩ ⟨by decide, by decide⟩ (fun hc27 => ?_) (fun hc27 => ?_)
      ·
        refine z_iload_n (pc := 78) h dX11_lineNow_78 rfl ?_
        refine z_if_ne (pc := 79) (tgt := 89) h dX11_lineNow_79 (by decide) ⟨by omega, by omega⟩ (fun hc79 => ?_) (fun hc79 => ?_)
        ·
          refine z_iload_n (pc := 89) h dX11_lineNow_89 rfl ?_
          refine z_iconst (pc := 90) h dX11_lineNow_90 ?_
          refine z_icmp_ne (pc := 91) (tgt := 101) h dX11_lineNow_91 (by decide) ⟨by omega, by omega⟩ ⟨by decide, by decide⟩ (fun hc91 => ?_) (fun hc91 => ?_)
          ·
            refine z_iload_n (pc := 101) h dX11_lineNow_101 rfl ?_
            exact z_iret (pc := 102) h dX11_lineNow_102 rfl ⟨rfl, congrArg (fun z => some (zi z)) (by unfold lineF; first | (rw [if_pos (by omega)]) | (rw [ln_0 (by omega)] at hI; rw [if_neg (by omega), ← hI]; first | (rw [if_pos (by omega)]) | (rw [if_neg (by omega), if_pos (by omega)]) | (rw [if_neg (by omega), if_neg (by omega)])))⟩
          ·
            refine z_iload_n (pc := 94) h dX11_lineNow_94 rfl ?_
            refine z_bipush (pc := 95) h dX11_lineNow_95 rfl ?_
            refine z_iremN (pc := 97) h dX11_lineNow_97 ⟨by omega, by omega⟩ ⟨by decide, by decide⟩ ?_
            refine z_goto (pc := 98) (tgt := 102) h dX11_lineNow_98 (by decide) ?_
            exact z_iret (pc := 102) h dX11_lineNow_102 rfl ⟨rfl, congrArg (fun z => some (zi z)) (by unfold lineF; first | (rw [if_pos (by omega)]) | (rw [ln_0 (by omega)] at hI; rw [if_neg (by omega), ← hI]; first | (rw [if_pos (by omega)]) | (rw [if_neg (by omega), if_pos (by omega)]) | (rw [if_neg (by omega), if_neg (by omega)])))⟩
        ·
          refine z_iload_n (pc := 82) h dX11_lineNow_82 rfl ?_
          refine z_bipush (pc := 83) h dX11_lineNow_83 rfl ?_
          refine z_idivN (pc := 85) h dX11_lineNow_85 ⟨by omega, by omega⟩ ⟨by decide, by decide⟩ ?_
          refine z_goto (pc := 86) (tgt := 102) h dX11_lineNow_86 (by decide) ?_
          exact z_iret (pc := 102) h dX11_lineNow_102 rfl ⟨rfl, congrArg (fun z => some (zi z)) (by unfold lineF; first | (rw [if_pos (by omega)]) | (rw [ln_0 (by omega)] at hI; rw [if_neg (by omega), ← hI]; first | (rw [if_pos (by omega)]) | (rw [if_neg (by omega), if_pos (by omega)]) | (rw [if_neg (by omega), if_neg (by omega)])))⟩
      ·
        have hwb := wrgF_b hm (t / 10) (t % 10)
        refine z_aload_n (pc := 30) h dX11_lineNow_30 rfl ?_
        refine z_iload (pc := 31) h dX11_lineNow_31 rfl ?_
        refine z_bipush (pc := 33) h dX11_lineNow_33 rfl ?_
        refine z_idivN (pc := 35) h dX11_lineNow_35 ⟨by omega, by omega⟩ ⟨by decide, by decide⟩ ?_
        refine z_iload (pc := 36) h dX11_lineNow_36 rfl ?_
        refine z_bipush (pc := 38) h dX11_lineNow_38 rfl ?_
        refine z_iremN (pc := 40) h dX11_lineNow_40 ⟨by omega, by omega⟩ ⟨by decide, by decide⟩ ?_
        refine z_callV (pc := 41) (rest := ([] : List zV)) h (m_X11_wrongOf (t / 10) (t % 10) A S (by first | assumption | omega) (by first | assumption | omega) (by first | assumption | omega) (by first | assumption | omega)) dX11_lineNow_41 mcX11_wrongOf miX11_wrongOf mlX11_203 rfl rfl ⟨by decide, by decide⟩ clX11 rfl rfl rfl (Nat.le_of_ble_eq_true rfl) ?_
        rintro _ _ ⟨rfl, rfl⟩
        show zG x LM 44 [some (zr 0), some (zi a), some (zi z), some (zi y), some (zi t), none] [zi (wrgF A (t / 10) (t % 10))] S
        have J58 : ∀ (z2 : Int) (hz2 : z2 = if wrgF A (t / 10) (t % 10) < y then t else z) (hz3 : 0 ≤ z2 ∧ z2 ≤ 609) , zG x LM 58 [some (zr 0), some (zi a), some (zi z), some (zi y), some (zi t), some (zi (wrgF A (t / 10) (t % 10)))] [zi z2] S := by
          intro z2 hz2 hz3
          refine z_istore_n (pc := 58) (loc' := [some (zr 0), some (zi a), some (zi z2), some (zi y), some (zi t), some (zi (wrgF A (t / 10) (t % 10)))]) h dX11_lineNow_58 rfl (Nat.le_of_ble_eq_true rfl) rfl rfl ?_
          have J71 : ∀ (y2 : Int) (hI2 : lnR A (610 - (t + 1)).toNat (t + 1).toNat (z2, y2) = lnF A) (hy3 : 0 ≤ y2 ∧ y2 ≤ 40) , zG x LM 71 [some (zr 0), some (zi a), some (zi z2), some (zi y), some (zi t), some (zi (wrgF A (t / 10) (t % 10)))] [zi y2] S := by
            intro y2 hI2 hy3
            refine z_istore_n (pc := 71) (loc' := [some (zr 0), some (zi a), some (zi z2), some (zi y2), some (zi t), some (zi (wrgF A (t / 10) (t % 10)))]) h dX11_lineNow_71 rfl (Nat.le_of_ble_eq_true rfl) rfl rfl ?_
            refine z_iinc (pc := 72) (loc' := [some (zr 0), some (zi a), some (zi z2), some (zi y2), some (zi (t + 1)), some (zi (wrgF A (t / 10) (t % 10)))]) h dX11_lineNow_72 rfl (Nat.le_of_ble_eq_true rfl) rfl rfl ?_
            refine z_goto (pc := 75) (tgt := 22) h dX11_lineNow_75 (by decide) ?_
            refine z_forget [true, true, true, true, true, false] (loc' := [some (zr 0), some (zi a), some (zi z2), some (zi y2), some (zi (t + 1)), none]) rfl ?_
            exact ih22 _ (by omega) z2 y2 (t + 1) (by omega) (by omega) (by omega) (by exact hI2) rfl
          refine z_iload (pc := 59) h dX11_lineNow_59 rfl ?_
          refine z_iload_n (pc := 61) h dX11_lineNow_61 rfl ?_
          refine z_icmp_ge (pc := 62) (tgt := 70) h dX11_lineNow_62 (by decide) ⟨by omega, by omega⟩ ⟨by omega, by omega⟩ (fun hc62 => ?_) (fun hc62 => ?_)
          ·
            refine z_iload_n (pc := 70) h dX11_lineNow_70 rfl ?_
            exact J71 y (by rw [ln_s (r' := (610 - (t + 1)).toNat) (z := t) (by omega) (by omega)] at hI; rw [hz2]; first | (rw [if_pos (by assumption)] at hI; rw [if_pos (by assumption)]; exact hI) | (rw [if_neg (by show ¬ (_ < y); omega)] at hI; rw [if_neg (by omega)]; exact hI)) (by omega)
          ·
            refine z_iload (pc := 65) h dX11_lineNow_65 rfl ?_
            refine z_goto (pc := 67) (tgt := 71) h dX11_lineNow_67 (by decide) ?_
            exact J71 (wrgF A (t / 10) (t % 10)) (by rw [ln_s (r' := (610 - (t + 1)).toNat) (z := t) (by omega) (by omega)] at hI; rw [hz2]; first | (rw [if_pos (by assumption)] at hI; rw [if_pos (by assumption)]; exact hI) | (rw [if_neg (by show ¬ (_ < y); omega)] at hI; rw [if_neg (by omega)]; exact hI)) (by omega)
        refine z_istore (pc := 44) (loc' := [some (zr 0), some (zi a), some (zi z), some (zi y), some (zi t), some (zi (wrgF A (t / 10) (t % 10)))]) h dX11_lineNow_44 (Nat.le_of_ble_eq_true rfl) rfl rfl ?_
        refine z_iload (pc := 46) h dX11_lineNow_46 rfl ?_
        refine z_iload_n (pc := 48) h dX11_lineNow_48 rfl ?_
        refine z_icmp_ge (pc := 49) (tgt := 57) h dX11_lineNow_49 (by decide) ⟨by omega, by omega⟩ ⟨by omega, by omega⟩ (fun hc49 => ?_) (fun hc49 => ?_)
        ·
          refine z_iload_n (pc := 57) h dX11_lineNow_57 rfl ?_
          exact J58 z (by first | (rw [if_pos (by omega)]) | (rw [if_neg (by omega)])) (by omega)
        ·
          refine z_iload (pc := 52) h dX11_lineNow_52 rfl ?_
          refine z_goto (pc := 54) (tgt := 58) h dX11_lineNow_54 (by decide) ?_
          exact J58 t (by first | (rw [if_pos (by omega)]) | (rw [if_neg (by omega)])) (by omega)
    exact J22 _ 0 (wrgF A 0 0) 1 (by omega) (by omega) (by omega) (by unfold lnF; symm; rw [ln_s (r' := 609) (z := 0) rfl rfl, if_pos (show wrgF A (0 / 10) (0 % 10) < 41 by exact Int.lt_of_le_of_lt hw0.2 (by decide))]; rfl) rfl
  ·
    refine z_bipush (pc := 7) h dX11_lineNow_7 rfl ?_
    exact z_iret (pc := 9) h dX11_lineNow_9 rfl ⟨rfl, congrArg (fun z => some (zi z)) (by unfold lineF; first | (rw [if_pos (by omega)]) | (rw [ln_0 (by omega)] at hI; rw [if_neg (by omega), ← hI]; first | (rw [if_pos (by omega)]) | (rw [if_neg (by omega), if_pos (by omega)]) | (rw [if_neg (by omega), if_neg (by omega)])))⟩

set_option maxRecDepth 100000 in
set_option maxHeartbeats 4000000 in
theorem m_X11_line (a : Int) (A S : SS) (ha : r32 a) (hR : mRel S A) (hm : MI A) : zM LM yX11_line cX11_line 2 (some .int) 2 50 [zr 0, zi a] S (fun r S' => S = S' ∧ r = some (zi (sp_line A a))) := by
  refine zM_of (own := RX11) rfl (by decide +kernel) [some (zr 0), some (zi a)] (Nat.le_of_ble_eq_true rfl) rfl ?_
  intro x h
  refine z_iload_n (pc := 0) h dX11_line_0 rfl ?_
  refine z_iconst (pc := 1) h dX11_line_1 ?_
  refine z_iconst (pc := 2) h dX11_line_2 ?_
  refine z_callS (pc := 3) (rest := ([] : List zV)) h (m_X11_in a 0 2 S ⟨by omega, by omega⟩ ⟨by decide, by decide⟩ ⟨by decide, by decide⟩) dX11_line_3 mcX11_in msX11_in mlX11_75 rfl rfl ⟨by decide, by decide⟩ rfl (Nat.le_of_ble_eq_true rfl) ?_
  rintro _ _ ⟨rfl, ⟨hr3, rfl⟩ | ⟨hr3, rfl⟩⟩
  ·
    show zG x LM 6 [some (zr 0), some (zi a)] [zi 1] S
    refine z_if_eq (pc := 6) (tgt := 17) h dX11_line_6 (by decide) ⟨by decide, by decide⟩ (fun hc6 => absurd hc6 (by decide)) (fun hc6 => ?_)
    refine z_aload_n (pc := 9) h dX11_line_9 rfl ?_
    refine z_iload_n (pc := 10) h dX11_line_10 rfl ?_
    refine z_callV (pc := 11) (rest := ([] : List zV)) h (m_X11_lineNow a A S ⟨by omega, by omega⟩ (by first | assumption | omega) (by first | assumption | omega)) dX11_line_11 mcX11_lineNow miX11_lineNow mlX11_206 rfl rfl ⟨by decide, by decide⟩ clX11 rfl rfl rfl (Nat.le_of_ble_eq_true rfl) ?_
    rintro _ _ ⟨rfl, rfl⟩
    show zG x LM 14 [some (zr 0), some (zi a)] [zi (lineF A a)] S
    refine z_goto (pc := 14) (tgt := 19) h dX11_line_14 (by decide) ?_
    exact z_iret (pc := 19) h dX11_line_19 rfl ⟨rfl, congrArg (fun z => some (zi z)) (by unfold sp_line; first | (rw [if_pos (by omega)]) | (rw [if_neg (by omega)]))⟩
  ·
    show zG x LM 6 [some (zr 0), some (zi a)] [zi 0] S
    refine z_if_eq (pc := 6) (tgt := 17) h dX11_line_6 (by decide) ⟨by decide, by decide⟩ (fun hc6 => ?_) (fun hc6 => absurd hc6 (by decide))
    refine z_bipush (pc := 17) h dX11_line_17 rfl ?_
    exact z_iret (pc := 19) h dX11_line_19 rfl ⟨rfl, congrArg (fun z => some (zi z)) (by unfold sp_line; first | (rw [if_pos (by omega)]) | (rw [if_neg (by omega)]))⟩

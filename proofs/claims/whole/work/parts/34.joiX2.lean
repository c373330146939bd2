/-! JOINED: the class's row and search -/
abbrev rowJ (A : SS) (m r tk : Nat) : List Nat := (jR A m r tk).2.2.2.2.2
def allJ (A : SS) (m f : Nat) (S : SS) : Prop := ∀ tk : Nat, tk < 2 ^ m → popc tk ≤ f → setJ A m f S tk
theorem jR_first {A : SS} {m r tk : Nat} (h : (jR A m (r + 1) tk).1 ≠ 0) : ∃ d, d < m ∧ tk.testBit d = false ∧ (jR A m (r + 1) tk).2.1 = coA A (popc tk) d + (jR A m r (tk ||| 2 ^ d)).2.1 ∧ (jR A m (r + 1) tk).2.2.2.2.1 = wyA A (popc tk) d + (jR A m r (tk ||| 2 ^ d)).2.2.2.2.1 ∧ rowJ A m (r + 1) tk = d :: rowJ A m r (tk ||| 2 ^ d) ∧ ∀ i, i < d → tk.testBit i = false → (jR A m r (tk ||| 2 ^ i)).1 ≠ 0 → coA A (popc tk) i + (jR A m r (tk ||| 2 ^ i)).2.1 ≠ (jR A m (r + 1) tk).2.1 := by
  obtain ⟨d, d1, d2, d3, d4, d5, d6, d7⟩ := tR_first m (jc A) (jw A) z0 l0 h
  exact ⟨d, d1, d2, d4, d5, d6, d7⟩
theorem jR_pos {A : SS} {m r tk : Nat} (hm : m ≤ 6) (ht : tk < 2 ^ m) (h : popc tk + r ≤ m) : 0 < (jR A m r tk).1 := tR_pos m (jc A) (jw A) z0 l0 r tk 0 (by rw [← popc_m ht (by omega)]; exact h)

set_option maxRecDepth 100000 in
set_option maxHeartbeats 4000000 in
theorem m_X3_firstBest (t k : Int) (r : Nat) (A : SS) (m f : Nat) (S : SS) (hm : MI A) (hfm : f ≤ m ∧ m ≤ 6) (h8 : S 24 8 = (f : Int)) (h9 : S 24 9 = (m : Int)) (hC : colJ A m f S) (hr : f - popc t.toNat = r + 1) (ht : 0 ≤ t ∧ t.toNat < 2 ^ m) (hk : k = ((popc t.toNat : Nat) : Int)) (hA : allJ A m f S) : zM LX yX3_firstBest cX3_firstBest 4 (some .int) 0 0 [zr 24, zi t, zi k] S (fun rr S' => S = S' ∧ ∃ d : Nat, rr = some (zi (d : Int)) ∧ d < m ∧ t.toNat.testBit d = false ∧ rowJ A m (r + 1) t.toNat = d :: rowJ A m r (t.toNat ||| 2 ^ d) ∧ (jR A m (r + 1) t.toNat).2.2.2.2.1 = wyA A (popc t.toNat) d + (jR A m r (t.toNat ||| 2 ^ d)).2.2.2.2.1) := by
  refine zM_of (own := RX3) rfl (by decide +kernel) [some (zr 24), some (zi t), some (zi k), none] (Nat.le_of_ble_eq_true rfl) rfl ?_
  intro x h
  have hp6 := pow6 hfm.2
  have hown := hA t.toNat ht.2 (by omega)
  unfold setJ at hown
  rw [hr] at hown
  have hcn : (jR A m (r + 1) t.toNat).1 ≠ 0 := by have h9 := jR_pos (A := A) (r := r + 1) hfm.2 ht.2 (by omega); omega
  obtain ⟨d, d1, d2, d4, d5, d6, d7⟩ := jR_first hcn
  refine z_iconst (pc := 0) h dX3_firstBest_0 ?_
  refine z_istore_n (pc := 1) (loc' := [some (zr 24), some (zi t), some (zi k), some (zi 0)]) h dX3_firstBest_1 rfl (Nat.le_of_ble_eq_true rfl) rfl rfl ?_
  have J2 : ∀ (N : Nat) (j : Int) (hj : 0 ≤ j ∧ j ≤ d) , ((m : Int) - j).toNat = N → zG x LX 2 [some (zr 24), some (zi t), some (zi k), some (zi j)] ([] : List zV) S := by
    intro N
    induction N using Nat.strongRecOn with
    | _ N ih2 => ?_
    intro j hj hN2
    refine z_iload_n (pc := 2) h dX3_firstBest_2 rfl ?_
    refine z_aload_n (pc := 3) h dX3_firstBest_3 rfl ?_
    refine z_getI (pc := 4) h dX3_firstBest_4 clX3 lkX3_55 (by decide) rfl rfl ?_
    refine z_icmp_ge (pc := 7) (tgt := 57) h dX3_firstBest_7 (by decide) ⟨by omega, by omega⟩ ⟨by omega, by omega⟩ (fun hc7 => ?_) (fun hc7 => ?_)
    ·
      refine z_iconst (pc := 57) h dX3_firstBest_57 ?_
      refine z_iret (pc := 58) h dX3_firstBest_58 rfl ?_
      omega
    ·
      refine z_iload_n (pc := 10) h dX3_firstBest_10 rfl ?_
      refine z_iload_n (pc := 11) h dX3_firstBest_11 rfl ?_
      refine z_ishr (pc := 12) h dX3_firstBest_12 ⟨by omega, by omega⟩ ⟨by omega, by omega⟩ ?_
      refine z_iconst (pc := 13) h dX3_firstBest_13 ?_
      refine z_iand (pc := 14) h dX3_firstBest_14 ⟨(div_bb (N := 255) ⟨ht.1, by omega⟩ _).1, Int.le_trans (div_bb (N := 255) ⟨ht.1, by omega⟩ _).2 (by decide)⟩ ⟨by decide, by decide⟩ ?_
      refine z_nm (b := (((Int.toNat (t / 2 ^ j.toNat)) &&& 1 : Nat) : Int)) (fun bv h_bv => ?_)
      have hbv := bit_w ht.1 hj.1 h_bv
      refine z_if_ne (pc := 15) (tgt := 51) h dX3_firstBest_15 (by decide) ⟨by omega, by omega⟩ (fun hc15 => ?_) (fun hc15 => ?_)
      ·
        refine z_iinc (pc := 51) (loc' := [some (zr 24), some (zi t), some (zi k), some (zi (j + 1))]) h dX3_firstBest_51 rfl (Nat.le_of_ble_eq_true rfl) rfl rfl ?_
        refine z_goto (pc := 54) (tgt := 2) h dX3_firstBest_54 (by decide) ?_
        exact ih2 _ (by omega) (j + 1) (by refine ⟨by omega, ?_⟩; first | (have h9 : j.toNat ≠ d := (fun q => by subst q; rw [d2] at hbv; rcases hbv with h8 | h8; exact Bool.noConfusion h8.2; omega); omega) | (have h9 : j.toNat ≠ d := (fun q => hc46 (by subst q; exact d4.symm)); omega)) rfl
      ·
        have hbf : t.toNat.testBit j.toNat = false := (hbv.resolve_left (fun q => by omega)).2
        obtain ⟨p1, p2, p3⟩ := popc_set hfm.2 ht.2 (show j.toNat < m by omega) hbf
        have hpw := pw_b (j := j) (by omega)
        have hK2 := hA _ p2 (by omega)
        unfold setJ at hK2
        rw [p1, show f - (popc t.toNat + 1) = r by omega] at hK2
        obtain ⟨c1, c2⟩ := hC (popc t.toNat) j.toNat (by omega) (by omega)
        have hix : (k * 6 + j).toNat = popc t.toNat * 6 + j.toNat := by omega
        rw [← hix] at c1 c2
        have hcb := coA_b hm (popc t.toNat) j.toNat
        have hyb := jR_b hm hfm.2 (show r ≤ 6 by omega) (t.toNat ||| 2 ^ j.toNat)
        have hzb := jR_b hm hfm.2 (show r + 1 ≤ 6 by omega) t.toNat
        obtain ⟨yb1, yb2, -⟩ := hyb
        obtain ⟨zb1, zb2, -⟩ := hzb
        have hpos := jR_pos (A := A) (r := r) hfm.2 p2 (by omega)
        refine z_aload_n (pc := 18) h dX3_firstBest_18 rfl ?_
        refine z_getR (a := 26) (pc := 19) h dX3_firstBest_19 clX3 lkX3_15 (by decide) rfl rfl ?_
        refine z_iload_n (pc := 22) h dX3_firstBest_22 rfl ?_
        refine z_bipush (pc := 23) h dX3_firstBest_23 rfl ?_
        refine z_imul (pc := 25) h dX3_firstBest_25 ?_
        refine z_iload_n (pc := 26) h dX3_firstBest_26 rfl ?_
        refine z_iadd (pc := 27) h dX3_firstBest_27 ?_
        refine z_iald (pc := 28) h dX3_firstBest_28 rfl (by decide) (by omega) (by omega) ?_
        refine z_cv (b := (coA A (popc t.toNat) j.toNat)) (by exact c2) ?_
        refine z_aload_n (pc := 29) h dX3_firstBest_29 rfl ?_
        refine z_getR (a := 27) (pc := 30) h dX3_firstBest_30 clX3 lkX3_18 (by decide) rfl rfl ?_
        refine z_iload_n (pc := 33) h dX3_firstBest_33 rfl ?_
        refine z_iconst (pc := 34) h dX3_firstBest_34 ?_
        refine z_iload_n (pc := 35) h dX3_firstBest_35 rfl ?_
        refine z_ishl (pc := 36) h dX3_firstBest_36 ⟨by omega, by omega⟩ ?_
        refine z_ior (pc := 37) h dX3_firstBest_37 ⟨by omega, by omega⟩ ⟨hpw.1, Int.le_trans hpw.2 (by decide)⟩ ?_
        refine z_cv (b := ((t.toNat ||| 2 ^ j.toNat : Nat) : Int)) (by exact or_v ht.1 hj.1) ?_
        refine z_iald (pc := 38) h dX3_firstBest_38 rfl (by decide) (by omega) (by omega) ?_
        refine z_cv (b := ((jR A m r (t.toNat ||| 2 ^ j.toNat)).2.1)) (by rw [Int.toNat_natCast]; exact hK2.1) ?_
        refine z_iadd (pc := 39) h dX3_firstBest_39 ?_
        refine z_aload_n (pc := 40) h dX3_firstBest_40 rfl ?_
        refine z_getR (a := 27) (pc := 41) h dX3_firstBest_41 clX3 lkX3_18 (by decide) rfl rfl ?_
        refine z_iload_n (pc := 44) h dX3_firstBest_44 rfl ?_
        refine z_iald (pc := 45) h dX3_firstBest_45 rfl (by decide) (by omega) (by omega) ?_
        refine z_cv (b := ((jR A m (r + 1) t.toNat).2.1)) (by exact hown.1) ?_
        refine z_icmp_ne (pc := 46) (tgt := 51) h dX3_firstBest_46 (by decide) ⟨by omega, by omega⟩ ⟨by omega, by omega⟩ (fun hc46 => ?_) (fun hc46 => ?_)
        ·
          refine z_iinc (pc := 51) (loc' := [some (zr 24), some (zi t), some (zi k), some (zi (j + 1))]) h dX3_firstBest_51 rfl (Nat.le_of_ble_eq_true rfl) rfl rfl ?_
          refine z_goto (pc := 54) (tgt := 2) h dX3_firstBest_54 (by decide) ?_
          exact ih2 _ (by omega) (j + 1) (by refine ⟨by omega, ?_⟩; first | (have h9 : j.toNat ≠ d := (fun q => by subst q; rw [d2] at hbv; rcases hbv with h8 | h8; exact Bool.noConfusion h8.2; omega); omega) | (have h9 : j.toNat ≠ d := (fun q => hc46 (by subst q; exact d4.symm)); omega)) rfl
        ·
          refine z_iload_n (pc := 49) h dX3_firstBest_49 rfl ?_
          refine z_iret (pc := 50) h dX3_firstBest_50 rfl ?_
          have h9 : j.toNat = d := by
            rcases Nat.lt_or_ge j.toNat d with q | q
            · exact absurd hc46 (d7 j.toNat q hbf (by omega))
            · omega
          exact ⟨rfl, d, ap_some (by omega), d1, d2, d6, d5⟩
  exact J2 _ 0 (by omega) rfl

set_option maxRecDepth 100000 in
set_option maxHeartbeats 4000000 in
theorem m_X3_joinRow (A : SS) (m f : Nat) (S : SS) (hm : MI A) (hfm : f ≤ m ∧ m ≤ 6) (h8 : S 24 8 = (f : Int)) (h9 : S 24 9 = (m : Int)) (hC : colJ A m f S) (hA : allJ A m f S) : zM LX yX3_joinRow cX3_joinRow 4 none 1 23 [zr 24] S (fun r S' => r = none ∧ (∀ x y, ¬ (x = 24 ∧ y = 10) → x ≠ 31 → S' x y = S x y) ∧ S' 24 10 = (jR A m f 0).2.2.2.2.1 ∧ ∀ j : Nat, j < f → S' 31 j = (((rowJ A m f 0).getD j 0 : Nat) : Int)) := by
  refine zM_of (own := RX3) rfl (by decide +kernel) [some (zr 24), none, none, none] (Nat.le_of_ble_eq_true rfl) rfl ?_
  intro x h
  have hp6 := pow6 hfm.2
  refine z_iconst (pc := 0) h dX3_joinRow_0 ?_
  refine z_istore_n (pc := 1) (loc' := [some (zr 24), some (zi 0), none, none]) h dX3_joinRow_1 rfl (Nat.le_of_ble_eq_true rfl) rfl rfl ?_
  refine z_aload_n (pc := 2) h dX3_joinRow_2 rfl ?_
  refine z_iconst (pc := 3) h dX3_joinRow_3 ?_
  refine z_putI (pc := 4) h dX3_joinRow_4 clX3 lkX3_86 (by decide) rfl rfl rfl rfl ?_
  refine z_iconst (pc := 7) h dX3_joinRow_7 ?_
  refine z_istore_n (pc := 8) (loc' := [some (zr 24), some (zi 0), some (zi 0), none]) h dX3_joinRow_8 rfl (Nat.le_of_ble_eq_true rfl) rfl rfl ?_
  have J9 : ∀ (N : Nat) (t k : Int) (S1 : SS) (hk : 0 ≤ k ∧ k ≤ f) (hF : ∀ x y, ¬ (x = 24 ∧ y = 10) → x ≠ 31 → S1 x y = S x y) (ht : 0 ≤ t ∧ t.toNat < 2 ^ m) (hpk : popc t.toNat = k.toNat) (hD : (rowJ A m f 0).drop k.toNat = rowJ A m (f - k.toNat) t.toNat) (hNt : S1 24 10 + (jR A m (f - k.toNat) t.toNat).2.2.2.2.1 = (jR A m f 0).2.2.2.2.1) (hR : ∀ j : Nat, (j : Int) < k → S1 31 j = (((rowJ A m f 0).getD j 0 : Nat) : Int)) , ((f : Int) - k).toNat = N → zG x LX 9 [some (zr 24), some (zi t), some (zi k), none] ([] : List zV) S1 := by
    intro N
    induction N using Nat.strongRecOn with
    | _ N ih9 => ?_
    intro t k S1 hk hF ht hpk hD hNt hR hN9
    have g8 : S1 24 8 = (f : Int) := by rw [hF _ _ (by decide) (by decide)]; exact h8
    have g9 : S1 24 9 = (m : Int) := by rw [hF _ _ (by decide) (by decide)]; exact h9
    refine z_iload_n (pc := 9) h dX3_joinRow_9 rfl ?_
    refine z_aload_n (pc := 10) h dX3_joinRow_10 rfl ?_
    refine z_getI (pc := 11) h dX3_joinRow_11 clX3 lkX3_49 (by decide) rfl rfl ?_
    refine z_icmp_ge (pc := 14) (tgt := 63) h dX3_joinRow_14 (by decide) ⟨by omega, by omega⟩ ⟨by omega, by omega⟩ (fun hc14 => ?_) (fun hc14 => ?_)
    ·
      refine z_vret (pc := 63) h dX3_joinRow_63 rfl ?_
      have hkf : k.toNat = f := by omega
      refine ⟨rfl, hF, ?_, fun j hj => hR j (by omega)⟩
      rw [hkf, Nat.sub_self] at hNt
      rw [← hNt]
      show S1 24 10 = S1 24 10 + 0
      omega
    ·
      obtain ⟨r, hrn⟩ : ∃ r, f - k.toNat = r + 1 := ⟨f - k.toNat - 1, by omega⟩
      have hC1 : colJ A m f S1 := fun p q p1 q1 => by rw [hF _ _ (by omega) (by omega), hF _ _ (by omega) (by omega)]; exact hC p q p1 q1
      have hA1 : allJ A m f S1 := fun tk q1 q2 => by have h9 := hA tk q1 q2; unfold setJ at h9 ⊢; rw [hF _ _ (by omega) (by omega), hF _ _ (by omega) (by omega), hF _ _ (by omega) (by omega), hF _ _ (by omega) (by omega)]; exact h9
      rw [hrn] at hD hNt
      refine z_aload_n (pc := 17) h dX3_joinRow_17 rfl ?_
      refine z_iload_n (pc := 18) h dX3_joinRow_18 rfl ?_
      refine z_iload_n (pc := 19) h dX3_joinRow_19 rfl ?_
      refine z_callV (pc := 20) (rest := ([] : List zV)) h (m_X3_firstBest t k r A m f S1 (by first | assumption | omega) (by first | assumption | omega) g8 g9 hC1 (by rw [hpk]; exact hrn) (by first | assumption | omega) (by omega) hA1) dX3_joinRow_20 mcX3_firstBest miX3_firstBest mlX3_89 rfl rfl ⟨by decide, by decide⟩ clX3 rfl rfl rfl (Nat.le_of_ble_eq_true rfl) ?_
      rintro _ _ ⟨rfl, v20, rfl, hr20a, hr20b, hr20c, hr20d⟩
      show zG x LX 23 [some (zr 24), some (zi t), some (zi k), none] [zi ((v20 : Nat) : Int)] S1
      obtain ⟨p1, p2, p3⟩ := popc_set hfm.2 ht.2 hr20a hr20b
      have hpw := pw_b (j := ((v20 : Nat) : Int)) (by omega)
      have htn : ((t.toNat ||| 2 ^ v20 : Nat) : Int).toNat = t.toNat ||| 2 ^ v20 := Int.toNat_natCast _
      have cw := (hC1 k.toNat v20 (by omega) (by omega)).1
      have hix : (k * 6 + ((v20 : Nat) : Int)).toNat = k.toNat * 6 + v20 := by omega
      refine z_istore_n (pc := 23) (loc' := [some (zr 24), some (zi t), some (zi k), some (zi ((v20 : Nat) : Int))]) h dX3_joinRow_23 rfl (Nat.le_of_ble_eq_true rfl) rfl rfl ?_
      refine z_aload_n (pc := 24) h dX3_joinRow_24 rfl ?_
      refine z_getR (a := 31) (pc := 25) h dX3_joinRow_25 clX3 lkX3_30 (by decide) rfl rfl ?_
      refine z_iload_n (pc := 28) h dX3_joinRow_28 rfl ?_
      refine z_iload_n (pc := 29) h dX3_joinRow_29 rfl ?_
      refine z_iast (pc := 30) h dX3_joinRow_30 rfl (by decide) (by omega) (by omega) ?_
      refine z_aload_n (pc := 31) h dX3_joinRow_31 rfl ?_
      refine z_dup (pc := 32) h dX3_joinRow_32 rfl ?_
      refine z_getI (pc := 33) h dX3_joinRow_33 clX3 lkX3_86 (by decide) rfl rfl ?_
      refine z_cv (b := (S1 24 10)) (by rw [up2_k _ _ (by decide)]) ?_
      refine z_aload_n (pc := 36) h dX3_joinRow_36 rfl ?_
      refine z_getR (a := 25) (pc := 37) h dX3_joinRow_37 clX3 lkX3_9 (by decide) rfl rfl ?_
      refine z_iload_n (pc := 40) h dX3_joinRow_40 rfl ?_
      refine z_bipush (pc := 41) h dX3_joinRow_41 rfl ?_
      refine z_imul (pc := 43) h dX3_joinRow_43 ?_
      refine z_iload_n (pc := 44) h dX3_joinRow_44 rfl ?_
      refine z_iadd (pc := 45) h dX3_joinRow_45 ?_
      refine z_iald (pc := 46) h dX3_joinRow_46 rfl (by decide) (by omega) (by omega) ?_
      refine z_cv (b := (S1 25 (Int.toNat ((k * 6) + ((v20 : Nat) : Int))))) (by rw [up2_k _ _ (by decide)]) ?_
      refine z_cv (b := (wyA A k.toNat v20)) (by rw [hix]; first | exact cw | (rw [up2_k _ _ (by decide)]; exact cw)) ?_
      refine z_iadd (pc := 47) h dX3_joinRow_47 ?_
      refine z_putI (pc := 48) h dX3_joinRow_48 clX3 lkX3_86 (by decide) rfl rfl rfl rfl ?_
      refine z_iload_n (pc := 51) h dX3_joinRow_51 rfl ?_
      refine z_iconst (pc := 52) h dX3_joinRow_52 ?_
      refine z_iload_n (pc := 53) h dX3_joinRow_53 rfl ?_
      refine z_ishl (pc := 54) h dX3_joinRow_54 ⟨by omega, by omega⟩ ?_
      refine z_ior (pc := 55) h dX3_joinRow_55 ⟨by omega, by omega⟩ ⟨by have := hpw.1; rw [Int.toNat_natCast] at this; exact this, Int.le_trans (by have := hpw.2; rw [Int.toNat_natCast] at this; exact this) (by decide)⟩ ?_
      refine z_cv (b := ((t.toNat ||| 2 ^ v20 : Nat) : Int)) (by exact or_v ht.1 (Int.natCast_nonneg v20)) ?_
      refine z_istore_n (pc := 56) (loc' := [some (zr 24), some (zi ((t.toNat ||| 2 ^ v20 : Nat) : Int)), some (zi k), some (zi ((v20 : Nat) : Int))]) h dX3_joinRow_56 rfl (Nat.le_of_ble_eq_true rfl) rfl rfl ?_
      refine z_iinc (pc := 57) (loc' := [some (zr 24), some (zi ((t.toNat ||| 2 ^ v20 : Nat) : Int)), some (zi (k + 1)), some (zi ((v20 : Nat) : Int))]) h dX3_joinRow_57 rfl (Nat.le_of_ble_eq_true rfl) rfl rfl ?_
      refine z_goto (pc := 60) (tgt := 9) h dX3_joinRow_60 (by decide) ?_
      refine z_forget [true, true, true, false] (loc' := [some (zr 24), some (zi ((t.toNat ||| 2 ^ v20 : Nat) : Int)), some (zi (k + 1)), none]) rfl ?_
      exact ih9 _ (by omega) ((t.toNat ||| 2 ^ v20 : Nat) : Int) (k + 1) (up2 (up2 S1 31 k.toNat ((v20 : Nat) : Int)) 24 10 ((S1 24 10) + (wyA A k.toNat v20))) (by omega) (fun x y q q2 => by rw [up2_e, if_neg q, up2_k _ _ q2]; exact hF x y q q2) (⟨by omega, by rw [htn]; exact p2⟩) (by rw [htn, p1, hpk]; omega) (by rw [htn, show (k + 1).toNat = k.toNat + 1 by omega, show f - (k.toNat + 1) = r by omega]; exact (drop_s (by rw [hD]; exact hr20c)).2) (by rw [up2_s, htn, show f - (k + 1).toNat = r by omega, ← hNt, hr20d, hpk]; omega) (by intro j hj; rw [up2_k _ _ (by decide)]; by_cases hjk : j = k.toNat; (subst hjk; rw [up2_s]; rw [(drop_s (by rw [hD]; exact hr20c)).1]); (rw [up2_j _ _ hjk]; exact hR j (by omega))) rfl
  exact J9 _ 0 0 (up2 S 24 10 0) (by omega) (fun x y q _ => by rw [up2_e, if_neg q]) (⟨by decide, by show 0 < 2 ^ m; omega⟩) (rfl) (rfl) (by rw [up2_s, Int.zero_add]; rfl) (by intro j hj; omega) rfl

set_option maxRecDepth 100000 in
set_option maxHeartbeats 4000000 in
theorem m_X3_sum (S : SS)  : zM LX yX3_sum cX3_sum 1 (some .int) 0 0 [zr 24] S (fun r S' => S = S' ∧ r = some (zi (S 27 0))) := by
  refine zM_of (own := RX3) rfl (by decide +kernel) [some (zr 24)] (Nat.le_of_ble_eq_true rfl) rfl ?_
  intro x h
  refine z_aload_n (pc := 0) h dX3_sum_0 rfl ?_
  refine z_getR (a := 27) (pc := 1) h dX3_sum_1 clX3 lkX3_18 (by decide) rfl rfl ?_
  refine z_iconst (pc := 4) h dX3_sum_4 ?_
  refine z_iald (pc := 5) h dX3_sum_5 rfl (by decide) (by decide) (by decide) ?_
  exact z_iret (pc := 6) h dX3_sum_6 rfl ⟨rfl, congrArg (fun z => some (zi z)) (by rfl)⟩

set_option maxRecDepth 100000 in
set_option maxHeartbeats 4000000 in
theorem m_X3_howMany (S : SS)  : zM LX yX3_howMany cX3_howMany 1 (some .int) 0 0 [zr 24] S (fun r S' => S = S' ∧ r = some (zi (S 28 0))) := by
  refine zM_of (own := RX3) rfl (by decide +kernel) [some (zr 24)] (Nat.le_of_ble_eq_true rfl) rfl ?_
  intro x h
  refine z_aload_n (pc := 0) h dX3_howMany_0 rfl ?_
  refine z_getR (a := 28) (pc := 1) h dX3_howMany_1 clX3 lkX3_21 (by decide) rfl rfl ?_
  refine z_iconst (pc := 4) h dX3_howMany_4 ?_
  refine z_iald (pc := 5) h dX3_howMany_5 rfl (by decide) (by decide) (by decide) ?_
  exact z_iret (pc := 6) h dX3_howMany_6 rfl ⟨rfl, congrArg (fun z => some (zi z)) (by rfl)⟩

set_option maxRecDepth 100000 in
set_option maxHeartbeats 4000000 in
theorem m_X3_split (S : SS) (h1 : r32 (S 29 0)) (h2 : r32 (S 30 0)) : zM LX yX3_split cX3_split 1 (some .int) 0 0 [zr 24] S (fun r S' => S = S' ∧ r = some (zi (if S 29 0 = S 30 0 then 0 else 1))) := by
  refine zM_of (own := RX3) rfl (by decide +kernel) [some (zr 24)] (Nat.le_of_ble_eq_true rfl) rfl ?_
  intro x h
  refine z_aload_n (pc := 0) h dX3_split_0 rfl ?_
  refine z_getR (a := 29) (pc := 1) h dX3_split_1 clX3 lkX3_24 (by decide) rfl rfl ?_
  refine z_iconst (pc := 4) h dX3_split_4 ?_
  refine z_iald (pc := 5) h dX3_split_5 rfl (by decide) (by decide) (by decide) ?_
  refine z_cv (b := (S 29 0)) (by exact rfl) ?_
  refine z_aload_n (pc := 6) h dX3_split_6 rfl ?_
  refine z_getR (a := 30) (pc := 7) h dX3_split_7 clX3 lkX3_27 (by decide) rfl rfl ?_
  refine z_iconst (pc := 10) h dX3_split_10 ?_
  refine z_iald (pc := 11) h dX3_split_11 rfl (by decide) (by decide) (by decide) ?_
  refine z_cv (b := (S 30 0)) (by exact rfl) ?_
  refine z_icmp_ne (pc := 12) (tgt := 19) h dX3_split_12 (by decide) ⟨by omega, by omega⟩ ⟨by omega, by omega⟩ (fun hc12 => ?_) (fun hc12 => ?_)
  ·
    refine z_iconst (pc := 19) h dX3_split_19 ?_
    exact z_iret (pc := 20) h dX3_split_20 rfl ⟨rfl, congrArg (fun z => some (zi z)) (by first | (rw [if_pos (by omega)]) | (rw [if_neg (by omega)]))⟩
  ·
    refine z_iconst (pc := 15) h dX3_split_15 ?_
    refine z_goto (pc := 16) (tgt := 20) h dX3_split_16 (by decide) ?_
    exact z_iret (pc := 20) h dX3_split_20 rfl ⟨rfl, congrArg (fun z => some (zi z)) (by first | (rw [if_pos (by omega)]) | (rw [if_neg (by omega)]))⟩

set_option maxRecDepth 100000 in
set_option maxHeartbeats 4000000 in
theorem m_X3_search (w : Int) (A S : SS) (hR : cRel S A) (hw : w = A 5 1) : zM LX yX3_search cX3_search 10 none 3 72 [zr 24, zr 9, zr 12, zi w] S (fun r S' => r = none ∧ (∀ x y, ¬ (24 ≤ x ∧ x ≤ 31) → S' x y = S x y) ∧ S' 24 7 = (if dA A 1 < dA A 0 then 12 else 9) ∧ S' 24 8 = (fewN A : Int) ∧ S' 24 10 = (jT A).2.2.2.2.1 ∧ (S' 27 0 = (jT A).2.1 ∧ S' 28 0 = (jT A).1 ∧ S' 29 0 = (jT A).2.2.1 ∧ S' 30 0 = (jT A).2.2.2.1) ∧ ∀ j : Nat, j < fewN A → S' 31 j = (((jT A).2.2.2.2.2.getD j 0 : Nat) : Int)) := by
  refine zM_of (own := RX3) rfl (by decide +kernel) [some (zr 24), some (zr 9), some (zr 12), some (zi w), none, none, none, none, none, none] (Nat.le_of_ble_eq_true rfl) rfl ?_
  intro x h
  have hm := hR.1
  have L0 := hR.2.2.2.1.1
  have L1 := hR.2.2.2.1.2
  have e0 : S 9 2 = dA A 0 := L0.1
  have e1 : S 12 2 = dA A 1 := L1.1
  have b0 := dA_b hm (a := 0) (by decide)
  have b1 := dA_b hm (a := 1) (by decide)
  obtain ⟨f, hf⟩ : ∃ f, fewN A = f := ⟨_, rfl⟩
  obtain ⟨m, hmn⟩ : ∃ m, manN A = m := ⟨_, rfl⟩
  have hf1 : (f : Int) = min (dA A 0) (dA A 1) := by rw [← hf]; unfold fewN; omega
  have hm1 : (m : Int) = max (dA A 0) (dA A 1) := by rw [← hmn]; unfold manN; omega
  have hfm : f ≤ m ∧ m ≤ 6 := by omega
  have hp6 := pow6 hfm.2
  obtain ⟨q, hq1, hq2, hq3, hq4, hq5⟩ := pow_e (n := (m : Int)) (by omega)
  rw [Int.toNat_natCast] at hq1
  unfold jT at h
  rw [hf, hmn] at h
  have hwu := mi_u hm
  refine z_aload_n (pc := 0) h dX3_search_0 rfl ?_
  have J16 : ∀ (u : Int) (hu : (u = 1 ∧ dA A 1 < dA A 0) ∨ (u = 0 ∧ ¬ dA A 1 < dA A 0)) , zG x LX 16 [some (zr 24), some (zr 9), some (zr 12), some (zi w), none, none, none, none, none, none] [zi u] S := by
    intro u hu
    refine z_istore (pc := 16) (loc' := [some (zr 24), some (zr 9), some (zr 12), some (zi w), some (zi u), none, none, none, none, none]) h dX3_search_16 (Nat.le_of_ble_eq_true rfl) rfl rfl ?_
    have J32 : ∀ (S1 : SS) (h17 : S1 24 7 = (if dA A 1 < dA A 0 then 12 else 9)) (hF1 : ∀ x y, ¬ (24 ≤ x ∧ x ≤ 31) → S1 x y = S x y) , zG x LX 32 [some (zr 24), some (zr 9), some (zr 12), some (zi w), some (zi u), none, none, none, none, none] ([] : List zV) S1 := by
      intro S1 h17 hF1
      have a0 : S1 9 2 = dA A 0 := by rw [hF1 _ _ (by decide)]; exact e0
      have a1 : S1 12 2 = dA A 1 := by rw [hF1 _ _ (by decide)]; exact e1
      refine z_aload_n (pc := 32) h dX3_search_32 rfl ?_
      refine z_aload_n (pc := 33) h dX3_search_33 rfl ?_
      refine z_getI (pc := 34) h dX3_search_34 clX4 lkX3_33 (by decide) rfl rfl ?_
      refine z_aload_n (pc := 37) h dX3_search_37 rfl ?_
      refine z_getI (pc := 38) h dX3_search_38 clX4 lkX3_33 (by decide) rfl rfl ?_
      refine z_callS (pc := 41) (rest := [zr 24]) h (m_J9_min_7cf53 (S1 9 2) (S1 12 2) S1 ⟨by omega, by omega⟩ ⟨by omega, by omega⟩) dX3_search_41 mcJ9_min_7cf53 msJ9_min_7cf53 mlX3_43 rfl rfl ⟨by decide, by decide⟩ rfl (Nat.le_of_ble_eq_true rfl) ?_
      rintro _ _ ⟨rfl, rfl⟩
      show zG x LX 44 [some (zr 24), some (zr 9), some (zr 12), some (zi w), some (zi u), none, none, none, none, none] [zi (min (S1 9 2) (S1 12 2)), zr 24] S1
      refine z_bipush (pc := 44) h dX3_search_44 rfl ?_
      refine z_callS (pc := 46) (rest := [zr 24]) h (m_J9_min_7cf53 (min (S1 9 2) (S1 12 2)) 6 S1 ⟨by omega, by omega⟩ ⟨by decide, by decide⟩) dX3_search_46 mcJ9_min_7cf53 msJ9_min_7cf53 mlX3_43 rfl rfl ⟨by decide, by decide⟩ rfl (Nat.le_of_ble_eq_true rfl) ?_
      rintro _ _ ⟨rfl, rfl⟩
      show zG x LX 49 [some (zr 24), some (zr 9), some (zr 12), some (zi w), some (zi u), none, none, none, none, none] [zi (min (min (S1 9 2) (S1 12 2)) 6), zr 24] S1
      refine z_cv (b := (f : Int)) (by omega) ?_
      refine z_putI (pc := 49) h dX3_search_49 clX3 lkX3_49 (by decide) rfl rfl rfl rfl ?_
      refine z_aload_n (pc := 52) h dX3_search_52 rfl ?_
      refine z_aload_n (pc := 53) h dX3_search_53 rfl ?_
      refine z_getI (pc := 54) h dX3_search_54 clX4 lkX3_33 (by decide) rfl rfl ?_
      refine z_cv (b := (S1 9 2)) (by rw [up2_k _ _ (by decide)]) ?_
      refine z_aload_n (pc := 57) h dX3_search_57 rfl ?_
      refine z_getI (pc := 58) h dX3_search_58 clX4 lkX3_33 (by decide) rfl rfl ?_
      refine z_cv (b := (S1 12 2)) (by rw [up2_k _ _ (by decide)]) ?_
      refine z_callS (pc := 61) (rest := [zr 24]) h (m_J9_max_7cf53 (S1 9 2) (S1 12 2) (up2 S1 24 8 (f : Int)) ⟨by omega, by omega⟩ ⟨by omega, by omega⟩) dX3_search_61 mcJ9_max_7cf53 msJ9_max_7cf53 mlX3_52 rfl rfl ⟨by decide, by decide⟩ rfl (Nat.le_of_ble_eq_true rfl) ?_
      rintro _ _ ⟨rfl, rfl⟩
      show zG x LX 64 [some (zr 24), some (zr 9), some (zr 12), some (zi w), some (zi u), none, none, none, none, none] [zi (max (S1 9 2) (S1 12 2)), zr 24] (up2 S1 24 8 (f : Int))
      refine z_bipush (pc := 64) h dX3_search_64 rfl ?_
      refine z_callS (pc := 66) (rest := [zr 24]) h (m_J9_min_7cf53 (max (S1 9 2) (S1 12 2)) 6 (up2 S1 24 8 (f : Int)) ⟨by omega, by omega⟩ ⟨by decide, by decide⟩) dX3_search_66 mcJ9_min_7cf53 msJ9_min_7cf53 mlX3_43 rfl rfl ⟨by decide, by decide⟩ rfl (Nat.le_of_ble_eq_true rfl) ?_
      rintro _ _ ⟨rfl, rfl⟩
      show zG x LX 69 [some (zr 24), some (zr 9), some (zr 12), some (zi w), some (zi u), none, none, none, none, none] [zi (min (max (S1 9 2) (S1 12 2)) 6), zr 24] (up2 S1 24 8 (f : Int))
      refine z_cv (b := (m : Int)) (by omega) ?_
      refine z_putI (pc := 69) h dX3_search_69 clX3 lkX3_55 (by decide) rfl rfl rfl rfl ?_
      refine z_iconst (pc := 72) h dX3_search_72 ?_
      refine z_istore (pc := 73) (loc' := [some (zr 24), some (zr 9), some (zr 12), some (zi w), some (zi u), some (zi 0), none, none, none, none]) h dX3_search_73 (Nat.le_of_ble_eq_true rfl) rfl rfl ?_
      have J75 : ∀ (N : Nat) (k : Int) (S2 : SS) (hk : 0 ≤ k ∧ k ≤ f) (p4 : S2 24 7 = (if dA A 1 < dA A 0 then 12 else 9) ∧ S2 24 8 = (f : Int) ∧ S2 24 9 = (m : Int)) (hF2 : ∀ x y, ¬ (24 ≤ x ∧ x ≤ 31) → S2 x y = S x y) (hP : ∀ k1 r1 : Nat, (k1 : Int) < k → r1 < m → S2 25 (k1 * 6 + r1) = wyA A k1 r1 ∧ S2 26 (k1 * 6 + r1) = coA A k1 r1) , ((f : Int) - k).toNat = N → zG x LX 75 [some (zr 24), some (zr 9), some (zr 12), some (zi w), some (zi u), some (zi k), none, none, none, none] ([] : List zV) S2 := by
        intro N
        induction N using Nat.strongRecOn with
        | _ N ih75 => ?_
        intro k S2 hk p4 hF2 hP hN75
        refine z_iload (pc := 75) h dX3_search_75 rfl ?_
        refine z_aload_n (pc := 77) h dX3_search_77 rfl ?_
        refine z_getI (pc := 78) h dX3_search_78 clX3 lkX3_49 (by decide) rfl rfl ?_
        refine z_icmp_ge (pc := 81) (tgt := 197) h dX3_search_81 (by decide) ⟨by omega, by omega⟩ ⟨by omega, by omega⟩ (fun hc81 => ?_) (fun hc81 => ?_)
        ·
          refine z_iconst (pc := 197) h dX3_search_197 ?_
          refine z_aload_n (pc := 198) h dX3_search_198 rfl ?_
          refine z_getI (pc := 199) h dX3_search_199 clX3 lkX3_55 (by decide) rfl rfl ?_
          refine z_ishl (pc := 202) h dX3_search_202 ⟨by omega, by omega⟩ ?_
          refine z_cv (b := (q + 1)) (by rw [p4.2.2]; exact hq2) ?_
          refine z_iconst (pc := 203) h dX3_search_203 ?_
          refine z_isub (pc := 204) h dX3_search_204 ?_
          refine z_istore (pc := 205) (loc' := [some (zr 24), some (zr 9), some (zr 12), some (zi w), some (zi u), some (zi ((q + 1) - 1)), none, none, none, none]) h dX3_search_205 (Nat.le_of_ble_eq_true rfl) rfl rfl ?_
          have J207 : ∀ (N : Nat) (t : Int) (S4 : SS) (ht : -1 ≤ t ∧ t ≤ q) (p6 : S4 24 7 = (if dA A 1 < dA A 0 then 12 else 9) ∧ S4 24 8 = (f : Int) ∧ S4 24 9 = (m : Int)) (hF4 : ∀ x y, ¬ (24 ≤ x ∧ x ≤ 31) → S4 x y = S x y) (hC4 : colJ A m f S4) (hG : ∀ tk : Nat, t < (tk : Int) → tk < 2 ^ m → popc tk ≤ f → setJ A m f S4 tk) , (t + 1).toNat = N → zG x LX 207 [some (zr 24), some (zr 9), some (zr 12), some (zi w), some (zi u), some (zi t), none, none, none, none] ([] : List zV) S4 := by
            intro N
            induction N using Nat.strongRecOn with
            | _ N ih207 => ?_
            intro t S4 ht p6 hF4 hC4 hG hN207
            refine z_iload (pc := 207) h dX3_search_207 rfl ?_
            refine z_if_lt (pc := 209) (tgt := 224) h dX3_search_209 (by decide) ⟨by omega, by omega⟩ (fun hc209 => ?_) (fun hc209 => ?_)
            ·
              have hAA : allJ A m f S4 := fun tk q1 q2 => hG tk (by omega) q1 q2
              refine z_aload_n (pc := 224) h dX3_search_224 rfl ?_
              refine z_callV (pc := 225) (rest := ([] : List zV)) h (m_X3_joinRow A m f S4 (by first | assumption | omega) (by first | assumption | omega) p6.2.1 p6.2.2 hC4 hAA) dX3_search_225 mcX3_joinRow miX3_joinRow mlX3_74 rfl rfl ⟨by decide, by decide⟩ clX3 rfl rfl rfl (Nat.le_of_ble_eq_true rfl) ?_
              rintro _ S225 ⟨rfl, hr225f, hr225n, hr225r⟩
              show zG x LX 228 [some (zr 24), some (zr 9), some (zr 12), some (zi w), some (zi u), some (zi t), none, none, none, none] ([] : List zV) S225
              refine z_vret (pc := 228) h dX3_search_228 rfl ?_
              have h0 := hAA 0 (by show 0 < 2 ^ m; omega) (by show 0 ≤ f; omega)
              unfold setJ at h0
              rw [show f - popc 0 = f from rfl] at h0
              exact ⟨rfl, fun x y q => by rw [hr225f _ _ (by omega) (by omega)]; exact hF4 x y q, by rw [hr225f _ _ (by decide) (by decide)]; exact p6.1, by rw [hr225f _ _ (by decide) (by decide)]; exact p6.2.1, hr225n, by rw [hr225f _ _ (by decide) (by decide), hr225f _ _ (by decide) (by decide), hr225f _ _ (by decide) (by decide), hr225f _ _ (by decide) (by decide)]; exact h0, hr225r⟩
            ·
              have htt : 0 ≤ t ∧ t.toNat < 2 ^ m := by omega
              have hK : ∀ _u : Unit, popc t.toNat < f → ∀ d : Nat, d < m → t.toNat.testBit d = false → setJ A m f S4 (t.toNat ||| 2 ^ d) := fun _ hq d q1 q2 => by
                obtain ⟨u1, u2, u3⟩ := popc_set hfm.2 htt.2 q1 q2
                exact hG _ (by omega) u2 (by omega)
              refine z_aload_n (pc := 212) h dX3_search_212 rfl ?_
              refine z_iload (pc := 213) h dX3_search_213 rfl ?_
              refine z_callV (pc := 215) (rest := ([] : List zV)) h (m_X3_settle t A m f S4 (by first | assumption | omega) (by first | assumption | omega) p6.2.1 p6.2.2 hC4 (by first | assumption | omega) hK) dX3_search_215 mcX3_settle miX3_settle mlX3_70 rfl rfl ⟨by decide, by decide⟩ clX3 rfl rfl rfl (Nat.le_of_ble_eq_true rfl) ?_
              rintro _ S215 ⟨rfl, hr215f, hr215s⟩
              show zG x LX 218 [some (zr 24), some (zr 9), some (zr 12), some (zi w), some (zi u), some (zi t), none, none, none, none] ([] : List zV) S215
              refine z_iinc (pc := 218) (loc' := [some (zr 24), some (zr 9), some (zr 12), some (zi w), some (zi u), some (zi (t + (-1))), none, none, none, none]) h dX3_search_218 rfl (Nat.le_of_ble_eq_true rfl) rfl rfl ?_
              refine z_goto (pc := 221) (tgt := 207) h dX3_search_221 (by decide) ?_
              exact ih207 _ (by omega) (t + (-1)) S215 (by omega) (by rw [hr215f _ _ (by omega), hr215f _ _ (by omega), hr215f _ _ (by omega)]; exact p6) (fun x y q => by rw [hr215f _ _ (by omega)]; exact hF4 x y q) (fun k1 r1 q1 q2 => by rw [hr215f _ _ (by omega), hr215f _ _ (by omega)]; exact hC4 k1 r1 q1 q2) (by intro tk q1 q2 q3; by_cases htk : tk = t.toNat; (subst htk; exact hr215s q3); (have h9 := hG tk (by omega) q2 q3; unfold setJ at h9 ⊢; rw [hr215f _ _ (by omega), hr215f _ _ (by omega), hr215f _ _ (by omega), hr215f _ _ (by omega)]; exact h9)) rfl
          exact J207 _ ((q + 1) - 1) S2 (by omega) (by exact p4) (by exact hF2) (fun k1 r1 q1 q2 => hP k1 r1 (by omega) q2) (fun tk q1 q2 => by omega) rfl
        ·
          refine z_iconst (pc := 84) h dX3_search_84 ?_
          refine z_istore (pc := 85) (loc' := [some (zr 24), some (zr 9), some (zr 12), some (zi w), some (zi u), some (zi k), some (zi 0), none, none, none]) h dX3_search_85 (Nat.le_of_ble_eq_true rfl) rfl rfl ?_
          have J87 : ∀ (N : Nat) (r : Int) (S3 : SS) (hr : 0 ≤ r ∧ r ≤ m) (p5 : S3 24 7 = (if dA A 1 < dA A 0 then 12 else 9) ∧ S3 24 8 = (f : Int) ∧ S3 24 9 = (m : Int)) (hF3 : ∀ x y, ¬ (24 ≤ x ∧ x ≤ 31) → S3 x y = S x y) (hP3 : ∀ k1 r1 : Nat, (k1 : Int) < k → r1 < m → S3 25 (k1 * 6 + r1) = wyA A k1 r1 ∧ S3 26 (k1 * 6 + r1) = coA A k1 r1) (hQ3 : ∀ r1 : Nat, (r1 : Int) < r → S3 25 (k.toNat * 6 + r1) = wyA A k.toNat r1 ∧ S3 26 (k.toNat * 6 + r1) = coA A k.toNat r1) , ((m : Int) - r).toNat = N → zG x LX 87 [some (zr 24), some (zr 9), some (zr 12), some (zi w), some (zi u), some (zi k), some (zi r), none, none, none] ([] : List zV) S3 := by
            intro N
            induction N using Nat.strongRecOn with
            | _ N ih87 => ?_
            intro r S3 hr p5 hF3 hP3 hQ3 hN87
            refine z_iload (pc := 87) h dX3_search_87 rfl ?_
            refine z_aload_n (pc := 89) h dX3_search_89 rfl ?_
            refine z_getI (pc := 90) h dX3_search_90 clX3 lkX3_55 (by decide) rfl rfl ?_
            refine z_icmp_ge (pc := 93) (tgt := 191) h dX3_search_93 (by decide) ⟨by omega, by omega⟩ ⟨by omega, by omega⟩ (fun hc93 => ?_) (fun hc93 => ?_)
            ·
              refine z_iinc (pc := 191) (loc' := [some (zr 24), some (zr 9), some (zr 12), some (zi w), some (zi u), some (zi (k + 1)), some (zi r), none, none, none]) h dX3_search_191 rfl (Nat.le_of_ble_eq_true rfl) rfl rfl ?_
              refine z_goto (pc := 194) (tgt := 75) h dX3_search_194 (by decide) ?_
              refine z_forget [true, true, true, true, true, true, false, true, true, true] (loc' := [some (zr 24), some (zr 9), some (zr 12), some (zi w), some (zi u), some (zi (k + 1)), none, none, none, none]) rfl ?_
              exact ih75 _ (by omega) (k + 1) S3 (by omega) (by exact p5) (by exact hF3) (by intro x y q1 q2; by_cases hx : (x : Int) = k; (have h9 := hQ3 y (by omega); rw [show k.toNat = x by omega] at h9; exact h9); exact hP3 x y (by omega) q2) rfl
            ·
              have J124 : ∀ (fr to : Int) (hft : (u = 0 ∧ fr = k ∧ to = r) ∨ (u = 1 ∧ fr = r ∧ to = k)) , zG x LX 124 [some (zr 24), some (zr 9), some (zr 12), some (zi w), some (zi u), some (zi k), some (zi r), some (zi fr), some (zi to), none] ([] : List zV) S3 := by
                intro fr to hft
                have d0 : S3 9 2 = dA A 0 := by rw [hF3 _ _ (by decide)]; exact e0
                have d1 : S3 12 2 = dA A 1 := by rw [hF3 _ _ (by decide)]; exact e1
                have hfr : 0 ≤ fr ∧ fr < dA A 0 := by omega
                have hto : 0 ≤ to ∧ to < dA A 1 := by omega
                have s0 := L0.2 fr.toNat (by omega)
                have s1 := L1.2 to.toNat (by omega)
                have x0 := mi_dp hm (6 * 0 + fr.toNat)
                have x1 := mi_dp hm (6 * 1 + to.toNat)
                have y0 := mi_df hm (6 * 0 + fr.toNat)
                have y1 := mi_df hm (6 * 1 + to.toNat)
                have t10 : S3 10 fr.toNat = A 7 (6 * 0 + fr.toNat) := by rw [hF3 _ _ (by decide)]; exact s0.1
                have t11 : S3 11 fr.toNat = A 8 (6 * 0 + fr.toNat) := by rw [hF3 _ _ (by decide)]; exact s0.2
                have t13 : S3 13 to.toNat = A 7 (6 * 1 + to.toNat) := by rw [hF3 _ _ (by decide)]; exact s1.1
                have t14 : S3 14 to.toNat = A 8 (6 * 1 + to.toNat) := by rw [hF3 _ _ (by decide)]; exact s1.2
                have hway : wayF (S3 10 fr.toNat) (S3 13 to.toNat) = wyA A k.toNat r.toNat := by
                  rw [t10, t13]
                  unfold wyA
                  rcases hft with ⟨c1, c2, c3⟩ | ⟨c1, c2, c3⟩
                  · rw [if_neg (by omega), c2, c3, show 6 * 0 + k.toNat = k.toNat by omega]
                  · rw [if_pos (by omega), c2, c3, show 6 * 0 + r.toNat = r.toNat by omega]
                have hsame : fdA A k.toNat r.toNat = if S3 11 fr.toNat = S3 14 to.toNat then 0 else w := by
                  rw [t11, t14, hw]
                  unfold fdA
                  rcases hft with ⟨c1, c2, c3⟩ | ⟨c1, c2, c3⟩
                  · rw [if_neg (by omega), c2, c3, show 6 * 0 + k.toNat = k.toNat by omega]
                  · rw [if_pos (by omega), c2, c3, show 6 * 0 + r.toNat = r.toNat by omega]
                have hwb := wyA_b A k.toNat r.toNat
                have hi6 : (k * 6 + r).toNat = k.toNat * 6 + r.toNat := by omega
                refine z_iload (pc := 124) h dX3_search_124 rfl ?_
                refine z_bipush (pc := 126) h dX3_search_126 rfl ?_
                refine z_imul (pc := 128) h dX3_search_128 ?_
                refine z_iload (pc := 129) h dX3_search_129 rfl ?_
                refine z_iadd (pc := 131) h dX3_search_131 ?_
                refine z_istore (pc := 132) (loc' := [some (zr 24), some (zr 9), some (zr 12), some (zi w), some (zi u), some (zi k), some (zi r), some (zi fr), some (zi to), some (zi ((k * 6) + r))]) h dX3_search_132 (Nat.le_of_ble_eq_true rfl) rfl rfl ?_
                refine z_aload_n (pc := 134) h dX3_search_134 rfl ?_
                refine z_getR (a := 25) (pc := 135) h dX3_search_135 clX3 lkX3_9 (by decide) rfl rfl ?_
                refine z_iload (pc := 138) h dX3_search_138 rfl ?_
                refine z_aload_n (pc := 140) h dX3_search_140 rfl ?_
                refine z_iload (pc := 141) h dX3_search_141 rfl ?_
                refine z_aload_n (pc := 143) h dX3_search_143 rfl ?_
                refine z_iload (pc := 144) h dX3_search_144 rfl ?_
                refine z_callV (pc := 146) (rest := [zi ((k * 6) + r), zr 25]) h (m_X4_wayTo 9 12 fr to S3 isLook9 isLook12 (by first | assumption | omega) (by first | assumption | omega) (by show 0 ≤ S3 10 fr.toNat ∧ _; rw [t10]; exact x0) (by show 0 ≤ S3 13 to.toNat ∧ _; rw [t13]; exact x1)) dX3_search_146 mcX4_wayTo miX4_wayTo mlX3_58 rfl rfl ⟨by decide, by decide⟩ clX4 rfl rfl rfl (Nat.le_of_ble_eq_true rfl) ?_
                rintro _ _ ⟨rfl, rfl⟩
                show zG x LX 149 [some (zr 24), some (zr 9), some (zr 12), some (zi w), some (zi u), some (zi k), some (zi r), some (zi fr), some (zi to), some (zi ((k * 6) + r))] [zi (wayF (S3 (9 + 1) fr.toNat) (S3 (12 + 1) to.toNat)), zi ((k * 6) + r), zr 25] S3
                refine z_cv (b := (wyA A k.toNat r.toNat)) (by first | exact hway) ?_
                refine z_iast (pc := 149) h dX3_search_149 rfl (by decide) (by omega) (by omega) ?_
                refine z_aload_n (pc := 150) h dX3_search_150 rfl ?_
                refine z_getR (a := 26) (pc := 151) h dX3_search_151 clX3 lkX3_15 (by decide) rfl rfl ?_
                refine z_iload (pc := 154) h dX3_search_154 rfl ?_
                refine z_aload_n (pc := 156) h dX3_search_156 rfl ?_
                refine z_getR (a := 25) (pc := 157) h dX3_search_157 clX3 lkX3_9 (by decide) rfl rfl ?_
                refine z_iload (pc := 160) h dX3_search_160 rfl ?_
                refine z_iald (pc := 162) h dX3_search_162 rfl (by decide) (by omega) (by omega) ?_
                refine z_cv (b := (wyA A k.toNat r.toNat)) (by rw [up2_s]) ?_
                refine z_callS (pc := 163) (rest := [zi ((k * 6) + r), zr 26]) h (m_J9_abs_0f7a4 (wyA A k.toNat r.toNat) (up2 S3 25 (Int.toNat ((k * 6) + r)) (wyA A k.toNat r.toNat)) ⟨by omega, by omega⟩) dX3_search_163 mcJ9_abs_0f7a4 msJ9_abs_0f7a4 mlX3_62 rfl rfl ⟨by decide, by decide⟩ rfl (Nat.le_of_ble_eq_true rfl) ?_
                rintro _ _ ⟨rfl, rfl⟩
                show zG x LX 166 [some (zr 24), some (zr 9), some (zr 12), some (zi w), some (zi u), some (zi k), some (zi r), some (zi fr), some (zi to), some (zi ((k * 6) + r))] [zi (absI (wyA A k.toNat r.toNat)), zi ((k * 6) + r), zr 26] (up2 S3 25 (Int.toNat ((k * 6) + r)) (wyA A k.toNat r.toNat))
                refine z_aload_n (pc := 166) h dX3_search_166 rfl ?_
                refine z_iload (pc := 167) h dX3_search_167 rfl ?_
                refine z_aload_n (pc := 169) h dX3_search_169 rfl ?_
                refine z_iload (pc := 170) h dX3_search_170 rfl ?_
                refine z_callV (pc := 172) (rest := [zi (absI (wyA A k.toNat r.toNat)), zi ((k * 6) + r), zr 26]) h (m_X4_sameForm 9 12 fr to (up2 S3 25 (Int.toNat ((k * 6) + r)) (wyA A k.toNat r.toNat)) isLook9 isLook12 (by rw [up2_k _ _ (by decide)]; omega) (by rw [up2_k _ _ (by decide)]; omega) (by show 0 ≤ S3 11 fr.toNat ∧ S3 11 fr.toNat ≤ 3; rw [t11]; exact y0) (by show 0 ≤ S3 14 to.toNat ∧ S3 14 to.toNat ≤ 3; rw [t14]; exact y1)) dX3_search_172 mcX4_sameForm miX4_sameForm mlX3_66 rfl rfl ⟨by decide, by decide⟩ clX4 rfl rfl rfl (Nat.le_of_ble_eq_true rfl) ?_
                rintro _ _ ⟨rfl, ⟨hr172, rfl⟩ | ⟨hr172, rfl⟩⟩
                ·
                  show zG x LX 175 [some (zr 24), some (zr 9), some (zr 12), some (zi w), some (zi u), some (zi k), some (zi r), some (zi fr), some (zi to), some (zi ((k * 6) + r))] [zi 1, zi (absI (wyA A k.toNat r.toNat)), zi ((k * 6) + r), zr 26] (up2 S3 25 (Int.toNat ((k * 6) + r)) (wyA A k.toNat r.toNat))
                  refine z_if_eq (pc := 175) (tgt := 182) h dX3_search_175 (by decide) ⟨by decide, by decide⟩ (fun hc175 => absurd hc175 (by decide)) (fun hc175 => ?_)
                  refine z_iconst (pc := 178) h dX3_search_178 ?_
                  refine z_goto (pc := 179) (tgt := 183) h dX3_search_179 (by decide) ?_
                  refine z_iadd (pc := 183) h dX3_search_183 ?_
                  refine z_iast (pc := 184) h dX3_search_184 rfl (by decide) (by omega) (by omega) ?_
                  refine z_iinc (pc := 185) (loc' := [some (zr 24), some (zr 9), some (zr 12), some (zi w), some (zi u), some (zi k), some (zi (r + 1)), some (zi fr), some (zi to), some (zi ((k * 6) + r))]) h dX3_search_185 rfl (Nat.le_of_ble_eq_true rfl) rfl rfl ?_
                  refine z_goto (pc := 188) (tgt := 87) h dX3_search_188 (by decide) ?_
                  refine z_forget [true, true, true, true, true, true, true, false, false, false] (loc' := [some (zr 24), some (zr 9), some (zr 12), some (zi w), some (zi u), some (zi k), some (zi (r + 1)), none, none, none]) rfl ?_
                  exact ih87 _ (by omega) (r + 1) (up2 (up2 S3 25 (Int.toNat ((k * 6) + r)) (wyA A k.toNat r.toNat)) 26 (Int.toNat ((k * 6) + r)) ((absI (wyA A k.toNat r.toNat)) + 0)) (by omega) (by rw [up2_k _ _ (by decide), up2_k _ _ (by decide), up2_k _ _ (by decide), up2_k _ _ (by decide), up2_k _ _ (by decide), up2_k _ _ (by decide)]; exact p5) (fun x y q => by rw [up2_k _ _ (by omega), up2_k _ _ (by omega)]; exact hF3 x y q) (by intro x y q1 q2; rw [up2_k _ _ (by decide), up2_j _ _ (by omega), up2_j _ _ (by omega), up2_k _ _ (by decide)]; exact hP3 x y q1 q2) (by intro y hy; by_cases hyr : y = r.toNat; (subst hyr; rw [up2_k _ _ (by decide), show k.toNat * 6 + r.toNat = (k * 6 + r).toNat by omega, up2_s, up2_s]; refine ⟨rfl, ?_⟩; unfold coA; rw [hsame]; first | (rw [if_pos (show S3 11 fr.toNat = S3 14 to.toNat from hr172)]) | (rw [if_neg (show ¬ S3 11 fr.toNat = S3 14 to.toNat from hr172)])); (rw [up2_k _ _ (by decide), up2_j _ _ (by omega), up2_j _ _ (by omega), up2_k _ _ (by decide)]; exact hQ3 y (by omega))) rfl
                ·
                  show zG x LX 175 [some (zr 24), some (zr 9), some (zr 12), some (zi w), some (zi u), some (zi k), some (zi r), some (zi fr), some (zi to), some (zi ((k * 6) + r))] [zi 0, zi (absI (wyA A k.toNat r.toNat)), zi ((k * 6) + r), zr 26] (up2 S3 25 (Int.toNat ((k * 6) + r)) (wyA A k.toNat r.toNat))
                  refine z_if_eq (pc := 175) (tgt := 182) h dX3_search_175 (by decide) ⟨by decide, by decide⟩ (fun hc175 => ?_) (fun hc175 => absurd hc175 (by decide))
                  refine z_iload_n (pc := 182) h dX3_search_182 rfl ?_
                  refine z_iadd (pc := 183) h dX3_search_183 ?_
                  refine z_iast (pc := 184) h dX3_search_184 rfl (by decide) (by omega) (by omega) ?_
                  refine z_iinc (pc := 185) (loc' := [some (zr 24), some (zr 9), some (zr 12), some (zi w), some (zi u), some (zi k), some (zi (r + 1)), some (zi fr), some (zi to), some (zi ((k * 6) + r))]) h dX3_search_185 rfl (Nat.le_of_ble_eq_true rfl) rfl rfl ?_
                  refine z_goto (pc := 188) (tgt := 87) h dX3_search_188 (by decide) ?_
                  refine z_forget [true, true, true, true, true, true, true, false, false, false] (loc' := [some (zr 24), some (zr 9), some (zr 12), some (zi w), some (zi u), some (zi k), some (zi (r + 1)), none, none, none]) rfl ?_
                  exact ih87 _ (by omega) (r + 1) (up2 (up2 S3 25 (Int.toNat ((k * 6) + r)) (wyA A k.toNat r.toNat)) 26 (Int.toNat ((k * 6) + r)) ((absI (wyA A k.toNat r.toNat)) + w)) (by omega) (by rw [up2_k _ _ (by decide), up2_k _ _ (by decide), up2_k _ _ (by decide), up2_k _ _ (by decide), up2_k _ _ (by decide), up2_k _ _ (by decide)]; exact p5) (fun x y q => by rw [up2_k _ _ (by omega), up2_k _ _ (by omega)]; exact hF3 x y q) (by intro x y q1 q2; rw [up2_k _ _ (by decide), up2_j _ _ (by omega), up2_j _ _ (by omega), up2_k _ _ (by decide)]; exact hP3 x y q1 q2) (by intro y hy; by_cases hyr : y = r.toNat; (subst hyr; rw [up2_k _ _ (by decide), show k.toNat * 6 + r.toNat = (k * 6 + r).toNat by omega, up2_s, up2_s]; refine ⟨rfl, ?_⟩; unfold coA; rw [hsame]; first | (rw [if_pos (show S3 11 fr.toNat = S3 14 to.toNat from hr172)]) | (rw [if_neg (show ¬ S3 11 fr.toNat = S3 14 to.toNat from hr172)])); (rw [up2_k _ _ (by decide), up2_j _ _ (by omega), up2_j _ _ (by omega), up2_k _ _ (by decide)]; exact hQ3 y (by omega))) rfl
              refine z_iload (pc := 96) h dX3_search_96 rfl ?_
              refine z_if_eq (pc := 98) (tgt := 106) h dX3_search_98 (by decide) ⟨by omega, by omega⟩ (fun hc98 => ?_) (fun hc98 => ?_)
              ·
                refine z_iload (pc := 106) h dX3_search_106 rfl ?_
                refine z_istore (pc := 108) (loc' := [some (zr 24), some (zr 9), some (zr 12), some (zi w), some (zi u), some (zi k), some (zi r), some (zi k), none, none]) h dX3_search_108 (Nat.le_of_ble_eq_true rfl) rfl rfl ?_
                refine z_iload (pc := 110) h dX3_search_110 rfl ?_
                refine z_if_eq (pc := 112) (tgt := 120) h dX3_search_112 (by decide) ⟨by omega, by omega⟩ (fun hc112 => ?_) (fun hc112 => ?_)
                ·
                  refine z_iload (pc := 120) h dX3_search_120 rfl ?_
                  refine z_istore (pc := 122) (loc' := [some (zr 24), some (zr 9), some (zr 12), some (zi w), some (zi u), some (zi k), some (zi r), some (zi k), some (zi r), none]) h dX3_search_122 (Nat.le_of_ble_eq_true rfl) rfl rfl ?_
                  exact J124 k r (by omega)
                ·
                  refine z_iload (pc := 115) h dX3_search_115 rfl ?_
                  refine z_goto (pc := 117) (tgt := 122) h dX3_search_117 (by decide) ?_
                  refine z_istore (pc := 122) (loc' := [some (zr 24), some (zr 9), some (zr 12), some (zi w), some (zi u), some (zi k), some (zi r), some (zi k), some (zi k), none]) h dX3_search_122 (Nat.le_of_ble_eq_true rfl) rfl rfl ?_
                  exact J124 k k (by omega)
              ·
                refine z_iload (pc := 101) h dX3_search_101 rfl ?_
                refine z_goto (pc := 103) (tgt := 108) h dX3_search_103 (by decide) ?_
                refine z_istore (pc := 108) (loc' := [some (zr 24), some (zr 9), some (zr 12), some (zi w), some (zi u), some (zi k), some (zi r), some (zi r), none, none]) h dX3_search_108 (Nat.le_of_ble_eq_true rfl) rfl rfl ?_
                refine z_iload (pc := 110) h dX3_search_110 rfl ?_
                refine z_if_eq (pc := 112) (tgt := 120) h dX3_search_112 (by decide) ⟨by omega, by omega⟩ (fun hc112 => ?_) (fun hc112 => ?_)
                ·
                  refine z_iload (pc := 120) h dX3_search_120 rfl ?_
                  refine z_istore (pc := 122) (loc' := [some (zr 24), some (zr 9), some (zr 12), some (zi w), some (zi u), some (zi k), some (zi r), some (zi r), some (zi r), none]) h dX3_search_122 (Nat.le_of_ble_eq_true rfl) rfl rfl ?_
                  exact J124 r r (by omega)
                ·
                  refine z_iload (pc := 115) h dX3_search_115 rfl ?_
                  refine z_goto (pc := 117) (tgt := 122) h dX3_search_117 (by decide) ?_
                  refine z_istore (pc := 122) (loc' := [some (zr 24), some (zr 9), some (zr 12), some (zi w), some (zi u), some (zi k), some (zi r), some (zi r), some (zi k), none]) h dX3_search_122 (Nat.le_of_ble_eq_true rfl) rfl rfl ?_
                  exact J124 r k (by omega)
          exact J87 _ 0 S2 (by omega) (by exact p4) (by exact hF2) (by exact hP) (by intro y hy; omega) rfl
      exact J75 _ 0 (up2 (up2 S1 24 8 (f : Int)) 24 9 (m : Int)) (by omega) (⟨by rw [up2_j _ _ (by decide), up2_j _ _ (by decide)]; exact h17, by rw [up2_j _ _ (by decide), up2_s], up2_s _ _ _ _⟩) (fun x y q => by rw [up2_k _ _ (by omega), up2_k _ _ (by omega)]; exact hF1 x y q) (fun x y q => by omega) rfl
    refine z_aload_n (pc := 18) h dX3_search_18 rfl ?_
    refine z_iload (pc := 19) h dX3_search_19 rfl ?_
    refine z_if_eq (pc := 21) (tgt := 28) h dX3_search_21 (by decide) ⟨by omega, by omega⟩ (fun hc21 => ?_) (fun hc21 => ?_)
    ·
      refine z_aload_n (pc := 28) h dX3_search_28 rfl ?_
      refine z_putD (C2 := "DrumSlits$Look") (pc := 29) h dX3_search_29 clX3 lkX3_39 (by decide) rfl rfl rfl rfl ?_
      exact J32 (up2 S 24 7 (9 : Nat)) (by rw [up2_s]; rcases hu with ⟨q0, q⟩ | ⟨q0, q⟩; (first | (rw [if_pos q]; rfl) | omega); (first | (rw [if_neg q]; rfl) | omega)) (fun x y q => up2_k _ _ (by omega))
    ·
      refine z_aload_n (pc := 24) h dX3_search_24 rfl ?_
      refine z_goto (pc := 25) (tgt := 29) h dX3_search_25 (by decide) ?_
      refine z_putD (C2 := "DrumSlits$Look") (pc := 29) h dX3_search_29 clX3 lkX3_39 (by decide) rfl rfl rfl rfl ?_
      exact J32 (up2 S 24 7 (12 : Nat)) (by rw [up2_s]; rcases hu with ⟨q0, q⟩ | ⟨q0, q⟩; (first | (rw [if_pos q]; rfl) | omega); (first | (rw [if_neg q]; rfl) | omega)) (fun x y q => up2_k _ _ (by omega))
  refine z_getI (pc := 1) h dX3_search_1 clX4 lkX3_33 (by decide) rfl rfl ?_
  refine z_aload_n (pc := 4) h dX3_search_4 rfl ?_
  refine z_getI (pc := 5) h dX3_search_5 clX4 lkX3_33 (by decide) rfl rfl ?_
  refine z_icmp_ge (pc := 8) (tgt := 15) h dX3_search_8 (by decide) ⟨by omega, by omega⟩ ⟨by omega, by omega⟩ (fun hc8 => ?_) (fun hc8 => ?_)
  ·
    refine z_iconst (pc := 15) h dX3_search_15 ?_
    exact J16 0 (by omega)
  ·
    refine z_iconst (pc := 11) h dX3_search_11 ?_
    refine z_goto (pc := 12) (tgt := 16) h dX3_search_12 (by decide) ?_
    exact J16 1 (by omega)

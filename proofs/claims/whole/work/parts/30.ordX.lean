/-! ORDER: the class -/
def oc (g : Int) (Q : PL) : Nat → Nat → Nat → Int := fun _ la d => stepF g Q (la : Int) (d : Int)
def ow : Nat → Nat → Nat → Int := fun _ _ _ => 0
def oe (g : Int) (Q : PL) : Nat → Int := fun la => stepF g Q (la : Int) 0
def oR (g : Int) (Q : PL) (n r tk la : Nat) : TS := tR n (oc g Q) ow (oe g Q) (fun d => d) r tk la
def oT (g : Int) (Q : PL) (n : Nat) : TS := oR g Q n (n - 1) 1 0
def sA (g : Int) (Q : PL) (n r tk la j : Nat) : TS := if r = 0 then oR g Q n 0 tk la else tF (tD n (oc g Q) ow (oe g Q) (fun d => d) (r - 1) tk la) j tE
theorem sA_n (g : Int) (Q : PL) (n r tk la : Nat) : sA g Q n r tk la n = oR g Q n r tk la := by
  unfold sA
  cases r with
  | zero => rfl
  | succ r => rfl
theorem sA_W (g : Int) (Q : PL) (n r tk la j : Nat) : tW (sA g Q n r tk la j) := by
  unfold sA
  split
  · exact tR_W _ _ _ _ _ _ _ _
  · exact tF_W (tD_W _ _ _ _ _ _ _ _) tE_W j
theorem sA_skip {g : Int} {Q : PL} {n r tk la j : Nat} (h : tk.testBit j = true) : sA g Q n r tk la (j + 1) = sA g Q n r tk la j := by
  unfold sA
  split
  · rfl
  · show tC _ (tD n (oc g Q) ow (oe g Q) (fun d => d) (r - 1) tk la j) = _
    exact tC_0 (by unfold tD; rw [if_pos h]; rfl)
theorem sA_add {g : Int} {Q : PL} {n r tk la j : Nat} (h : tk.testBit j = false) : sA g Q n (r + 1) tk la (j + 1) = tC (sA g Q n (r + 1) tk la j) (tS (stepF g Q la j) 0 j (oR g Q n r (tk ||| 2 ^ j) j)) := by
  unfold sA
  rw [if_neg (by omega), if_neg (by omega)]
  show tC _ (tD n (oc g Q) ow (oe g Q) (fun d => d) r tk la j) = _
  unfold tD
  rw [if_neg (by rw [h]; decide)]
  rfl
theorem ord_add {x y : TS} {c w s : Int} {d : Nat} (hx : 0 ≤ x.1) (hy : 0 < y.1) (hs : s = c + y.2.1) :
    ((x.1 = 0 ∨ s < x.2.1) → (tC x (tS c w d y)).2.1 = s ∧ (tC x (tS c w d y)).1 = y.1) ∧ (x.1 ≠ 0 → x.2.1 < s → (tC x (tS c w d y)).2.1 = x.2.1 ∧ (tC x (tS c w d y)).1 = x.1) ∧ (x.1 ≠ 0 → s = x.2.1 → (tC x (tS c w d y)).2.1 = x.2.1 ∧ (tC x (tS c w d y)).1 = x.1 + y.1) := by
  have z1 : (tS c w d y).1 = y.1 := by rw [tS_1 (show y.1 ≠ 0 by omega)]
  have z2 : (tS c w d y).2.1 = c + y.2.1 := by rw [tS_1 (show y.1 ≠ 0 by omega)]
  refine ⟨fun h => ?_, fun h1 h2 => ?_, fun h1 h2 => ?_⟩
  · by_cases h1 : x.1 = 0
    · rw [tC_1 (y := tS c w d y) (by rw [z1]; omega) h1, z1, z2]; exact ⟨hs.symm, rfl⟩
    · rw [tC_lt (y := tS c w d y) (by rw [z1]; omega) (by rw [z2]; omega), z1, z2]; exact ⟨hs.symm, rfl⟩
  · rw [tC_gt (y := tS c w d y) h1 (by rw [z2]; omega)]; exact ⟨rfl, rfl⟩
  · rw [tC_eq (y := tS c w d y) h1 (by rw [z1]; omega) (by rw [z2]; omega)]; exact ⟨rfl, by show x.1 + (tS c w d y).1 = _; rw [z1]⟩
theorem oR_b {g : Int} {Q : PL} (hg : 0 ≤ g ∧ g ≤ 9) (hQ : okP Q) {n r : Nat} (hn : n ≤ 8) (hr : r ≤ 8) (tk la : Nat) : 0 ≤ (oR g Q n r tk la).1 ∧ (oR g Q n r tk la).1 ≤ 16777216 ∧ 0 ≤ (oR g Q n r tk la).2.1 ∧ (oR g Q n r tk la).2.1 ≤ 400 := by
  have h := tR_B n (oc g Q) ow (oe g Q) (fun d => d) (C := 36) (V := 0) (fun tk la d => stepF_b hg hQ _ _) (fun _ _ _ => ⟨by show (-0 : Int) ≤ 0; decide, by show (0 : Int) ≤ 0; decide⟩) (fun la => stepF_b hg hQ _ _) r tk la
  have h1 : n ^ r ≤ 8 ^ 8 := Nat.le_trans (Nat.pow_le_pow_left hn r) (Nat.pow_le_pow_right (by decide) hr)
  obtain ⟨a1, a2, -⟩ := h
  unfold oR
  have h2 : ((n ^ r : Nat) : Int) ≤ 16777216 := by have : (8 : Nat) ^ 8 = 16777216 := by decide
                                                   omega
  exact ⟨a1.1, by omega, a2.1, by omega⟩
theorem sA_b {g : Int} {Q : PL} (hg : 0 ≤ g ∧ g ≤ 9) (hQ : okP Q) {n r j : Nat} (hn : n ≤ 8) (hr : r ≤ 8) (hj : j ≤ 8) (tk la : Nat) : 0 ≤ (sA g Q n r tk la j).1 ∧ (sA g Q n r tk la j).1 ≤ 134217728 ∧ 0 ≤ (sA g Q n r tk la j).2.1 ∧ (sA g Q n r tk la j).2.1 ≤ 436 := by
  unfold sA
  split
  · have := oR_b hg hQ hn (Nat.zero_le 8) tk la
    omega
  · have hk : ∀ d, tB 16777216 436 0 (tD n (oc g Q) ow (oe g Q) (fun d => d) (r - 1) tk la d) := fun d => by
      unfold tD
      split
      · exact tB_mono (tE_B (B := 0) (W := 0) (by omega) (by omega)) (by omega) (by omega) (by omega)
      · have h := tR_B n (oc g Q) ow (oe g Q) (fun d => d) (C := 36) (V := 0) (fun tk la d => stepF_b hg hQ _ _) (fun _ _ _ => ⟨by show (-0 : Int) ≤ 0; decide, by show (0 : Int) ≤ 0; decide⟩) (fun la => stepF_b hg hQ _ _) (r - 1) (tk ||| 2 ^ d) d
        have h9 := oR_b hg hQ hn (show r - 1 ≤ 8 by omega) (tk ||| 2 ^ d) d
        have h8 : tB 16777216 400 0 (oR g Q n (r - 1) (tk ||| 2 ^ d) d) := ⟨⟨h9.1, h9.2.1⟩, ⟨h9.2.2.1, h9.2.2.2⟩, by have := h.2.2.1; unfold oR; omega, h.2.2.2.1, h.2.2.2.2.1, by have := h.2.2.2.2.2; unfold oR; omega⟩
        exact tS_B (C := 36) (V := 0) h8 (stepF_b hg hQ _ _) ⟨by show -0 ≤ (0 : Int); decide, by show (0 : Int) ≤ 0; decide⟩
    have h2 := tF_B (by decide) (by decide) hk j
    obtain ⟨a1, a2, -⟩ := h2
    have h3 : ((j : Nat) : Int) * 16777216 ≤ 134217728 := by omega
    exact ⟨a1.1, by omega, a2⟩
def stpd (g : Int) (Q : PL) (n : Nat) (S : SS) : Prop := ∀ p q : Nat, p < n → q < n → S 33 (p * 8 + q) = stepF g Q p q
/-- settled -/
def setl (g : Int) (Q : PL) (n : Nat) (S : SS) (tk la : Nat) : Prop := S 34 (tk * 8 + la) = (oR g Q n (n - popk tk n) tk la).2.1 ∧ S 35 (tk * 8 + la) = (oR g Q n (n - popk tk n) tk la).1
theorem bit_v {a k : Int} (ha : 0 ≤ a) (hk : 0 ≤ k) : ((Int.toNat (a / 2 ^ k.toNat) &&& 1 : Nat) : Int) = if a.toNat.testBit k.toNat = true then 1 else 0 := by
  rw [bit_k ha, Nat.testBit_eq_decide_div_mod_eq]
  by_cases h : a.toNat / 2 ^ k.toNat % 2 = 1
  · rw [if_pos (decide_eq_true h), h]; rfl
  · rw [if_neg (fun q => h (decide_eq_true_iff.mp q))]
    have := Nat.mod_two_eq_zero_or_one (a.toNat / 2 ^ k.toNat)
    omega
theorem bit_w {v a k : Int} (ha : 0 ≤ a) (hk : 0 ≤ k) (hv : v = ((Int.toNat (a / 2 ^ k.toNat) &&& 1 : Nat) : Int)) : (v = 1 ∧ a.toNat.testBit k.toNat = true) ∨ (v = 0 ∧ a.toNat.testBit k.toNat = false) := by
  rw [bit_v ha hk] at hv
  by_cases h : a.toNat.testBit k.toNat = true
  · rw [if_pos h] at hv
    exact Or.inl ⟨hv, h⟩
  · rw [if_neg h] at hv
    exact Or.inr ⟨hv, Bool.eq_false_iff.mpr h⟩
theorem or_v {a k : Int} (ha : 0 ≤ a) (hk : 0 ≤ k) : ((a.toNat ||| (1 * 2 ^ k.toNat : Int).toNat : Nat) : Int) = ((a.toNat ||| 2 ^ k.toNat : Nat) : Int) := by
  rw [Int.one_mul, show ((2 : Int) ^ k.toNat) = ((2 ^ k.toNat : Nat) : Int) from (Int.natCast_pow 2 k.toNat).symm, Int.toNat_natCast]
theorem div_bb {a N : Int} (ha : 0 ≤ a ∧ a ≤ N) (k : Nat) : 0 ≤ a / 2 ^ k ∧ a / 2 ^ k ≤ N := by
  have h1 : (0 : Int) < 2 ^ k := Int.pow_pos (by decide)
  exact ⟨Int.ediv_nonneg ha.1 (by omega), Int.le_trans (Int.ediv_le_self _ ha.1) ha.2⟩
theorem pow8 {n : Nat} (h : n ≤ 8) : 1 ≤ 2 ^ n ∧ 2 ^ n ≤ 256 := ⟨Nat.two_pow_pos n, Nat.le_trans (Nat.pow_le_pow_right (by decide) h) (by decide)⟩
theorem set_b {tk d n : Nat} (hn : n ≤ 8) (h : tk < 2 ^ n) (hd : d < n) : tk ||| 2 ^ d < 256 := by
  have := pow8 hn
  have := set_lt h hd
  omega

set_option maxRecDepth 100000 in
set_option maxHeartbeats 4000000 in
theorem m_X5_sumBy (t l d : Int) (g : Int) (Q : PL) (n : Nat) (S : SS) (hn : 1 ≤ n ∧ n ≤ 8) (h4 : S 32 4 = (n : Int)) (hg : 0 ≤ g ∧ g ≤ 9) (hQ : okP Q) (hS : stpd g Q n S) (ht : 0 ≤ t ∧ t.toNat < 2 ^ n) (hl : 0 ≤ l ∧ l < n) (hd : 0 ≤ d ∧ d < n) (hb : t.toNat.testBit d.toNat = false) (hK : ∀ d : Nat, d < n → t.toNat.testBit d = false → setl g Q n S (t.toNat ||| 2 ^ d) d) : zM LX yX5_sumBy cX5_sumBy 4 (some .int) 0 0 [zr 32, zi t, zi l, zi d] S (fun r S' => S = S' ∧ r = some (zi (stepF g Q l d + (oR g Q n (n - (popk t.toNat n + 1)) (t.toNat ||| 2 ^ d.toNat) d.toNat).2.1))) := by
  refine zM_of (own := RX5) rfl (by decide +kernel) [some (zr 32), some (zi t), some (zi l), some (zi d)] (Nat.le_of_ble_eq_true rfl) rfl ?_
  intro x h
  have hp8 := pow8 hn.2
  have hsb := set_b hn.2 ht.2 (show d.toNat < n by omega)
  have hpw := pw_b (j := d) (by omega)
  have e1 : S 33 (l * 8 + d).toNat = stepF g Q l d := by rw [show (l * 8 + d).toNat = l.toNat * 8 + d.toNat by omega, hS _ _ (by omega) (by omega), show ((l.toNat : Nat) : Int) = l by omega, show ((d.toNat : Nat) : Int) = d by omega]
  have e2 := (hK d.toNat (by omega) hb).1
  rw [popk_set hb n (by omega)] at e2
  refine z_aload_n (pc := 0) h dX5_sumBy_0 rfl ?_
  refine z_getR (a := 33) (pc := 1) h dX5_sumBy_1 clX5 lkX5_9 (by decide) rfl rfl ?_
  refine z_iload_n (pc := 4) h dX5_sumBy_4 rfl ?_
  refine z_bipush (pc := 5) h dX5_sumBy_5 rfl ?_
  refine z_imul (pc := 7) h dX5_sumBy_7 ?_
  refine z_iload_n (pc := 8) h dX5_sumBy_8 rfl ?_
  refine z_iadd (pc := 9) h dX5_sumBy_9 ?_
  refine z_iald (pc := 10) h dX5_sumBy_10 rfl (by decide) (by omega) (by omega) ?_
  refine z_cv (b := (stepF g Q l d)) (by exact e1) ?_
  refine z_aload_n (pc := 11) h dX5_sumBy_11 rfl ?_
  refine z_getR (a := 34) (pc := 12) h dX5_sumBy_12 clX5 lkX5_15 (by decide) rfl rfl ?_
  refine z_iload_n (pc := 15) h dX5_sumBy_15 rfl ?_
  refine z_iconst (pc := 16) h dX5_sumBy_16 ?_
  refine z_iload_n (pc := 17) h dX5_sumBy_17 rfl ?_
  refine z_ishl (pc := 18) h dX5_sumBy_18 ⟨by omega, by omega⟩ ?_
  refine z_ior (pc := 19) h dX5_sumBy_19 ⟨by omega, by omega⟩ ⟨hpw.1, Int.le_trans hpw.2 (by decide)⟩ ?_
  refine z_cv (b := ((t.toNat ||| 2 ^ d.toNat : Nat) : Int)) (by exact or_v ht.1 (by omega)) ?_
  refine z_bipush (pc := 20) h dX5_sumBy_20 rfl ?_
  refine z_imul (pc := 22) h dX5_sumBy_22 ?_
  refine z_iload_n (pc := 23) h dX5_sumBy_23 rfl ?_
  refine z_iadd (pc := 24) h dX5_sumBy_24 ?_
  refine z_iald (pc := 25) h dX5_sumBy_25 rfl (by decide) (by omega) (by omega) ?_
  refine z_cv (b := ((oR g Q n (n - (popk t.toNat n + 1)) (t.toNat ||| 2 ^ d.toNat) d.toNat).2.1)) (by rw [← e2]; congr 1; omega) ?_
  refine z_iadd (pc := 26) h dX5_sumBy_26 ?_
  exact z_iret (pc := 27) h dX5_sumBy_27 rfl ⟨rfl, congrArg (fun z => some (zi z)) (by rfl)⟩

set_option maxRecDepth 100000 in
set_option maxHeartbeats 4000000 in
theorem m_X5_settle (t l : Int) (g : Int) (Q : PL) (n : Nat) (S : SS) (hn : 1 ≤ n ∧ n ≤ 8) (h4 : S 32 4 = (n : Int)) (hg : 0 ≤ g ∧ g ≤ 9) (hQ : okP Q) (hS : stpd g Q n S) (ht : 0 ≤ t ∧ t.toNat < 2 ^ n) (hl : 0 ≤ l ∧ l < n) (hlb : t.toNat.testBit l.toNat = true) (hK : ∀ d : Nat, d < n → t.toNat.testBit d = false → setl g Q n S (t.toNat ||| 2 ^ d) d) : zM LX yX5_settle cX5_settle 7 none 1 23 [zr 32, zi t, zi l] S (fun r S' => r = none ∧ (∀ x y, ¬ ((x = 34 ∨ x = 35) ∧ y = (t * 8 + l).toNat) → S' x y = S x y) ∧ setl g Q n S' t.toNat l.toNat) := by
  refine zM_of (own := RX5) rfl (by decide +kernel) [some (zr 32), some (zi t), some (zi l), none, none, none, none] (Nat.le_of_ble_eq_true rfl) rfl ?_
  intro x h
  have hp8 := pow8 hn.2
  have hat : (t * 8 + l).toNat = t.toNat * 8 + l.toNat := by omega
  have hpn := popk_b t.toNat n
  obtain ⟨w, hw1, hw2, hw3, hw4, hw5⟩ := pow_e (n := (n : Int)) (by omega)
  rw [Int.toNat_natCast] at hw1
  have hfull : t = w → popk t.toNat n = n := fun q => by
    have h9 := pop_full (n := n) (by omega)
    rw [← show t.toNat = 2 ^ n - 1 by omega, popc_m ht.2 (by omega)] at h9
    exact h9
  have hless : t ≠ w → popk t.toNat n < n := fun q => by
    have h9 := pop_less (n := n) (c := t.toNat) (by omega) (by omega)
    rw [popc_m ht.2 (by omega)] at h9
    exact h9
  refine z_iload_n (pc := 0) h dX5_settle_0 rfl ?_
  refine z_bipush (pc := 1) h dX5_settle_1 rfl ?_
  refine z_imul (pc := 3) h dX5_settle_3 ?_
  refine z_iload_n (pc := 4) h dX5_settle_4 rfl ?_
  refine z_iadd (pc := 5) h dX5_settle_5 ?_
  refine z_istore_n (pc := 6) (loc' := [some (zr 32), some (zi t), some (zi l), some (zi ((t * 8) + l)), none, none, none]) h dX5_settle_6 rfl (Nat.le_of_ble_eq_true rfl) rfl rfl ?_
  refine z_iload_n (pc := 7) h dX5_settle_7 rfl ?_
  have J24 : ∀ (u : Int) (hu : (u = 1 ∧ t = w) ∨ (u = 0 ∧ t ≠ w)) , zG x LX 24 [some (zr 32), some (zi t), some (zi l), some (zi (t * 8 + l)), none, none, none] [zi u] S := by
    intro u hu
    refine z_istore (pc := 24) (loc' := [some (zr 32), some (zi t), some (zi l), some (zi (t * 8 + l)), some (zi u), none, none]) h dX5_settle_24 (Nat.le_of_ble_eq_true rfl) rfl rfl ?_
    have J49 : ∀ (v : Int) (hv : v = (sA g Q n (n - popk t.toNat n) t.toNat l.toNat (0 : Int).toNat).2.1) , zG x LX 49 [some (zr 32), some (zi t), some (zi l), some (zi (t * 8 + l)), some (zi u), none, none] [zi v, zi (t * 8 + l), zr 34] S := by
      intro v hv
      refine z_iast (pc := 49) h dX5_settle_49 rfl (by decide) (by omega) (by omega) ?_
      have J65 : ∀ (v2 : Int) (hv2 : v2 = (sA g Q n (n - popk t.toNat n) t.toNat l.toNat (0 : Int).toNat).1) , zG x LX 65 [some (zr 32), some (zi t), some (zi l), some (zi (t * 8 + l)), some (zi u), none, none] [zi v2, zi (t * 8 + l), zr 35] (up2 S 34 (Int.toNat (t * 8 + l)) v) := by
        intro v2 hv2
        refine z_iast (pc := 65) h dX5_settle_65 rfl (by decide) (by omega) (by omega) ?_
        refine z_iconst (pc := 66) h dX5_settle_66 ?_
        refine z_istore (pc := 67) (loc' := [some (zr 32), some (zi t), some (zi l), some (zi (t * 8 + l)), some (zi u), some (zi 0), none]) h dX5_settle_67 (Nat.le_of_ble_eq_true rfl) rfl rfl ?_
        have J69 : ∀ (N : Nat) (j : Int) (S1 : SS) (hj : 0 ≤ j ∧ j ≤ n) (hF : ∀ x y, ¬ ((x = 34 ∨ x = 35) ∧ y = (t * 8 + l).toNat) → S1 x y = S x y) (hA : S1 34 (t * 8 + l).toNat = (sA g Q n (n - popk t.toNat n) t.toNat l.toNat j.toNat).2.1) (hW : S1 35 (t * 8 + l).toNat = (sA g Q n (n - popk t.toNat n) t.toNat l.toNat j.toNat).1) , ((n : Int) - j).toNat = N → zG x LX 69 [some (zr 32), some (zi t), some (zi l), some (zi (t * 8 + l)), some (zi u), some (zi j), none] ([] : List zV) S1 := by
          intro N
          induction N using Nat.strongRecOn with
          | _ N ih69 => ?_
          intro j S1 hj hF hA hW hN69
          have g4 : S1 32 4 = (n : Int) := by rw [hF _ _ (by omega)]; exact h4
          refine z_iload (pc := 69) h dX5_settle_69 rfl ?_
          refine z_aload_n (pc := 71) h dX5_settle_71 rfl ?_
          refine z_getI (pc := 72) h dX5_settle_72 clX5 lkX5_36 (by decide) rfl rfl ?_
          refine z_icmp_ge (pc := 75) (tgt := 175) h dX5_settle_75 (by decide) ⟨by omega, by omega⟩ ⟨by omega, by omega⟩ (fun hc75 => ?_) (fun hc75 => ?_)
          ·
            refine z_vret (pc := 175) h dX5_settle_175 rfl ?_
            have hjn : j = n := by omega
            refine ⟨rfl, hF, ?_⟩
            unfold setl
            rw [← hat, hA, hW, hjn, Int.toNat_natCast, sA_n]
            exact ⟨rfl, rfl⟩
          ·
            have hsb9 := sA_b hg hQ hn.2 (show n - popk t.toNat n ≤ 8 by omega) (show j.toNat ≤ 8 by omega) t.toNat l.toNat
            refine z_iload_n (pc := 78) h dX5_settle_78 rfl ?_
            refine z_iload (pc := 79) h dX5_settle_79 rfl ?_
            refine z_ishr (pc := 81) h dX5_settle_81 ⟨by omega, by omega⟩ ⟨by omega, by omega⟩ ?_
            refine z_iconst (pc := 82) h dX5_settle_82 ?_
            refine z_iand (pc := 83) h dX5_settle_83 ⟨(div_bb (N := 255) ⟨ht.1, by omega⟩ _).1, Int.le_trans (div_bb (N := 255) ⟨ht.1, by omega⟩ _).2 (by decide)⟩ ⟨by decide, by decide⟩ ?_
            refine z_nm (b := (((Int.toNat (t / 2 ^ j.toNat)) &&& 1 : Nat) : Int)) (fun bv h_bv => ?_)
            have hbv := bit_w ht.1 hj.1 h_bv
            refine z_if_ne (pc := 84) (tgt := 169) h dX5_settle_84 (by decide) ⟨by omega, by omega⟩ (fun hc84 => ?_) (fun hc84 => ?_)
            ·
              refine z_iinc (pc := 169) (loc' := [some (zr 32), some (zi t), some (zi l), some (zi (t * 8 + l)), some (zi u), some (zi (j + 1)), none]) h dX5_settle_169 rfl (Nat.le_of_ble_eq_true rfl) rfl rfl ?_
              refine z_goto (pc := 172) (tgt := 69) h dX5_settle_172 (by decide) ?_
              exact ih69 _ (by omega) (j + 1) S1 (by omega) (by first | exact hF | (intro x y q; rw [up2_e, if_neg (by omega)]; exact hF x y q) | (intro x y q; rw [up2_e, if_neg (by omega), up2_e, if_neg (by omega)]; exact hF x y q) | (intro x y q; rw [up2_e, if_neg (by omega), up2_e, if_neg (by omega), up2_e, if_neg (by omega)]; exact hF x y q)) (by rw [show (j + 1).toNat = j.toNat + 1 by omega]; first | (rw [sA_skip (hbv.resolve_right (fun q => by omega)).2]; exact hA) | (rw [hsa]; first | (rw [(hoa.1 (by omega)).1]; first | exact up2_s _ _ _ _ | (rw [up2_k _ _ (by decide), up2_s]) | (rw [up2_k _ _ (by decide), up2_k _ _ (by decide), up2_s])) | (rw [(hoa.2.1 (by omega) (by omega)).1]; exact hA) | (rw [(hoa.2.2 (by omega) (by omega)).1]; first | exact hA | (rw [up2_k _ _ (by decide)]; exact hA))) | omega) (by rw [show (j + 1).toNat = j.toNat + 1 by omega]; first | (rw [sA_skip (hbv.resolve_right (fun q => by omega)).2]; exact hW) | (rw [hsa]; first | (rw [(hoa.1 (by omega)).2, up2_s]; omega) | (rw [(hoa.2.1 (by omega) (by omega)).2]; exact hW) | (rw [(hoa.2.2 (by omega) (by omega)).2, up2_s]; omega)) | omega) rfl
            ·
              have hbf : t.toNat.testBit j.toNat = false := (hbv.resolve_left (fun q => by omega)).2
              have hps := popk_set hbf n (by omega)
              have hpn2 := popk_b (t.toNat ||| 2 ^ j.toNat) n
              obtain ⟨r, hr⟩ : ∃ r, n - popk t.toNat n = r + 1 := ⟨n - popk t.toNat n - 1, by omega⟩
              have hS1 : stpd g Q n S1 := fun p q p1 q1 => by rw [hF _ _ (by omega)]; exact hS p q p1 q1
              have hK1 : ∀ d : Nat, d < n → t.toNat.testBit d = false → setl g Q n S1 (t.toNat ||| 2 ^ d) d := fun d d1 d2 => by
                have h9 := set_gt d2
                unfold setl
                rw [hF _ _ (by omega), hF _ _ (by omega)]
                exact hK d d1 d2
              have hpos := tR_pos n (oc g Q) ow (oe g Q) (fun d => d) r (t.toNat ||| 2 ^ j.toNat) j.toNat (by omega)
              have hkid := hK1 j.toNat (by omega) hbf
              have hrr : n - (popk t.toNat n + 1) = r := by omega
              unfold setl at hkid
              rw [hps, hrr] at hkid
              have hsa := sA_add (g := g) (Q := Q) (n := n) (r := r) (la := l.toNat) hbf
              rw [← hr] at hsa
              have hoa := ord_add (x := (sA g Q n (n - popk t.toNat n) t.toNat l.toNat j.toNat)) (y := oR g Q n r (t.toNat ||| 2 ^ j.toNat) j.toNat) (c := stepF g Q l.toNat j.toNat) (w := 0) (s := stepF g Q l j + (oR g Q n r (t.toNat ||| 2 ^ j.toNat) j.toNat).2.1) (d := j.toNat) hsb9.1 hpos (by rw [show ((l.toNat : Nat) : Int) = l by omega, show ((j.toNat : Nat) : Int) = j by omega])
              have hstb := stepF_b hg hQ l j
              have hob := oR_b hg hQ hn.2 (show r ≤ 8 by omega) (t.toNat ||| 2 ^ j.toNat) j.toNat
              have hsb := set_b hn.2 ht.2 (show j.toNat < n by omega)
              have hpw := pw_b (j := j) (by omega)
              have hi8 : (((t.toNat ||| 2 ^ j.toNat : Nat) : Int) * 8 + j).toNat = (t.toNat ||| 2 ^ j.toNat) * 8 + j.toNat := by omega
              have hgt := set_gt hbf
              refine z_aload_n (pc := 87) h dX5_settle_87 rfl ?_
              refine z_iload_n (pc := 88) h dX5_settle_88 rfl ?_
              refine z_iload_n (pc := 89) h dX5_settle_89 rfl ?_
              refine z_iload (pc := 90) h dX5_settle_90 rfl ?_
              refine z_callV (pc := 92) (rest := ([] : List zV)) h (m_X5_sumBy t l j g Q n S1 (by first | assumption | omega) g4 (by first | assumption | omega) (by first | assumption | omega) hS1 (by first | assumption | omega) (by first | assumption | omega) (by first | assumption | omega) hbf hK1) dX5_settle_92 mcX5_sumBy miX5_sumBy mlX5_48 rfl rfl ⟨by decide, by decide⟩ clX5 rfl rfl rfl (Nat.le_of_ble_eq_true rfl) ?_
              rintro _ _ ⟨rfl, rfl⟩
              show zG x LX 95 [some (zr 32), some (zi t), some (zi l), some (zi (t * 8 + l)), some (zi u), some (zi j), none] [zi (stepF g Q l j + (oR g Q n (n - (popk t.toNat n + 1)) (t.toNat ||| 2 ^ j.toNat) j.toNat).2.1)] S1
              refine z_cv (b := (stepF g Q l j + (oR g Q n r (t.toNat ||| 2 ^ j.toNat) j.toNat).2.1)) (by rw [hrr]) ?_
              refine z_istore (pc := 95) (loc' := [some (zr 32), some (zi t), some (zi l), some (zi (t * 8 + l)), some (zi u), some (zi j), some (zi (stepF g Q l j + (oR g Q n r (t.toNat ||| 2 ^ j.toNat) j.toNat).2.1))]) h dX5_settle_95 (Nat.le_of_ble_eq_true rfl) rfl rfl ?_
              refine z_aload_n (pc := 97) h dX5_settle_97 rfl ?_
              refine z_getR (a := 35) (pc := 98) h dX5_settle_98 clX5 lkX5_18 (by decide) rfl rfl ?_
              refine z_iload_n (pc := 101) h dX5_settle_101 rfl ?_
              refine z_iald (pc := 102) h dX5_settle_102 rfl (by decide) (by omega) (by omega) ?_
              refine z_if_eq (pc := 103) (tgt := 117) h dX5_settle_103 (by decide) ⟨by omega, by omega⟩ (fun hc103 => ?_) (fun hc103 => ?_)
              ·
                refine z_aload_n (pc := 117) h dX5_settle_117 rfl ?_
                refine z_getR (a := 34) (pc := 118) h dX5_settle_118 clX5 lkX5_15 (by decide) rfl rfl ?_
                refine z_iload_n (pc := 121) h dX5_settle_121 rfl ?_
                refine z_iload (pc := 122) h dX5_settle_122 rfl ?_
                refine z_iast (pc := 124) h dX5_settle_124 rfl (by decide) (by omega) (by omega) ?_
                refine z_aload_n (pc := 125) h dX5_settle_125 rfl ?_
                refine z_getR (a := 35) (pc := 126) h dX5_settle_126 clX5 lkX5_18 (by decide) rfl rfl ?_
                refine z_iload_n (pc := 129) h dX5_settle_129 rfl ?_
                refine z_iconst (pc := 130) h dX5_settle_130 ?_
                refine z_iast (pc := 131) h dX5_settle_131 rfl (by decide) (by omega) (by omega) ?_
                refine z_iload (pc := 132) h dX5_settle_132 rfl ?_
                refine z_aload_n (pc := 134) h dX5_settle_134 rfl ?_
                refine z_getR (a := 34) (pc := 135) h dX5_settle_135 clX5 lkX5_15 (by decide) rfl rfl ?_
                refine z_iload_n (pc := 138) h dX5_settle_138 rfl ?_
                refine z_iald (pc := 139) h dX5_settle_139 rfl (by decide) (by omega) (by omega) ?_
                refine z_cv (b := (stepF g Q l j + (oR g Q n r (t.toNat ||| 2 ^ j.toNat) j.toNat).2.1)) (by rw [up2_k _ _ (by decide), up2_s]) ?_
                refine z_icmp_ne (pc := 140) (tgt := 169) h dX5_settle_140 (by decide) ⟨by omega, by omega⟩ ⟨by omega, by omega⟩ (fun hc140 => ?_) (fun hc140 => ?_)
                ·
                  refine z_iinc (pc := 169) (loc' := [some (zr 32), some (zi t), some (zi l), some (zi (t * 8 + l)), some (zi u), some (zi (j + 1)), some (zi (stepF g Q l j + (oR g Q n r (t.toNat ||| 2 ^ j.toNat) j.toNat).2.1))]) h dX5_settle_169 rfl (Nat.le_of_ble_eq_true rfl) rfl rfl ?_
                  refine z_goto (pc := 172) (tgt := 69) h dX5_settle_172 (by decide) ?_
                  refine z_forget [true, true, true, true, true, true, false] (loc' := [some (zr 32), some (zi t), some (zi l), some (zi (t * 8 + l)), some (zi u), some (zi (j + 1)), none]) rfl ?_
                  exact ih69 _ (by omega) (j + 1) (up2 (up2 S1 34 (Int.toNat (t * 8 + l)) (stepF g Q l j + (oR g Q n r (t.toNat ||| 2 ^ j.toNat) j.toNat).2.1)) 35 (Int.toNat (t * 8 + l)) 0) (by omega) (by first | exact hF | (intro x y q; rw [up2_e, if_neg (by omega)]; exact hF x y q) | (intro x y q; rw [up2_e, if_neg (by omega), up2_e, if_neg (by omega)]; exact hF x y q) | (intro x y q; rw [up2_e, if_neg (by omega), up2_e, if_neg (by omega), up2_e, if_neg (by omega)]; exact hF x y q)) (by rw [show (j + 1).toNat = j.toNat + 1 by omega]; first | (rw [sA_skip (hbv.resolve_right (fun q => by omega)).2]; exact hA) | (rw [hsa]; first | (rw [(hoa.1 (by omega)).1]; first | exact up2_s _ _ _ _ | (rw [up2_k _ _ (by decide), up2_s]) | (rw [up2_k _ _ (by decide), up2_k _ _ (by decide), up2_s])) | (rw [(hoa.2.1 (by omega) (by omega)).1]; exact hA) | (rw [(hoa.2.2 (by omega) (by omega)).1]; first | exact hA | (rw [up2_k _ _ (by decide)]; exact hA))) | omega) (by rw [show (j + 1).toNat = j.toNat + 1 by omega]; first | (rw [sA_skip (hbv.resolve_right (fun q => by omega)).2]; exact hW) | (rw [hsa]; first | (rw [(hoa.1 (by omega)).2, up2_s]; omega) | (rw [(hoa.2.1 (by omega) (by omega)).2]; exact hW) | (rw [(hoa.2.2 (by omega) (by omega)).2, up2_s]; omega)) | omega) rfl
                ·
                  refine z_aload_n (pc := 143) h dX5_settle_143 rfl ?_
                  refine z_getR (a := 35) (pc := 144) h dX5_settle_144 clX5 lkX5_18 (by decide) rfl rfl ?_
                  refine z_iload_n (pc := 147) h dX5_settle_147 rfl ?_
                  refine z_dup2 (pc := 148) h dX5_settle_148 rfl rfl ?_
                  refine z_iald (pc := 149) h dX5_settle_149 rfl (by decide) (by omega) (by omega) ?_
                  refine z_cv (b := 0) (by rw [up2_s]) ?_
                  refine z_aload_n (pc := 150) h dX5_settle_150 rfl ?_
                  refine z_getR (a := 35) (pc := 151) h dX5_settle_151 clX5 lkX5_18 (by decide) rfl rfl ?_
                  refine z_iload_n (pc := 154) h dX5_settle_154 rfl ?_
                  refine z_iconst (pc := 155) h dX5_settle_155 ?_
                  refine z_iload (pc := 156) h dX5_settle_156 rfl ?_
                  refine z_ishl (pc := 158) h dX5_settle_158 ⟨by omega, by omega⟩ ?_
                  refine z_ior (pc := 159) h dX5_settle_159 ⟨by omega, by omega⟩ ⟨hpw.1, Int.le_trans hpw.2 (by decide)⟩ ?_
                  refine z_cv (b := ((t.toNat ||| 2 ^ j.toNat : Nat) : Int)) (by exact or_v ht.1 hj.1) ?_
                  refine z_bipush (pc := 160) h dX5_settle_160 rfl ?_
                  refine z_imul (pc := 162) h dX5_settle_162 ?_
                  refine z_iload (pc := 163) h dX5_settle_163 rfl ?_
                  refine z_iadd (pc := 165) h dX5_settle_165 ?_
                  refine z_iald (pc := 166) h dX5_settle_166 rfl (by decide) (by omega) (by omega) ?_
                  refine z_cv (b := ((oR g Q n r (t.toNat ||| 2 ^ j.toNat) j.toNat).1)) (by rw [hi8]; first | exact hkid.2 | (rw [up2_j _ _ (by omega)]; exact hkid.2) | (rw [up2_j _ _ (by omega), up2_k _ _ (by decide)]; exact hkid.2)) ?_
                  refine z_iadd (pc := 167) h dX5_settle_167 ?_
                  refine z_iast (pc := 168) h dX5_settle_168 rfl (by decide) (by omega) (by omega) ?_
                  refine z_iinc (pc := 169) (loc' := [some (zr 32), some (zi t), some (zi l), some (zi (t * 8 + l)), some (zi u), some (zi (j + 1)), some (zi (stepF g Q l j + (oR g Q n r (t.toNat ||| 2 ^ j.toNat) j.toNat).2.1))]) h dX5_settle_169 rfl (Nat.le_of_ble_eq_true rfl) rfl rfl ?_
                  refine z_goto (pc := 172) (tgt := 69) h dX5_settle_172 (by decide) ?_
                  refine z_forget [true, true, true, true, true, true, false] (loc' := [some (zr 32), some (zi t), some (zi l), some (zi (t * 8 + l)), some (zi u), some (zi (j + 1)), none]) rfl ?_
                  exact ih69 _ (by omega) (j + 1) (up2 (up2 (up2 S1 34 (Int.toNat (t * 8 + l)) (stepF g Q l j + (oR g Q n r (t.toNat ||| 2 ^ j.toNat) j.toNat).2.1)) 35 (Int.toNat (t * 8 + l)) 0) 35 (Int.toNat (t * 8 + l)) (0 + ((oR g Q n r (t.toNat ||| 2 ^ j.toNat) j.toNat).1))) (by omega) (by first | exact hF | (intro x y q; rw [up2_e, if_neg (by omega)]; exact hF x y q) | (intro x y q; rw [up2_e, if_neg (by omega), up2_e, if_neg (by omega)]; exact hF x y q) | (intro x y q; rw [up2_e, if_neg (by omega), up2_e, if_neg (by omega), up2_e, if_neg (by omega)]; exact hF x y q)) (by rw [show (j + 1).toNat = j.toNat + 1 by omega]; first | (rw [sA_skip (hbv.resolve_right (fun q => by omega)).2]; exact hA) | (rw [hsa]; first | (rw [(hoa.1 (by omega)).1]; first | exact up2_s _ _ _ _ | (rw [up2_k _ _ (by decide), up2_s]) | (rw [up2_k _ _ (by decide), up2_k _ _ (by decide), up2_s])) | (rw [(hoa.2.1 (by omega) (by omega)).1]; exact hA) | (rw [(hoa.2.2 (by omega) (by omega)).1]; first | exact hA | (rw [up2_k _ _ (by decide)]; exact hA))) | omega) (by rw [show (j + 1).toNat = j.toNat + 1 by omega]; first | (rw [sA_skip (hbv.resolve_right (fun q => by omega)).2]; exact hW) | (rw [hsa]; first | (rw [(hoa.1 (by omega)).2, up2_s]; omega) | (rw [(hoa.2.1 (by omega) (by omega)).2]; exact hW) | (rw [(hoa.2.2 (by omega) (by omega)).2, up2_s]; omega)) | omega) rfl
              ·
                refine z_iload (pc := 106) h dX5_settle_106 rfl ?_
                refine z_aload_n (pc := 108) h dX5_settle_108 rfl ?_
                refine z_getR (a := 34) (pc := 109) h dX5_settle_109 clX5 lkX5_15 (by decide) rfl rfl ?_
                refine z_iload_n (pc := 112) h dX5_settle_112 rfl ?_
                refine z_iald (pc := 113) h dX5_settle_113 rfl (by decide) (by omega) (by omega) ?_
                refine z_icmp_ge (pc := 114) (tgt := 132) h dX5_settle_114 (by decide) ⟨by omega, by omega⟩ ⟨by omega, by omega⟩ (fun hc114 => ?_) (fun hc114 => ?_)
                ·
                  refine z_iload (pc := 132) h dX5_settle_132 rfl ?_
                  refine z_aload_n (pc := 134) h dX5_settle_134 rfl ?_
                  refine z_getR (a := 34) (pc := 135) h dX5_settle_135 clX5 lkX5_15 (by decide) rfl rfl ?_
                  refine z_iload_n (pc := 138) h dX5_settle_138 rfl ?_
                  refine z_iald (pc := 139) h dX5_settle_139 rfl (by decide) (by omega) (by omega) ?_
                  refine z_icmp_ne (pc := 140) (tgt := 169) h dX5_settle_140 (by decide) ⟨by omega, by omega⟩ ⟨by omega, by omega⟩ (fun hc140 => ?_) (fun hc140 => ?_)
                  ·
                    refine z_iinc (pc := 169) (loc' := [some (zr 32), some (zi t), some (zi l), some (zi (t * 8 + l)), some (zi u), some (zi (j + 1)), some (zi (stepF g Q l j + (oR g Q n r (t.toNat ||| 2 ^ j.toNat) j.toNat).2.1))]) h dX5_settle_169 rfl (Nat.le_of_ble_eq_true rfl) rfl rfl ?_
                    refine z_goto (pc := 172) (tgt := 69) h dX5_settle_172 (by decide) ?_
                    refine z_forget [true, true, true, true, true, true, false] (loc' := [some (zr 32), some (zi t), some (zi l), some (zi (t * 8 + l)), some (zi u), some (zi (j + 1)), none]) rfl ?_
                    exact ih69 _ (by omega) (j + 1) S1 (by omega) (by first | exact hF | (intro x y q; rw [up2_e, if_neg (by omega)]; exact hF x y q) | (intro x y q; rw [up2_e, if_neg (by omega), up2_e, if_neg (by omega)]; exact hF x y q) | (intro x y q; rw [up2_e, if_neg (by omega), up2_e, if_neg (by omega), up2_e, if_neg (by omega)]; exact hF x y q)) (by rw [show (j + 1).toNat = j.toNat + 1 by omega]; first | (rw [sA_skip (hbv.resolve_right (fun q => by omega)).2]; exact hA) | (rw [hsa]; first | (rw [(hoa.1 (by omega)).1]; first | exact up2_s _ _ _ _ | (rw [up2_k _ _ (by decide), up2_s]) | (rw [up2_k _ _ (by decide), up2_k _ _ (by decide), up2_s])) | (rw [(hoa.2.1 (by omega) (by omega)).1]; exact hA) | (rw [(hoa.2.2 (by omega) (by omega)).1]; first | exact hA | (rw [up2_k _ _ (by decide)]; exact hA))) | omega) (by rw [show (j + 1).toNat = j.toNat + 1 by omega]; first | (rw [sA_skip (hbv.resolve_right (fun q => by omega)).2]; exact hW) | (rw [hsa]; first | (rw [(hoa.1 (by omega)).2, up2_s]; omega) | (rw [(hoa.2.1 (by omega) (by omega)).2]; exact hW) | (rw [(hoa.2.2 (by omega) (by omega)).2, up2_s]; omega)) | omega) rfl
                  ·
                    refine z_aload_n (pc := 143) h dX5_settle_143 rfl ?_
                    refine z_getR (a := 35) (pc := 144) h dX5_settle_144 clX5 lkX5_18 (by decide) rfl rfl ?_
                    refine z_iload_n (pc := 147) h dX5_settle_147 rfl ?_
                    refine z_dup2 (pc := 148) h dX5_settle_148 rfl rfl ?_
                    refine z_iald (pc := 149) h dX5_settle_149 rfl (by decide) (by omega) (by omega) ?_
                    refine z_aload_n (pc := 150) h dX5_settle_150 rfl ?_
                    refine z_getR (a := 35) (pc := 151) h dX5_settle_151 clX5 lkX5_18 (by decide) rfl rfl ?_
                    refine z_iload_n (pc := 154) h dX5_settle_154 rfl ?_
                    refine z_iconst (pc := 155) h dX5_settle_155 ?_
                    refine z_iload (pc := 156) h dX5_settle_156 rfl ?_
                    refine z_ishl (pc := 158) h dX5_settle_158 ⟨by omega, by omega⟩ ?_
                    refine z_ior (pc := 159) h dX5_settle_159 ⟨by omega, by omega⟩ ⟨hpw.1, Int.le_trans hpw.2 (by decide)⟩ ?_
                    refine z_cv (b := ((t.toNat ||| 2 ^ j.toNat : Nat) : Int)) (by exact or_v ht.1 hj.1) ?_
                    refine z_bipush (pc := 160) h dX5_settle_160 rfl ?_
                    refine z_imul (pc := 162) h dX5_settle_162 ?_
                    refine z_iload (pc := 163) h dX5_settle_163 rfl ?_
                    refine z_iadd (pc := 165) h dX5_settle_165 ?_
                    refine z_iald (pc := 166) h dX5_settle_166 rfl (by decide) (by omega) (by omega) ?_
                    refine z_cv (b := ((oR g Q n r (t.toNat ||| 2 ^ j.toNat) j.toNat).1)) (by rw [hi8]; first | exact hkid.2 | (rw [up2_j _ _ (by omega)]; exact hkid.2) | (rw [up2_j _ _ (by omega), up2_k _ _ (by decide)]; exact hkid.2)) ?_
                    refine z_iadd (pc := 167) h dX5_settle_167 ?_
                    refine z_iast (pc := 168) h dX5_settle_168 rfl (by decide) (by omega) (by omega) ?_
                    refine z_iinc (pc := 169) (loc' := [some (zr 32), some (zi t), some (zi l), some (zi (t * 8 + l)), some (zi u), some (zi (j + 1)), some (zi (stepF g Q l j + (oR g Q n r (t.toNat ||| 2 ^ j.toNat) j.toNat).2.1))]) h dX5_settle_169 rfl (Nat.le_of_ble_eq_true rfl) rfl rfl ?_
                    refine z_goto (pc := 172) (tgt := 69) h dX5_settle_172 (by decide) ?_
                    refine z_forget [true, true, true, true, true, true, false] (loc' := [some (zr 32), some (zi t), some (zi l), some (zi (t * 8 + l)), some (zi u), some (zi (j + 1)), none]) rfl ?_
                    exact ih69 _ (by omega) (j + 1) (up2 S1 35 (Int.toNat (t * 8 + l)) ((S1 35 (Int.toNat (t * 8 + l))) + ((oR g Q n r (t.toNat ||| 2 ^ j.toNat) j.toNat).1))) (by omega) (by first | exact hF | (intro x y q; rw [up2_e, if_neg (by omega)]; exact hF x y q) | (intro x y q; rw [up2_e, if_neg (by omega), up2_e, if_neg (by omega)]; exact hF x y q) | (intro x y q; rw [up2_e, if_neg (by omega), up2_e, if_neg (by omega), up2_e, if_neg (by omega)]; exact hF x y q)) (by rw [show (j + 1).toNat = j.toNat + 1 by omega]; first | (rw [sA_skip (hbv.resolve_right (fun q => by omega)).2]; exact hA) | (rw [hsa]; first | (rw [(hoa.1 (by omega)).1]; first | exact up2_s _ _ _ _ | (rw [up2_k _ _ (by decide), up2_s]) | (rw [up2_k _ _ (by decide), up2_k _ _ (by decide), up2_s])) | (rw [(hoa.2.1 (by omega) (by omega)).1]; exact hA) | (rw [(hoa.2.2 (by omega) (by omega)).1]; first | exact hA | (rw [up2_k _ _ (by decide)]; exact hA))) | omega) (by rw [show (j + 1).toNat = j.toNat + 1 by omega]; first | (rw [sA_skip (hbv.resolve_right (fun q => by omega)).2]; exact hW) | (rw [hsa]; first | (rw [(hoa.1 (by omega)).2, up2_s]; omega) | (rw [(hoa.2.1 (by omega) (by omega)).2]; exact hW) | (rw [(hoa.2.2 (by omega) (by omega)).2, up2_s]; omega)) | omega) rfl
                ·
                  refine z_aload_n (pc := 117) h dX5_settle_117 rfl ?_
                  refine z_getR (a := 34) (pc := 118) h dX5_settle_118 clX5 lkX5_15 (by decide) rfl rfl ?_
                  refine z_iload_n (pc := 121) h dX5_settle_121 rfl ?_
                  refine z_iload (pc := 122) h dX5_settle_122 rfl ?_
                  refine z_iast (pc := 124) h dX5_settle_124 rfl (by decide) (by omega) (by omega) ?_
                  refine z_aload_n (pc := 125) h dX5_settle_125 rfl ?_
                  refine z_getR (a := 35) (pc := 126) h dX5_settle_126 clX5 lkX5_18 (by decide) rfl rfl ?_
                  refine z_iload_n (pc := 129) h dX5_settle_129 rfl ?_
                  refine z_iconst (pc := 130) h dX5_settle_130 ?_
                  refine z_iast (pc := 131) h dX5_settle_131 rfl (by decide) (by omega) (by omega) ?_
                  refine z_iload (pc := 132) h dX5_settle_132 rfl ?_
                  refine z_aload_n (pc := 134) h dX5_settle_134 rfl ?_
                  refine z_getR (a := 34) (pc := 135) h dX5_settle_135 clX5 lkX5_15 (by decide) rfl rfl ?_
                  refine z_iload_n (pc := 138) h dX5_settle_138 rfl ?_
                  refine z_iald (pc := 139) h dX5_settle_139 rfl (by decide) (by omega) (by omega) ?_
                  refine z_cv (b := (stepF g Q l j + (oR g Q n r (t.toNat ||| 2 ^ j.toNat) j.toNat).2.1)) (by rw [up2_k _ _ (by decide), up2_s]) ?_
                  refine z_icmp_ne (pc := 140) (tgt := 169) h dX5_settle_140 (by decide) ⟨by omega, by omega⟩ ⟨by omega, by omega⟩ (fun hc140 => ?_) (fun hc140 => ?_)
                  ·
                    refine z_iinc (pc := 169) (loc' := [some (zr 32), some (zi t), some (zi l), some (zi (t * 8 + l)), some (zi u), some (zi (j + 1)), some (zi (stepF g Q l j + (oR g Q n r (t.toNat ||| 2 ^ j.toNat) j.toNat).2.1))]) h dX5_settle_169 rfl (Nat.le_of_ble_eq_true rfl) rfl rfl ?_
                    refine z_goto (pc := 172) (tgt := 69) h dX5_settle_172 (by decide) ?_
                    refine z_forget [true, true, true, true, true, true, false] (loc' := [some (zr 32), some (zi t), some (zi l), some (zi (t * 8 + l)), some (zi u), some (zi (j + 1)), none]) rfl ?_
                    exact ih69 _ (by omega) (j + 1) (up2 (up2 S1 34 (Int.toNat (t * 8 + l)) (stepF g Q l j + (oR g Q n r (t.toNat ||| 2 ^ j.toNat) j.toNat).2.1)) 35 (Int.toNat (t * 8 + l)) 0) (by omega) (by first | exact hF | (intro x y q; rw [up2_e, if_neg (by omega)]; exact hF x y q) | (intro x y q; rw [up2_e, if_neg (by omega), up2_e, if_neg (by omega)]; exact hF x y q) | (intro x y q; rw [up2_e, if_neg (by omega), up2_e, if_neg (by omega), up2_e, if_neg (by omega)]; exact hF x y q)) (by rw [show (j + 1).toNat = j.toNat + 1 by omega]; first | (rw [sA_skip (hbv.resolve_right (fun q => by omega)).2]; exact hA) | (rw [hsa]; first | (rw [(hoa.1 (by omega)).1]; first | exact up2_s _ _ _ _ | (rw [up2_k _ _ (by decide), up2_s]) | (rw [up2_k _ _ (by decide), up2_k _ _ (by decide), up2_s])) | (rw [(hoa.2.1 (by omega) (by omega)).1]; exact hA) | (rw [(hoa.2.2 (by omega) (by omega)).1]; first | exact hA | (rw [up2_k _ _ (by decide)]; exact hA))) | omega) (by rw [show (j + 1).toNat = j.toNat + 1 by omega]; first | (rw [sA_skip (hbv.resolve_right (fun q => by omega)).2]; exact hW) | (rw [hsa]; first | (rw [(hoa.1 (by omega)).2, up2_s]; omega) | (rw [(hoa.2.1 (by omega) (by omega)).2]; exact hW) | (rw [(hoa.2.2 (by omega) (by omega)).2, up2_s]; omega)) | omega) rfl
                  ·
                    refine z_aload_n (pc := 143) h dX5_settle_143 rfl ?_
                    refine z_getR (a := 35) (pc := 144) h dX5_settle_144 clX5 lkX5_18 (by decide) rfl rfl ?_
                    refine z_iload_n (pc := 147) h dX5_settle_147 rfl ?_
                    refine z_dup2 (pc := 148) h dX5_settle_148 rfl rfl ?_
                    refine z_iald (pc := 149) h dX5_settle_149 rfl (by decide) (by omega) (by omega) ?_
                    refine z_cv (b := 0) (by rw [up2_s]) ?_
                    refine z_aload_n (pc := 150) h dX5_settle_150 rfl ?_
                    refine z_getR (a := 35) (pc := 151) h dX5_settle_151 clX5 lkX5_18 (by decide) rfl rfl ?_
                    refine z_iload_n (pc := 154) h dX5_settle_154 rfl ?_
                    refine z_iconst (pc := 155) h dX5_settle_155 ?_
                    refine z_iload (pc := 156) h dX5_settle_156 rfl ?_
                    refine z_ishl (pc := 158) h dX5_settle_158 ⟨by omega, by omega⟩ ?_
                    refine z_ior (pc := 159) h dX5_settle_159 ⟨by omega, by omega⟩ ⟨hpw.1, Int.le_trans hpw.2 (by decide)⟩ ?_
                    refine z_cv (b := ((t.toNat ||| 2 ^ j.toNat : Nat) : Int)) (by exact or_v ht.1 hj.1) ?_
                    refine z_bipush (pc := 160) h dX5_settle_160 rfl ?_
                    refine z_imul (pc := 162) h dX5_settle_162 ?_
                    refine z_iload (pc := 163) h dX5_settle_163 rfl ?_
                    refine z_iadd (pc := 165) h dX5_settle_165 ?_
                    refine z_iald (pc := 166) h dX5_settle_166 rfl (by decide) (by omega) (by omega) ?_
                    refine z_cv (b := ((oR g Q n r (t.toNat ||| 2 ^ j.toNat) j.toNat).1)) (by rw [hi8]; first | exact hkid.2 | (rw [up2_j _ _ (by omega)]; exact hkid.2) | (rw [up2_j _ _ (by omega), up2_k _ _ (by decide)]; exact hkid.2)) ?_
                    refine z_iadd (pc := 167) h dX5_settle_167 ?_
                    refine z_iast (pc := 168) h dX5_settle_168 rfl (by decide) (by omega) (by omega) ?_
                    refine z_iinc (pc := 169) (loc' := [some (zr 32), some (zi t), some (zi l), some (zi (t * 8 + l)), some (zi u), some (zi (j + 1)), some (zi (stepF g Q l j + (oR g Q n r (t.toNat ||| 2 ^ j.toNat) j.toNat).2.1))]) h dX5_settle_169 rfl (Nat.le_of_ble_eq_true rfl) rfl rfl ?_
                    refine z_goto (pc := 172) (tgt := 69) h dX5_settle_172 (by decide) ?_
                    refine z_forget [true, true, true, true, true, true, false] (loc' := [some (zr 32), some (zi t), some (zi l), some (zi (t * 8 + l)), some (zi u), some (zi (j + 1)), none]) rfl ?_
                    exact ih69 _ (by omega) (j + 1) (up2 (up2 (up2 S1 34 (Int.toNat (t * 8 + l)) (stepF g Q l j + (oR g Q n r (t.toNat ||| 2 ^ j.toNat) j.toNat).2.1)) 35 (Int.toNat (t * 8 + l)) 0) 35 (Int.toNat (t * 8 + l)) (0 + ((oR g Q n r (t.toNat ||| 2 ^ j.toNat) j.toNat).1))) (by omega) (by first | exact hF | (intro x y q; rw [up2_e, if_neg (by omega)]; exact hF x y q) | (intro x y q; rw [up2_e, if_neg (by omega), up2_e, if_neg (by omega)]; exact hF x y q) | (intro x y q; rw [up2_e, if_neg (by omega), up2_e, if_neg (by omega), up2_e, if_neg (by omega)]; exact hF x y q)) (by rw [show (j + 1).toNat = j.toNat + 1 by omega]; first | (rw [sA_skip (hbv.resolve_right (fun q => by omega)).2]; exact hA) | (rw [hsa]; first | (rw [(hoa.1 (by omega)).1]; first | exact up2_s _ _ _ _ | (rw [up2_k _ _ (by decide), up2_s]) | (rw [up2_k _ _ (by decide), up2_k _ _ (by decide), up2_s])) | (rw [(hoa.2.1 (by omega) (by omega)).1]; exact hA) | (rw [(hoa.2.2 (by omega) (by omega)).1]; first | exact hA | (rw [up2_k _ _ (by decide)]; exact hA))) | omega) (by rw [show (j + 1).toNat = j.toNat + 1 by omega]; first | (rw [sA_skip (hbv.resolve_right (fun q => by omega)).2]; exact hW) | (rw [hsa]; first | (rw [(hoa.1 (by omega)).2, up2_s]; omega) | (rw [(hoa.2.1 (by omega) (by omega)).2]; exact hW) | (rw [(hoa.2.2 (by omega) (by omega)).2, up2_s]; omega)) | omega) rfl
        exact J69 _ 0 (up2 (up2 S 34 (Int.toNat (t * 8 + l)) v) 35 (Int.toNat (t * 8 + l)) v2) (by omega) (by intro x y q; rw [up2_e, if_neg (by omega), up2_e, if_neg (by omega)]) (by rw [up2_k _ _ (by decide), up2_s]; exact hv) (by rw [up2_s]; exact hv2) rfl
      refine z_aload_n (pc := 50) h dX5_settle_50 rfl ?_
      refine z_getR (a := 35) (pc := 51) h dX5_settle_51 clX5 lkX5_18 (by decide) rfl rfl ?_
      refine z_iload_n (pc := 54) h dX5_settle_54 rfl ?_
      refine z_iload (pc := 55) h dX5_settle_55 rfl ?_
      refine z_if_eq (pc := 57) (tgt := 64) h dX5_settle_57 (by decide) ⟨by omega, by omega⟩ (fun hc57 => ?_) (fun hc57 => ?_)
      ·
        refine z_iconst (pc := 64) h dX5_settle_64 ?_
        exact J65 0 (by unfold sA; first | (rw [if_pos (by have := hfull (by omega); omega)]; rfl) | (rw [if_neg (by have := hless (by omega); omega)]; rfl))
      ·
        refine z_iconst (pc := 60) h dX5_settle_60 ?_
        refine z_goto (pc := 61) (tgt := 65) h dX5_settle_61 (by decide) ?_
        exact J65 1 (by unfold sA; first | (rw [if_pos (by have := hfull (by omega); omega)]; rfl) | (rw [if_neg (by have := hless (by omega); omega)]; rfl))
    refine z_aload_n (pc := 26) h dX5_settle_26 rfl ?_
    refine z_getR (a := 34) (pc := 27) h dX5_settle_27 clX5 lkX5_15 (by decide) rfl rfl ?_
    refine z_iload_n (pc := 30) h dX5_settle_30 rfl ?_
    refine z_iload (pc := 31) h dX5_settle_31 rfl ?_
    refine z_if_eq (pc := 33) (tgt := 48) h dX5_settle_33 (by decide) ⟨by omega, by omega⟩ (fun hc33 => ?_) (fun hc33 => ?_)
    ·
      refine z_iconst (pc := 48) h dX5_settle_48 ?_
      exact J49 0 (by unfold sA; first | (rw [if_pos (by have := hfull (by omega); omega)]; rfl) | (rw [if_neg (by have := hless (by omega); omega)]; rfl))
    ·
      refine z_aload_n (pc := 36) h dX5_settle_36 rfl ?_
      refine z_getR (a := 33) (pc := 37) h dX5_settle_37 clX5 lkX5_9 (by decide) rfl rfl ?_
      refine z_iload_n (pc := 40) h dX5_settle_40 rfl ?_
      refine z_bipush (pc := 41) h dX5_settle_41 rfl ?_
      refine z_imul (pc := 43) h dX5_settle_43 ?_
      refine z_iald (pc := 44) h dX5_settle_44 rfl (by decide) (by omega) (by omega) ?_
      refine z_cv (b := (oe g Q l.toNat)) (by rw [show (l * 8).toNat = l.toNat * 8 + 0 by omega]; exact hS _ _ (by omega) (by omega)) ?_
      refine z_goto (pc := 45) (tgt := 49) h dX5_settle_45 (by decide) ?_
      exact J49 (oe g Q l.toNat) (by unfold sA; first | (rw [if_pos (by have := hfull (by omega); omega)]; rfl) | (rw [if_neg (by have := hless (by omega); omega)]; rfl))
  refine z_iconst (pc := 8) h dX5_settle_8 ?_
  refine z_aload_n (pc := 9) h dX5_settle_9 rfl ?_
  refine z_getI (pc := 10) h dX5_settle_10 clX5 lkX5_36 (by decide) rfl rfl ?_
  refine z_ishl (pc := 13) h dX5_settle_13 ⟨by omega, by omega⟩ ?_
  refine z_cv (b := (w + 1)) (by rw [h4]; exact hw2) ?_
  refine z_iconst (pc := 14) h dX5_settle_14 ?_
  refine z_isub (pc := 15) h dX5_settle_15 ?_
  refine z_icmp_ne (pc := 16) (tgt := 23) h dX5_settle_16 (by decide) ⟨by omega, by omega⟩ ⟨by omega, by omega⟩ (fun hc16 => ?_) (fun hc16 => ?_)
  ·
    refine z_iconst (pc := 23) h dX5_settle_23 ?_
    exact J24 0 (by omega)
  ·
    refine z_iconst (pc := 19) h dX5_settle_19 ?_
    refine z_goto (pc := 20) (tgt := 24) h dX5_settle_20 (by decide) ?_
    exact J24 1 (by omega)

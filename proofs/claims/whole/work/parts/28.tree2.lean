/-! trees: bounds, how many, and the rows in their order -/
theorem popk_e {a b : Nat} : ∀ m : Nat, (∀ i, i < m → a.testBit i = b.testBit i) → popk a m = popk b m
  | 0, _ => rfl
  | m + 1, h => by
    have h1 := h m (by omega)
    rw [Nat.testBit_eq_decide_div_mod_eq, Nat.testBit_eq_decide_div_mod_eq, decide_eq_decide] at h1
    unfold popk
    rw [popk_e m (fun i hi => h i (by omega))]
    omega
theorem testBit_set (tk d i : Nat) : (tk ||| 2 ^ d).testBit i = (tk.testBit i || decide (d = i)) := by rw [Nat.testBit_or, Nat.testBit_two_pow]
theorem popk_set {tk d : Nat} (hb : tk.testBit d = false) : ∀ m : Nat, d < m → popk (tk ||| 2 ^ d) m = popk tk m + 1
  | 0, h => by omega
  | m + 1, h => by
    by_cases hd : d = m
    · subst hd
      have e := popk_e (a := tk ||| 2 ^ d) (b := tk) d (fun i hi => by rw [testBit_set, decide_eq_false (by omega), Bool.or_false])
      have b1 : (tk ||| 2 ^ d).testBit d = true := by rw [testBit_set, decide_eq_true rfl, Bool.or_true]
      rw [Nat.testBit_eq_decide_div_mod_eq, decide_eq_true_iff] at b1
      rw [Nat.testBit_eq_decide_div_mod_eq, decide_eq_false_iff_not] at hb
      unfold popk
      omega
    · have ih := popk_set hb m (by omega)
      have b1 : (tk ||| 2 ^ d).testBit m = tk.testBit m := by rw [testBit_set, decide_eq_false hd, Bool.or_false]
      rw [Nat.testBit_eq_decide_div_mod_eq, Nat.testBit_eq_decide_div_mod_eq, decide_eq_decide] at b1
      unfold popk
      omega
theorem popk_room {tk : Nat} : ∀ m : Nat, popk tk m < m → ∃ d, d < m ∧ tk.testBit d = false
  | 0, h => by omega
  | m + 1, h => by
    by_cases hb : tk.testBit m = false
    · exact ⟨m, by omega, hb⟩
    · have b1 : tk.testBit m = true := by cases h9 : tk.testBit m <;> simp_all
      rw [Nat.testBit_eq_decide_div_mod_eq, decide_eq_true_iff] at b1
      unfold popk at h
      obtain ⟨d, d1, d2⟩ := popk_room (tk := tk) m (by omega)
      exact ⟨d, by omega, d2⟩
theorem popk_hi {tk m : Nat} (h : tk < 2 ^ m) : ∀ k : Nat, m ≤ k → popk tk k = popk tk m
  | 0, hk => by
    have : m = 0 := by omega
    subst this
    rfl
  | k + 1, hk => by
    by_cases e : m = k + 1
    · subst e; rfl
    · have hz : tk / 2 ^ k = 0 := Nat.div_eq_of_lt (Nat.lt_of_lt_of_le h (Nat.pow_le_pow_right (by decide) (by omega)))
      have ih := popk_hi h k (by omega)
      show popk tk k + tk / 2 ^ k % 2 = popk tk m
      rw [hz, ih]; omega
theorem popc_m {tk m : Nat} (h : tk < 2 ^ m) (hm : m ≤ 12) : popc tk = popk tk m := by rw [← popk_12]; exact popk_hi h 12 hm
theorem set_lt {tk d m : Nat} (h : tk < 2 ^ m) (hd : d < m) : tk ||| 2 ^ d < 2 ^ m := Nat.or_lt_two_pow h (Nat.pow_lt_pow_right (by decide) hd)
theorem set_gt {tk d : Nat} (hb : tk.testBit d = false) : tk < tk ||| 2 ^ d := by
  rcases Nat.lt_or_ge tk (tk ||| 2 ^ d) with h | h
  · exact h
  · have h2 : tk ||| 2 ^ d = tk := Nat.le_antisymm h Nat.left_le_or
    have h3 := testBit_set tk d d
    rw [h2, hb, decide_eq_true rfl] at h3
    cases h3
/-- bounds -/
def tB (K : Int) (B W : Int) (x : TS) : Prop := (0 ≤ x.1 ∧ x.1 ≤ K) ∧ (0 ≤ x.2.1 ∧ x.2.1 ≤ B) ∧ (-W ≤ x.2.2.1 ∧ x.2.2.1 ≤ x.2.2.2.2.1 ∧ x.2.2.2.2.1 ≤ x.2.2.2.1 ∧ x.2.2.2.1 ≤ W)
theorem tE_B {B W : Int} (hB : 0 ≤ B) (hW : 0 ≤ W) : tB 0 B W tE := ⟨⟨Int.le_refl _, Int.le_refl _⟩, ⟨Int.le_refl _, hB⟩, by show -W ≤ 0; omega, Int.le_refl _, Int.le_refl _, hW⟩
theorem tC_B {K M B W : Int} {x y : TS} (hx : tB K B W x) (hy : tB M B W y) : tB (K + M) B W (tC x y) := by
  have x1 := hx.1
  have y1 := hy.1
  by_cases h1 : y.1 = 0
  · rw [tC_0 h1]; exact ⟨by omega, hx.2⟩
  · by_cases h2 : x.1 = 0
    · rw [tC_1 h1 h2]; exact ⟨by omega, hy.2⟩
    · rcases tC_c h2 h1 with ⟨-, e⟩ | ⟨-, e⟩ | ⟨-, e⟩ <;> rw [e]
      · exact ⟨by omega, hy.2⟩
      · exact ⟨by omega, hx.2⟩
      · obtain ⟨-, x2, x3, x4, x5, x6⟩ := hx
        obtain ⟨-, y2, y3, y4, y5, y6⟩ := hy
        refine ⟨?_, x2, ?_, ?_, ?_, ?_⟩
        · show 0 ≤ x.1 + y.1 ∧ x.1 + y.1 ≤ K + M; omega
        · show -W ≤ min x.2.2.1 y.2.2.1; omega
        · show min x.2.2.1 y.2.2.1 ≤ x.2.2.2.2.1; omega
        · show x.2.2.2.2.1 ≤ max x.2.2.2.1 y.2.2.2.1; omega
        · show max x.2.2.2.1 y.2.2.2.1 ≤ W; omega
theorem tF_B {K B W : Int} (hB : 0 ≤ B) (hW : 0 ≤ W) {g : Nat → TS} (h : ∀ d, tB K B W (g d)) : ∀ m : Nat, tB (m * K) B W (tF g m tE)
  | 0 => by
    rw [show ((0 : Nat) : Int) * K = 0 from Int.zero_mul _]
    exact tE_B hB hW
  | m + 1 => by
    have h2 := tC_B (tF_B hB hW h m) (h m)
    rw [show ((m + 1 : Nat) : Int) * K = m * K + K by rw [Int.natCast_add, Int.add_mul]; show _ + 1 * K = _; rw [Int.one_mul]]
    exact h2
theorem tB_mono {K K2 B B2 W W2 : Int} {x : TS} (h : tB K B W x) (h1 : K ≤ K2) (h2 : B ≤ B2) (h3 : W ≤ W2) : tB K2 B2 W2 x := by
  obtain ⟨a1, a2, a3, a4, a5, a6⟩ := h
  exact ⟨by omega, by omega, by omega, a4, a5, by omega⟩
theorem tS_B {K B W p q C V : Int} {d : Nat} {x : TS} (h : tB K B W x) (hp : 0 ≤ p ∧ p ≤ C) (hq : -V ≤ q ∧ q ≤ V) : tB K (C + B) (V + W) (tS p q d x) := by
  obtain ⟨a1, a2, a3, a4, a5, a6⟩ := h
  by_cases h1 : x.1 = 0
  · rw [tS_0 h1]
    exact tB_mono (tE_B (B := 0) (W := 0) (by omega) (by omega)) (by omega) (by omega) (by omega)
  · rw [tS_1 h1]
    refine ⟨a1, ?_, ?_, ?_, ?_, ?_⟩
    · show 0 ≤ p + x.2.1 ∧ p + x.2.1 ≤ C + B; omega
    · show -(V + W) ≤ q + x.2.2.1; omega
    · show q + x.2.2.1 ≤ q + x.2.2.2.2.1; omega
    · show q + x.2.2.2.2.1 ≤ q + x.2.2.2.1; omega
    · show q + x.2.2.2.1 ≤ V + W; omega
section
variable (m : Nat) (c w : Nat → Nat → Nat → Int) (e : Nat → Int) (L : Nat → Nat)
theorem tR_B {C V : Int} (hC : ∀ tk la d, 0 ≤ c tk la d ∧ c tk la d ≤ C) (hV : ∀ tk la d, -V ≤ w tk la d ∧ w tk la d ≤ V) (he : ∀ la, 0 ≤ e la ∧ e la ≤ C) : ∀ r tk la : Nat, tB ((m ^ r : Nat) : Int) (C * (r + 1)) (V * r) (tR m c w e L r tk la)
  | 0, tk, la => by
    have h1 := he la
    refine ⟨⟨by show (0 : Int) ≤ 1; decide, by show (1 : Int) ≤ ((m ^ 0 : Nat) : Int); rw [Nat.pow_zero]; decide⟩, ⟨h1.1, by show e la ≤ C * (((0 : Nat) : Int) + 1); rw [show ((0 : Nat) : Int) + 1 = 1 from rfl, Int.mul_one]; exact h1.2⟩, ?_, Int.le_refl _, Int.le_refl _, ?_⟩
    · show -(V * ((0 : Nat) : Int)) ≤ 0
      rw [show V * ((0 : Nat) : Int) = 0 from Int.mul_zero _]; decide
    · show (0 : Int) ≤ V * ((0 : Nat) : Int)
      rw [show V * ((0 : Nat) : Int) = 0 from Int.mul_zero _]; decide
  | r + 1, tk, la => by
    have hc0 := hC 0 0 0
    have hv0 := hV 0 0 0
    have hr : (0 : Int) ≤ (r : Int) := Int.natCast_nonneg r
    have n1 : 0 ≤ C * ((r : Int) + 1) := Int.mul_nonneg (by omega) (by omega)
    have n2 : 0 ≤ V * (r : Int) := Int.mul_nonneg (by omega) hr
    have h : ∀ d, tB ((m ^ r : Nat) : Int) (C + C * (r + 1)) (V + V * r) (tD m c w e L r tk la d) := fun d => by
      unfold tD
      split
      · exact tB_mono (tE_B (B := 0) (W := 0) (by omega) (by omega)) (Int.natCast_nonneg _) (by omega) (by omega)
      · exact tS_B (tR_B hC hV he r _ _) (hC _ _ _) (hV _ _ _)
    have h2 := tF_B (by omega) (by omega) h m
    rw [tR_s]
    refine tB_mono h2 ?_ ?_ ?_
    · rw [Nat.pow_succ', Int.natCast_mul]; exact Int.le_refl _
    · rw [show ((r + 1 : Nat) : Int) = (r : Int) + 1 from rfl, Int.mul_add C ((r : Int) + 1) 1, Int.mul_one]; omega
    · rw [show ((r + 1 : Nat) : Int) = (r : Int) + 1 from rfl, Int.mul_add V (r : Int) 1, Int.mul_one]; omega
theorem tR_pos : ∀ r tk la : Nat, popk tk m + r ≤ m → 0 < (tR m c w e L r tk la).1
  | 0, tk, la, _ => by show (0 : Int) < 1; decide
  | r + 1, tk, la, h => by
    obtain ⟨d, d1, d2⟩ := popk_room (tk := tk) m (by omega)
    have hp := popk_set d2 m d1
    have h1 := tR_pos r (tk ||| 2 ^ d) (L d) (by omega)
    have h0 := (tR_W m c w e L (r + 1) tk la).1
    rcases tF_i (tD_W m c w e L r tk la) m with ⟨-, h3⟩ | ⟨h3, -⟩
    · have h4 := h3 d d1
      have hD : tD m c w e L r tk la d = _ := (if_neg (by rw [d2]; decide)).trans (tS_1 (by omega))
      rw [hD] at h4
      have h5 : (tR m c w e L r (tk ||| 2 ^ d) (L d)).1 = 0 := h4
      omega
    · have h6 : (tR m c w e L (r + 1) tk la).1 ≠ 0 := h3
      omega
end

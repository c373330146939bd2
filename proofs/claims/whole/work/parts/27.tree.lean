/-! summaries of rows (how many have the least sum, that sum, least and most net of these, net and signs of the first), by trees -/
abbrev TS : Type := Int × Int × Int × Int × Int × List Nat
def tE : TS := (0, 0, 0, 0, 0, [])
def tC (x y : TS) : TS := if y.1 = 0 then x else if x.1 = 0 then y else if y.2.1 < x.2.1 then y else if y.2.1 = x.2.1 then (x.1 + y.1, x.2.1, min x.2.2.1 y.2.2.1, max x.2.2.2.1 y.2.2.2.1, x.2.2.2.2.1, x.2.2.2.2.2) else x
def tS (c w : Int) (d : Nat) (x : TS) : TS := if x.1 = 0 then tE else (x.1, c + x.2.1, w + x.2.2.1, w + x.2.2.2.1, w + x.2.2.2.2.1, d :: x.2.2.2.2.2)
def tW (x : TS) : Prop := 0 ≤ x.1 ∧ (x.1 = 0 → x = tE)
theorem tE_W : tW tE := ⟨Int.le_refl _, fun _ => rfl⟩
theorem tC_0 {x y : TS} (h : y.1 = 0) : tC x y = x := if_pos h
theorem tC_1 {x y : TS} (hy : y.1 ≠ 0) (h : x.1 = 0) : tC x y = y := by unfold tC; rw [if_neg hy, if_pos h]
theorem tC_lt {x y : TS} (hy : y.1 ≠ 0) (h : y.2.1 < x.2.1) : tC x y = y := by
  unfold tC
  rw [if_neg hy]
  by_cases hx : x.1 = 0
  · rw [if_pos hx]
  · rw [if_neg hx, if_pos h]
theorem tC_gt {x y : TS} (hx : x.1 ≠ 0) (h : x.2.1 < y.2.1) : tC x y = x := by
  unfold tC
  by_cases hy : y.1 = 0
  · rw [if_pos hy]
  · rw [if_neg hy, if_neg hx, if_neg (by omega), if_neg (by omega)]
theorem tC_eq {x y : TS} (hx : x.1 ≠ 0) (hy : y.1 ≠ 0) (h : y.2.1 = x.2.1) : tC x y = (x.1 + y.1, x.2.1, min x.2.2.1 y.2.2.1, max x.2.2.2.1 y.2.2.2.1, x.2.2.2.2.1, x.2.2.2.2.2) := by
  unfold tC
  rw [if_neg hy, if_neg hx, if_neg (by omega), if_pos h]
theorem tC_e {y : TS} (h : tW y) : tC tE y = y := by
  by_cases h1 : y.1 = 0
  · rw [h.2 h1]; rfl
  · exact tC_1 h1 rfl
/-- what a joined summary is -/
theorem tC_c {x y : TS} (hx : x.1 ≠ 0) (hy : y.1 ≠ 0) : (y.2.1 < x.2.1 ∧ tC x y = y) ∨ (x.2.1 < y.2.1 ∧ tC x y = x) ∨ (y.2.1 = x.2.1 ∧ tC x y = (x.1 + y.1, x.2.1, min x.2.2.1 y.2.2.1, max x.2.2.2.1 y.2.2.2.1, x.2.2.2.2.1, x.2.2.2.2.2)) := by
  rcases Int.lt_trichotomy y.2.1 x.2.1 with h | h | h
  · exact Or.inl ⟨h, tC_lt hy h⟩
  · exact Or.inr (Or.inr ⟨h, tC_eq hx hy h⟩)
  · exact Or.inr (Or.inl ⟨h, tC_gt hx h⟩)
theorem tC_W {x y : TS} (hx : tW x) (hy : tW y) : tW (tC x y) := by
  by_cases h1 : y.1 = 0
  · rw [tC_0 h1]; exact hx
  · by_cases h2 : x.1 = 0
    · rw [tC_1 h1 h2]; exact hy
    · rcases tC_c h2 h1 with ⟨-, h⟩ | ⟨-, h⟩ | ⟨-, h⟩
      · rw [h]; exact hy
      · rw [h]; exact hx
      · rw [h]
        have a1 := hx.1
        have a2 := hy.1
        exact ⟨by show 0 ≤ x.1 + y.1; omega, fun q => by have q2 : x.1 + y.1 = 0 := q; omega⟩
theorem tC_n {x y : TS} (hx : 0 ≤ x.1) (hy : 0 ≤ y.1) (h : x.1 ≠ 0 ∨ y.1 ≠ 0) : (tC x y).1 ≠ 0 := by
  by_cases h1 : y.1 = 0
  · rw [tC_0 h1]; omega
  · by_cases h2 : x.1 = 0
    · rw [tC_1 h1 h2]; exact h1
    · rcases tC_c h2 h1 with ⟨-, e⟩ | ⟨-, e⟩ | ⟨-, e⟩
      · rw [e]; exact h1
      · rw [e]; exact h2
      · rw [e]; show x.1 + y.1 ≠ 0; omega
theorem tC_le {x y : TS} (hx : x.1 ≠ 0) : (tC x y).2.1 ≤ x.2.1 := by
  by_cases h1 : y.1 = 0
  · rw [tC_0 h1]; exact Int.le_refl _
  · rcases tC_c hx h1 with ⟨a, e⟩ | ⟨a, e⟩ | ⟨a, e⟩ <;> rw [e]
    · omega
    · exact Int.le_refl _
    · exact Int.le_refl _
theorem tC_a {x y z : TS} (hx : 0 ≤ x.1) (hy : 0 ≤ y.1) (hz : 0 ≤ z.1) : tC (tC x y) z = tC x (tC y z) := by
  by_cases z0 : z.1 = 0
  · rw [tC_0 z0, tC_0 z0]
  by_cases y0 : y.1 = 0
  · rw [tC_0 y0, tC_1 z0 y0]
  by_cases x0 : x.1 = 0
  · rw [tC_1 y0 x0, tC_1 (tC_n hy hz (Or.inl y0)) x0]
  rcases tC_c x0 y0 with ⟨a, e⟩ | ⟨a, e⟩ | ⟨a, e⟩
  · rw [e, tC_lt (x := x) (tC_n hy hz (Or.inl y0)) (Int.lt_of_le_of_lt (tC_le y0) a)]
  · rw [e]
    rcases tC_c y0 z0 with ⟨b, f⟩ | ⟨b, f⟩ | ⟨b, f⟩
    · rw [f]
    · rw [f, e, tC_gt x0 (by omega)]
    · have v2 : (tC y z).2.1 = y.2.1 := by rw [f]
      rw [tC_gt x0 (show x.2.1 < z.2.1 by omega), tC_gt (y := tC y z) x0 (by rw [v2]; exact a)]
  · have u1 : (tC x y).1 = x.1 + y.1 := by rw [e]
    have u2 : (tC x y).2.1 = x.2.1 := by rw [e]
    rcases tC_c y0 z0 with ⟨b, f⟩ | ⟨b, f⟩ | ⟨b, f⟩
    · rw [f, tC_lt (x := tC x y) z0 (by rw [u2]; omega), tC_lt (x := x) z0 (by omega)]
    · rw [f, tC_gt (x := tC x y) (by rw [u1]; omega) (by rw [u2]; omega)]
    · have v1 : (tC y z).1 = y.1 + z.1 := by rw [f]
      have v2 : (tC y z).2.1 = y.2.1 := by rw [f]
      rw [tC_eq (x := tC x y) (by rw [u1]; omega) z0 (by rw [u2]; omega), tC_eq (y := tC y z) x0 (by rw [v1]; omega) (by rw [v2]; exact a), e, f]
      show (x.1 + y.1 + z.1, x.2.1, min (min x.2.2.1 y.2.2.1) z.2.2.1, max (max x.2.2.2.1 y.2.2.2.1) z.2.2.2.1, x.2.2.2.2.1, x.2.2.2.2.2) = (x.1 + (y.1 + z.1), x.2.1, min x.2.2.1 (min y.2.2.1 z.2.2.1), max x.2.2.2.1 (max y.2.2.2.1 z.2.2.2.1), x.2.2.2.2.1, x.2.2.2.2.2)
      rw [Int.add_assoc, show min (min x.2.2.1 y.2.2.1) z.2.2.1 = min x.2.2.1 (min y.2.2.1 z.2.2.1) by omega, show max (max x.2.2.2.1 y.2.2.2.1) z.2.2.2.1 = max x.2.2.2.1 (max y.2.2.2.1 z.2.2.2.1) by omega]
theorem tS_0 {c w : Int} {d : Nat} {x : TS} (h : x.1 = 0) : tS c w d x = tE := if_pos h
theorem tS_1 {c w : Int} {d : Nat} {x : TS} (h : x.1 ≠ 0) : tS c w d x = (x.1, c + x.2.1, w + x.2.2.1, w + x.2.2.2.1, w + x.2.2.2.2.1, d :: x.2.2.2.2.2) := if_neg h
theorem tS_W (c w : Int) (d : Nat) {x : TS} (h : 0 ≤ x.1) : tW (tS c w d x) := by
  by_cases h1 : x.1 = 0
  · rw [tS_0 h1]; exact tE_W
  · rw [tS_1 h1]; exact ⟨h, fun q => absurd q h1⟩
theorem tS_C (c w : Int) (d : Nat) {x y : TS} (hx : 0 ≤ x.1) (hy : 0 ≤ y.1) : tS c w d (tC x y) = tC (tS c w d x) (tS c w d y) := by
  by_cases y0 : y.1 = 0
  · rw [tC_0 y0, tS_0 (x := y) y0]; rfl
  by_cases x0 : x.1 = 0
  · rw [tC_1 y0 x0, tS_0 (x := x) x0, tC_e (tS_W c w d hy)]
  rcases tC_c x0 y0 with ⟨a, e⟩ | ⟨a, e⟩ | ⟨a, e⟩
  · rw [e, tS_1 y0, tS_1 x0]
    exact (tC_lt (by exact y0) (show c + y.2.1 < c + x.2.1 by omega)).symm
  · rw [e, tS_1 y0, tS_1 x0]
    exact (tC_gt (by exact x0) (show c + x.2.1 < c + y.2.1 by omega)).symm
  · rw [e, tS_1 y0, tS_1 x0, tS_1 (show x.1 + y.1 ≠ 0 by omega), tC_eq (by exact x0) (by exact y0) (show c + y.2.1 = c + x.2.1 by omega)]
    show (x.1 + y.1, c + x.2.1, w + min x.2.2.1 y.2.2.1, w + max x.2.2.2.1 y.2.2.2.1, w + x.2.2.2.2.1, d :: x.2.2.2.2.2) = (x.1 + y.1, c + x.2.1, min (w + x.2.2.1) (w + y.2.2.1), max (w + x.2.2.2.1) (w + y.2.2.2.1), w + x.2.2.2.2.1, d :: x.2.2.2.2.2)
    rw [show w + min x.2.2.1 y.2.2.1 = min (w + x.2.2.1) (w + y.2.2.1) by omega, show w + max x.2.2.2.1 y.2.2.2.1 = max (w + x.2.2.2.1) (w + y.2.2.2.1) by omega]
/-- one after another -/
def tF (g : Nat → TS) : Nat → TS → TS
  | 0, a => a
  | j + 1, a => tC (tF g j a) (g j)
theorem tF_W {g : Nat → TS} (h : ∀ d, tW (g d)) {a : TS} (ha : tW a) : ∀ m : Nat, tW (tF g m a)
  | 0 => ha
  | m + 1 => tC_W (tF_W h ha m) (h m)
theorem tF_a {g : Nat → TS} (h : ∀ d, tW (g d)) {a : TS} (ha : tW a) : ∀ m : Nat, tF g m a = tC a (tF g m tE)
  | 0 => (tC_0 rfl).symm
  | m + 1 => by
    unfold tF
    rw [tF_a h ha m, tC_a ha.1 (tF_W h tE_W m).1 (h m).1]
theorem tF_c {g k : Nat → TS} {a : TS} : ∀ m : Nat, (∀ d, d < m → g d = k d) → tF g m a = tF k m a
  | 0, _ => rfl
  | m + 1, h => by
    unfold tF
    rw [tF_c m (fun d hd => h d (by omega)), h m (by omega)]
theorem tF_S (c w : Int) (d : Nat) {g : Nat → TS} (h : ∀ i, tW (g i)) : ∀ m : Nat, tS c w d (tF g m tE) = tF (fun i => tS c w d (g i)) m tE
  | 0 => rfl
  | m + 1 => by
    show tS c w d (tC (tF g m tE) (g m)) = tC (tF (fun i => tS c w d (g i)) m tE) (tS c w d (g m))
    rw [tS_C c w d (tF_W h tE_W m).1 (h m).1, tF_S c w d h m]
theorem tF_e : ∀ m : Nat, tF (fun _ => tE) m tE = tE
  | 0 => rfl
  | m + 1 => by
    unfold tF
    rw [tF_e m]
    rfl
theorem tF_add (g : Nat → TS) (x : Nat) (a : TS) : ∀ y : Nat, tF g (x + y) a = tF (fun i => g (x + i)) y (tF g x a)
  | 0 => rfl
  | y + 1 => by
    show tC (tF g (x + y) a) (g (x + y)) = tC (tF (fun i => g (x + i)) y (tF g x a)) (g (x + y))
    rw [tF_add g x a y]
/-- which one is told -/
theorem tF_i {g : Nat → TS} (h : ∀ d, tW (g d)) : ∀ m : Nat, ((tF g m tE).1 = 0 ∧ ∀ d, d < m → (g d).1 = 0) ∨ ((tF g m tE).1 ≠ 0 ∧ (∃ d, d < m ∧ (g d).1 ≠ 0 ∧ (tF g m tE).2.1 = (g d).2.1 ∧ (tF g m tE).2.2.2.2.1 = (g d).2.2.2.2.1 ∧ (tF g m tE).2.2.2.2.2 = (g d).2.2.2.2.2 ∧ ∀ i, i < d → (g i).1 = 0 ∨ (tF g m tE).2.1 < (g i).2.1) ∧ ∀ d, d < m → (g d).1 = 0 ∨ (tF g m tE).2.1 ≤ (g d).2.1)
  | 0 => Or.inl ⟨rfl, fun d hd => absurd hd (by omega)⟩
  | m + 1 => by
    have ih := tF_i h m
    have w1 := (tF_W h tE_W m).1
    have w2 := (h m).1
    have e0 : tF g (m + 1) tE = tC (tF g m tE) (g m) := rfl
    rw [e0]
    generalize tF g m tE = t at ih w1 e0
    have last : ∀ {Q : Nat → Prop}, (∀ d, d < m → Q d) → Q m → ∀ d, d < m + 1 → Q d := fun h1 h2 d hd => by
      by_cases hdm : d = m
      · subst hdm; exact h2
      · exact h1 d (by omega)
    by_cases y0 : (g m).1 = 0
    · rw [tC_0 y0]
      rcases ih with ⟨i1, i2⟩ | ⟨i1, ⟨d, d1, d2⟩, i3⟩
      · exact Or.inl ⟨i1, last i2 y0⟩
      · exact Or.inr ⟨i1, ⟨d, by omega, d2⟩, last i3 (Or.inl y0)⟩
    · right
      rcases ih with ⟨i1, i2⟩ | ⟨i1, ⟨d, d1, d2, d3, d4, d5, d6⟩, i3⟩
      · rw [tC_1 y0 i1]
        exact ⟨y0, ⟨m, by omega, y0, rfl, rfl, rfl, fun i hi => Or.inl (i2 i hi)⟩, last (fun i hi => Or.inl (i2 i hi)) (Or.inr (Int.le_refl _))⟩
      · rcases tC_c i1 y0 with ⟨a, e⟩ | ⟨a, e⟩ | ⟨a, e⟩
        · rw [e]
          exact ⟨y0, ⟨m, by omega, y0, rfl, rfl, rfl, fun i hi => (i3 i hi).imp id (fun q => by omega)⟩, last (fun i hi => (i3 i hi).imp id (fun q => by omega)) (Or.inr (Int.le_refl _))⟩
        · rw [e]
          exact ⟨i1, ⟨d, by omega, d2, d3, d4, d5, d6⟩, last i3 (Or.inr (by omega))⟩
        · rw [e]
          exact ⟨by show t.1 + (g m).1 ≠ 0; omega, ⟨d, by omega, d2, d3, d4, d5, d6⟩, last i3 (Or.inr (by show t.2.1 ≤ _; omega))⟩
section
variable (m : Nat) (c w : Nat → Nat → Nat → Int) (e : Nat → Int) (L : Nat → Nat)
def tR : Nat → Nat → Nat → TS
  | 0, _, la => (1, e la, 0, 0, 0, [])
  | r + 1, tk, la => tF (fun d => if tk.testBit d = true then tE else tS (c tk la d) (w tk la d) d (tR r (tk ||| 2 ^ d) (L d))) m tE
/-- of what is left, when d comes next -/
def tD (r tk la d : Nat) : TS := if tk.testBit d = true then tE else tS (c tk la d) (w tk la d) d (tR m c w e L r (tk ||| 2 ^ d) (L d))
theorem tR_s (r tk la : Nat) : tR m c w e L (r + 1) tk la = tF (tD m c w e L r tk la) m tE := rfl
theorem tR_W : ∀ r tk la : Nat, tW (tR m c w e L r tk la)
  | 0, tk, la => ⟨by show (0 : Int) ≤ 1; decide, fun q => by have q2 : (1 : Int) = 0 := q; omega⟩
  | r + 1, tk, la => tF_W (fun d => by
      show tW (if tk.testBit d = true then tE else tS (c tk la d) (w tk la d) d (tR m c w e L r (tk ||| 2 ^ d) (L d)))
      split
      · exact tE_W
      · exact tS_W _ _ _ (tR_W r _ _).1) tE_W m
theorem tD_W (r tk la d : Nat) : tW (tD m c w e L r tk la d) := by
  unfold tD
  split
  · exact tE_W
  · exact tS_W _ _ _ (tR_W m c w e L r _ _).1
/-- one row -/
def gv : List Nat → Nat → Nat → TS
  | [], _, la => (1, e la, 0, 0, 0, [])
  | d :: ds, tk, la => if tk.testBit d = true then tE else tS (c tk la d) (w tk la d) d (gv ds (tk ||| 2 ^ d) (L d))
theorem gv_W : ∀ (ds : List Nat) (tk la : Nat), tW (gv c w e L ds tk la)
  | [], tk, la => ⟨by show (0 : Int) ≤ 1; decide, fun q => by have q2 : (1 : Int) = 0 := q; omega⟩
  | d :: ds, tk, la => by
    unfold gv
    split
    · exact tE_W
    · exact tS_W _ _ _ (gv_W ds _ _).1
def dgs : Nat → Nat → List Nat
  | 0, _ => []
  | n + 1, k => k / m ^ n % m :: dgs n k
theorem dgs_lo (k i : Nat) : ∀ n j : Nat, j ≤ n → dgs m j (k * m ^ n + i) = dgs m j i
  | n, 0, _ => rfl
  | n, j + 1, h => by
    unfold dgs
    rw [dgs_lo k i n j (by omega)]
    congr 1
    by_cases hm : m = 0
    · subst hm
      rw [Nat.zero_pow (by omega), Nat.mul_zero, Nat.zero_add]
    have h1 : m ^ n = m ^ j * (m * m ^ (n - (j + 1))) := by
      rw [← Nat.pow_succ', ← Nat.pow_add]
      congr 1
      omega
    have hj : 0 < m ^ j := Nat.pow_pos (by omega)
    rw [h1, show k * (m ^ j * (m * m ^ (n - (j + 1)))) = m ^ j * (m * (k * m ^ (n - (j + 1)))) by rw [Nat.mul_left_comm, Nat.mul_left_comm k m], Nat.mul_add_div hj, Nat.mul_add_mod]
theorem dgs_at {k i n : Nat} (hk : k < m) (hi : i < m ^ n) : dgs m (n + 1) (k * m ^ n + i) = k :: dgs m n i := by
  show (k * m ^ n + i) / m ^ n % m :: dgs m n (k * m ^ n + i) = k :: dgs m n i
  rw [dgs_lo m k i n n (Nat.le_refl _)]
  congr 1
  have hp : 0 < m ^ n := by omega
  rw [Nat.mul_comm k, Nat.mul_add_div hp, Nat.div_eq_of_lt hi, Nat.add_zero, Nat.mod_eq_of_lt hk]
theorem code_R : ∀ n tk la : Nat, tF (fun k => gv c w e L (dgs m n k) tk la) (m ^ n) tE = tR m c w e L n tk la
  | 0, tk, la => tC_e (gv_W c w e L [] tk la)
  | n + 1, tk, la => by
    have H : ∀ k : Nat, k ≤ m → tF (fun k => gv c w e L (dgs m (n + 1) k) tk la) (k * m ^ n) tE = tF (tD m c w e L n tk la) k tE := by
      intro k
      induction k with
      | zero => intro _; rw [Nat.zero_mul]; rfl
      | succ k ih =>
        intro hk
        rw [Nat.add_mul, Nat.one_mul, tF_add, ih (by omega)]
        have hW := tF_W (tD_W m c w e L n tk la) tE_W k
        rw [tF_a (fun i => gv_W c w e L _ tk la) hW]
        show tC _ _ = tC _ (tD m c w e L n tk la k)
        congr 1
        rw [tF_c (k := fun i => if tk.testBit k = true then tE else tS (c tk la k) (w tk la k) k (gv c w e L (dgs m n i) (tk ||| 2 ^ k) (L k))) _ (fun i hi => by rw [dgs_at m (by omega) hi]; rfl)]
        unfold tD
        by_cases hb : tk.testBit k = true
        · rw [if_pos hb]
          rw [tF_c (k := fun _ => tE) _ (fun i hi => if_pos hb)]
          exact tF_e _
        · rw [if_neg hb, tF_c (k := fun i => tS (c tk la k) (w tk la k) k (gv c w e L (dgs m n i) (tk ||| 2 ^ k) (L k))) _ (fun i hi => if_neg hb), ← tF_S (c tk la k) (w tk la k) k (fun i => gv_W c w e L (dgs m n i) (tk ||| 2 ^ k) (L k)), code_R n (tk ||| 2 ^ k) (L k)]
    have h := H m (Nat.le_refl _)
    rw [← Nat.pow_succ'] at h
    exact h
/-- rows of a list -/
def tK (g : List Nat → TS) : List (List Nat) → TS → TS
  | [], a => a
  | x :: xs, a => tK g xs (tC a (g x))
theorem tK_app (g : List Nat → TS) : ∀ (xs ys : List (List Nat)) (a : TS), tK g (xs ++ ys) a = tK g ys (tK g xs a)
  | [], _, _ => rfl
  | x :: xs, ys, a => tK_app g xs ys (tC a (g x))
theorem tK_a {g : List Nat → TS} (h : ∀ x, tW (g x)) : ∀ (xs : List (List Nat)) {a : TS}, tW a → tK g xs a = tC a (tK g xs tE)
  | [], a, _ => (tC_0 rfl).symm
  | x :: xs, a, ha => by
    show tK g xs (tC a (g x)) = tC a (tK g xs (tC tE (g x)))
    have h1 := tK_a h xs (tC_W ha (h x))
    have h2 := tK_a h xs (h x)
    have hW : tW (tK g xs tE) := by
      have : ∀ (ys : List (List Nat)) {b : TS}, tW b → tW (tK g ys b) := fun ys => by
        induction ys with
        | nil => exact fun hb => hb
        | cons y ys ih => exact fun hb => ih (tC_W hb (h y))
      exact this xs tE_W
    rw [h1, tC_e (h x), h2, tC_a ha.1 (h x).1 hW.1]
theorem tK_W {g : List Nat → TS} (h : ∀ x, tW (g x)) : ∀ (xs : List (List Nat)) {a : TS}, tW a → tW (tK g xs a)
  | [], _, ha => ha
  | x :: xs, _, ha => tK_W h xs (tC_W ha (h x))
theorem tK_S (p q : Int) (d : Nat) {g : List Nat → TS} (h : ∀ x, tW (g x)) : ∀ (xs : List (List Nat)) {a : TS}, tW a → tS p q d (tK g xs a) = tK (fun x => tS p q d (g x)) xs (tS p q d a)
  | [], a, _ => rfl
  | x :: xs, a, ha => by
    show tS p q d (tK g xs (tC a (g x))) = tK (fun x => tS p q d (g x)) xs (tC (tS p q d a) (tS p q d (g x)))
    rw [tK_S p q d h xs (tC_W ha (h x)), tS_C p q d ha.1 (h x).1]
theorem tK_map (g : List Nat → TS) (d : Nat) : ∀ (xs : List (List Nat)) (a : TS), tK g (xs.map (fun x => d :: x)) a = tK (fun x => g (d :: x)) xs a
  | [], _ => rfl
  | x :: xs, a => tK_map g d xs (tC a (g (d :: x)))
def lx : Nat → Nat → List (List Nat)
  | 0, _ => [[]]
  | r + 1, tk => (List.range m).flatMap (fun d => if tk.testBit d = true then [] else (lx r (tk ||| 2 ^ d)).map (fun x => d :: x))
theorem lx_R : ∀ r tk la : Nat, tK (fun x => gv c w e L x tk la) (lx m r tk) tE = tR m c w e L r tk la
  | 0, tk, la => tC_e (gv_W c w e L [] tk la)
  | r + 1, tk, la => by
    have H : ∀ k : Nat, tK (fun x => gv c w e L x tk la) ((List.range k).flatMap (fun d => if tk.testBit d = true then [] else (lx m r (tk ||| 2 ^ d)).map (fun x => d :: x))) tE = tF (tD m c w e L r tk la) k tE := by
      intro k
      induction k with
      | zero => rfl
      | succ k ih =>
        rw [List.range_succ, List.flatMap_append, tK_app, ih]
        have hW := tF_W (tD_W m c w e L r tk la) tE_W k
        show tK _ ((if tk.testBit k = true then [] else (lx m r (tk ||| 2 ^ k)).map (fun x => k :: x)) ++ []) _ = tC _ (tD m c w e L r tk la k)
        rw [List.append_nil]
        by_cases hb : tk.testBit k = true
        · rw [if_pos hb, show tD m c w e L r tk la k = tE from if_pos hb]
          exact (tC_0 rfl).symm
        · rw [if_neg hb, show tD m c w e L r tk la k = tS (c tk la k) (w tk la k) k (tR m c w e L r (tk ||| 2 ^ k) (L k)) from if_neg hb, tK_map, show (fun x => gv c w e L (k :: x) tk la) = fun x => tS (c tk la k) (w tk la k) k (gv c w e L x (tk ||| 2 ^ k) (L k)) from funext fun x => if_neg hb, tK_a (fun x => tS_W _ _ _ (gv_W c w e L x _ _).1) _ hW, ← lx_R r (tk ||| 2 ^ k) (L k), tK_S (c tk la k) (w tk la k) k (fun x => gv_W c w e L x _ _) _ tE_W]
          rfl
    exact H m
/-- which one comes first -/
theorem tR_first {r tk la : Nat} (h : (tR m c w e L (r + 1) tk la).1 ≠ 0) : ∃ d, d < m ∧ tk.testBit d = false ∧ (tR m c w e L r (tk ||| 2 ^ d) (L d)).1 ≠ 0 ∧ (tR m c w e L (r + 1) tk la).2.1 = c tk la d + (tR m c w e L r (tk ||| 2 ^ d) (L d)).2.1 ∧ (tR m c w e L (r + 1) tk la).2.2.2.2.1 = w tk la d + (tR m c w e L r (tk ||| 2 ^ d) (L d)).2.2.2.2.1 ∧ (tR m c w e L (r + 1) tk la).2.2.2.2.2 = d :: (tR m c w e L r (tk ||| 2 ^ d) (L d)).2.2.2.2.2 ∧ ∀ i, i < d → tk.testBit i = false → (tR m c w e L r (tk ||| 2 ^ i) (L i)).1 ≠ 0 → c tk la i + (tR m c w e L r (tk ||| 2 ^ i) (L i)).2.1 ≠ (tR m c w e L (r + 1) tk la).2.1 := by
  rcases tF_i (tD_W m c w e L r tk la) m with ⟨h1, -⟩ | ⟨-, ⟨d, d1, d2, d3, d4, d5, d6⟩, -⟩
  · exact absurd h1 h
  · have hb : ¬ tk.testBit d = true := fun q => by
      unfold tD at d2
      rw [if_pos q] at d2
      exact d2 rfl
    have hz : (tR m c w e L r (tk ||| 2 ^ d) (L d)).1 ≠ 0 := fun q => by
      unfold tD at d2
      rw [if_neg hb, tS_0 q] at d2
      exact d2 rfl
    have hD : tD m c w e L r tk la d = _ := (if_neg hb).trans (tS_1 hz)
    rw [hD] at d3 d4 d5
    refine ⟨d, d1, Bool.eq_false_iff.mpr hb, hz, d3, d4, d5, fun i hi hbi hzi q => ?_⟩
    have hDi : tD m c w e L r tk la i = _ := (if_neg (by rw [hbi]; decide)).trans (tS_1 hzi)
    rcases d6 i hi with q1 | q1
    · rw [hDi] at q1
      exact hzi q1
    · rw [hDi] at q1
      have q2 : (tR m c w e L (r + 1) tk la).2.1 < c tk la i + (tR m c w e L r (tk ||| 2 ^ i) (L i)).2.1 := q1
      omega
end

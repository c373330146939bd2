/-! strips: what their texts say -/
abbrev goodF (p b : Int) : Prop := (p = 4 ∧ b = 59) ∨ (p ≠ 4 ∧ (b = 45 ∨ (48 ≤ b ∧ b ≤ 57)))
def faultR (t : Nat → Int) (n : Int) : Nat → Int → Int
  | 0, _ => if n = 0 ∨ n % 5 = 4 then -1 else n
  | r + 1, i => if i = 60 then i else if (i % 5 = 4 ∧ t i.toNat = 59) ∨ (i % 5 ≠ 4 ∧ (t i.toNat = 45 ∨ (48 ≤ t i.toNat ∧ t i.toNat ≤ 57))) then faultR t n r (i + 1) else i
def faultF (t : Nat → Int) (n : Int) : Int := faultR t n n.toNat 0
theorem fault_0 {t : Nat → Int} {n i : Int} {r : Nat} (h : r = 0) : faultR t n r i = if n = 0 ∨ n % 5 = 4 then -1 else n := by subst h; rfl
theorem fault_s {t : Nat → Int} {n i : Int} {r r' : Nat} (h : r = r' + 1) : faultR t n r i = if i = 60 then i else if goodF (i % 5) (t i.toNat) then faultR t n r' (i + 1) else i := by
  subst h; rfl
def picsF (t : Nat → Int) (n : Int) : Int := if faultF t n = -1 then (n + 1) / 5 else 0
def placeF (t : Nat → Int) (i : Int) : Int := if t (i / 4 * 5 + i % 4).toNat = 45 then -1 else t (i / 4 * 5 + i % 4).toNat - 48
theorem faultR_ok (t : Nat → Int) (n : Int) (hn : 0 ≤ n) : ∀ (r : Nat) (i : Int), 0 ≤ i → i + r = n → faultR t n r i = -1 → (n ≤ 59 ∨ 60 < i) ∧ (n = 0 ∨ n % 5 = 4) ∧ ∀ j : Int, i ≤ j → j < n → j ≠ 60 ∧ goodF (j % 5) (t j.toNat)
  | 0, i, h0, h1, h => by
    rw [fault_0 rfl] at h
    split at h
    · next hc => exact ⟨by omega, hc, fun j hj1 hj2 => by omega⟩
    · omega
  | r + 1, i, h0, h1, h => by
    rw [fault_s rfl] at h
    split at h
    · omega
    · next hi =>
      split at h
      · next hg =>
        obtain ⟨a1, a2, a3⟩ := faultR_ok t n hn r (i + 1) (by omega) (by omega) h
        refine ⟨by omega, a2, fun j hj1 hj2 => ?_⟩
        by_cases hj : j = i
        · subst hj; exact ⟨hi, hg⟩
        · exact a3 j (by omega) hj2
      · omega
theorem faultF_ok {t : Nat → Int} {n : Int} (hn : 0 ≤ n) (h : faultF t n = -1) : n ≤ 59 ∧ (n = 0 ∨ n % 5 = 4) ∧ ∀ j : Int, 0 ≤ j → j < n → goodF (j % 5) (t j.toNat) := by
  obtain ⟨a, b, c⟩ := faultR_ok t n hn n.toNat 0 (by omega) (by omega) h
  exact ⟨by omega, b, fun j h1 h2 => (c j h1 h2).2⟩
theorem faultR_b (t : Nat → Int) (n : Int) (hn : 0 ≤ n) : ∀ (r : Nat) (i : Int), 0 ≤ i → i + r = n → -1 ≤ faultR t n r i ∧ faultR t n r i ≤ n
  | 0, i, h0, h1 => by rw [fault_0 rfl]; split <;> omega
  | r + 1, i, h0, h1 => by
    rw [fault_s rfl]
    split
    · omega
    · split
      · exact faultR_b t n hn r (i + 1) (by omega) (by omega)
      · omega
theorem faultF_b (t : Nat → Int) {n : Int} (hn : 0 ≤ n) : -1 ≤ faultF t n ∧ faultF t n ≤ n := faultR_b t n hn n.toNat 0 (by omega) (by omega)
theorem picsF_b (t : Nat → Int) {n : Int} (hn : 0 ≤ n) : 0 ≤ picsF t n ∧ picsF t n ≤ 12 ∧ (5 * picsF t n ≤ n + 1) := by
  unfold picsF
  split
  · next h => have := faultF_ok hn h; omega
  · omega
theorem placeF_b {t : Nat → Int} {n i : Int} (hn : 0 ≤ n) (h0 : 0 ≤ i) (hi : i < 4 * picsF t n) : -1 ≤ placeF t i ∧ placeF t i ≤ 9 := by
  unfold picsF at hi
  split at hi
  · next h =>
    obtain ⟨a, b, c⟩ := faultF_ok hn h
    have hg := c (i / 4 * 5 + i % 4) (by omega) (by omega)
    unfold placeF
    rw [show (i / 4 * 5 + i % 4) % 5 = i % 4 by omega] at hg
    split <;> omega
  · omega
/-- the text told anew: what agrees below n tells the same -/
theorem faultR_c {t u : Nat → Int} {n : Int} (h : ∀ j : Nat, (j : Int) < n → t j = u j) : ∀ (r : Nat) (i : Int), 0 ≤ i → i + r = n → faultR t n r i = faultR u n r i
  | 0, i, h0, h1 => rfl
  | r + 1, i, h0, h1 => by
    rw [fault_s rfl, fault_s rfl, h i.toNat (by omega), faultR_c h r (i + 1) (by omega) (by omega)]
theorem faultF_c {t u : Nat → Int} {n : Int} (hn : 0 ≤ n) (h : ∀ j : Nat, (j : Int) < n → t j = u j) : faultF t n = faultF u n := faultR_c h n.toNat 0 (by omega) (by omega)
theorem picsF_c {t u : Nat → Int} {n : Int} (hn : 0 ≤ n) (h : ∀ j : Nat, (j : Int) < n → t j = u j) : picsF t n = picsF u n := by unfold picsF; rw [faultF_c hn h]
theorem placeF_c {t u : Nat → Int} {n i : Int} (hn : 0 ≤ n) (h : ∀ j : Nat, (j : Int) < n → t j = u j) (h0 : 0 ≤ i) (hi : i < 4 * picsF t n) : placeF t i = placeF u i := by
  have := picsF_b t hn
  unfold placeF
  rw [h (i / 4 * 5 + i % 4).toNat (by omega)]
abbrev PL : Type := Int → Int → Int
def plF (t : Nat → Int) (n : Int) : PL := fun p q => if (0 ≤ p ∧ p < picsF t n) ∧ (0 ≤ q ∧ q < 4) then placeF t (p * 4 + q) else -1
theorem plF_b (t : Nat → Int) {n : Int} (hn : 0 ≤ n) (p q : Int) : -1 ≤ plF t n p q ∧ plF t n p q ≤ 9 := by
  unfold plF
  split
  · exact placeF_b hn (by omega) (by omega)
  · omega
theorem plF_c {t u : Nat → Int} {n : Int} (hn : 0 ≤ n) (h : ∀ j : Nat, (j : Int) < n → t j = u j) : plF t n = plF u n := by
  funext p q
  unfold plF
  rw [← picsF_c hn h]
  split
  · exact placeF_c hn h (by omega) (by omega)
  · rfl
def partF (g u v : Int) : Int := if u = -1 ∨ v = -1 then (if u = v then 0 else g) else absI (u - v)
theorem partF_b {g u v : Int} (hg : 0 ≤ g ∧ g ≤ 9) (hu : -1 ≤ u ∧ u ≤ 9) (hv : -1 ≤ v ∧ v ≤ 9) : 0 ≤ partF g u v ∧ partF g u v ≤ 9 := by
  unfold partF absI
  (repeat' split) <;> omega
def stepF (g : Int) (Q : PL) (x y : Int) : Int := 0 + partF g (Q x 0) (Q y 0) + partF g (Q x 1) (Q y 1) + partF g (Q x 2) (Q y 2) + partF g (Q x 3) (Q y 3)
abbrev okP (Q : PL) : Prop := ∀ p q, -1 ≤ Q p q ∧ Q p q ≤ 9
theorem stepF_b {g : Int} {Q : PL} (hg : 0 ≤ g ∧ g ≤ 9) (hQ : okP Q) (x y : Int) : 0 ≤ stepF g Q x y ∧ stepF g Q x y ≤ 36 := by
  have h0 := partF_b hg (hQ x 0) (hQ y 0)
  have h1 := partF_b hg (hQ x 1) (hQ y 1)
  have h2 := partF_b hg (hQ x 2) (hQ y 2)
  have h3 := partF_b hg (hQ x 3) (hQ y 3)
  unfold stepF
  omega
theorem stepF_z (g : Int) (Q : PL) (x : Int) : stepF g Q x x = 0 := by
  have h : ∀ u : Int, partF g u u = 0 := fun u => by unfold partF absI; (repeat' split) <;> omega
  unfold stepF
  rw [h, h, h, h]
  rfl
def behF (n p : Int) : Int := if p + 1 < n then p + 1 else 0
theorem behF_m {n p : Int} (h0 : 0 ≤ p) (h : p < n) : (p + 1) % n = behF n p := by
  unfold behF
  split
  · exact Int.emod_eq_of_lt (by omega) (by omega)
  · rw [show p + 1 = n by omega, Int.emod_self]
def wholeR (g : Int) (Q : PL) (n : Int) : Nat → Int → Int → Int
  | 0, _, z => z
  | r + 1, p, z => wholeR g Q n r (p + 1) (z + stepF g Q p (behF n p))
theorem whole_0 {g : Int} {Q : PL} {n p z : Int} {r : Nat} (h : r = 0) : wholeR g Q n r p z = z := by subst h; rfl
theorem whole_s {g : Int} {Q : PL} {n p z : Int} {r r' : Nat} (h : r = r' + 1) : wholeR g Q n r p z = wholeR g Q n r' (p + 1) (z + stepF g Q p (behF n p)) := by subst h; rfl
def wholeF (g : Int) (Q : PL) (n : Int) : Int := wholeR g Q n n.toNat 0 0
def halfV (u v : Int) : Int := if u = -1 then v else if v = -1 then u else (u + v) / 2
theorem halfV_b {u v : Int} (hu : -1 ≤ u ∧ u ≤ 9) (hv : -1 ≤ v ∧ v ≤ 9) : -1 ≤ halfV u v ∧ halfV u v ≤ 9 := by unfold halfV; (repeat' split) <;> omega
def halfF (Q : PL) (n p q : Int) : Int := halfV (Q p q) (Q (behF n p) q)
def thereF (g : Int) (Q : PL) (n p : Int) : Int := 0 + partF g (Q p 0) (halfF Q n p 0) + partF g (Q p 1) (halfF Q n p 1) + partF g (Q p 2) (halfF Q n p 2) + partF g (Q p 3) (halfF Q n p 3)
def onwF (g : Int) (Q : PL) (n p : Int) : Int := 0 + partF g (halfF Q n p 0) (Q (behF n p) 0) + partF g (halfF Q n p 1) (Q (behF n p) 1) + partF g (halfF Q n p 2) (Q (behF n p) 2) + partF g (halfF Q n p 3) (Q (behF n p) 3)
theorem halfF_b {Q : PL} (hQ : okP Q) (n p q : Int) : -1 ≤ halfF Q n p q ∧ halfF Q n p q ≤ 9 := halfV_b (hQ _ _) (hQ _ _)
theorem thereF_b {g : Int} {Q : PL} (hg : 0 ≤ g ∧ g ≤ 9) (hQ : okP Q) (n p : Int) : 0 ≤ thereF g Q n p ∧ thereF g Q n p ≤ 36 := by
  have h0 := partF_b hg (hQ p 0) (halfF_b hQ n p 0)
  have h1 := partF_b hg (hQ p 1) (halfF_b hQ n p 1)
  have h2 := partF_b hg (hQ p 2) (halfF_b hQ n p 2)
  have h3 := partF_b hg (hQ p 3) (halfF_b hQ n p 3)
  unfold thereF
  omega
theorem onwF_b {g : Int} {Q : PL} (hg : 0 ≤ g ∧ g ≤ 9) (hQ : okP Q) (n p : Int) : 0 ≤ onwF g Q n p ∧ onwF g Q n p ≤ 36 := by
  have h0 := partF_b hg (halfF_b hQ n p 0) (hQ (behF n p) 0)
  have h1 := partF_b hg (halfF_b hQ n p 1) (hQ (behF n p) 1)
  have h2 := partF_b hg (halfF_b hQ n p 2) (hQ (behF n p) 2)
  have h3 := partF_b hg (halfF_b hQ n p 3) (hQ (behF n p) 3)
  unfold onwF
  omega
def lowF (g : Int) (Q : PL) (n p : Int) : Int := stepF g Q p (behF n p) * stepF g Q p (behF n p) - thereF g Q n p * thereF g Q n p - onwF g Q n p * onwF g Q n p
theorem sq_b {a A : Int} (h : 0 ≤ a ∧ a ≤ A) : 0 ≤ a * a ∧ a * a ≤ A * A := ⟨Int.mul_nonneg h.1 h.1, Int.mul_le_mul h.2 h.2 h.1 (by omega)⟩
theorem lowF_b {g : Int} {Q : PL} (hg : 0 ≤ g ∧ g ≤ 9) (hQ : okP Q) (n p : Int) : -5000 ≤ lowF g Q n p ∧ lowF g Q n p ≤ 5000 := by
  have h1 := sq_b (stepF_b hg hQ p (behF n p))
  have h2 := sq_b (thereF_b hg hQ n p)
  have h3 := sq_b (onwF_b hg hQ n p)
  unfold lowF
  omega
def missR (g : Int) (Q : PL) (n : Int) : Nat → Int → Int × Int → Int × Int
  | 0, _, z => z
  | r + 1, p, z => missR g Q n r (p + 1) (if z.2 < lowF g Q n p then (p, lowF g Q n p) else z)
theorem miss_0 {g : Int} {Q : PL} {n p : Int} {z : Int × Int} {r : Nat} (h : r = 0) : missR g Q n r p z = z := by subst h; rfl
theorem miss_s {g : Int} {Q : PL} {n p : Int} {z : Int × Int} {r r' : Nat} (h : r = r' + 1) : missR g Q n r p z = missR g Q n r' (p + 1) (if z.2 < lowF g Q n p then (p, lowF g Q n p) else z) := by subst h; rfl
def missF (g : Int) (Q : PL) (n : Int) : Int × Int := missR g Q n n.toNat 0 (-1, 0)
theorem missR_ok (g : Int) (Q : PL) (n : Int) : ∀ (r : Nat) (p : Int) (z : Int × Int), 0 ≤ p → p + r = n → (z = (-1, 0) ∨ (0 ≤ z.1 ∧ z.1 < n ∧ z.2 = lowF g Q n z.1 ∧ 0 < z.2)) → (missR g Q n r p z = (-1, 0) ∨ (0 ≤ (missR g Q n r p z).1 ∧ (missR g Q n r p z).1 < n ∧ (missR g Q n r p z).2 = lowF g Q n (missR g Q n r p z).1 ∧ 0 < (missR g Q n r p z).2))
  | 0, p, z, h0, h1, h => h
  | r + 1, p, z, h0, h1, h => by
    rw [miss_s rfl]
    refine missR_ok g Q n r (p + 1) _ (by omega) (by omega) ?_
    split
    · next hc =>
      right
      have : 0 ≤ z.2 := by
        rcases h with h | h
        · rw [h]; decide
        · omega
      exact ⟨h0, by show p < n; omega, rfl, by show 0 < lowF g Q n p; omega⟩
    · exact h
theorem missF_ok (g : Int) (Q : PL) {n : Int} (hn : 0 ≤ n) : missF g Q n = (-1, 0) ∨ (0 ≤ (missF g Q n).1 ∧ (missF g Q n).1 < n ∧ (missF g Q n).2 = lowF g Q n (missF g Q n).1 ∧ 0 < (missF g Q n).2) := missR_ok g Q n n.toNat 0 (-1, 0) (by omega) (by omega) (Or.inl rfl)
/-! the fewest -/
def reachB (g : Int) (Q : PL) (n t : Int) (c : Nat) : Bool := (List.range n.toNat).all (fun k => (List.range n.toNat).any (fun j => c.testBit j && decide (stepF g Q k j ≤ t)))
theorem reachB_t {g : Int} {Q : PL} {n t : Int} {c : Nat} : reachB g Q n t c = true ↔ ∀ k : Nat, (k : Int) < n → ∃ j : Nat, (j : Int) < n ∧ c.testBit j = true ∧ stepF g Q k j ≤ t := by
  unfold reachB
  rw [List.all_eq_true]
  constructor
  · intro h k hk
    have h1 := h k (List.mem_range.mpr (by omega))
    rw [List.any_eq_true] at h1
    obtain ⟨j, hj, h2⟩ := h1
    rw [Bool.and_eq_true, decide_eq_true_eq] at h2
    have := List.mem_range.mp hj
    exact ⟨j, by omega, h2.1, h2.2⟩
  · intro h k hk
    have := List.mem_range.mp hk
    obtain ⟨j, h1, h2, h3⟩ := h k (by omega)
    rw [List.any_eq_true]
    exact ⟨j, List.mem_range.mpr (by omega), by rw [Bool.and_eq_true, decide_eq_true_eq]; exact ⟨h2, h3⟩⟩
def fewR (R : Nat → Bool) : Nat → Nat → Nat → Nat
  | 0, _, b => b
  | r + 1, c, b => fewR R r (c + 1) (if popc c < popc b ∧ R c = true then c else b)
theorem few_0 {R : Nat → Bool} {r c b : Nat} (h : r = 0) : fewR R r c b = b := by subst h; rfl
theorem few_s {R : Nat → Bool} {r r' c b : Nat} (h : r = r' + 1) : fewR R r c b = fewR R r' (c + 1) (if popc c < popc b ∧ R c = true then c else b) := by subst h; rfl
def fewF (g : Int) (Q : PL) (n t : Int) : Nat := fewR (reachB g Q n t) (2 ^ n.toNat - 2) 1 (2 ^ n.toNat - 1)
theorem reach_all {g : Int} {Q : PL} {n t : Int} (hn : 0 ≤ n) (ht : 0 ≤ t) : reachB g Q n t (2 ^ n.toNat - 1) = true := by
  rw [reachB_t]
  intro k hk
  refine ⟨k, hk, ?_, by rw [stepF_z]; exact ht⟩
  rw [Nat.testBit_two_pow_sub_one]
  exact decide_eq_true (by omega)
theorem popc_b (n : Nat) : popc n ≤ 12 := by unfold popc; omega
theorem pop_all : (List.range 13).all (fun n => decide (popc (2 ^ n - 1) = n) && (List.range (2 ^ n - 1)).all (fun c => decide (popc c < n))) = true := by decide +kernel
theorem pop_full {n : Nat} (h : n < 13) : popc (2 ^ n - 1) = n := by
  have h1 := List.all_eq_true.mp pop_all n (List.mem_range.mpr h)
  rw [Bool.and_eq_true, decide_eq_true_eq] at h1
  exact h1.1
theorem pop_less {n c : Nat} (h : n < 13) (hc : c < 2 ^ n - 1) : popc c < n := by
  have h1 := List.all_eq_true.mp pop_all n (List.mem_range.mpr h)
  rw [Bool.and_eq_true] at h1
  exact of_decide_eq_true (List.all_eq_true.mp h1.2 c (List.mem_range.mpr hc))

/-! the law's start -/
def S10 : SS := fun k j => if k = 0 then (if j = 9 then 3 else if j = 10 then 10 else 0) else if k = 1 ∨ k = 5 then (if j = 5 then -1 else 0) else if k = 16 ∨ k = 18 ∨ k = 20 ∨ k = 22 then (if j = 1 then 1 else 0) else if k = 24 then (if j = 7 then -1 else 0) else 0
def S20 : SS := fun k j => if k = 5 then (if j = 0 then 3 else if j = 1 then 10 else 0) else 0
theorem lw_e1 {ad : Nat → Nat} {a b c d : Nat} (h1 : ad 16 = a) (h2 : ad 18 = b) (h3 : ad 20 = c) (h4 : ad 22 = d) : va_up (va_up (va_up (va_up (fun _ => none) (0 : Int32).toNatClampNeg (some a)) (1 : Int32).toNatClampNeg (some b)) (2 : Int32).toNatClampNeg (some c)) (3 : Int32).toNatClampNeg (some d) = fun j => (([16, 18, 20, 22] : List Nat)[j]?).map ad := by
  subst h1 h2 h3 h4
  funext j
  match j with
  | 0 => rfl
  | 1 => rfl
  | 2 => rfl
  | 3 => rfl
  | j + 4 =>
    show (if j + 4 = 3 then _ else if j + 4 = 2 then _ else if j + 4 = 1 then _ else if j + 4 = 0 then _ else none) = _
    rw [if_neg (by omega), if_neg (by omega), if_neg (by omega), if_neg (by omega)]
    rfl
theorem lw_e2 : upd (upd (fun _ => 0) (0 : Int32).toNatClampNeg 3) (1 : Int32).toNatClampNeg 10 = fun j => Int32.ofInt (S20 5 j) := by
  funext j
  match j with
  | 0 => rfl
  | 1 => rfl
  | j + 2 =>
    show (if j + 2 = 1 then _ else if j + 2 = 0 then _ else (0 : Int32)) = Int32.ofInt (if j + 2 = 0 then 3 else if j + 2 = 1 then 10 else 0)
    rw [if_neg (by omega), if_neg (by omega), if_neg (by omega), if_neg (by omega)]
    rfl
theorem lw_inj {T : zT} {a1 a2 : Nat → Nat} {S1 S2 : SS} {s : State} (h : va_D (fun q => s.heap.size ≤ q) (wd a1 T LX S1 ++ wd a2 T LM S2)) : lwD s a1 a2 := by
  have n1 : (wd a1 T LX S1).length = LX.length := by simp [wd]
  have f1 : ∀ {i : Nat} (hi : i < LX.length), (wd a1 T LX S1 ++ wd a2 T LM S2)[i]? = some (a1 i, cE a1 T S1 i (LX[i]'hi)) := fun hi => by
    rw [List.getElem?_append_left (by rw [n1]; exact hi)]
    exact wd_at (List.getElem?_eq_getElem hi)
  have f2 : ∀ {i : Nat} (hi : i < LM.length), (wd a1 T LX S1 ++ wd a2 T LM S2)[LX.length + i]? = some (a2 i, cE a2 T S2 i (LM[i]'hi)) := fun hi => by
    rw [List.getElem?_append_right (by rw [n1]; exact Nat.le_add_right _ _), n1, Nat.add_sub_cancel_left]
    exact wd_at (List.getElem?_eq_getElem hi)
  refine ⟨fun i j hi hj q => h.1 i j _ _ (f1 hi) (f1 hj) q, fun i j hi hj q => ?_, ?_, ?_, ?_⟩
  · have := h.1 _ _ _ _ (f2 hi) (f2 hj) q
    omega
  · rintro q ⟨k, hk, rfl⟩
    exact h.2 _ _ (f1 hk)
  · rintro q ⟨k, hk, rfl⟩
    exact h.2 _ _ (f2 hk)
  · rintro q ⟨k, hk, rfl⟩ ⟨j, hj, q2⟩
    have := h.1 _ _ _ _ (f1 hk) (f2 hj) q2
    omega
theorem lw_m0 : MI S20 := by
  have e0 : ∀ k j, k ≠ 5 → S20 k j = 0 := fun k j h => if_neg h
  have e1 : S20 5 0 = 3 := rfl
  have e2 : S20 5 1 = 10 := rfl
  unfold MI r32
  rw [e1, e2, e0 0 14 (by decide), e0 0 23 (by decide)]
  refine ⟨⟨fun q _ => ?_, fun q => ?_⟩, ⟨⟨by decide, by decide⟩, by decide, by decide⟩, ⟨fun q _ => ?_, fun q => ?_, fun q => ?_⟩, ⟨⟨by decide, by decide⟩, fun q => ?_, fun q => ?_, fun q => ?_⟩, ⟨fun q => ?_, fun q => ?_, fun q => ?_, fun q => ?_⟩, by decide, by decide⟩ <;> rw [e0 _ q (by decide)] <;> decide
theorem lw_c0 : cRel S10 S20 := by
  have e0 : ∀ k j, k ≠ 5 → S20 k j = 0 := fun k j h => if_neg h
  have t0 : ∀ t : Nat → Int, faultF t 0 = -1 := fun _ => rfl
  have t1 : ∀ t : Nat → Int, picsF t 0 = 0 := fun _ => rfl
  refine ⟨lw_m0, ⟨?_, ?_⟩, ⟨rfl, rfl, rfl⟩, ⟨⟨rfl, fun j _ => ⟨rfl, rfl⟩⟩, ⟨rfl, fun j _ => ⟨rfl, rfl⟩⟩⟩, fun q hq => ?_, ⟨rfl, fun j _ => ⟨rfl, rfl, rfl⟩⟩⟩
  · unfold relS
    rw [e0 2 0 (by decide), t0, t1]
    refine ⟨?_, rfl, fun j hj => absurd hj (by omega), rfl, rfl, fun j hj => absurd hj (by omega)⟩
    exact ⟨by show (0 : Int) ≤ 0 ∧ (0 : Int) ≤ 80; decide, by show (0 : Int) ≤ 0 ∧ (0 : Int) ≤ 12; decide, by show (-1 : Int) ≤ -1 ∧ (-1 : Int) ≤ 80; decide, fun j => by show (0 : Int) ≤ 0 ∧ (0 : Int) ≤ 255; decide, fun j => by show (-1 : Int) ≤ 0 ∧ (0 : Int) ≤ 9; decide⟩
  · unfold relS
    rw [e0 2 1 (by decide), t0, t1]
    refine ⟨?_, rfl, fun j hj => absurd hj (by omega), rfl, rfl, fun j hj => absurd hj (by omega)⟩
    exact ⟨by show (0 : Int) ≤ 0 ∧ (0 : Int) ≤ 80; decide, by show (0 : Int) ≤ 0 ∧ (0 : Int) ≤ 12; decide, by show (-1 : Int) ≤ -1 ∧ (-1 : Int) ≤ 80; decide, fun j => by show (0 : Int) ≤ 0 ∧ (0 : Int) ≤ 255; decide, fun j => by show (-1 : Int) ≤ 0 ∧ (0 : Int) ≤ 9; decide⟩
  · rcases (show q = 0 ∨ q = 1 ∨ q = 2 ∨ q = 3 by omega) with rfl | rfl | rfl | rfl <;> exact ⟨rfl, rfl, rfl, fun j _ => rfl⟩
theorem lw_r0 : mRel S20 S20 := ⟨fun _ _ _ _ _ _ _ _ => rfl, fun j => by show (-1 : Int) ≤ 0 ∧ (0 : Int) ≤ 9; decide⟩

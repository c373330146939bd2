/-! the abstract state is the reference's own cells that count; how the class's cells hold it -/
theorem it0 : Int.toNat 0 = 0 := rfl
theorem it1 : Int.toNat 1 = 1 := rfl
theorem it2 : Int.toNat 2 = 2 := rfl
theorem it3 : Int.toNat 3 = 3 := rfl
theorem up2_row (S : SS) {k j a : Nat} (v : Int) (h : a ≠ k) : up2 S k j v a = S a := funext fun b => up2_k S v h
theorem ap_some {a b : Int} (h : a = b) : some (zi a) = some (zi b) := congrArg (fun z => some (zi z)) h
theorem ap_l {a b : Int} (h : a = b) : some (zl a) = some (zl b) := congrArg (fun z => some (zl z)) h
def txt (A : SS) (s : Nat) : Nat → Int := fun j => A 1 (80 * s + j)
def MI (A : SS) : Prop := ((∀ s, s < 2 → 0 ≤ A 2 s ∧ A 2 s ≤ 80) ∧ (∀ j, 0 ≤ A 1 j ∧ A 1 j ≤ 255)) ∧ ((0 ≤ A 5 0 ∧ A 5 0 ≤ 9) ∧ (0 ≤ A 5 1 ∧ A 5 1 ≤ 60)) ∧ ((∀ l, l < 2 → 0 ≤ A 6 l ∧ A 6 l ≤ 6) ∧ (∀ j, 0 ≤ A 7 j ∧ A 7 j ≤ 59) ∧ (∀ j, 0 ≤ A 8 j ∧ A 8 j ≤ 3)) ∧ ((0 ≤ A 0 14 ∧ A 0 14 ≤ 40) ∧ (∀ j, 0 ≤ A 11 j ∧ A 11 j ≤ 60) ∧ (∀ j, 0 ≤ A 12 j ∧ A 12 j ≤ 9) ∧ (∀ j, 0 ≤ A 13 j ∧ A 13 j ≤ 1)) ∧ ((∀ j, 0 ≤ A 14 j ∧ A 14 j ≤ 1) ∧ (∀ j, 0 ≤ A 15 j ∧ A 15 j ≤ 2) ∧ (∀ j, 0 ≤ A 16 j ∧ A 16 j ≤ 60) ∧ (∀ j, r32 (A 17 j))) ∧ (0 ≤ A 0 23 ∧ A 0 23 ≤ 5)
theorem mi_n {A : SS} (h : MI A) {s : Nat} (hs : s < 2) : 0 ≤ A 2 s ∧ A 2 s ≤ 80 := h.1.1 s hs
theorem mi_t {A : SS} (h : MI A) (j : Nat) : 0 ≤ A 1 j ∧ A 1 j ≤ 255 := h.1.2 j
theorem mi_g {A : SS} (h : MI A) : 0 ≤ A 5 0 ∧ A 5 0 ≤ 9 := h.2.1.1
theorem mi_u {A : SS} (h : MI A) : 0 ≤ A 5 1 ∧ A 5 1 ≤ 60 := h.2.1.2
theorem mi_d {A : SS} (h : MI A) {l : Nat} (hl : l < 2) : 0 ≤ A 6 l ∧ A 6 l ≤ 6 := h.2.2.1.1 l hl
theorem mi_dp {A : SS} (h : MI A) (j : Nat) : 0 ≤ A 7 j ∧ A 7 j ≤ 59 := h.2.2.1.2.1 j
theorem mi_df {A : SS} (h : MI A) (j : Nat) : 0 ≤ A 8 j ∧ A 8 j ≤ 3 := h.2.2.1.2.2 j
theorem mi_y {A : SS} (h : MI A) : 0 ≤ A 0 14 ∧ A 0 14 ≤ 40 := h.2.2.2.1.1
theorem mi_yp {A : SS} (h : MI A) (j : Nat) : 0 ≤ A 11 j ∧ A 11 j ≤ 60 := h.2.2.2.1.2.1 j
theorem mi_yb {A : SS} (h : MI A) (j : Nat) : 0 ≤ A 12 j ∧ A 12 j ≤ 9 := h.2.2.2.1.2.2.1 j
theorem mi_yo {A : SS} (h : MI A) (j : Nat) : 0 ≤ A 13 j ∧ A 13 j ≤ 1 := h.2.2.2.1.2.2.2 j
theorem mi_h {A : SS} (h : MI A) (j : Nat) : 0 ≤ A 14 j ∧ A 14 j ≤ 1 := h.2.2.2.2.1.1 j
theorem mi_hf {A : SS} (h : MI A) (j : Nat) : 0 ≤ A 15 j ∧ A 15 j ≤ 2 := h.2.2.2.2.1.2.1 j
theorem mi_hn {A : SS} (h : MI A) (j : Nat) : 0 ≤ A 16 j ∧ A 16 j ≤ 60 := h.2.2.2.2.1.2.2.1 j
theorem mi_hi {A : SS} (h : MI A) (j : Nat) : r32 (A 17 j) := h.2.2.2.2.1.2.2.2 j
theorem mi_f {A : SS} (h : MI A) : 0 ≤ A 0 23 ∧ A 0 23 ≤ 5 := h.2.2.2.2.2
/-- one cell changes, within its bounds -/
theorem MI.up {A : SS} (h : MI A) {k j : Nat} {v : Int} (hk : (k = 1 ∧ 0 ≤ v ∧ v ≤ 255) ∨ (k = 2 ∧ 0 ≤ v ∧ v ≤ 80) ∨ (k = 5 ∧ j = 0 ∧ 0 ≤ v ∧ v ≤ 9) ∨ (k = 5 ∧ j = 1 ∧ 0 ≤ v ∧ v ≤ 60) ∨ (k = 6 ∧ 0 ≤ v ∧ v ≤ 6) ∨ (k = 7 ∧ 0 ≤ v ∧ v ≤ 59) ∨ (k = 8 ∧ 0 ≤ v ∧ v ≤ 3) ∨ (k = 0 ∧ j = 14 ∧ 0 ≤ v ∧ v ≤ 40) ∨ (k = 11 ∧ 0 ≤ v ∧ v ≤ 60) ∨ (k = 12 ∧ 0 ≤ v ∧ v ≤ 9) ∨ (k = 13 ∧ 0 ≤ v ∧ v ≤ 1) ∨ (k = 14 ∧ 0 ≤ v ∧ v ≤ 1) ∨ (k = 15 ∧ 0 ≤ v ∧ v ≤ 2) ∨ (k = 16 ∧ 0 ≤ v ∧ v ≤ 60) ∨ (k = 17 ∧ r32 v) ∨ (k = 0 ∧ j = 23 ∧ 0 ≤ v ∧ v ≤ 5)) : MI (up2 A k j v) := by
  have h1 := @mi_n A h
  have h2 := mi_t h
  have h3 := mi_g h
  have h4 := mi_u h
  have h5 := @mi_d A h
  have h6 := mi_dp h
  have h7 := mi_df h
  have h8 := mi_y h
  have h9 := mi_yp h
  have h10 := mi_yb h
  have h11 := mi_yo h
  have h12 := mi_h h
  have h13 := mi_hf h
  have h14 := mi_hn h
  have h15 := mi_hi h
  have h16 := mi_f h
  unfold MI
  refine ⟨⟨fun s hs => ?_, fun i => ?_⟩, ⟨?_, ?_⟩, ⟨fun l hl => ?_, fun i => ?_, fun i => ?_⟩, ⟨?_, fun i => ?_, fun i => ?_, fun i => ?_⟩, ⟨fun i => ?_, fun i => ?_, fun i => ?_, fun i => ?_⟩, ?_⟩
  · rw [up2_e]; have := h1 hs; split <;> omega
  · rw [up2_e]; have := h2 i; split <;> omega
  · rw [up2_e]; split <;> omega
  · rw [up2_e]; split <;> omega
  · rw [up2_e]; have := h5 hl; split <;> omega
  · rw [up2_e]; have := h6 i; split <;> omega
  · rw [up2_e]; have := h7 i; split <;> omega
  · rw [up2_e]; split <;> omega
  · rw [up2_e]; have := h9 i; split <;> omega
  · rw [up2_e]; have := h10 i; split <;> omega
  · rw [up2_e]; have := h11 i; split <;> omega
  · rw [up2_e]; have := h12 i; split <;> omega
  · rw [up2_e]; have := h13 i; split <;> omega
  · rw [up2_e]; have := h14 i; split <;> omega
  · rw [up2_e]; have := h15 i; split <;> omega
  · rw [up2_e]; split <;> omega
theorem MI.u_t {A : SS} (h : MI A) {j : Nat} {v : Int} (hv : 0 ≤ v ∧ v ≤ 255) : MI (up2 A 1 j v) := h.up (Or.inl ⟨rfl, hv⟩)
theorem MI.u_n {A : SS} (h : MI A) {j : Nat} {v : Int} (hv : 0 ≤ v ∧ v ≤ 80) : MI (up2 A 2 j v) := h.up (Or.inr (Or.inl ⟨rfl, hv⟩))
theorem MI.u_g {A : SS} (h : MI A) {v : Int} (hv : 0 ≤ v ∧ v ≤ 9) : MI (up2 A 5 0 v) := h.up (Or.inr (Or.inr (Or.inl ⟨rfl, rfl, hv⟩)))
theorem MI.u_u {A : SS} (h : MI A) {v : Int} (hv : 0 ≤ v ∧ v ≤ 60) : MI (up2 A 5 1 v) := h.up (Or.inr (Or.inr (Or.inr (Or.inl ⟨rfl, rfl, hv⟩))))
theorem MI.u_d {A : SS} (h : MI A) {j : Nat} {v : Int} (hv : 0 ≤ v ∧ v ≤ 6) : MI (up2 A 6 j v) := h.up (Or.inr (Or.inr (Or.inr (Or.inr (Or.inl ⟨rfl, hv⟩)))))
theorem MI.u_dp {A : SS} (h : MI A) {j : Nat} {v : Int} (hv : 0 ≤ v ∧ v ≤ 59) : MI (up2 A 7 j v) := h.up (Or.inr (Or.inr (Or.inr (Or.inr (Or.inr (Or.inl ⟨rfl, hv⟩))))))
theorem MI.u_df {A : SS} (h : MI A) {j : Nat} {v : Int} (hv : 0 ≤ v ∧ v ≤ 3) : MI (up2 A 8 j v) := h.up (Or.inr (Or.inr (Or.inr (Or.inr (Or.inr (Or.inr (Or.inl ⟨rfl, hv⟩)))))))
theorem MI.u_y {A : SS} (h : MI A) {v : Int} (hv : 0 ≤ v ∧ v ≤ 40) : MI (up2 A 0 14 v) := h.up (Or.inr (Or.inr (Or.inr (Or.inr (Or.inr (Or.inr (Or.inr (Or.inl ⟨rfl, rfl, hv⟩))))))))
theorem MI.u_yp {A : SS} (h : MI A) {j : Nat} {v : Int} (hv : 0 ≤ v ∧ v ≤ 60) : MI (up2 A 11 j v) := h.up (Or.inr (Or.inr (Or.inr (Or.inr (Or.inr (Or.inr (Or.inr (Or.inr (Or.inl ⟨rfl, hv⟩)))))))))
theorem MI.u_yb {A : SS} (h : MI A) {j : Nat} {v : Int} (hv : 0 ≤ v ∧ v ≤ 9) : MI (up2 A 12 j v) := h.up (Or.inr (Or.inr (Or.inr (Or.inr (Or.inr (Or.inr (Or.inr (Or.inr (Or.inr (Or.inl ⟨rfl, hv⟩))))))))))
theorem MI.u_yo {A : SS} (h : MI A) {j : Nat} {v : Int} (hv : 0 ≤ v ∧ v ≤ 1) : MI (up2 A 13 j v) := h.up (Or.inr (Or.inr (Or.inr (Or.inr (Or.inr (Or.inr (Or.inr (Or.inr (Or.inr (Or.inr (Or.inl ⟨rfl, hv⟩)))))))))))
theorem MI.u_h {A : SS} (h : MI A) {j : Nat} {v : Int} (hv : 0 ≤ v ∧ v ≤ 1) : MI (up2 A 14 j v) := h.up (Or.inr (Or.inr (Or.inr (Or.inr (Or.inr (Or.inr (Or.inr (Or.inr (Or.inr (Or.inr (Or.inr (Or.inl ⟨rfl, hv⟩))))))))))))
theorem MI.u_hf {A : SS} (h : MI A) {j : Nat} {v : Int} (hv : 0 ≤ v ∧ v ≤ 2) : MI (up2 A 15 j v) := h.up (Or.inr (Or.inr (Or.inr (Or.inr (Or.inr (Or.inr (Or.inr (Or.inr (Or.inr (Or.inr (Or.inr (Or.inr (Or.inl ⟨rfl, hv⟩)))))))))))))
theorem MI.u_hn {A : SS} (h : MI A) {j : Nat} {v : Int} (hv : 0 ≤ v ∧ v ≤ 60) : MI (up2 A 16 j v) := h.up (Or.inr (Or.inr (Or.inr (Or.inr (Or.inr (Or.inr (Or.inr (Or.inr (Or.inr (Or.inr (Or.inr (Or.inr (Or.inr (Or.inl ⟨rfl, hv⟩))))))))))))))
theorem MI.u_hi {A : SS} (h : MI A) {j : Nat} {v : Int} (hv : r32 v) : MI (up2 A 17 j v) := h.up (Or.inr (Or.inr (Or.inr (Or.inr (Or.inr (Or.inr (Or.inr (Or.inr (Or.inr (Or.inr (Or.inr (Or.inr (Or.inr (Or.inr (Or.inl ⟨rfl, hv⟩)))))))))))))))
theorem MI.u_f {A : SS} (h : MI A) {v : Int} (hv : 0 ≤ v ∧ v ≤ 5) : MI (up2 A 0 23 v) := h.up (Or.inr (Or.inr (Or.inr (Or.inr (Or.inr (Or.inr (Or.inr (Or.inr (Or.inr (Or.inr (Or.inr (Or.inr (Or.inr (Or.inr (Or.inr (⟨rfl, rfl, hv⟩))))))))))))))))
abbrev okS (S : SS) (k : Nat) : Prop := (0 ≤ S k 3 ∧ S k 3 ≤ 80) ∧ (0 ≤ S k 4 ∧ S k 4 ≤ 12) ∧ (-1 ≤ S k 5 ∧ S k 5 ≤ 80) ∧ (∀ j, 0 ≤ S (k + 1) j ∧ S (k + 1) j ≤ 255) ∧ (∀ j, -1 ≤ S (k + 2) j ∧ S (k + 2) j ≤ 9)
def pvX (S : SS) (k : Nat) : PL := fun p q => if (0 ≤ p ∧ p < S k 4) ∧ (0 ≤ q ∧ q < 4) then S (k + 2) (p * 4 + q).toNat else -1
theorem pvX_b {S : SS} {k : Nat} (h : okS S k) : okP (pvX S k) := by
  intro p q
  have := h.2.2.2.2 (p * 4 + q).toNat
  unfold pvX
  split <;> omega
theorem pvX_e {S S1 : SS} {k : Nat} (h4 : S1 k 4 = S k 4) (h : ∀ j, S1 (k + 2) j = S (k + 2) j) : pvX S1 k = pvX S k := by
  funext p q
  unfold pvX
  rw [h4, h]
/-- the strip told anew -/
def prsd (k : Nat) (S S' : SS) : Prop := (∀ a b, ¬ (a = k ∧ (b = 4 ∨ b = 5)) → a ≠ k + 2 → S' a b = S a b) ∧ S' k 5 = faultF (S (k + 1)) (S k 3) ∧ S' k 4 = picsF (S (k + 1)) (S k 3) ∧ (∀ j : Nat, (j : Int) < 4 * picsF (S (k + 1)) (S k 3) → S' (k + 2) j = placeF (S (k + 1)) j) ∧ (∀ j, -1 ≤ S' (k + 2) j ∧ S' (k + 2) j ≤ 9)
def relS (X A : SS) (k s : Nat) : Prop := okS X k ∧ X k 3 = A 2 s ∧ (∀ j : Nat, (j : Int) < A 2 s → X (k + 1) j = txt A s j) ∧ X k 5 = faultF (txt A s) (A 2 s) ∧ X k 4 = picsF (txt A s) (A 2 s) ∧ (∀ j : Nat, (j : Int) < 4 * picsF (txt A s) (A 2 s) → X (k + 2) j = placeF (txt A s) j)
theorem relS_pv {X A : SS} {k s : Nat} (h : relS X A k s) : pvX X k = plF (txt A s) (A 2 s) := by
  obtain ⟨-, -, -, -, h4, h5⟩ := h
  funext p q
  unfold pvX plF
  rw [h4]
  split
  · rw [h5 (p * 4 + q).toNat (by omega), show (((p * 4 + q).toNat : Nat) : Int) = p * 4 + q by omega]
  · rfl
theorem relS_keep {X X' A A' : SS} {k s : Nat} (h : relS X A k s) (h0 : X' k = X k) (h1 : X' (k + 1) = X (k + 1)) (h2 : X' (k + 2) = X (k + 2)) (ha : ∀ j : Nat, j < 80 → A' 1 (80 * s + j) = A 1 (80 * s + j)) (hn : A' 2 s = A 2 s) : relS X' A' k s := by
  obtain ⟨o, r1, r2, r3, r4, r5⟩ := h
  have hn0 : 0 ≤ A 2 s := by have := o.1; omega
  have hc : ∀ j : Nat, (j : Int) < A 2 s → txt A s j = txt A' s j := fun j hj => (ha j (by have := o.1; omega)).symm
  unfold relS okS
  rw [h0, h1, h2, hn, ← faultF_c hn0 hc, ← picsF_c hn0 hc]
  exact ⟨o, r1, fun j hj => by rw [← hc j hj]; exact r2 j hj, r3, r4, fun j hj => by rw [← placeF_c hn0 hc (by omega) hj]; exact r5 j hj⟩
theorem relS_new {X1 X' A' : SS} {k s : Nat} (hp : prsd k X1 X') (hn : 0 ≤ A' 2 s ∧ A' 2 s ≤ 80) (h1 : X1 k 3 = A' 2 s) (h2 : ∀ j : Nat, (j : Int) < A' 2 s → X1 (k + 1) j = txt A' s j) (h3 : ∀ j, 0 ≤ X1 (k + 1) j ∧ X1 (k + 1) j ≤ 255) : relS X' A' k s := by
  obtain ⟨q1, q2, q3, q4, q5⟩ := hp
  have e3 : X' k 3 = A' 2 s := by rw [q1 _ _ (by omega) (by omega)]; exact h1
  have e1 : ∀ j, X' (k + 1) j = X1 (k + 1) j := fun j => q1 _ _ (by omega) (by omega)
  have hf := faultF_b (X1 (k + 1)) (n := A' 2 s) hn.1
  have hb := picsF_b (X1 (k + 1)) (n := A' 2 s) hn.1
  rw [h1] at q2 q3 q4
  refine ⟨⟨by rw [e3]; exact hn, by rw [q3]; omega, by rw [q2]; omega, fun j => by rw [e1]; exact h3 j, q5⟩, e3, fun j hj => by rw [e1]; exact h2 j hj, ?_, ?_, fun j hj => ?_⟩
  · rw [q2]; exact faultF_c hn.1 h2
  · rw [q3]; exact picsF_c hn.1 h2
  · rw [← picsF_c hn.1 h2] at hj
    rw [q4 j hj]
    exact placeF_c hn.1 h2 (by omega) hj
def relL (X A : SS) (k l : Nat) : Prop := X k 2 = A 6 l ∧ ∀ j : Nat, j < 6 → X (k + 1) j = A 7 (6 * l + j) ∧ X (k + 2) j = A 8 (6 * l + j)
def relH (X A : SS) (k s : Nat) : Prop := X k 1 = 1 - A 14 s ∧ X k 2 = A 15 s ∧ X k 3 = A 16 s ∧ ∀ j : Nat, j < 60 → X (k + 1) j = A 17 (60 * s + j)
def relT (X A : SS) : Prop := X 37 3 = A 0 14 ∧ ∀ j : Nat, j < 40 → X 38 j = A 11 j ∧ X 39 j = A 12 j ∧ X 40 j = A 13 j
def cRel (X A : SS) : Prop := MI A ∧ (relS X A 1 0 ∧ relS X A 5 1) ∧ (X 0 9 = A 5 0 ∧ X 0 10 = A 5 1 ∧ X 0 11 = A 0 23) ∧ (relL X A 9 0 ∧ relL X A 12 1) ∧ (∀ s, s < 4 → relH X A (16 + 2 * s) s) ∧ relT X A
theorem relL_keep {X X' A A' : SS} {k l : Nat} (h : relL X A k l) (h0 : X' k = X k) (h1 : X' (k + 1) = X (k + 1)) (h2 : X' (k + 2) = X (k + 2)) (h6 : A' 6 l = A 6 l) (ha : ∀ j : Nat, j < 6 → A' 7 (6 * l + j) = A 7 (6 * l + j) ∧ A' 8 (6 * l + j) = A 8 (6 * l + j)) : relL X' A' k l := by
  unfold relL
  rw [h0, h1, h2, h6]
  exact ⟨h.1, fun j hj => by rw [(ha j hj).1, (ha j hj).2]; exact h.2 j hj⟩
theorem relH_keep {X X' A A' : SS} {k s : Nat} (h : relH X A k s) (h0 : X' k = X k) (h1 : X' (k + 1) = X (k + 1)) (h14 : A' 14 s = A 14 s) (h15 : A' 15 s = A 15 s) (h16 : A' 16 s = A 16 s) (ha : ∀ j : Nat, j < 60 → A' 17 (60 * s + j) = A 17 (60 * s + j)) : relH X' A' k s := by
  unfold relH
  rw [h0, h1, h14, h15, h16]
  exact ⟨h.1, h.2.1, h.2.2.1, fun j hj => by rw [ha j hj]; exact h.2.2.2 j hj⟩
theorem relT_keep {X X' A A' : SS} (h : relT X A) (h0 : X' 37 3 = X 37 3) (h1 : X' 38 = X 38) (h2 : X' 39 = X 39) (h3 : X' 40 = X 40) (h4 : A' 0 14 = A 0 14) (h5 : A' 11 = A 11) (h6 : A' 12 = A 12) (h7 : A' 13 = A 13) : relT X' A' := by
  unfold relT
  rw [h0, h1, h2, h3, h4, h5, h6, h7]
  exact h
/-- the scratch cells of the class may hold anything -/
theorem cRel_keep {X X' A : SS} (h : cRel X A) (hf : ∀ a b, a ≠ 4 → a ≠ 8 → ¬ (24 ≤ a ∧ a ≤ 36) → ¬ 41 ≤ a → (a = 37 → b = 3) → X' a b = X a b) : cRel X' A := by
  have hr : ∀ a, a ≠ 4 → a ≠ 8 → ¬ (24 ≤ a ∧ a ≤ 37) → ¬ 41 ≤ a → X' a = X a := fun a h1 h2 h3 h4 => funext fun b => hf a b h1 h2 (by omega) h4 (by omega)
  obtain ⟨m, ⟨s0, s1⟩, ⟨f0, f1, f2⟩, ⟨l0, l1⟩, hh, t⟩ := h
  refine ⟨m, ⟨relS_keep s0 ?_ ?_ ?_ (fun _ _ => rfl) rfl, relS_keep s1 ?_ ?_ ?_ (fun _ _ => rfl) rfl⟩, ?_, ⟨relL_keep l0 ?_ ?_ ?_ rfl (fun _ _ => ⟨rfl, rfl⟩), relL_keep l1 ?_ ?_ ?_ rfl (fun _ _ => ⟨rfl, rfl⟩)⟩, fun s hs => relH_keep (hh s hs) ?_ ?_ rfl rfl rfl (fun _ _ => rfl), relT_keep t ?_ ?_ ?_ ?_ rfl rfl rfl rfl⟩
  all_goals first | (exact hr _ (by omega) (by omega) (by omega) (by omega)) | (exact hf _ _ (by omega) (by omega) (by omega) (by omega) (by omega)) | skip
  rw [hr 0 (by omega) (by omega) (by omega) (by omega)]
  exact ⟨f0, f1, f2⟩
/-- a strip's text changes: all else stays -/
theorem cRel_strip {X X' X1 A A' : SS} {k s : Nat} (h : cRel X A) (hk : (k = 1 ∧ s = 0) ∨ (k = 5 ∧ s = 1)) (hp : prsd k X1 X') (hX : ∀ a b, a ≠ k + 1 → ¬ (a = k ∧ b = 3) → X1 a b = X a b) (hm : MI A') (hA : ∀ a, a ≠ 1 → a ≠ 2 → A' a = A a) (h1 : ∀ j, (j < 80 * s ∨ 80 * s + 80 ≤ j) → A' 1 j = A 1 j) (h2 : ∀ j, j ≠ s → A' 2 j = A 2 j)
    (e1 : X1 k 3 = A' 2 s) (e2 : ∀ j : Nat, (j : Int) < A' 2 s → X1 (k + 1) j = txt A' s j) (e3 : ∀ j, 0 ≤ X1 (k + 1) j ∧ X1 (k + 1) j ≤ 255) : cRel X' A' := by
  have hn := relS_new (A' := A') (s := s) hp (mi_n hm (by omega)) e1 e2 e3
  have hr : ∀ a, a ≠ k → a ≠ k + 1 → a ≠ k + 2 → X' a = X a := fun a a1 a2 a3 => funext fun b => by rw [hp.1 a b (by omega) a3]; exact hX a b a2 (by omega)
  obtain ⟨m, ⟨s0, s1⟩, ⟨f0, f1, f2⟩, ⟨l0, l1⟩, hh, t⟩ := h
  have r5 := hA 5 (by omega) (by omega)
  have r0 := hA 0 (by omega) (by omega)
  refine ⟨hm, ⟨?_, ?_⟩, ?_, ⟨relL_keep l0 ?_ ?_ ?_ ?_ ?_, relL_keep l1 ?_ ?_ ?_ ?_ ?_⟩, fun z hz => relH_keep (hh z hz) ?_ ?_ ?_ ?_ ?_ ?_, relT_keep t ?_ ?_ ?_ ?_ ?_ ?_ ?_ ?_⟩
  · rcases hk with ⟨rfl, rfl⟩ | ⟨rfl, rfl⟩
    · exact hn
    · exact relS_keep s0 (hr _ (by omega) (by omega) (by omega)) (hr _ (by omega) (by omega) (by omega)) (hr _ (by omega) (by omega) (by omega)) (fun j hj => h1 _ (by omega)) (h2 _ (by omega))
  · rcases hk with ⟨rfl, rfl⟩ | ⟨rfl, rfl⟩
    · exact relS_keep s1 (hr _ (by omega) (by omega) (by omega)) (hr _ (by omega) (by omega) (by omega)) (hr _ (by omega) (by omega) (by omega)) (fun j hj => h1 _ (by omega)) (h2 _ (by omega))
    · exact hn
  · rw [hr 0 (by omega) (by omega) (by omega), r5, r0]
    exact ⟨f0, f1, f2⟩
  all_goals first | (exact hr _ (by omega) (by omega) (by omega)) | (rw [hr 37 (by omega) (by omega) (by omega)]; done) | (rw [hA _ (by omega) (by omega)]; done) | (intro j hj; rw [hA 7 (by omega) (by omega), hA 8 (by omega) (by omega)]; exact ⟨rfl, rfl⟩) | (intro j hj; rw [hA 17 (by omega) (by omega)])
def mRel (S A : SS) : Prop := (∀ k j, k ≠ 3 → k ≠ 4 → k ≠ 9 → k ≠ 10 → k ≠ 18 → (k = 0 → j = 14 ∨ j = 23) → S k j = A k j) ∧ (∀ j, -1 ≤ S 4 j ∧ S 4 j ≤ 9)
theorem mr_at {S A : SS} (h : mRel S A) {k : Nat} (j : Nat) (hk : k ≠ 0 ∧ k ≠ 3 ∧ k ≠ 4 ∧ k ≠ 9 ∧ k ≠ 10 ∧ k ≠ 18) : S k j = A k j := h.1 k j hk.2.1 hk.2.2.1 hk.2.2.2.1 hk.2.2.2.2.1 hk.2.2.2.2.2 (fun e => absurd e hk.1)
theorem mr_e {S S' A : SS} (h : mRel S A) (he : ∀ k j, k ≠ 3 → k ≠ 4 → k ≠ 9 → k ≠ 10 → k ≠ 18 → (k = 0 → j = 14 ∨ j = 23) → S' k j = S k j) (h4 : ∀ j, -1 ≤ S' 4 j ∧ S' 4 j ≤ 9) : mRel S' A := ⟨fun k j a b c d e f => by rw [he k j a b c d e f]; exact h.1 k j a b c d e f, h4⟩
theorem mr_up {S A : SS} (h : mRel S A) {k : Nat} (j : Nat) (v : Int) (hk : k ≠ 4) : mRel (up2 S k j v) (up2 A k j v) := by
  refine ⟨fun a b h1 h2 h3 h4 h5 h6 => ?_, fun b => by rw [up2_k _ _ (fun e => hk e.symm)]; exact h.2 b⟩
  rw [up2_e, up2_e]
  split
  · rfl
  · exact h.1 a b h1 h2 h3 h4 h5 h6
theorem mr_sc {S A : SS} (h : mRel S A) {k : Nat} (j : Nat) (v : Int) (hk : k = 3 ∨ k = 9 ∨ k = 10 ∨ k = 18 ∨ (k = 0 ∧ j ≠ 14 ∧ j ≠ 23)) : mRel (up2 S k j v) A := by
  refine ⟨fun a b h1 h2 h3 h4 h5 h6 => ?_, fun b => by rw [up2_k _ _ (by omega)]; exact h.2 b⟩
  rw [up2_e, if_neg (by omega)]
  exact h.1 a b h1 h2 h3 h4 h5 h6
/-! the public calls on strips -/
abbrev isS (a : Int) : Prop := 0 ≤ a ∧ a ≤ 1
def nA (A : SS) (a : Int) : Int := A 2 a.toNat
def tA (A : SS) (a : Int) : Nat → Int := txt A a.toNat
def mA (A : SS) (a : Int) : Int := picsF (tA A a) (nA A a)
def qA (A : SS) (a : Int) : PL := plF (tA A a) (nA A a)
def sp_type (A : SS) (a b : Int) : Int := if isS a ∧ (0 ≤ b ∧ b ≤ 255) then (if nA A a = 80 then -4 else nA A a + 1) else -2
def st_type (A : SS) (a b : Int) : SS := if isS a ∧ (0 ≤ b ∧ b ≤ 255) then (if nA A a = 80 then A else up2 (up2 A 1 (80 * a.toNat + (nA A a).toNat) b) 2 a.toNat (nA A a + 1)) else A
def sp_wipe (A : SS) (a : Int) : Int := if isS a then nA A a else -2
def st_wipe (A : SS) (a : Int) : SS := if isS a then up2 A 2 a.toNat 0 else A
def sp_fault (A : SS) (a : Int) : Int := if isS a then faultF (tA A a) (nA A a) else -2
def sp_place (A : SS) (a b c : Int) : Int := if isS a ∧ (0 ≤ b ∧ b < mA A a) ∧ (0 ≤ c ∧ c ≤ 3) then qA A a b c else -2
def sp_step (A : SS) (a b c : Int) : Int := if isS a ∧ (0 ≤ b ∧ b < mA A a) ∧ (0 ≤ c ∧ c < mA A a) then stepF (A 5 0) (qA A a) b c else -2
def sp_whole (A : SS) (a : Int) : Int := if isS a then wholeF (A 5 0) (qA A a) (mA A a) else -2
def sp_set (A : SS) (a b : Int) : Int := if a = 0 ∧ (0 ≤ b ∧ b ≤ 9) then A 5 0 else if a = 1 ∧ (0 ≤ b ∧ b ≤ 60) then A 5 1 else -2
def st_set (A : SS) (a b : Int) : SS := if a = 0 ∧ (0 ≤ b ∧ b ≤ 9) then up2 A 5 0 b else if a = 1 ∧ (0 ≤ b ∧ b ≤ 60) then up2 A 5 1 b else A
def sp_count (A : SS) (a : Int) : Int := if a = 0 then mA A 0 else if a = 1 then mA A 1 else if a = 2 then A 2 0 else if a = 3 then A 2 1 else if a = 4 then A 6 0 else if a = 5 then A 6 1 else if a = 6 then A 0 14 else if a = 7 then A 5 0 else if a = 8 then A 0 23 else -2
/-- a number of the class itself changes -/
theorem cRel_field {X A : SS} (h : cRel X A) {f k j : Nat} {v : Int} (hk : (f = 9 ∧ k = 5 ∧ j = 0 ∧ 0 ≤ v ∧ v ≤ 9) ∨ (f = 10 ∧ k = 5 ∧ j = 1 ∧ 0 ≤ v ∧ v ≤ 60) ∨ (f = 11 ∧ k = 0 ∧ j = 23 ∧ 0 ≤ v ∧ v ≤ 5)) : cRel (up2 X 0 f v) (up2 A k j v) := by
  obtain ⟨m, ⟨s0, s1⟩, ⟨f0, f1, f2⟩, ⟨l0, l1⟩, hh, t⟩ := h
  have hX : ∀ a, a ≠ 0 → up2 X 0 f v a = X a := fun a ha => up2_row _ _ ha
  have hA : ∀ a, a ≠ 0 → a ≠ 5 → up2 A k j v a = A a := fun a h1 h2 => up2_row _ _ (by omega)
  have hk5 : k = 0 ∨ k = 5 := by omega
  have hB : ∀ a b, a ≠ 0 → a ≠ 5 → up2 A k j v a b = A a b := fun a b h1 h2 => by rw [hA a h1 h2]
  have h14 : up2 A k j v 0 14 = A 0 14 := by rw [up2_e, if_neg (by omega)]
  have hmm : MI (up2 A k j v) := by
    rcases hk with ⟨-, rfl, rfl, h1⟩ | ⟨-, rfl, rfl, h1⟩ | ⟨-, rfl, rfl, h1⟩
    · exact m.u_g h1
    · exact m.u_u h1
    · exact m.u_f h1
  refine ⟨hmm, ⟨relS_keep s0 (hX _ (by decide)) (hX _ (by decide)) (hX _ (by decide)) (fun z _ => hB _ _ (by decide) (by decide)) (hB _ _ (by decide) (by decide)), relS_keep s1 (hX _ (by decide)) (hX _ (by decide)) (hX _ (by decide)) (fun z _ => hB _ _ (by decide) (by decide)) (hB _ _ (by decide) (by decide))⟩, ?_, ⟨relL_keep l0 (hX _ (by decide)) (hX _ (by decide)) (hX _ (by decide)) (hB _ _ (by decide) (by decide)) (fun z _ => ⟨hB _ _ (by decide) (by decide), hB _ _ (by decide) (by decide)⟩), relL_keep l1 (hX _ (by decide)) (hX _ (by decide)) (hX _ (by decide)) (hB _ _ (by decide) (by decide)) (fun z _ => ⟨hB _ _ (by decide) (by decide), hB _ _ (by decide) (by decide)⟩)⟩, fun s hs => relH_keep (hh s hs) (hX _ (by omega)) (hX _ (by omega)) (hB _ _ (by decide) (by decide)) (hB _ _ (by decide) (by decide)) (hB _ _ (by decide) (by decide)) (fun z _ => hB _ _ (by decide) (by decide)), relT_keep t (by rw [hX 37 (by decide)]) (hX _ (by decide)) (hX _ (by decide)) (hX _ (by decide)) h14 (hA _ (by decide) (by decide)) (hA _ (by decide) (by decide)) (hA _ (by decide) (by decide))⟩
  rcases hk with ⟨rfl, rfl, rfl, -⟩ | ⟨rfl, rfl, rfl, -⟩ | ⟨rfl, rfl, rfl, -⟩
  · exact ⟨by rw [up2_s, up2_s], by rw [up2_j _ _ (by omega), up2_j _ _ (by omega)]; exact f1, by rw [up2_j _ _ (by omega), up2_k _ _ (by omega)]; exact f2⟩
  · exact ⟨by rw [up2_j _ _ (by omega), up2_j _ _ (by omega)]; exact f0, by rw [up2_s, up2_s], by rw [up2_j _ _ (by omega), up2_k _ _ (by omega)]; exact f2⟩
  · exact ⟨by rw [up2_j _ _ (by omega), up2_k _ _ (by omega)]; exact f0, by rw [up2_j _ _ (by omega), up2_k _ _ (by omega)]; exact f1, by rw [up2_s, up2_s]⟩
def seenF (m l k : Int) : Int := if m = 0 then -3 else if k = -1 then m / gcdI m (nearF m l) else k * nearF m l % m
def sp_seen (A : SS) (a b c : Int) : Int := if isS a ∧ (1 ≤ b ∧ b ≤ 24) ∧ (-1 ≤ c ∧ c ≤ 999) then seenF (mA A a) b c else -2
def missV (g : Int) (Q : PL) (m w : Int) : Int := if m = 0 then -3 else if w = 0 then (missF g Q m).1 else (missF g Q m).2
def sp_missing (A : SS) (a b : Int) : Int := if isS a ∧ (0 ≤ b ∧ b ≤ 1) then missV (A 5 0) (qA A a) (mA A a) b else -2
def sp_half (A : SS) (a b c : Int) : Int := if isS a ∧ (0 ≤ b ∧ b < mA A a) ∧ (0 ≤ c ∧ c ≤ 3) then halfF (qA A a) (mA A a) b c else -2
def fewV (g : Int) (Q : PL) (m t : Int) : Int := if m = 0 then -3 else ((fewF g Q m t : Nat) : Int)
def sp_few (A : SS) (a b : Int) : Int := if isS a ∧ (0 ≤ b ∧ b ≤ 60) then fewV (A 5 0) (qA A a) (mA A a) b else -2

/-! the next row, and all rows in their order -/
def fx (x : List Nat) : Nat → Nat := fun k => (0 :: x).getD k 0
def nxI (f : Nat → Nat) : Nat → Nat
  | 0 => 0
  | i + 1 => bif Nat.blt (f (i + 2)) (f (i + 1)) then nxI f i else i + 1
def nxJ (f : Nat → Nat) (v : Nat) : Nat → Nat
  | 0 => 0
  | j + 1 => bif Nat.blt (f (j + 1)) v then nxJ f v j else j + 1
def nxF (n : Nat) (f : Nat → Nat) (i j k : Nat) : Nat := bif Nat.ble k i then (bif Nat.beq k i then f j else f k) else (bif Nat.beq (n + i - k) j then f i else f (n + i - k))
def okN (n : Nat) (x y : List Nat) : Bool := Nat.blt 0 (nxI (fx x) (n - 2)) && (List.range n).all (fun k => Nat.beq (nxF n (fx x) (nxI (fx x) (n - 2)) (nxJ (fx x) (fx x (nxI (fx x) (n - 2))) (n - 1)) k) (fx y k))
def okL (n : Nat) : List (List Nat) → Bool
  | [] => false
  | [x] => Nat.beq (nxI (fx x) (n - 2)) 0
  | x :: y :: r => okN n x y && okL n (y :: r)
def okH (n : Nat) : List (List Nat) → Bool
  | [] => false
  | x :: _ => (List.range n).all (fun k => Nat.beq (fx x k) k)
theorem ok_1 : (okL 1 (lx 1 0 1) && okH 1 (lx 1 0 1)) = true := by decide +kernel
theorem ok_2 : (okL 2 (lx 2 1 1) && okH 2 (lx 2 1 1)) = true := by decide +kernel
theorem ok_3 : (okL 3 (lx 3 2 1) && okH 3 (lx 3 2 1)) = true := by decide +kernel
theorem ok_4 : (okL 4 (lx 4 3 1) && okH 4 (lx 4 3 1)) = true := by decide +kernel
theorem ok_5 : (okL 5 (lx 5 4 1) && okH 5 (lx 5 4 1)) = true := by decide +kernel
theorem ok_6 : (okL 6 (lx 6 5 1) && okH 6 (lx 6 5 1)) = true := by decide +kernel
theorem ok_7 : (okL 7 (lx 7 6 1) && okH 7 (lx 7 6 1)) = true := by decide +kernel
theorem ok_8 : (okL 8 (lx 8 7 1) && okH 8 (lx 8 7 1)) = true := by decide +kernel
theorem ok_all {n : Nat} (h : 1 ≤ n ∧ n ≤ 8) : okL n (lx n (n - 1) 1) = true ∧ okH n (lx n (n - 1) 1) = true := by
  rw [← Bool.and_eq_true]
  rcases (show n = 1 ∨ n = 2 ∨ n = 3 ∨ n = 4 ∨ n = 5 ∨ n = 6 ∨ n = 7 ∨ n = 8 by omega) with q | q | q | q | q | q | q | q <;> subst q
  · exact ok_1
  · exact ok_2
  · exact ok_3
  · exact ok_4
  · exact ok_5
  · exact ok_6
  · exact ok_7
  · exact ok_8
theorem lx_mem (m : Nat) : ∀ (r tk : Nat) (x : List Nat), x ∈ lx m r tk → x.length = r ∧ ∀ d ∈ x, d < m
  | 0, tk, x, h => by
    have : x = [] := by simpa [lx] using h
    subst this
    exact ⟨rfl, fun d hd => absurd hd (by simp)⟩
  | r + 1, tk, x, h => by
    unfold lx at h
    rw [List.mem_flatMap] at h
    obtain ⟨d, hd, hx⟩ := h
    rw [List.mem_range] at hd
    split at hx
    · cases hx
    · rw [List.mem_map] at hx
      obtain ⟨y, hy, rfl⟩ := hx
      obtain ⟨y1, y2⟩ := lx_mem m r _ y hy
      refine ⟨by rw [List.length_cons, y1], fun i hi => ?_⟩
      rcases List.mem_cons.mp hi with hi | hi
      · omega
      · exact y2 i hi
theorem fx_lt {n : Nat} {x : List Nat} (h : x.length + 1 = n ∧ ∀ d ∈ x, d < n) (k : Nat) : fx x k < n := by
  unfold fx
  cases k with
  | zero => show 0 < n; omega
  | succ k =>
    show x.getD k 0 < n
    rw [List.getD_eq_getElem?_getD]
    by_cases hk : k < x.length
    · rw [List.getElem?_eq_getElem hk]
      exact h.2 _ (List.getElem_mem hk)
    · rw [List.getElem?_eq_none (by omega)]
      show 0 < n
      omega

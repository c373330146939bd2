theorem lw_n0 : Int32.ofInt 0 = 0 := by decide
theorem lw_n1 : Int32.ofInt 1 = 1 := by decide
theorem lw_n3 : Int32.ofInt 3 = 3 := by decide
theorem lw_n10 : Int32.ofInt 10 = 10 := by decide
theorem lw_nm : Int32.ofInt (-1) = -1 := by decide
theorem lw_c2 {α : Type} {a b : α} {l l2 : List α} (h : a = b) (h2 : l = l2) : a :: l = b :: l2 := by rw [h, h2]
def wdr (ad : Nat → Nat) (T : zT) (S : SS) : Nat → List LY → va_W
  | _, [] => []
  | k, le :: L => (ad k, cE ad T S k le) :: wdr ad T S (k + 1) L
theorem wdr_g (ad : Nat → Nat) (T : zT) (S : SS) : ∀ (L : List LY) (k i : Nat), (wdr ad T S k L)[i]? = (L[i]?).map (fun le => (ad (k + i), cE ad T S (k + i) le))
  | [], k, i => by simp [wdr]
  | le :: L, k, 0 => rfl
  | le :: L, k, i + 1 => by
    show (wdr ad T S (k + 1) L)[i]? = _
    rw [wdr_g ad T S L (k + 1) i, List.getElem?_cons_succ, show k + 1 + i = k + (i + 1) by omega]
theorem wd_r (ad : Nat → Nat) (T : zT) (L : List LY) (S : SS) : wd ad T L S = wdr ad T S 0 L := by
  apply List.ext_getElem?
  intro i
  rw [wdr_g]
  simp [wd, List.getElem?_mapIdx]
theorem lw_eO {ad : Nat → Nat} {T : zT} {S : SS} {k ci : Nat} {ks : List Nat} {vs : List Value} (h : vs = flds ad S k ks) : ((ad k, .inr (ci, vs)) : Nat × va_E) = (ad k, cE ad T S k (0, ci, ks)) := by rw [h]; rfl
theorem lw_eA {ad : Nat → Nat} {c cb cs : ClassId} {S : SS} {k n : Nat} {ks : List Nat} (h : ∀ j, S k j = 0) : ((ad k, .inl (c, n, .inl (fun _ => 0))) : Nat × va_E) = (ad k, cE ad (c, cb, cs) S k (1, n, ks)) := by
  show _ = (ad k, Sum.inl (c, n, Sum.inl (fun j => Int32.ofInt (S k j))))
  rw [show (fun j => Int32.ofInt (S k j)) = fun _ => 0 from funext fun j => by rw [h, lw_n0]]
theorem lw_eB {ad : Nat → Nat} {c cb cs : ClassId} {S : SS} {k n : Nat} {ks : List Nat} (h : ∀ j, S k j = 0) : ((ad k, .inl (cb, n, .inl (fun _ => 0))) : Nat × va_E) = (ad k, cE ad (c, cb, cs) S k (2, n, ks)) := by
  show _ = (ad k, Sum.inl (cb, n, Sum.inl (fun j => Int32.ofInt (S k j))))
  rw [show (fun j => Int32.ofInt (S k j)) = fun _ => 0 from funext fun j => by rw [h, lw_n0]]
theorem lw_eS {ad : Nat → Nat} {c cb cs : ClassId} {S : SS} : ((ad 15, .inl (cs, 4, .inr (.inr (.inr (.inr (va_up (va_up (va_up (va_up (fun _ => none) (0 : Int32).toNatClampNeg (some (ad 16))) (1 : Int32).toNatClampNeg (some (ad 18))) (2 : Int32).toNatClampNeg (some (ad 20))) (3 : Int32).toNatClampNeg (some (ad 22)))))))) : Nat × va_E) = (ad 15, cE ad (c, cb, cs) S 15 (3, 0, [16, 18, 20, 22])) := by
  rw [lw_e1 (ad := ad) (a := ad 16) (b := ad 18) (c := ad 20) (d := ad 22) rfl rfl rfl rfl]
  rfl
theorem lw_eU {ad : Nat → Nat} {c cb cs : ClassId} : ((ad 5, .inl (c, 2, .inl (upd (upd (fun _ => 0) (0 : Int32).toNatClampNeg 3) (1 : Int32).toNatClampNeg 10))) : Nat × va_E) = (ad 5, cE ad (c, cb, cs) S20 5 (1, 2, [])) := by
  rw [lw_e2]
  rfl
set_option maxHeartbeats 4000000 in
set_option maxRecDepth 100000 in
theorem lw_w1 (a1 : Nat → Nat) (c cb cs : ClassId) : (((a1 0), .inr (7, [.ref (a1 1), .ref (a1 5), .ref (a1 9), .ref (a1 12), .ref (a1 15), .ref (a1 24), .ref (a1 32), .ref (a1 37), .ref (a1 41), .int 3, .int 10, .int 0])) :: ((a1 1), .inr (5, [.ref (a1 2), .ref (a1 3), .ref (a1 4), .int 0, .int 0, .int (-1)])) :: ((a1 2), .inl (c, 80, .inl (fun _ => 0))) :: ((a1 3), .inl (c, 48, .inl (fun _ => 0))) :: ((a1 4), .inl (c, 12, .inl (fun _ => 0))) :: ((a1 5), .inr (5, [.ref (a1 6), .ref (a1 7), .ref (a1 8), .int 0, .int 0, .int (-1)])) :: ((a1 6), .inl (c, 80, .inl (fun _ => 0))) :: ((a1 7), .inl (c, 48, .inl (fun _ => 0))) :: ((a1 8), .inl (c, 12, .inl (fun _ => 0))) :: ((a1 9), .inr (2, [.ref (a1 10), .ref (a1 11), .int 0])) :: ((a1 10), .inl (c, 6, .inl (fun _ => 0))) :: ((a1 11), .inl (c, 6, .inl (fun _ => 0))) :: ((a1 12), .inr (2, [.ref (a1 13), .ref (a1 14), .int 0])) :: ((a1 13), .inl (c, 6, .inl (fun _ => 0))) :: ((a1 14), .inl (c, 6, .inl (fun _ => 0))) :: ((a1 15), .inl (cs, 4, .inr (.inr (.inr (.inr (va_up (va_up (va_up (va_up (fun _ => none) (0 : Int32).toNatClampNeg (some (a1 16))) (1 : Int32).toNatClampNeg (some (a1 18))) (2 : Int32).toNatClampNeg (some (a1 20))) (3 : Int32).toNatClampNeg (some (a1 22)))))))) :: ((a1 16), .inr (4, [.ref (a1 17), .int 1, .int 0, .int 0])) :: ((a1 17), .inl (c, 60, .inl (fun _ => 0))) :: ((a1 18), .inr (4, [.ref (a1 19), .int 1, .int 0, .int 0])) :: ((a1 19), .inl (c, 60, .inl (fun _ => 0))) :: ((a1 20), .inr (4, [.ref (a1 21), .int 1, .int 0, .int 0])) :: ((a1 21), .inl (c, 60, .inl (fun _ => 0))) :: ((a1 22), .inr (4, [.ref (a1 23), .int 1, .int 0, .int 0])) :: ((a1 23), .inl (c, 60, .inl (fun _ => 0))) :: ((a1 24), .inr (1, [.ref (a1 25), .ref (a1 26), .ref (a1 27), .ref (a1 28), .ref (a1 29), .ref (a1 30), .ref (a1 31), .null, .int 0, .int 0, .int 0])) :: ((a1 25), .inl (c, 36, .inl (fun _ => 0))) :: ((a1 26), .inl (c, 36, .inl (fun _ => 0))) :: ((a1 27), .inl (c, 64, .inl (fun _ => 0))) :: ((a1 28), .inl (c, 64, .inl (fun _ => 0))) :: ((a1 29), .inl (c, 64, .inl (fun _ => 0))) :: ((a1 30), .inl (c, 64, .inl (fun _ => 0))) :: ((a1 31), .inl (c, 6, .inl (fun _ => 0))) :: ((a1 32), .inr (3, [.ref (a1 33), .ref (a1 34), .ref (a1 35), .ref (a1 36), .int 0])) :: ((a1 33), .inl (c, 64, .inl (fun _ => 0))) :: ((a1 34), .inl (c, 2048, .inl (fun _ => 0))) :: ((a1 35), .inl (c, 2048, .inl (fun _ => 0))) :: ((a1 36), .inl (c, 8, .inl (fun _ => 0))) :: ((a1 37), .inr (6, [.ref (a1 38), .ref (a1 39), .ref (a1 40), .int 0, .int 0, .int 0, .int 0])) :: ((a1 38), .inl (c, 40, .inl (fun _ => 0))) :: ((a1 39), .inl (c, 40, .inl (fun _ => 0))) :: ((a1 40), .inl (c, 40, .inl (fun _ => 0))) :: ((a1 41), .inr (0, [.ref (a1 42), .int 0, .int 0, .int 0])) :: ((a1 42), .inl (c, 60, .inl (fun _ => 0))) :: [] : va_W) = wd a1 (c, cb, cs) LX S10 := by
  sorry
set_option maxHeartbeats 4000000 in
set_option maxRecDepth 100000 in
theorem lw_w2 (a2 : Nat → Nat) (c cb cs : ClassId) : (((a2 0), .inr (8, [.ref (a2 1), .ref (a2 2), .ref (a2 3), .ref (a2 4), .ref (a2 5), .ref (a2 6), .ref (a2 7), .ref (a2 8), .ref (a2 9), .ref (a2 10), .int 0, .int 0, .int 0, .int 0, .int 0, .ref (a2 11), .ref (a2 12), .ref (a2 13), .ref (a2 14), .ref (a2 15), .ref (a2 16), .ref (a2 17), .ref (a2 18), .int 0])) :: ((a2 1), .inl (c, 160, .inl (fun _ => 0))) :: ((a2 2), .inl (c, 2, .inl (fun _ => 0))) :: ((a2 3), .inl (c, 2, .inl (fun _ => 0))) :: ((a2 4), .inl (c, 100, .inl (fun _ => 0))) :: ((a2 5), .inl (c, 2, .inl (upd (upd (fun _ => 0) (0 : Int32).toNatClampNeg 3) (1 : Int32).toNatClampNeg 10))) :: ((a2 6), .inl (c, 2, .inl (fun _ => 0))) :: ((a2 7), .inl (c, 12, .inl (fun _ => 0))) :: ((a2 8), .inl (c, 12, .inl (fun _ => 0))) :: ((a2 9), .inl (c, 12, .inl (fun _ => 0))) :: ((a2 10), .inl (c, 12, .inl (fun _ => 0))) :: ((a2 11), .inl (c, 40, .inl (fun _ => 0))) :: ((a2 12), .inl (c, 40, .inl (fun _ => 0))) :: ((a2 13), .inl (c, 40, .inl (fun _ => 0))) :: ((a2 14), .inl (cb, 4, .inl (fun _ => 0))) :: ((a2 15), .inl (c, 4, .inl (fun _ => 0))) :: ((a2 16), .inl (c, 4, .inl (fun _ => 0))) :: ((a2 17), .inl (c, 240, .inl (fun _ => 0))) :: ((a2 18), .inl (c, 60, .inl (fun _ => 0))) :: [] : va_W) = wd a2 (c, cb, cs) LM S20 := by
  sorry

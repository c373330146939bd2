/-! fields, arrays, calls, ends -/
theorem zgood (y : MethodName) {bytes : ByteArray} {maxL : Nat} {rt : Option FieldType} (h : Cond.code y bytes maxL rt ∈ TB) : GoodIn TB (Cond.code y bytes maxL rt :: TB) := by
  intro w hw
  have hm : w ∈ TB := by
    rcases List.mem_cons.mp hw with rfl | h1
    · exact h
    · exact h1
  exact ⟨hm, good_of_word (tb_good w hm)⟩
def zcat (st : List zV) : Nat := (st.map fun v => match v with | .inr (.inl _) => 2 | _ => 1).sum
theorem zcat_eq (ad : Nat → Nat) : ∀ st : List zV, ((st.map (cv ad)).map fun v => v.category).sum = zcat st
  | [] => rfl
  | v :: r => by
    have ih := zcat_eq ad r
    match v with
    | .inl a => simpa [zcat, cv, Value.category] using ih
    | .inr (.inl a) => simpa [zcat, cv, Value.category] using ih
    | .inr (.inr (some k)) => simpa [zcat, cv, Value.category] using ih
    | .inr (.inr none) => simpa [zcat, cv, Value.category] using ih
section
variable {x : zX} {L : List LY} {cc : ByteArray} {own : String} {nL : Nat} {ret : Option FieldType} {fr lc : Nat} {Post : Option zV → SS → Prop} {pc : Nat} {loc loc' : List (Option zV)} {st : List zV} {S : SS}
theorem z_get (h : zOK x L cc own nL ret fr lc Post) {index k ci j kd : Nat} {ks : List Nat} {C : String} {TT : u_T} {N : Nat} {ty : Nat → FieldType} (hd : decode cc pc = .ok (.getfield index, 3)) (hc : zCl ci C TT N ty) (hl : zLk own index C TT j) (hj : j < N) (he : L[k]? = some (0, ci, ks)) (hk : ks[j]? = some kd) (v : zV) (hv : ∀ ad, fE ad S k j kd = cv ad v) (kk : zG x L (pc + 3) loc (v :: st) S) : zG x L pc loc (zr k :: st) S := by
  obtain ⟨p, l, e, R, s, m, args, below, meth, c, Q, D, ad, T⟩ := x
  obtain ⟨hx, hb, hml, hown, hts, hK, hN, hinj, hlk, hret, hfr, hlc, hQ⟩ := h
  intro H locs ls hP hS hL
  obtain ⟨c1, c2, c3, c4⟩ := hc
  obtain ⟨hl1, hl2⟩ := hl
  have hs : ∀ z, s.fieldFound? (TT j).1 (TT j).2.1 (TT j).2.2.1 = some z → s.fieldFound? C (TT j).2.1 (TT j).2.2.1 = some z := by rw [hl2]; exact fun _ z => z
  have hf := fld_at (ad := ad) (S := S) (k := k) hk
  rw [hv ad] at hf
  rcases hl1 with hl1 | ⟨host, hl1⟩
  · exact va_get (D := D) (own := own) (C := C) (T := TT) (N := N) hx hb hts c2 hown hK hP k (wd_at he) c1 j hj (hts _ hl1) hs hf hd (kk H locs ls hP hS hL)
  · exact va_getN (D := D) (own := own) (C := C) (T := TT) (N := N) hx hb hts c2 hown hK hP k (wd_at he) c1 j hj (va_Nw.use rfl (hN _ hl1)) hs hf hd (kk H locs ls hP hS hL)
theorem z_getI (h : zOK x L cc own nL ret fr lc Post) {index k ci j : Nat} {ks : List Nat} {C : String} {TT : u_T} {N : Nat} {ty : Nat → FieldType} (hd : decode cc pc = .ok (.getfield index, 3)) (hc : zCl ci C TT N ty) (hl : zLk own index C TT j) (hj : j < N) (he : L[k]? = some (0, ci, ks)) (hk : ks[j]? = some 0) (kk : zG x L (pc + 3) loc (zi (S k j) :: st) S) : zG x L pc loc (zr k :: st) S := z_get h hd hc hl hj he hk (zi (S k j)) (fun _ => rfl) kk
theorem z_getR (h : zOK x L cc own nL ret fr lc Post) {index k ci j a : Nat} {ks : List Nat} {C : String} {TT : u_T} {N : Nat} {ty : Nat → FieldType} (hd : decode cc pc = .ok (.getfield index, 3)) (hc : zCl ci C TT N ty) (hl : zLk own index C TT j) (hj : j < N) (he : L[k]? = some (0, ci, ks)) (hk : ks[j]? = some (a + 2)) (kk : zG x L (pc + 3) loc (zr a :: st) S) : zG x L pc loc (zr k :: st) S := z_get h hd hc hl hj he hk (zr a) (fun _ => rfl) kk
theorem z_getD (h : zOK x L cc own nL ret fr lc Post) {index k ci j a : Nat} {ks : List Nat} {C : String} {TT : u_T} {N : Nat} {ty : Nat → FieldType} (hd : decode cc pc = .ok (.getfield index, 3)) (hc : zCl ci C TT N ty) (hl : zLk own index C TT j) (hj : j < N) (he : L[k]? = some (0, ci, ks)) (hk : ks[j]? = some 1) (hS : S k j = (a : Int)) (kk : zG x L (pc + 3) loc (zr a :: st) S) : zG x L pc loc (zr k :: st) S := z_get h hd hc hl hj he hk (zr a) (fun ad => by rw [fE, hS, if_neg (by omega)]; rfl) kk
theorem z_put (h : zOK x L cc own nL ret fr lc Post) {index k ci j kd : Nat} {ks : List Nat} {C : String} {TT : u_T} {N : Nat} {ty : Nat → FieldType} {S' : SS} (hd : decode cc pc = .ok (.putfield index, 3)) (hc : zCl ci C TT N ty) (hl : zLk own index C TT j) (hj : j < N) (he : L[k]? = some (0, ci, ks)) (hk : ks[j]? = some kd) (hfin : (TT j).2.2.2 = false) (v : zV) (hv : ∀ ad, fE ad S' k j kd = cv ad v) (ho : ∀ a b, ¬ (a = k ∧ b = j) → S' a b = S a b) (hn : ∀ ad, narrow (ty j) (cv ad v) = cv ad v) (hfit : ∀ ad, fits (ty j) (cv ad v) = true) (kk : zG x L (pc + 3) loc st S') : zG x L pc loc (v :: zr k :: st) S := by
  obtain ⟨p, l, e, R, s, m, args, below, meth, c, Q, D, ad, T⟩ := x
  obtain ⟨hx, hb, hml, hown, hts, hK, hN, hinj, hlk, hret, hfr, hlc, hQ⟩ := h
  intro H locs ls hP hS hL
  obtain ⟨c1, c2, c3, c4⟩ := hc
  obtain ⟨hl1, hl2⟩ := hl
  have hs : ∀ z, s.fieldFound? (TT j).1 (TT j).2.1 (TT j).2.2.1 = some z → s.fieldFound? C (TT j).2.1 (TT j).2.2.1 = some z := by rw [hl2]; exact fun _ z => z
  have hlen : j < (flds ad S k ks).length := by simp [flds]; exact (List.getElem?_eq_some_iff.mp hk).1
  have hset := wd_set (T := T) he (e := .inr (ci, (flds ad S k ks).set j (cv ad v))) (show cE ad T S' k (0, ci, ks) = _ from by rw [cE, fld_set hk (hv ad) (fun i hi => ho k i (fun q => hi q.2))]) (fun a ha b => ho a b (fun q => ha q.1))
  rcases hl1 with hl1 | ⟨host, hl1⟩
  · exact va_put (D := D) (own := own) (C := C) (T := TT) (N := N) hx hb hts c2 ty c3 c4 hown hK hP (wd_D hinj) hS k (wd_at he) c1 j hj (hts _ hl1) hs hfin (c3 j hj) (hn ad) (hfit ad) hlen hd (fun H1 locs1 hP1 _ hS1 => kk H1 locs1 ls (hset ▸ hP1) hS1 hL)
  · exact va_putN (D := D) (own := own) (C := C) (T := TT) (N := N) hx hb hts c2 ty c3 c4 hown hK hP (wd_D hinj) hS k (wd_at he) c1 j hj (va_Nw.use rfl (hN _ hl1)) hs hfin (c3 j hj) (hn ad) (hfit ad) hlen hd (fun H1 locs1 hP1 _ hS1 => kk H1 locs1 ls (hset ▸ hP1) hS1 hL)
theorem z_putI (h : zOK x L cc own nL ret fr lc Post) {index k ci j : Nat} {ks : List Nat} {C : String} {TT : u_T} {N : Nat} {ty : Nat → FieldType} {a : Int} (hd : decode cc pc = .ok (.putfield index, 3)) (hc : zCl ci C TT N ty) (hl : zLk own index C TT j) (hj : j < N) (he : L[k]? = some (0, ci, ks)) (hk : ks[j]? = some 0) (hfin : (TT j).2.2.2 = false) (hty : ty j = .int) (kk : zG x L (pc + 3) loc st (up2 S k j a)) : zG x L pc loc (zi a :: zr k :: st) S := z_put (S' := up2 S k j a) h hd hc hl hj he hk hfin (zi a) (fun ad => by show Value.int (Int32.ofInt (up2 S k j a k j)) = _; rw [up2_s]; rfl) (fun a b q => if_neg q) (fun ad => by rw [hty]; rfl) (fun ad => by rw [hty]; rfl) kk
theorem z_putZ (h : zOK x L cc own nL ret fr lc Post) {index k ci j : Nat} {ks : List Nat} {C : String} {TT : u_T} {N : Nat} {ty : Nat → FieldType} {a : Int} (hd : decode cc pc = .ok (.putfield index, 3)) (hc : zCl ci C TT N ty) (hl : zLk own index C TT j) (hj : j < N) (he : L[k]? = some (0, ci, ks)) (hk : ks[j]? = some 0) (hfin : (TT j).2.2.2 = false) (hty : ty j = .boolean) (ha : a = 0 ∨ a = 1) (kk : zG x L (pc + 3) loc st (up2 S k j a)) : zG x L pc loc (zi a :: zr k :: st) S := z_put (S' := up2 S k j a) h hd hc hl hj he hk hfin (zi a) (fun ad => by show Value.int (Int32.ofInt (up2 S k j a k j)) = _; rw [up2_s]; rfl) (fun a b q => if_neg q) (fun ad => by rw [hty]; rcases ha with rfl | rfl <;> rfl) (fun ad => by rw [hty]; rcases ha with rfl | rfl <;> rfl) kk
theorem z_putD (h : zOK x L cc own nL ret fr lc Post) {index k ci j a : Nat} {ks : List Nat} {C : String} {TT : u_T} {N : Nat} {ty : Nat → FieldType} {C2 : String} (hd : decode cc pc = .ok (.putfield index, 3)) (hc : zCl ci C TT N ty) (hl : zLk own index C TT j) (hj : j < N) (he : L[k]? = some (0, ci, ks)) (hk : ks[j]? = some 1) (hfin : (TT j).2.2.2 = false) (hty : ty j = .object C2) (kk : zG x L (pc + 3) loc st (up2 S k j (a : Int))) : zG x L pc loc (zr a :: zr k :: st) S := z_put (S' := up2 S k j (a : Int)) h hd hc hl hj he hk hfin (zr a) (fun ad => by show (if up2 S k j (a : Int) k j < 0 then Value.null else Value.ref (ad (up2 S k j (a : Int) k j).toNat)) = _; rw [up2_s, if_neg (by omega)]; rfl) (fun a b q => if_neg q) (fun ad => by rw [hty]; rfl) (fun ad => by rw [hty]; rfl) kk
theorem z_iald (h : zOK x L cc own nL ret fr lc Post) {k n : Nat} {ks : List Nat} {i : Int} (hd : decode cc pc = .ok (.iaload, 1)) (he : L[k]? = some (1, n, ks)) (hn : n ≤ 2147483647) (h0 : 0 ≤ i) (h1 : i < n) (kk : zG x L (pc + 1) loc (zi (S k i.toNat) :: st) S) : zG x L pc loc (zi i :: zr k :: st) S := by
  obtain ⟨p, l, e, R, s, m, args, below, meth, c, Q, D, ad, T⟩ := x
  obtain ⟨hx, hb, hml, hown, hts, hK, hN, hinj, hlk, hret, hfr, hlc, hQ⟩ := h
  intro H locs ls hP hS hL
  obtain ⟨hi, ht⟩ := i32_c h0 h1 hn
  have k2 := kk H locs ls hP hS hL
  rw [← ht] at k2
  exact va_iald (D := D) hx hb hK hP k 0 (wd_at he) rfl hi hd k2
theorem z_zald (h : zOK x L cc own nL ret fr lc Post) {k n : Nat} {ks : List Nat} {i : Int} (hd : decode cc pc = .ok (.baload, 1)) (he : L[k]? = some (2, n, ks)) (hn : n ≤ 2147483647) (h0 : 0 ≤ i) (h1 : i < n) (kk : zG x L (pc + 1) loc (zi (S k i.toNat) :: st) S) : zG x L pc loc (zi i :: zr k :: st) S := by
  obtain ⟨p, l, e, R, s, m, args, below, meth, c, Q, D, ad, T⟩ := x
  obtain ⟨hx, hb, hml, hown, hts, hK, hN, hinj, hlk, hret, hfr, hlc, hQ⟩ := h
  intro H locs ls hP hS hL
  obtain ⟨hi, ht⟩ := i32_c h0 h1 hn
  have k2 := kk H locs ls hP hS hL
  rw [← ht] at k2
  exact va_zald (D := D) hx hb hK hP k 1 (wd_at he) rfl hi hd k2
theorem z_iast (h : zOK x L cc own nL ret fr lc Post) {k n : Nat} {ks : List Nat} {i a : Int} (hd : decode cc pc = .ok (.iastore, 1)) (he : L[k]? = some (1, n, ks)) (hn : n ≤ 2147483647) (h0 : 0 ≤ i) (h1 : i < n) (kk : zG x L (pc + 1) loc st (up2 S k i.toNat a)) : zG x L pc loc (zi a :: zi i :: zr k :: st) S := by
  obtain ⟨p, l, e, R, s, m, args, below, meth, c, Q, D, ad, T⟩ := x
  obtain ⟨hx, hb, hml, hown, hts, hK, hN, hinj, hlk, hret, hfr, hlc, hQ⟩ := h
  intro H locs ls hP hS hL
  obtain ⟨hi, ht⟩ := i32_c h0 h1 hn
  have hset := wd_set (ad := ad) (T := T) (S := S) (S' := up2 S k i.toNat a) he (e := .inl (T.1, n, .inl (upd (fun j => Int32.ofInt (S k j)) (Int32.ofInt i).toNatClampNeg (Int32.ofInt a)))) (by
    rw [ht]
    simp only [cE]
    congr 4
    funext j
    by_cases hj : j = i.toNat
    · subst hj
      rw [up2_s]
      simp [upd]
    · rw [up2_j S a hj]
      simp [upd, hj]) (fun b hb2 j => up2_k S a hb2)
  exact va_iast (D := D) hx hb hK hP (wd_D hinj) hS k 0 (wd_at he) rfl hi hd (fun H1 locs1 hP1 _ hS1 => kk H1 locs1 ls (hset ▸ hP1) hS1 hL)
theorem z_zast (h : zOK x L cc own nL ret fr lc Post) {k n : Nat} {ks : List Nat} {i a : Int} (hd : decode cc pc = .ok (.bastore, 1)) (he : L[k]? = some (2, n, ks)) (hn : n ≤ 2147483647) (h0 : 0 ≤ i) (h1 : i < n) (ha : a = 0 ∨ a = 1) (kk : zG x L (pc + 1) loc st (up2 S k i.toNat a)) : zG x L pc loc (zi a :: zi i :: zr k :: st) S := by
  obtain ⟨p, l, e, R, s, m, args, below, meth, c, Q, D, ad, T⟩ := x
  obtain ⟨hx, hb, hml, hown, hts, hK, hN, hinj, hlk, hret, hfr, hlc, hQ⟩ := h
  intro H locs ls hP hS hL
  have hv : vp_nar .boolean (Int32.ofInt a) = Int32.ofInt a := by rcases ha with rfl | rfl <;> rfl
  obtain ⟨hi, ht⟩ := i32_c h0 h1 hn
  have hset := wd_set (ad := ad) (T := T) (S := S) (S' := up2 S k i.toNat a) he (e := .inl (T.2.1, n, .inl (upd (fun j => Int32.ofInt (S k j)) (Int32.ofInt i).toNatClampNeg (vp_nar .boolean (Int32.ofInt a))))) (by
    rw [ht, hv]
    simp only [cE]
    congr 4
    funext j
    by_cases hj : j = i.toNat
    · subst hj
      rw [up2_s]
      simp [upd]
    · rw [up2_j S a hj]
      simp [upd, hj]) (fun b hb2 j => up2_k S a hb2)
  exact va_zast (D := D) hx hb hK hP (wd_D hinj) hS k 1 (wd_at he) rfl hi hd (fun H1 locs1 hP1 _ hS1 => kk H1 locs1 ls (hset ▸ hP1) hS1 hL)
theorem z_alen (h : zOK x L cc own nL ret fr lc Post) {k n : Nat} {ks : List Nat} (hd : decode cc pc = .ok (.arraylength, 1)) (he : L[k]? = some (1, n, ks)) (kk : zG x L (pc + 1) loc (zi (n : Int) :: st) S) : zG x L pc loc (zr k :: st) S := by
  obtain ⟨p, l, e, R, s, m, args, below, meth, c, Q, D, ad, T⟩ := x
  obtain ⟨hx, hb, hml, hown, hts, hK, hN, hinj, hlk, hret, hfr, hlc, hQ⟩ := h
  intro H locs ls hP hS hL
  exact va_alen (D := D) hx hb hK hP k 0 (wd_at he) rfl rfl hd (kk H locs ls hP hS hL)
theorem z_alenA (h : zOK x L cc own nL ret fr lc Post) {k n : Nat} {ks : List Nat} (hd : decode cc pc = .ok (.arraylength, 1)) (he : L[k]? = some (3, n, ks)) (kk : zG x L (pc + 1) loc (zi (ks.length : Int) :: st) S) : zG x L pc loc (zr k :: st) S := by
  obtain ⟨p, l, e, R, s, m, args, below, meth, c, Q, D, ad, T⟩ := x
  obtain ⟨hx, hb, hml, hown, hts, hK, hN, hinj, hlk, hret, hfr, hlc, hQ⟩ := h
  intro H locs ls hP hS hL
  exact va_alen (D := D) hx hb hK hP k 2 (wd_at he) rfl rfl hd (kk H locs ls hP hS hL)
theorem z_aald (h : zOK x L cc own nL ret fr lc Post) {k n a : Nat} {ks : List Nat} {i : Int} (hd : decode cc pc = .ok (.aaload, 1)) (he : L[k]? = some (3, n, ks)) (hn : ks.length ≤ 2147483647) (h0 : 0 ≤ i) (hk : ks[i.toNat]? = some a) (kk : zG x L (pc + 1) loc (zr a :: st) S) : zG x L pc loc (zi i :: zr k :: st) S := by
  obtain ⟨p, l, e, R, s, m, args, below, meth, c, Q, D, ad, T⟩ := x
  obtain ⟨hx, hb, hml, hown, hts, hK, hN, hinj, hlk, hret, hfr, hlc, hQ⟩ := h
  intro H locs ls hP hS hL
  have hlt := (List.getElem?_eq_some_iff.mp hk).1
  obtain ⟨hi, ht⟩ := i32_c (n := ks.length) h0 (by omega) hn
  have k2 := kk H locs ls hP hS hL
  refine va_aldq (D := D) hx hb hK hP k 2 (wd_at he) rfl hi hd ?_
  show W p l e R s m args below meth c H locs 0 0 Q (F0 m (pc + 1) ls (va_rf ((ks[(Int32.ofInt i).toNatClampNeg]?).map ad) :: st.map (cv ad)))
  rw [ht, hk]
  exact k2
theorem z_ixor (h : zOK x L cc own nL ret fr lc Post) {a b : Int} (hd : decode cc pc = .ok (.ixor, 1)) (ha : r32 a) (hbb : r32 b) (k : ∀ v : Int, (v < 0 ↔ ¬ (a < 0 ↔ b < 0)) → r32 v → zG x L (pc + 1) loc (zi v :: st) S) : zG x L pc loc (zi b :: zi a :: st) S := by
  obtain ⟨p, l, e, R, s, m, args, below, meth, c, Q, D, ad, T⟩ := x
  obtain ⟨hx, hb, hml, hown, hts, hK, hN, hinj, hlk, hret, hfr, hlc, hQ⟩ := h
  intro H locs ls hP hS hL
  refine lv_ixor hx hb hd ?_
  have k2 := k (Int32.ofInt a ^^^ Int32.ofInt b).toInt ?_ ⟨by have := Int32.le_toInt (Int32.ofInt a ^^^ Int32.ofInt b); omega, by have := Int32.toInt_lt (Int32.ofInt a ^^^ Int32.ofInt b); omega⟩ H locs ls hP hS hL
  · simp only [List.map_cons, cv, Int32.ofInt_toInt] at k2
    exact k2
  · have hm : ∀ z : Int32, z.toInt < 0 ↔ z.toBitVec.msb = true := fun z => by
      rw [show z.toInt = z.toBitVec.toInt from rfl, BitVec.toInt_neg_iff, BitVec.msb_eq_decide, decide_eq_true_iff]
      omega
    rw [hm, show (Int32.ofInt a ^^^ Int32.ofInt b).toBitVec = (Int32.ofInt a).toBitVec ^^^ (Int32.ofInt b).toBitVec from rfl, BitVec.msb_xor]
    have h1 := hm (Int32.ofInt a)
    have h2 := hm (Int32.ofInt b)
    rw [i32_t ha] at h1
    rw [i32_t hbb] at h2
    rw [h1, h2]
    cases (Int32.ofInt a).toBitVec.msb <;> cases (Int32.ofInt b).toBitVec.msb <;> simp
theorem z_iushr (h : zOK x L cc own nL ret fr lc Post) {a b : Int} {n : Nat} (hd : decode cc pc = .ok (.iushr, 1)) (ha : 0 ≤ a ∧ a ≤ 2147483647) (hs : (((Int32.ofInt b).toUInt32 &&& Int32.toUInt32 31).toBitVec % 32).toNat = n) (k : zG x L (pc + 1) loc (zi ((a.toNat / 2 ^ n : Nat) : Int) :: st) S) : zG x L pc loc (zi b :: zi a :: st) S := by
  obtain ⟨p, l, e, R, s, m, args, below, meth, c, Q, D, ad, T⟩ := x
  obtain ⟨hx, hb, hml, hown, hts, hK, hN, hinj, hlk, hret, hfr, hlc, hQ⟩ := h
  intro H locs ls hP hS hL
  refine lv_iushr hx hb hd (v := Int32.ofInt ((a.toNat / 2 ^ n : Nat) : Int)) ?_ (k H locs ls hP hS hL)
  rw [i32_nat ha.1, i32_nat (Int.natCast_nonneg _), Int.toNat_natCast]
  exact pk_ushrN (by omega) _ n hs
end
theorem z_back {L : List LY} {pc : Nat} {loc : List (Option zV)} {st : List zV} {p : Program} {l : Launch} {e : Env} {R : Room} {s : State} {m : MethodId} {args : Array Value} {below : List Frame} {meth : Method} {c : Code} {Q : State → Prop} {D : va_G} {ad : Nat → Nat} {T : zT} {H : Heap} {locs : List Loc} {ls : Array Slot} {st0 : List Value} {a : Array Value} {Post' : Option zV → SS → Prop}
    (hS : va_S (zA ad L) s.heap H locs) (hL : zL ad ls loc)
    (hr : va_Run p l e R s m args below meth c H locs 0 0 0 0 (F0 m pc ls st0) (st.map (cv ad)) (zQ L ad T D Post' a) (zA ad L))
    (kk : ∀ r S', Post' r S' → zG (p, l, e, R, s, m, args, below, meth, c, Q, D, ad, T) L (pc + 3) loc (r.toList ++ st) S') : W p l e R s m args below meth c H locs 0 0 Q (F0 m pc ls st0) := by
  intro U hU X
  obtain ⟨v, st₀, t, U', L', h0, X', hL', e1, e2, ⟨⟨r, S', hv, hp, hP1⟩, hz, hk⟩, stp⟩ := hr U hU X
  cases hv
  rw [h0] at hz hk
  have hS1 : va_S (zA ad L) s.heap U'.heap (locs ++ L') := ⟨Nat.le_trans hS.1 (by rw [e1]; exact hz), fun q h1 h2 => by rw [e1, hk q (Nat.lt_of_lt_of_le h1 hS.1) h2]; exact hS.2.1 q h1 h2, fun q hq => by
    rcases List.mem_append.mp hq with h | h
    · exact hS.2.2 q h
    · exact hL' q h⟩
  obtain ⟨t2, a1, b1⟩ := kk r S' hp U'.heap (locs ++ L') ls (by rw [e1]; exact hP1) hS1 hL U' rfl X'
  refine ⟨t2, stp t2 ?_, b1⟩
  have hmap : (r.map (cv ad)).toList ++ st.map (cv ad) = (r.toList ++ st).map (cv ad) := by cases r <;> simp
  rw [hmap]
  exact a1
section
variable {x : zX} {L : List LY} {cc : ByteArray} {own : String} {nL : Nat} {ret : Option FieldType} {fr lc : Nat} {Post : Option zV → SS → Prop} {pc : Nat} {loc loc' : List (Option zV)} {st : List zV} {S : SS}
theorem z_callS (h : zOK x L cc own nL ret fr lc Post) {y : MethodName} {bytes : ByteArray} {maxL : Nat} {rt : Option FieldType} {fr' lc' : Nat} {av : List zV} {Post' : Option zV → SS → Prop} {index n : Nat} (hM : zM L y bytes maxL rt fr' lc' av S Post') (hd : decode cc pc = .ok (.invokestatic index, 3)) (hc : zMc y bytes maxL rt n) (hst : Cond.static y ∈ TB) (hl : zMl own index y) (hll : loc.length = nL) (hn : av.length = n) (hR : fr' + 1 ≤ fr ∧ 8 + (maxL + 11) + lc' ≤ lc) {rest : List zV} (hs : av.reverse ++ rest = st) (hcat : zcat rest ≤ 8) (kk : ∀ r S', Post' r S' → zG x L (pc + 3) loc (r.toList ++ rest) S') : zG x L pc loc (st) S := by
  obtain ⟨p, l, e, R, s, m, args, below, meth, c, Q, D, ad, T⟩ := x
  obtain ⟨hx, hb, hml, hown, hts, hK, hN, hinj, hlk, hret, hfr, hlc, hQ⟩ := h
  intro H locs ls hP hS hL
  obtain ⟨hc1, hc2, hc3⟩ := hc
  have hsz : (F0 m pc ls (st.map (cv ad))).locals.size = nL := hL.1.trans hll
  have hstk : (F0 m pc ls (st.map (cv ad))).stack = (av.map (cv ad)).reverse ++ rest.map (cv ad) := by
    subst hs
    simp
  have hp : PreS s H (va_Pc (av.map (cv ad)) (fun U => va_P D vwCl (wd ad T L S) U.heap ∧ va_K D vwCl (zTy T) U ∧ zN U)) (av.map (cv ad)) := ⟨fun a U g mk q => by obtain ⟨q0, qP, qK, qN⟩ := q; exact ⟨q0, qP, va_K.moved (u := U) (U := U.calling g mk a) (Vm.Alike.refl U.vm) qK, zN_same (u := U) (U := U.calling g mk a) rfl qN⟩, fun U hU hW => ⟨rfl, by rw [hU]; exact hP, va_K.moved hW.alike hK, zN_warm hW hN⟩⟩
  have hroom : 2 * (F0 m pc ls (st.map (cv ad))).monitorRoom + ((rest.map (cv ad)).map fun v => v.category).sum ≤ 8 := lv_room (by rw [zcat_eq]; exact hcat)
  have hRR : ({ frames := fr', cells := 0, slots := 0, locals := lc' } : Room).frames + 1 ≤ R.frames ∧ 8 + (maxL + 11) + ({ frames := fr', cells := 0, slots := 0, locals := lc' } : Room).locals ≤ R.locals := by rw [hfr, hlc]; exact hR
  refine z_back (st := rest) (st0 := st.map (cv ad)) (a := (av.map (cv ad)).toArray) hS hL ?_ kk
  rcases hl with hl | ⟨host, hl⟩
  · exact va_runS (own := own) ⟨hx, hb, hml, hown, hts⟩ (hM l D ad T hinj) ⟨callB_of n hts (zgood y hc1) rfl rfl rfl (hts _ hc2) (hts _ hl) hc3 hRR, hts _ hst⟩ hp rfl (by simpa using hn) hsz hstk hroom hd ⟨Nat.zero_le _, Nat.zero_le _⟩
  · exact va_runSN (own := own) (host := host) ⟨hx, hb, hml, hown, hts⟩ (hM l D ad T hinj) ⟨va_cnB n hts (zgood y hc1) rfl rfl rfl (hN _ hl) (hts _ hc2) hc3 hRR, hts _ hst, trivial⟩ hp rfl (by simpa using hn) hsz hstk hroom hd ⟨Nat.zero_le _, Nat.zero_le _⟩
theorem z_callV (h : zOK x L cc own nL ret fr lc Post) {y : MethodName} {bytes : ByteArray} {maxL : Nat} {rt : Option FieldType} {fr' lc' : Nat} {av : List zV} {Post' : Option zV → SS → Prop} {index n : Nat} {k ci : Nat} {ks : List Nat} {C : String} {TT : u_T} {N : Nat} {ty : Nat → FieldType} (hM : zM L y bytes maxL rt fr' lc' (zr k :: av) S Post') (hd : decode cc pc = .ok (.invokevirtual index, 3)) (hc : zMc y bytes maxL rt n) (hst : Cond.instanceMethod y ∈ TB ∧ Cond.selects y.cls y y ∈ TB) (hl : zMl own index y) (hll : loc.length = nL) (hn : av.length = n) (hR : fr' + 1 ≤ fr ∧ 8 + (maxL + 11) + lc' ≤ lc) (hC : zCl ci C TT N ty) (he : L[k]? = some (0, ci, ks)) (hCy : y.cls = C) {rest : List zV} (hs : av.reverse ++ zr k :: rest = st) (hcat : zcat rest ≤ 8) (kk : ∀ r S', Post' r S' → zG x L (pc + 3) loc (r.toList ++ rest) S') : zG x L pc loc (st) S := by
  obtain ⟨p, l, e, R, s, m, args, below, meth, c, Q, D, ad, T⟩ := x
  obtain ⟨hx, hb, hml, hown, hts, hK, hN, hinj, hlk, hret, hfr, hlc, hQ⟩ := h
  intro H locs ls hP hS hL
  obtain ⟨hc1, hc2, hc3⟩ := hc
  have hsz : (F0 m pc ls (st.map (cv ad))).locals.size = nL := hL.1.trans hll
  have hstk : (F0 m pc ls (st.map (cv ad))).stack = (av.map (cv ad)).reverse ++ .ref (ad k) :: rest.map (cv ad) := by
    subst hs
    simp [cv]
  have hp : PreV s H y.cls (ad k) (va_Pc ((zr k :: av).map (cv ad)) (fun U => va_P D vwCl (wd ad T L S) U.heap ∧ va_K D vwCl (zTy T) U ∧ zN U)) (av.map (cv ad)) := ⟨fun a U g mk q => by obtain ⟨q0, qP, qK, qN⟩ := q; exact ⟨q0, qP, va_K.moved (u := U) (U := U.calling g mk a) (Vm.Alike.refl U.vm) qK, zN_same (u := U) (U := U.calling g mk a) rfl qN⟩, by rw [hCy]; exact va_recv hK hP hC.1 (wd_at he), fun U hU hW => ⟨rfl, by rw [hU]; exact hP, va_K.moved hW.alike hK, zN_warm hW hN⟩⟩
  have hroom : 2 * (F0 m pc ls (st.map (cv ad))).monitorRoom + ((rest.map (cv ad)).map fun v => v.category).sum ≤ 8 := lv_room (by rw [zcat_eq]; exact hcat)
  have hRR : ({ frames := fr', cells := 0, slots := 0, locals := lc' } : Room).frames + 1 ≤ R.frames ∧ 8 + (maxL + 11) + ({ frames := fr', cells := 0, slots := 0, locals := lc' } : Room).locals ≤ R.locals := by rw [hfr, hlc]; exact hR
  refine z_back (st := rest) (st0 := st.map (cv ad)) (a := (Value.ref (ad k) :: av.map (cv ad)).toArray) hS hL ?_ kk
  rcases hl with hl | ⟨host, hl⟩
  · exact va_runV (own := own) ⟨hx, hb, hml, hown, hts⟩ (hM l D ad T hinj) ⟨callB_of n hts (zgood y hc1) rfl rfl rfl (hts _ hc2) (hts _ hl) hc3 hRR, hts _ hst.1, hts _ hst.2⟩ hp rfl (by simpa using hn) hsz hstk hroom hd ⟨Nat.zero_le _, Nat.zero_le _⟩
  · exact va_runVN (own := own) (host := host) ⟨hx, hb, hml, hown, hts⟩ (hM l D ad T hinj) ⟨va_cnB n hts (zgood y hc1) rfl rfl rfl (hN _ hl) (hts _ hc2) hc3 hRR, hts _ hst.1, hts _ hst.2⟩ hp rfl (by simpa using hn) hsz hstk hroom hd ⟨Nat.zero_le _, Nat.zero_le _⟩
theorem z_iret (h : zOK x L cc own nL ret fr lc Post) {a : Int} (hd : decode cc pc = .ok (.ireturn, 1)) (hr : ret = some .int) (hp : Post (some (zi a)) S) : zG x L pc loc ([zi a]) S := by
  obtain ⟨p, l, e, R, s, m, args, below, meth, c, Q, D, ad, T⟩ := x
  obtain ⟨hx, hb, hml, hown, hts, hK, hN, hinj, hlk, hret, hfr, hlc, hQ⟩ := h
  intro H locs ls hP hS hL
  subst hQ
  exact W.iret (v := Int32.ofInt a) hx hb (by rw [hret, hr]) (fun t ht hW => ⟨⟨some (zi a), S, rfl, hp, by rw [ht]; exact hP⟩, hS.F ht⟩) hS.2.2 hd (hlocks := hlk)
theorem z_zret (h : zOK x L cc own nL ret fr lc Post) {a : Int} (hd : decode cc pc = .ok (.ireturn, 1)) (hr : ret = some .boolean) (ha : a = 0 ∨ a = 1) (hp : Post (some (zi a)) S) : zG x L pc loc ([zi a]) S := by
  obtain ⟨p, l, e, R, s, m, args, below, meth, c, Q, D, ad, T⟩ := x
  obtain ⟨hx, hb, hml, hown, hts, hK, hN, hinj, hlk, hret, hfr, hlc, hQ⟩ := h
  intro H locs ls hP hS hL
  subst hQ
  exact W.zret (v := Int32.ofInt a) hx hb (by rw [hret, hr]) (by rcases ha with rfl | rfl <;> rfl) (fun t ht hW => ⟨⟨some (zi a), S, rfl, hp, by rw [ht]; exact hP⟩, hS.F ht⟩) hS.2.2 hd (hlocks := hlk)
theorem z_lret (h : zOK x L cc own nL ret fr lc Post) {a : Int} (hd : decode cc pc = .ok (.lreturn, 1)) (hr : ret = some .long) (hp : Post (some (zl a)) S) : zG x L pc loc ([zl a]) S := by
  obtain ⟨p, l, e, R, s, m, args, below, meth, c, Q, D, ad, T⟩ := x
  obtain ⟨hx, hb, hml, hown, hts, hK, hN, hinj, hlk, hret, hfr, hlc, hQ⟩ := h
  intro H locs ls hP hS hL
  subst hQ
  exact W.lret (v := Int64.ofInt a) hx hb (by rw [hret, hr]) (fun t ht hW => ⟨⟨some (zl a), S, rfl, hp, by rw [ht]; exact hP⟩, hS.F ht⟩) hS.2.2 hd (hlocks := hlk)
theorem z_vret (h : zOK x L cc own nL ret fr lc Post) (hd : decode cc pc = .ok (.return_, 1)) (hr : ret = none) (hp : Post none S) : zG x L pc loc (([] : List zV)) S := by
  obtain ⟨p, l, e, R, s, m, args, below, meth, c, Q, D, ad, T⟩ := x
  obtain ⟨hx, hb, hml, hown, hts, hK, hN, hinj, hlk, hret, hfr, hlc, hQ⟩ := h
  intro H locs ls hP hS hL
  subst hQ
  exact W.vret hx hb (by rw [hret, hr]) (fun t ht hW => ⟨⟨none, S, rfl, hp, by rw [ht]; exact hP⟩, hS.F ht⟩) hS.2.2 hd (hlocks := hlk)
theorem z_aret (h : zOK x L cc own nL ret fr lc Post) {v : zV} {C2 : String} (hd : decode cc pc = .ok (.areturn, 1)) (hr : ret = some (.object C2)) (hv : v = zn ∨ ∃ a, v = zr a) (hp : Post (some v) S) : zG x L pc loc ([v]) S := by
  obtain ⟨p, l, e, R, s, m, args, below, meth, c, Q, D, ad, T⟩ := x
  obtain ⟨hx, hb, hml, hown, hts, hK, hN, hinj, hlk, hret, hfr, hlc, hQ⟩ := h
  intro H locs ls hP hS hL
  subst hQ
  exact W.aret (v := cv ad v) hx hb (by rw [hret, hr]) (Or.inl ⟨_, rfl⟩) (by rcases hv with rfl | ⟨a, rfl⟩; exact Or.inl rfl; exact Or.inr ⟨_, rfl⟩) (fun t ht hW => ⟨⟨some v, S, rfl, hp, by rw [ht]; exact hP⟩, hS.F ht⟩) hS.2.2 hd (hlocks := hlk)
end
theorem z_nm {x : zX} {L : List LY} {pc : Nat} {loc : List (Option zV)} {st : List zV} {S : SS} {b : Int} (k : ∀ y : Int, y = b → zG x L pc loc (zi y :: st) S) : zG x L pc loc (zi b :: st) S := k b rfl
theorem z_cv {x : zX} {L : List LY} {pc : Nat} {loc : List (Option zV)} {st : List zV} {S : SS} {a b : Int} (e : a = b) (k : zG x L pc loc (zi b :: st) S) : zG x L pc loc (zi a :: st) S := by subst e; exact k
theorem z_nmS {x : zX} {L : List LY} {pc : Nat} {loc : List (Option zV)} {st : List zV} {S : SS} (k : ∀ S1 : SS, S1 = S → zG x L pc loc st S1) : zG x L pc loc st S := k S rfl
def zkeep : List Bool → List (Option zV) → List (Option zV)
  | true :: r, v :: l => v :: zkeep r l
  | false :: r, _ :: l => none :: zkeep r l
  | _, l => l
theorem zkeep_len : ∀ (ks : List Bool) (l : List (Option zV)), (zkeep ks l).length = l.length
  | [], l => by simp [zkeep]
  | true :: r, [] => rfl
  | false :: r, [] => rfl
  | true :: r, v :: l => by simp [zkeep, zkeep_len r l]
  | false :: r, _ :: l => by simp [zkeep, zkeep_len r l]
theorem zkeep_at : ∀ (ks : List Bool) (l : List (Option zV)) (i : Nat) (v : zV), (zkeep ks l)[i]? = some (some v) → l[i]? = some (some v)
  | [], l, i, v, h => by simpa [zkeep] using h
  | true :: r, [], i, v, h => h
  | false :: r, [], i, v, h => h
  | true :: r, a :: l, 0, v, h => h
  | true :: r, a :: l, i + 1, v, h => zkeep_at r l i v h
  | false :: r, a :: l, 0, v, h => by simp [zkeep] at h
  | false :: r, a :: l, i + 1, v, h => by simpa using zkeep_at r l i v (by simpa [zkeep] using h)
theorem z_forget {x : zX} {L : List LY} {pc : Nat} {loc loc' : List (Option zV)} {st : List zV} {S : SS} (ks : List Bool) (hl : zkeep ks loc = loc') (k : zG x L pc loc' st S) : zG x L pc loc st S := by
  obtain ⟨p, l, e, R, s, m, args, below, meth, c, Q, D, ad, T⟩ := x
  intro H locs ls hP hS hL
  refine k H locs ls hP hS ?_
  subst hl
  refine ⟨by rw [zkeep_len]; exact hL.1, hL.2.1, fun q hq => ?_⟩
  obtain ⟨i, v, hi, rfl⟩ := prs_mem.mp hq
  rw [Nat.zero_add]
  exact zL_at hL (zkeep_at ks loc i v hi)

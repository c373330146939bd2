/-! the law: its calls and its loop -/
theorem i32_oi (v : Int32) : Int32.ofInt v.toInt = v := Int32.ofInt_toInt v
theorem i32_r (v : Int32) : r32 v.toInt := ⟨by have := Int32.le_toInt v; exact this, by have := Int32.toInt_lt v; omega⟩
/-- the two worlds of the law: the class's cells, the reference's; apart from one another, new since the start -/
def lwD (s : State) (a1 a2 : Nat → Nat) : Prop := zInj a1 LX.length ∧ zInj a2 LM.length ∧ (∀ q, zA a1 LX q → s.heap.size ≤ q) ∧ (∀ q, zA a2 LM q → s.heap.size ≤ q) ∧ ∀ q, zA a1 LX q → ¬ zA a2 LM q
theorem lw_back {L L2 : List LY} {pc : Nat} {p : Program} {l : Launch} {e : Env} {R : Room} {s : State} {m : MethodId} {args : Array Value} {below : List Frame} {meth : Method} {c : Code} {Q : State → Prop} {D : va_G} {ad ad2 : Nat → Nat} {T : zT} {H : Heap} {locs : List Loc} {ls : Array Slot} {st0 rest : List Value} {a : Array Value} {Post' : Option zV → SS → Prop} {S2 : SS} {cells slots : Nat}
    (hS : va_S (fun q => s.heap.size ≤ q) s.heap H locs) (hA : ∀ q, zA ad L q → s.heap.size ≤ q) (hdis : ∀ q, zA ad2 L2 q → ¬ zA ad L q) (hP2 : va_P D vwCl (wd ad2 T L2 S2) H)
    (hr : va_Run p l e R s m args below meth c H locs cells slots 0 0 (F0 m pc ls st0) rest (zQ L ad T D Post' a) (zA ad L))
    (kk : ∀ (r : Option zV) (S' : SS) (H1 : Heap) (locs1 : List Loc), Post' r S' → va_P D vwCl (wd ad T L S') H1 → va_P D vwCl (wd ad2 T L2 S2) H1 → va_S (fun q => s.heap.size ≤ q) s.heap H1 locs1 → W p l e R s m args below meth c H1 locs1 cells slots Q (F0 m (pc + 3) ls ((r.map (cv ad)).toList ++ rest))) : W p l e R s m args below meth c H locs cells slots Q (F0 m pc ls st0) := by
  intro U hU X
  obtain ⟨v, st₀, t, U', L', h0, X', hL', e1, e2, ⟨⟨r, S', hv, hp, hP1⟩, hz, hk⟩, stp⟩ := hr U hU X
  cases hv
  rw [h0] at hz hk
  have hS1 : va_S (fun q => s.heap.size ≤ q) s.heap U'.heap (locs ++ L') := ⟨Nat.le_trans hS.1 (by rw [e1]; exact hz), fun q h1 h2 => by rw [e1, hk q (Nat.lt_of_lt_of_le h1 hS.1) (fun h3 => h2 (hA q h3))]; exact hS.2.1 q h1 h2, fun q hq => by
    rcases List.mem_append.mp hq with h | h
    · exact hS.2.2 q h
    · exact hA _ (hL' q h)⟩
  have hP3 : va_P D vwCl (wd ad2 T L2 S2) U'.heap := hP2.kept (fun k x hx => by rw [e1]; exact hk x.1 (hP2 k x hx).lt (hdis x.1 (by obtain ⟨i1, i2⟩ := wd_inv hx; exact ⟨k, i1, i2⟩)))
  obtain ⟨t2, a1, b1⟩ := kk r S' U'.heap (locs ++ L') hp (by rw [e1]; exact hP1) hP3 hS1 U' rfl X'
  exact ⟨t2, stp t2 a1, b1⟩
theorem lw_call {L L2 : List LY} {pc : Nat} {p : Program} {l : Launch} {e : Env} {s : State} {m : MethodId} {b : Nat} {below : List Frame} {meth : Method} {c : Code} {Q : State → Prop} {D : va_G} {ad ad2 : Nat → Nat} {T : zT} {H : Heap} {locs : List Loc} {ls : Array Slot} {rest : List Value} {S S2 : SS} {cells slots : Nat}
    (hx : p.tables.exec = Jvm.exec) (hb : c.code = cL_law) (hml : c.maxLocals = 4) (hown : s.vm.findClass RL = some m.cls) (hts : ∀ w ∈ TB, w.before #[Value.ref b] s = true) (hK : va_K D vwCl (zTy T) s) (hN : zN s) (hinj : zInj ad L.length) (hS : va_S (fun q => s.heap.size ≤ q) s.heap H locs) (hA : ∀ q, zA ad L q → s.heap.size ≤ q) (hdis : ∀ q, zA ad2 L2 q → ¬ zA ad L q) (hP : va_P D vwCl (wd ad T L S) H) (hP2 : va_P D vwCl (wd ad2 T L2 S2) H)
    {y : MethodName} {bytes : ByteArray} {maxL : Nat} {rt : Option FieldType} {fr' lc' : Nat} {av : List zV} {As : List Value} {Post' : Option zV → SS → Prop} {index n : Nat} {ci : Nat} {ks : List Nat} {C : String} {TT : u_T} {N : Nat} {ty : Nat → FieldType} (hM : zM L y bytes maxL rt fr' lc' (zr 0 :: av) S Post') (hd : decode cL_law pc = .ok (.invokevirtual index, 3)) (hc : zMc y bytes maxL rt n) (hst : Cond.instanceMethod y ∈ TB ∧ Cond.selects y.cls y y ∈ TB) (hl : Cond.methodLink RL index y ∈ TB) (hsz : ls.size = 4) (hn : av.length = n) (hAs : av.map (cv ad) = As) (hR : fr' + 1 ≤ room_1.frames ∧ 8 + (maxL + 11) + lc' ≤ room_1.locals) (hC : zCl ci C TT N ty) (he : L[0]? = some (0, ci, ks)) (hCy : y.cls = C) (hcat : (rest.map fun v => v.category).sum ≤ 8) (hcs : cells ≤ room_1.cells ∧ slots ≤ room_1.slots)
    (kk : ∀ (r : Option zV) (S' : SS) (H1 : Heap) (locs1 : List Loc), Post' r S' → va_P D vwCl (wd ad T L S') H1 → va_P D vwCl (wd ad2 T L2 S2) H1 → va_S (fun q => s.heap.size ≤ q) s.heap H1 locs1 → W p l e room_1 s m #[Value.ref b] below meth c H1 locs1 cells slots Q (F0 m (pc + 3) ls ((r.map (cv ad)).toList ++ rest))) : W p l e room_1 s m #[Value.ref b] below meth c H locs cells slots Q (F0 m pc ls (As.reverse ++ .ref (ad 0) :: rest)) := by
  subst hAs
  obtain ⟨hc1, hc2, hc3⟩ := hc
  have hp : PreV s H y.cls (ad 0) (va_Pc ((zr 0 :: av).map (cv ad)) (fun U => va_P D vwCl (wd ad T L S) U.heap ∧ va_K D vwCl (zTy T) U ∧ zN U)) (av.map (cv ad)) := ⟨fun a U g mk q => by obtain ⟨q0, qP, qK, qN⟩ := q; exact ⟨q0, qP, va_K.moved (u := U) (U := U.calling g mk a) (Vm.Alike.refl U.vm) qK, zN_same (u := U) (U := U.calling g mk a) rfl qN⟩, by rw [hCy]; exact va_recv hK hP hC.1 (wd_at he), fun U hU hW => ⟨rfl, by rw [hU]; exact hP, va_K.moved hW.alike hK, zN_warm hW hN⟩⟩
  have hRR : ({ frames := fr', cells := 0, slots := 0, locals := lc' } : Room).frames + 1 ≤ room_1.frames ∧ 8 + (maxL + 11) + ({ frames := fr', cells := 0, slots := 0, locals := lc' } : Room).locals ≤ room_1.locals := hR
  refine lw_back (L := L) (L2 := L2) (ad := ad) (ad2 := ad2) (T := T) (a := (Value.ref (ad 0) :: av.map (cv ad)).toArray) hS hA hdis hP2 ?_ kk
  exact va_runV (own := RL) ⟨hx, hb, hml, hown, hts⟩ (hM l D ad T hinj) ⟨callB_of n hts (zgood y hc1) rfl rfl rfl (hts _ hc2) (hts _ hl) hc3 hRR, hts _ hst.1, hts _ hst.2⟩ hp rfl (by simpa using hn) hsz rfl (lv_room hcat) hd hcs

theorem lw_ix {L i : Nat} (j : Nat) {v : Int32} (hL : L ≤ 3072) (hi : i + 6 ≤ L) (hj : j ≤ 5) (hv : v = Int32.ofInt (j : Int)) : vp_in (Int32.ofInt (i : Int) + v) L := by
  rw [hv, ← Int32.ofInt_add]
  exact (i32_c (n := L) (by omega) (by omega) (by omega)).1

set_option maxHeartbeats 4000000 in
set_option maxRecDepth 100000 in
theorem lw_k0 {p : Program} {l : Launch} {e : Env} {s : State} {m : MethodId} {below : List Frame} {meth : Method} {c : Code} {b L : Nat} {xs : Nat → Int32} {D : va_G} {a1 a2 : Nat → Nat} {T : zT} {A S1 S2 : SS} {i : Nat} {H : Heap} {locs : List Loc} {ls : Array Slot} (hL : L ≤ 3072) (hx : p.tables.exec = Jvm.exec) (hb : c.code = cL_law) (hml : c.maxLocals = 4) (hown : s.vm.findClass RL = some m.cls) (hts : ∀ w ∈ TB, w.before #[Value.ref b] s = true) (hK : va_K D vwCl (zTy T) s) (hN : zN s) (hX : va_X b L xs s s.heap) (hbl : b < s.heap.size) (hD : lwD s a1 a2) (hi : i + 6 ≤ L) (hS : va_S (fun q => s.heap.size ≤ q) s.heap H locs) (hP1 : va_P D vwCl (wd a1 T LX S1) H) (hP2 : va_P D vwCl (wd a2 T LM S2) H) (hl : lv_has ls 4 [(0, .ref b), (1, .ref (a1 0)), (2, .ref (a2 0)), (3, .int (Int32.ofInt (i : Int)))]) (hR1 : cRel S1 A) (hR2 : mRel S2 A) (kk : ∀ (A' S1' S2' : SS) (H1 : Heap) (locs1 : List Loc), cRel S1' A' → mRel S2' A' → va_P D vwCl (wd a1 T LX S1') H1 → va_P D vwCl (wd a2 T LM S2') H1 → va_S (fun q => s.heap.size ≤ q) s.heap H1 locs1 → W p l e room_1 s m #[Value.ref b] below meth c H1 locs1 62 6075 (lw_Z below #[Value.ref b] s) (F0 m 1682 ls [])) : W p l e room_1 s m #[Value.ref b] below meth c H locs 62 6075 (lw_Z below #[Value.ref b] s) (F0 m 208 ls []) := by
  have hm := hR1.1
  refine lv_aload_n hx hb dL_law_208 rfl (lv_at hl 1 rfl) ?_
  refine lv_aload_n hx hb dL_law_209 rfl (lv_at hl 0 rfl) ?_
  refine lv_iload_n hx hb dL_law_210 rfl (lv_at hl 3 rfl) ?_
  refine lv_iconst (v := 1) hx hb dL_law_211 (by decide) ?_
  refine lv_iadd hx hb dL_law_212 ?_
  refine va_sld hx hb hX hbl (Nat.not_le.mpr hbl) hS (lw_ix 1 hL hi (by decide) rfl) dL_law_213 ?_
  refine lv_aload_n hx hb dL_law_214 rfl (lv_at hl 0 rfl) ?_
  refine lv_iload_n hx hb dL_law_215 rfl (lv_at hl 3 rfl) ?_
  refine lv_iconst (v := 2) hx hb dL_law_216 (by decide) ?_
  refine lv_iadd hx hb dL_law_217 ?_
  refine va_sld hx hb hX hbl (Nat.not_le.mpr hbl) hS (lw_ix 2 hL hi (by decide) rfl) dL_law_218 ?_
  refine lw_call (L := LX) (L2 := LM) (ad := a1) (ad2 := a2) (As := [.int (xs (Int32.ofInt (i : Int) + 1).toNatClampNeg), .int (xs (Int32.ofInt (i : Int) + 2).toNatClampNeg)]) (rest := []) hx hb hml hown hts hK hN hD.1 hS hD.2.2.1 (fun q h1 h2 => hD.2.2.2.2 q h2 h1) hP1 hP2 (m_X10_type ((xs (Int32.ofInt (i : Int) + 1).toNatClampNeg).toInt) ((xs (Int32.ofInt (i : Int) + 2).toNatClampNeg).toInt) A S1 (i32_r _) (i32_r _) hR1) dL_law_219 mcX10_type miX10_type (tb_in 298 (by decide +kernel) rfl) hl.1 rfl (by show [Value.int (Int32.ofInt (xs (Int32.ofInt (i : Int) + 1).toNatClampNeg).toInt), Value.int (Int32.ofInt (xs (Int32.ofInt (i : Int) + 2).toNatClampNeg).toInt)] = _; simp only [i32_oi]) ⟨Nat.le_of_ble_eq_true rfl, Nat.le_of_ble_eq_true rfl⟩ clX10 rfl rfl (Nat.le_of_ble_eq_true rfl) ⟨Nat.le_of_ble_eq_true rfl, Nat.le_of_ble_eq_true rfl⟩ ?_
  rintro r S1' H locs ⟨rfl, hQ⟩ hP1 hP2 hS
  have hR1 := hQ
  obtain ⟨v1, ev1⟩ : ∃ v1 : Int, sp_type A ((xs (Int32.ofInt (i : Int) + 1).toNatClampNeg).toInt) ((xs (Int32.ofInt (i : Int) + 2).toNatClampNeg).toInt) = v1 := ⟨_, rfl⟩
  show W p l e room_1 s m #[Value.ref b] below meth c H locs 62 6075 (lw_Z below #[Value.ref b] s) (F0 m 222 ls [.int (Int32.ofInt (sp_type A ((xs (Int32.ofInt (i : Int) + 1).toNatClampNeg).toInt) ((xs (Int32.ofInt (i : Int) + 2).toNatClampNeg).toInt)))])
  rw [ev1]
  refine lv_aload_n hx hb dL_law_222 rfl (lv_at hl 2 rfl) ?_
  refine lv_aload_n hx hb dL_law_223 rfl (lv_at hl 0 rfl) ?_
  refine lv_iload_n hx hb dL_law_224 rfl (lv_at hl 3 rfl) ?_
  refine lv_iconst (v := 1) hx hb dL_law_225 (by decide) ?_
  refine lv_iadd hx hb dL_law_226 ?_
  refine va_sld hx hb hX hbl (Nat.not_le.mpr hbl) hS (lw_ix 1 hL hi (by decide) rfl) dL_law_227 ?_
  refine lv_aload_n hx hb dL_law_228 rfl (lv_at hl 0 rfl) ?_
  refine lv_iload_n hx hb dL_law_229 rfl (lv_at hl 3 rfl) ?_
  refine lv_iconst (v := 2) hx hb dL_law_230 (by decide) ?_
  refine lv_iadd hx hb dL_law_231 ?_
  refine va_sld hx hb hX hbl (Nat.not_le.mpr hbl) hS (lw_ix 2 hL hi (by decide) rfl) dL_law_232 ?_
  refine lw_call (L := LM) (L2 := LX) (ad := a2) (ad2 := a1) (As := [.int (xs (Int32.ofInt (i : Int) + 1).toNatClampNeg), .int (xs (Int32.ofInt (i : Int) + 2).toNatClampNeg)]) (rest := [.int (Int32.ofInt v1)]) hx hb hml hown hts hK hN hD.2.1 hS hD.2.2.2.1 hD.2.2.2.2 hP2 hP1 (m_X11_type ((xs (Int32.ofInt (i : Int) + 1).toNatClampNeg).toInt) ((xs (Int32.ofInt (i : Int) + 2).toNatClampNeg).toInt) A S2 (i32_r _) (i32_r _) hR2 hm) dL_law_233 mcX11_type miX11_type (tb_in 913 (by decide +kernel) rfl) hl.1 rfl (by show [Value.int (Int32.ofInt (xs (Int32.ofInt (i : Int) + 1).toNatClampNeg).toInt), Value.int (Int32.ofInt (xs (Int32.ofInt (i : Int) + 2).toNatClampNeg).toInt)] = _; simp only [i32_oi]) ⟨Nat.le_of_ble_eq_true rfl, Nat.le_of_ble_eq_true rfl⟩ clX11 rfl rfl (Nat.le_of_ble_eq_true rfl) ⟨Nat.le_of_ble_eq_true rfl, Nat.le_of_ble_eq_true rfl⟩ ?_
  rintro r S2' H locs ⟨rfl, hQ⟩ hP2 hP1 hS
  show W p l e room_1 s m #[Value.ref b] below meth c H locs 62 6075 (lw_Z below #[Value.ref b] s) (F0 m 236 ls [.int (Int32.ofInt (sp_type A ((xs (Int32.ofInt (i : Int) + 1).toNatClampNeg).toInt) ((xs (Int32.ofInt (i : Int) + 2).toNatClampNeg).toInt))), .int (Int32.ofInt v1)])
  rw [ev1]
  refine lv_icmp_eq (tgt := 1682) hx hb dL_law_236 (by decide) (fun _ => ?_) (fun q => absurd rfl q)
  exact kk _ _ _ _ _ hR1 hQ hP1 hP2 hS

set_option maxHeartbeats 4000000 in
set_option maxRecDepth 100000 in
theorem lw_k1 {p : Program} {l : Launch} {e : Env} {s : State} {m : MethodId} {below : List Frame} {meth : Method} {c : Code} {b L : Nat} {xs : Nat → Int32} {D : va_G} {a1 a2 : Nat → Nat} {T : zT} {A S1 S2 : SS} {i : Nat} {H : Heap} {locs : List Loc} {ls : Array Slot} (hL : L ≤ 3072) (hx : p.tables.exec = Jvm.exec) (hb : c.code = cL_law) (hml : c.maxLocals = 4) (hown : s.vm.findClass RL = some m.cls) (hts : ∀ w ∈ TB, w.before #[Value.ref b] s = true) (hK : va_K D vwCl (zTy T) s) (hN : zN s) (hX : va_X b L xs s s.heap) (hbl : b < s.heap.size) (hD : lwD s a1 a2) (hi : i + 6 ≤ L) (hS : va_S (fun q => s.heap.size ≤ q) s.heap H locs) (hP1 : va_P D vwCl (wd a1 T LX S1) H) (hP2 : va_P D vwCl (wd a2 T LM S2) H) (hl : lv_has ls 4 [(0, .ref b), (1, .ref (a1 0)), (2, .ref (a2 0)), (3, .int (Int32.ofInt (i : Int)))]) (hR1 : cRel S1 A) (hR2 : mRel S2 A) (kk : ∀ (A' S1' S2' : SS) (H1 : Heap) (locs1 : List Loc), cRel S1' A' → mRel S2' A' → va_P D vwCl (wd a1 T LX S1') H1 → va_P D vwCl (wd a2 T LM S2') H1 → va_S (fun q => s.heap.size ≤ q) s.heap H1 locs1 → W p l e room_1 s m #[Value.ref b] below meth c H1 locs1 62 6075 (lw_Z below #[Value.ref b] s) (F0 m 1682 ls [])) : W p l e room_1 s m #[Value.ref b] below meth c H locs 62 6075 (lw_Z below #[Value.ref b] s) (F0 m 241 ls []) := by
  have hm := hR1.1
  refine lv_aload_n hx hb dL_law_241 rfl (lv_at hl 1 rfl) ?_
  refine lv_aload_n hx hb dL_law_242 rfl (lv_at hl 0 rfl) ?_
  refine lv_iload_n hx hb dL_law_243 rfl (lv_at hl 3 rfl) ?_
  refine lv_iconst (v := 1) hx hb dL_law_244 (by decide) ?_
  refine lv_iadd hx hb dL_law_245 ?_
  refine va_sld hx hb hX hbl (Nat.not_le.mpr hbl) hS (lw_ix 1 hL hi (by decide) rfl) dL_law_246 ?_
  refine lw_call (L := LX) (L2 := LM) (ad := a1) (ad2 := a2) (As := [.int (xs (Int32.ofInt (i : Int) + 1).toNatClampNeg)]) (rest := []) hx hb hml hown hts hK hN hD.1 hS hD.2.2.1 (fun q h1 h2 => hD.2.2.2.2 q h2 h1) hP1 hP2 (m_X10_wipe ((xs (Int32.ofInt (i : Int) + 1).toNatClampNeg).toInt) A S1 (i32_r _) hR1) dL_law_247 mcX10_wipe miX10_wipe (tb_in 325 (by decide +kernel) rfl) hl.1 rfl (by show [Value.int (Int32.ofInt (xs (Int32.ofInt (i : Int) + 1).toNatClampNeg).toInt)] = _; simp only [i32_oi]) ⟨Nat.le_of_ble_eq_true rfl, Nat.le_of_ble_eq_true rfl⟩ clX10 rfl rfl (Nat.le_of_ble_eq_true rfl) ⟨Nat.le_of_ble_eq_true rfl, Nat.le_of_ble_eq_true rfl⟩ ?_
  rintro r S1' H locs ⟨rfl, hQ⟩ hP1 hP2 hS
  have hR1 := hQ
  obtain ⟨v1, ev1⟩ : ∃ v1 : Int, sp_wipe A ((xs (Int32.ofInt (i : Int) + 1).toNatClampNeg).toInt) = v1 := ⟨_, rfl⟩
  show W p l e room_1 s m #[Value.ref b] below meth c H locs 62 6075 (lw_Z below #[Value.ref b] s) (F0 m 250 ls [.int (Int32.ofInt (sp_wipe A ((xs (Int32.ofInt (i : Int) + 1).toNatClampNeg).toInt)))])
  rw [ev1]
  refine lv_aload_n hx hb dL_law_250 rfl (lv_at hl 2 rfl) ?_
  refine lv_aload_n hx hb dL_law_251 rfl (lv_at hl 0 rfl) ?_
  refine lv_iload_n hx hb dL_law_252 rfl (lv_at hl 3 rfl) ?_
  refine lv_iconst (v := 1) hx hb dL_law_253 (by decide) ?_
  refine lv_iadd hx hb dL_law_254 ?_
  refine va_sld hx hb hX hbl (Nat.not_le.mpr hbl) hS (lw_ix 1 hL hi (by decide) rfl) dL_law_255 ?_
  refine lw_call (L := LM) (L2 := LX) (ad := a2) (ad2 := a1) (As := [.int (xs (Int32.ofInt (i : Int) + 1).toNatClampNeg)]) (rest := [.int (Int32.ofInt v1)]) hx hb hml hown hts hK hN hD.2.1 hS hD.2.2.2.1 hD.2.2.2.2 hP2 hP1 (m_X11_wipe ((xs (Int32.ofInt (i : Int) + 1).toNatClampNeg).toInt) A S2 (i32_r _) hR2 hm) dL_law_256 mcX11_wipe miX11_wipe (tb_in 923 (by decide +kernel) rfl) hl.1 rfl (by show [Value.int (Int32.ofInt (xs (Int32.ofInt (i : Int) + 1).toNatClampNeg).toInt)] = _; simp only [i32_oi]) ⟨Nat.le_of_ble_eq_true rfl, Nat.le_of_ble_eq_true rfl⟩ clX11 rfl rfl (Nat.le_of_ble_eq_true rfl) ⟨Nat.le_of_ble_eq_true rfl, Nat.le_of_ble_eq_true rfl⟩ ?_
  rintro r S2' H locs ⟨rfl, hQ⟩ hP2 hP1 hS
  show W p l e room_1 s m #[Value.ref b] below meth c H locs 62 6075 (lw_Z below #[Value.ref b] s) (F0 m 259 ls [.int (Int32.ofInt (sp_wipe A ((xs (Int32.ofInt (i : Int) + 1).toNatClampNeg).toInt))), .int (Int32.ofInt v1)])
  rw [ev1]
  refine lv_icmp_eq (tgt := 1682) hx hb dL_law_259 (by decide) (fun _ => ?_) (fun q => absurd rfl q)
  exact kk _ _ _ _ _ hR1 hQ hP1 hP2 hS

set_option maxHeartbeats 4000000 in
set_option maxRecDepth 100000 in
theorem lw_k2 {p : Program} {l : Launch} {e : Env} {s : State} {m : MethodId} {below : List Frame} {meth : Method} {c : Code} {b L : Nat} {xs : Nat → Int32} {D : va_G} {a1 a2 : Nat → Nat} {T : zT} {A S1 S2 : SS} {i : Nat} {H : Heap} {locs : List Loc} {ls : Array Slot} (hL : L ≤ 3072) (hx : p.tables.exec = Jvm.exec) (hb : c.code = cL_law) (hml : c.maxLocals = 4) (hown : s.vm.findClass RL = some m.cls) (hts : ∀ w ∈ TB, w.before #[Value.ref b] s = true) (hK : va_K D vwCl (zTy T) s) (hN : zN s) (hX : va_X b L xs s s.heap) (hbl : b < s.heap.size) (hD : lwD s a1 a2) (hi : i + 6 ≤ L) (hS : va_S (fun q => s.heap.size ≤ q) s.heap H locs) (hP1 : va_P D vwCl (wd a1 T LX S1) H) (hP2 : va_P D vwCl (wd a2 T LM S2) H) (hl : lv_has ls 4 [(0, .ref b), (1, .ref (a1 0)), (2, .ref (a2 0)), (3, .int (Int32.ofInt (i : Int)))]) (hR1 : cRel S1 A) (hR2 : mRel S2 A) (kk : ∀ (A' S1' S2' : SS) (H1 : Heap) (locs1 : List Loc), cRel S1' A' → mRel S2' A' → va_P D vwCl (wd a1 T LX S1') H1 → va_P D vwCl (wd a2 T LM S2') H1 → va_S (fun q => s.heap.size ≤ q) s.heap H1 locs1 → W p l e room_1 s m #[Value.ref b] below meth c H1 locs1 62 6075 (lw_Z below #[Value.ref b] s) (F0 m 1682 ls [])) : W p l e room_1 s m #[Value.ref b] below meth c H locs 62 6075 (lw_Z below #[Value.ref b] s) (F0 m 264 ls []) := by
  have hm := hR1.1
  refine lv_aload_n hx hb dL_law_264 rfl (lv_at hl 1 rfl) ?_
  refine lv_aload_n hx hb dL_law_265 rfl (lv_at hl 0 rfl) ?_
  refine lv_iload_n hx hb dL_law_266 rfl (lv_at hl 3 rfl) ?_
  refine lv_iconst (v := 1) hx hb dL_law_267 (by decide) ?_
  refine lv_iadd hx hb dL_law_268 ?_
  refine va_sld hx hb hX hbl (Nat.not_le.mpr hbl) hS (lw_ix 1 hL hi (by decide) rfl) dL_law_269 ?_
  refine lw_call (L := LX) (L2 := LM) (ad := a1) (ad2 := a2) (As := [.int (xs (Int32.ofInt (i : Int) + 1).toNatClampNeg)]) (rest := []) hx hb hml hown hts hK hN hD.1 hS hD.2.2.1 (fun q h1 h2 => hD.2.2.2.2 q h2 h1) hP1 hP2 (m_X10_fault ((xs (Int32.ofInt (i : Int) + 1).toNatClampNeg).toInt) A S1 (i32_r _) hR1) dL_law_270 mcX10_fault miX10_fault (tb_in 333 (by decide +kernel) rfl) hl.1 rfl (by show [Value.int (Int32.ofInt (xs (Int32.ofInt (i : Int) + 1).toNatClampNeg).toInt)] = _; simp only [i32_oi]) ⟨Nat.le_of_ble_eq_true rfl, Nat.le_of_ble_eq_true rfl⟩ clX10 rfl rfl (Nat.le_of_ble_eq_true rfl) ⟨Nat.le_of_ble_eq_true rfl, Nat.le_of_ble_eq_true rfl⟩ ?_
  rintro r S1' H locs ⟨rfl, rfl⟩ hP1 hP2 hS
  obtain ⟨v1, ev1⟩ : ∃ v1 : Int, sp_fault A ((xs (Int32.ofInt (i : Int) + 1).toNatClampNeg).toInt) = v1 := ⟨_, rfl⟩
  show W p l e room_1 s m #[Value.ref b] below meth c H locs 62 6075 (lw_Z below #[Value.ref b] s) (F0 m 273 ls [.int (Int32.ofInt (sp_fault A ((xs (Int32.ofInt (i : Int) + 1).toNatClampNeg).toInt)))])
  rw [ev1]
  refine lv_aload_n hx hb dL_law_273 rfl (lv_at hl 2 rfl) ?_
  refine lv_aload_n hx hb dL_law_274 rfl (lv_at hl 0 rfl) ?_
  refine lv_iload_n hx hb dL_law_275 rfl (lv_at hl 3 rfl) ?_
  refine lv_iconst (v := 1) hx hb dL_law_276 (by decide) ?_
  refine lv_iadd hx hb dL_law_277 ?_
  refine va_sld hx hb hX hbl (Nat.not_le.mpr hbl) hS (lw_ix 1 hL hi (by decide) rfl) dL_law_278 ?_
  refine lw_call (L := LM) (L2 := LX) (ad := a2) (ad2 := a1) (As := [.int (xs (Int32.ofInt (i : Int) + 1).toNatClampNeg)]) (rest := [.int (Int32.ofInt v1)]) hx hb hml hown hts hK hN hD.2.1 hS hD.2.2.2.1 hD.2.2.2.2 hP2 hP1 (m_X11_fault ((xs (Int32.ofInt (i : Int) + 1).toNatClampNeg).toInt) A S2 (i32_r _) hR2 hm) dL_law_279 mcX11_fault miX11_fault (tb_in 927 (by decide +kernel) rfl) hl.1 rfl (by show [Value.int (Int32.ofInt (xs (Int32.ofInt (i : Int) + 1).toNatClampNeg).toInt)] = _; simp only [i32_oi]) ⟨Nat.le_of_ble_eq_true rfl, Nat.le_of_ble_eq_true rfl⟩ clX11 rfl rfl (Nat.le_of_ble_eq_true rfl) ⟨Nat.le_of_ble_eq_true rfl, Nat.le_of_ble_eq_true rfl⟩ ?_
  rintro r S2' H locs ⟨rfl, hQ⟩ hP2 hP1 hS
  show W p l e room_1 s m #[Value.ref b] below meth c H locs 62 6075 (lw_Z below #[Value.ref b] s) (F0 m 282 ls [.int (Int32.ofInt (sp_fault A ((xs (Int32.ofInt (i : Int) + 1).toNatClampNeg).toInt))), .int (Int32.ofInt v1)])
  rw [ev1]
  refine lv_icmp_eq (tgt := 1682) hx hb dL_law_282 (by decide) (fun _ => ?_) (fun q => absurd rfl q)
  exact kk _ _ _ _ _ hR1 hQ hP1 hP2 hS

set_option maxHeartbeats 4000000 in
set_option maxRecDepth 100000 in
theorem lw_k3 {p : Program} {l : Launch} {e : Env} {s : State} {m : MethodId} {below : List Frame} {meth : Method} {c : Code} {b L : Nat} {xs : Nat → Int32} {D : va_G} {a1 a2 : Nat → Nat} {T : zT} {A S1 S2 : SS} {i : Nat} {H : Heap} {locs : List Loc} {ls : Array Slot} (hL : L ≤ 3072) (hx : p.tables.exec = Jvm.exec) (hb : c.code = cL_law) (hml : c.maxLocals = 4) (hown : s.vm.findClass RL = some m.cls) (hts : ∀ w ∈ TB, w.before #[Value.ref b] s = true) (hK : va_K D vwCl (zTy T) s) (hN : zN s) (hX : va_X b L xs s s.heap) (hbl : b < s.heap.size) (hD : lwD s a1 a2) (hi : i + 6 ≤ L) (hS : va_S (fun q => s.heap.size ≤ q) s.heap H locs) (hP1 : va_P D vwCl (wd a1 T LX S1) H) (hP2 : va_P D vwCl (wd a2 T LM S2) H) (hl : lv_has ls 4 [(0, .ref b), (1, .ref (a1 0)), (2, .ref (a2 0)), (3, .int (Int32.ofInt (i : Int)))]) (hR1 : cRel S1 A) (hR2 : mRel S2 A) (kk : ∀ (A' S1' S2' : SS) (H1 : Heap) (locs1 : List Loc), cRel S1' A' → mRel S2' A' → va_P D vwCl (wd a1 T LX S1') H1 → va_P D vwCl (wd a2 T LM S2') H1 → va_S (fun q => s.heap.size ≤ q) s.heap H1 locs1 → W p l e room_1 s m #[Value.ref b] below meth c H1 locs1 62 6075 (lw_Z below #[Value.ref b] s) (F0 m 1682 ls [])) : W p l e room_1 s m #[Value.ref b] below meth c H locs 62 6075 (lw_Z below #[Value.ref b] s) (F0 m 287 ls []) := by
  have hm := hR1.1
  refine lv_aload_n hx hb dL_law_287 rfl (lv_at hl 1 rfl) ?_
  refine lv_aload_n hx hb dL_law_288 rfl (lv_at hl 0 rfl) ?_
  refine lv_iload_n hx hb dL_law_289 rfl (lv_at hl 3 rfl) ?_
  refine lv_iconst (v := 1) hx hb dL_law_290 (by decide) ?_
  refine lv_iadd hx hb dL_law_291 ?_
  refine va_sld hx hb hX hbl (Nat.not_le.mpr hbl) hS (lw_ix 1 hL hi (by decide) rfl) dL_law_292 ?_
  refine lv_aload_n hx hb dL_law_293 rfl (lv_at hl 0 rfl) ?_
  refine lv_iload_n hx hb dL_law_294 rfl (lv_at hl 3 rfl) ?_
  refine lv_iconst (v := 2) hx hb dL_law_295 (by decide) ?_
  refine lv_iadd hx hb dL_law_296 ?_
  refine va_sld hx hb hX hbl (Nat.not_le.mpr hbl) hS (lw_ix 2 hL hi (by decide) rfl) dL_law_297 ?_
  refine lv_aload_n hx hb dL_law_298 rfl (lv_at hl 0 rfl) ?_
  refine lv_iload_n hx hb dL_law_299 rfl (lv_at hl 3 rfl) ?_
  refine lv_iconst (v := 3) hx hb dL_law_300 (by decide) ?_
  refine lv_iadd hx hb dL_law_301 ?_
  refine va_sld hx hb hX hbl (Nat.not_le.mpr hbl) hS (lw_ix 3 hL hi (by decide) rfl) dL_law_302 ?_
  refine lw_call (L := LX) (L2 := LM) (ad := a1) (ad2 := a2) (As := [.int (xs (Int32.ofInt (i : Int) + 1).toNatClampNeg), .int (xs (Int32.ofInt (i : Int) + 2).toNatClampNeg), .int (xs (Int32.ofInt (i : Int) + 3).toNatClampNeg)]) (rest := []) hx hb hml hown hts hK hN hD.1 hS hD.2.2.1 (fun q h1 h2 => hD.2.2.2.2 q h2 h1) hP1 hP2 (m_X10_place ((xs (Int32.ofInt (i : Int) + 1).toNatClampNeg).toInt) ((xs (Int32.ofInt (i : Int) + 2).toNatClampNeg).toInt) ((xs (Int32.ofInt (i : Int) + 3).toNatClampNeg).toInt) A S1 (i32_r _) (i32_r _) (i32_r _) hR1) dL_law_303 mcX10_place miX10_place (tb_in 337 (by decide +kernel) rfl) hl.1 rfl (by show [Value.int (Int32.ofInt (xs (Int32.ofInt (i : Int) + 1).toNatClampNeg).toInt), Value.int (Int32.ofInt (xs (Int32.ofInt (i : Int) + 2).toNatClampNeg).toInt), Value.int (Int32.ofInt (xs (Int32.ofInt (i : Int) + 3).toNatClampNeg).toInt)] = _; simp only [i32_oi]) ⟨Nat.le_of_ble_eq_true rfl, Nat.le_of_ble_eq_true rfl⟩ clX10 rfl rfl (Nat.le_of_ble_eq_true rfl) ⟨Nat.le_of_ble_eq_true rfl, Nat.le_of_ble_eq_true rfl⟩ ?_
  rintro r S1' H locs ⟨rfl, rfl⟩ hP1 hP2 hS
  obtain ⟨v1, ev1⟩ : ∃ v1 : Int, sp_place A ((xs (Int32.ofInt (i : Int) + 1).toNatClampNeg).toInt) ((xs (Int32.ofInt (i : Int) + 2).toNatClampNeg).toInt) ((xs (Int32.ofInt (i : Int) + 3).toNatClampNeg).toInt) = v1 := ⟨_, rfl⟩
  show W p l e room_1 s m #[Value.ref b] below meth c H locs 62 6075 (lw_Z below #[Value.ref b] s) (F0 m 306 ls [.int (Int32.ofInt (sp_place A ((xs (Int32.ofInt (i : Int) + 1).toNatClampNeg).toInt) ((xs (Int32.ofInt (i : Int) + 2).toNatClampNeg).toInt) ((xs (Int32.ofInt (i : Int) + 3).toNatClampNeg).toInt)))])
  rw [ev1]
  refine lv_aload_n hx hb dL_law_306 rfl (lv_at hl 2 rfl) ?_
  refine lv_aload_n hx hb dL_law_307 rfl (lv_at hl 0 rfl) ?_
  refine lv_iload_n hx hb dL_law_308 rfl (lv_at hl 3 rfl) ?_
  refine lv_iconst (v := 1) hx hb dL_law_309 (by decide) ?_
  refine lv_iadd hx hb dL_law_310 ?_
  refine va_sld hx hb hX hbl (Nat.not_le.mpr hbl) hS (lw_ix 1 hL hi (by decide) rfl) dL_law_311 ?_
  refine lv_aload_n hx hb dL_law_312 rfl (lv_at hl 0 rfl) ?_
  refine lv_iload_n hx hb dL_law_313 rfl (lv_at hl 3 rfl) ?_
  refine lv_iconst (v := 2) hx hb dL_law_314 (by decide) ?_
  refine lv_iadd hx hb dL_law_315 ?_
  refine va_sld hx hb hX hbl (Nat.not_le.mpr hbl) hS (lw_ix 2 hL hi (by decide) rfl) dL_law_316 ?_
  refine lv_aload_n hx hb dL_law_317 rfl (lv_at hl 0 rfl) ?_
  refine lv_iload_n hx hb dL_law_318 rfl (lv_at hl 3 rfl) ?_
  refine lv_iconst (v := 3) hx hb dL_law_319 (by decide) ?_
  refine lv_iadd hx hb dL_law_320 ?_
  refine va_sld hx hb hX hbl (Nat.not_le.mpr hbl) hS (lw_ix 3 hL hi (by decide) rfl) dL_law_321 ?_
  refine lw_call (L := LM) (L2 := LX) (ad := a2) (ad2 := a1) (As := [.int (xs (Int32.ofInt (i : Int) + 1).toNatClampNeg), .int (xs (Int32.ofInt (i : Int) + 2).toNatClampNeg), .int (xs (Int32.ofInt (i : Int) + 3).toNatClampNeg)]) (rest := [.int (Int32.ofInt v1)]) hx hb hml hown hts hK hN hD.2.1 hS hD.2.2.2.1 hD.2.2.2.2 hP2 hP1 (m_X11_place ((xs (Int32.ofInt (i : Int) + 1).toNatClampNeg).toInt) ((xs (Int32.ofInt (i : Int) + 2).toNatClampNeg).toInt) ((xs (Int32.ofInt (i : Int) + 3).toNatClampNeg).toInt) A S2 (i32_r _) (i32_r _) (i32_r _) hR2 hm) dL_law_322 mcX11_place miX11_place (tb_in 939 (by decide +kernel) rfl) hl.1 rfl (by show [Value.int (Int32.ofInt (xs (Int32.ofInt (i : Int) + 1).toNatClampNeg).toInt), Value.int (Int32.ofInt (xs (Int32.ofInt (i : Int) + 2).toNatClampNeg).toInt), Value.int (Int32.ofInt (xs (Int32.ofInt (i : Int) + 3).toNatClampNeg).toInt)] = _; simp only [i32_oi]) ⟨Nat.le_of_ble_eq_true rfl, Nat.le_of_ble_eq_true rfl⟩ clX11 rfl rfl (Nat.le_of_ble_eq_true rfl) ⟨Nat.le_of_ble_eq_true rfl, Nat.le_of_ble_eq_true rfl⟩ ?_
  rintro r S2' H locs ⟨rfl, hQ⟩ hP2 hP1 hS
  show W p l e room_1 s m #[Value.ref b] below meth c H locs 62 6075 (lw_Z below #[Value.ref b] s) (F0 m 325 ls [.int (Int32.ofInt (sp_place A ((xs (Int32.ofInt (i : Int) + 1).toNatClampNeg).toInt) ((xs (Int32.ofInt (i : Int) + 2).toNatClampNeg).toInt) ((xs (Int32.ofInt (i : Int) + 3).toNatClampNeg).toInt))), .int (Int32.ofInt v1)])
  rw [ev1]
  refine lv_icmp_eq (tgt := 1682) hx hb dL_law_325 (by decide) (fun _ => ?_) (fun q => absurd rfl q)
  exact kk _ _ _ _ _ hR1 hQ hP1 hP2 hS

set_option maxHeartbeats 4000000 in
set_option maxRecDepth 100000 in
theorem lw_k4 {p : Program} {l : Launch} {e : Env} {s : State} {m : MethodId} {below : List Frame} {meth : Method} {c : Code} {b L : Nat} {xs : Nat → Int32} {D : va_G} {a1 a2 : Nat → Nat} {T : zT} {A S1 S2 : SS} {i : Nat} {H : Heap} {locs : List Loc} {ls : Array Slot} (hL : L ≤ 3072) (hx : p.tables.exec = Jvm.exec) (hb : c.code = cL_law) (hml : c.maxLocals = 4) (hown : s.vm.findClass RL = some m.cls) (hts : ∀ w ∈ TB, w.before #[Value.ref b] s = true) (hK : va_K D vwCl (zTy T) s) (hN : zN s) (hX : va_X b L xs s s.heap) (hbl : b < s.heap.size) (hD : lwD s a1 a2) (hi : i + 6 ≤ L) (hS : va_S (fun q => s.heap.size ≤ q) s.heap H locs) (hP1 : va_P D vwCl (wd a1 T LX S1) H) (hP2 : va_P D vwCl (wd a2 T LM S2) H) (hl : lv_has ls 4 [(0, .ref b), (1, .ref (a1 0)), (2, .ref (a2 0)), (3, .int (Int32.ofInt (i : Int)))]) (hR1 : cRel S1 A) (hR2 : mRel S2 A) (kk : ∀ (A' S1' S2' : SS) (H1 : Heap) (locs1 : List Loc), cRel S1' A' → mRel S2' A' → va_P D vwCl (wd a1 T LX S1') H1 → va_P D vwCl (wd a2 T LM S2') H1 → va_S (fun q => s.heap.size ≤ q) s.heap H1 locs1 → W p l e room_1 s m #[Value.ref b] below meth c H1 locs1 62 6075 (lw_Z below #[Value.ref b] s) (F0 m 1682 ls [])) : W p l e room_1 s m #[Value.ref b] below meth c H locs 62 6075 (lw_Z below #[Value.ref b] s) (F0 m 330 ls []) := by
  have hm := hR1.1
  refine lv_aload_n hx hb dL_law_330 rfl (lv_at hl 1 rfl) ?_
  refine lv_aload_n hx hb dL_law_331 rfl (lv_at hl 0 rfl) ?_
  refine lv_iload_n hx hb dL_law_332 rfl (lv_at hl 3 rfl) ?_
  refine lv_iconst (v := 1) hx hb dL_law_333 (by decide) ?_
  refine lv_iadd hx hb dL_law_334 ?_
  refine va_sld hx hb hX hbl (Nat.not_le.mpr hbl) hS (lw_ix 1 hL hi (by decide) rfl) dL_law_335 ?_
  refine lv_aload_n hx hb dL_law_336 rfl (lv_at hl 0 rfl) ?_
  refine lv_iload_n hx hb dL_law_337 rfl (lv_at hl 3 rfl) ?_
  refine lv_iconst (v := 2) hx hb dL_law_338 (by decide) ?_
  refine lv_iadd hx hb dL_law_339 ?_
  refine va_sld hx hb hX hbl (Nat.not_le.mpr hbl) hS (lw_ix 2 hL hi (by decide) rfl) dL_law_340 ?_
  refine lv_aload_n hx hb dL_law_341 rfl (lv_at hl 0 rfl) ?_
  refine lv_iload_n hx hb dL_law_342 rfl (lv_at hl 3 rfl) ?_
  refine lv_iconst (v := 3) hx hb dL_law_343 (by decide) ?_
  refine lv_iadd hx hb dL_law_344 ?_
  refine va_sld hx hb hX hbl (Nat.not_le.mpr hbl) hS (lw_ix 3 hL hi (by decide) rfl) dL_law_345 ?_
  refine lw_call (L := LX) (L2 := LM) (ad := a1) (ad2 := a2) (As := [.int (xs (Int32.ofInt (i : Int) + 1).toNatClampNeg), .int (xs (Int32.ofInt (i : Int) + 2).toNatClampNeg), .int (xs (Int32.ofInt (i : Int) + 3).toNatClampNeg)]) (rest := []) hx hb hml hown hts hK hN hD.1 hS hD.2.2.1 (fun q h1 h2 => hD.2.2.2.2 q h2 h1) hP1 hP2 (m_X10_step ((xs (Int32.ofInt (i : Int) + 1).toNatClampNeg).toInt) ((xs (Int32.ofInt (i : Int) + 2).toNatClampNeg).toInt) ((xs (Int32.ofInt (i : Int) + 3).toNatClampNeg).toInt) A S1 (i32_r _) (i32_r _) (i32_r _) hR1) dL_law_346 mcX10_step miX10_step (tb_in 349 (by decide +kernel) rfl) hl.1 rfl (by show [Value.int (Int32.ofInt (xs (Int32.ofInt (i : Int) + 1).toNatClampNeg).toInt), Value.int (Int32.ofInt (xs (Int32.ofInt (i : Int) + 2).toNatClampNeg).toInt), Value.int (Int32.ofInt (xs (Int32.ofInt (i : Int) + 3).toNatClampNeg).toInt)] = _; simp only [i32_oi]) ⟨Nat.le_of_ble_eq_true rfl, Nat.le_of_ble_eq_true rfl⟩ clX10 rfl rfl (Nat.le_of_ble_eq_true rfl) ⟨Nat.le_of_ble_eq_true rfl, Nat.le_of_ble_eq_true rfl⟩ ?_
  rintro r S1' H locs ⟨rfl, rfl⟩ hP1 hP2 hS
  obtain ⟨v1, ev1⟩ : ∃ v1 : Int, sp_step A ((xs (Int32.ofInt (i : Int) + 1).toNatClampNeg).toInt) ((xs (Int32.ofInt (i : Int) + 2).toNatClampNeg).toInt) ((xs (Int32.ofInt (i : Int) + 3).toNatClampNeg).toInt) = v1 := ⟨_, rfl⟩
  show W p l e room_1 s m #[Value.ref b] below meth c H locs 62 6075 (lw_Z below #[Value.ref b] s) (F0 m 349 ls [.int (Int32.ofInt (sp_step A ((xs (Int32.ofInt (i : Int) + 1).toNatClampNeg).toInt) ((xs (Int32.ofInt (i : Int) + 2).toNatClampNeg).toInt) ((xs (Int32.ofInt (i : Int) + 3).toNatClampNeg).toInt)))])
  rw [ev1]
  refine lv_aload_n hx hb dL_law_349 rfl (lv_at hl 2 rfl) ?_
  refine lv_aload_n hx hb dL_law_350 rfl (lv_at hl 0 rfl) ?_
  refine lv_iload_n hx hb dL_law_351 rfl (lv_at hl 3 rfl) ?_
  refine lv_iconst (v := 1) hx hb dL_law_352 (by decide) ?_
  refine lv_iadd hx hb dL_law_353 ?_
  refine va_sld hx hb hX hbl (Nat.not_le.mpr hbl) hS (lw_ix 1 hL hi (by decide) rfl) dL_law_354 ?_
  refine lv_aload_n hx hb dL_law_355 rfl (lv_at hl 0 rfl) ?_
  refine lv_iload_n hx hb dL_law_356 rfl (lv_at hl 3 rfl) ?_
  refine lv_iconst (v := 2) hx hb dL_law_357 (by decide) ?_
  refine lv_iadd hx hb dL_law_358 ?_
  refine va_sld hx hb hX hbl (Nat.not_le.mpr hbl) hS (lw_ix 2 hL hi (by decide) rfl) dL_law_359 ?_
  refine lv_aload_n hx hb dL_law_360 rfl (lv_at hl 0 rfl) ?_
  refine lv_iload_n hx hb dL_law_361 rfl (lv_at hl 3 rfl) ?_
  refine lv_iconst (v := 3) hx hb dL_law_362 (by decide) ?_
  refine lv_iadd hx hb dL_law_363 ?_
  refine va_sld hx hb hX hbl (Nat.not_le.mpr hbl) hS (lw_ix 3 hL hi (by decide) rfl) dL_law_364 ?_
  refine lw_call (L := LM) (L2 := LX) (ad := a2) (ad2 := a1) (As := [.int (xs (Int32.ofInt (i : Int) + 1).toNatClampNeg), .int (xs (Int32.ofInt (i : Int) + 2).toNatClampNeg), .int (xs (Int32.ofInt (i : Int) + 3).toNatClampNeg)]) (rest := [.int (Int32.ofInt v1)]) hx hb hml hown hts hK hN hD.2.1 hS hD.2.2.2.1 hD.2.2.2.2 hP2 hP1 (m_X11_step ((xs (Int32.ofInt (i : Int) + 1).toNatClampNeg).toInt) ((xs (Int32.ofInt (i : Int) + 2).toNatClampNeg).toInt) ((xs (Int32.ofInt (i : Int) + 3).toNatClampNeg).toInt) A S2 (i32_r _) (i32_r _) (i32_r _) hR2 hm) dL_law_365 mcX11_step miX11_step (tb_in 947 (by decide +kernel) rfl) hl.1 rfl (by show [Value.int (Int32.ofInt (xs (Int32.ofInt (i : Int) + 1).toNatClampNeg).toInt), Value.int (Int32.ofInt (xs (Int32.ofInt (i : Int) + 2).toNatClampNeg).toInt), Value.int (Int32.ofInt (xs (Int32.ofInt (i : Int) + 3).toNatClampNeg).toInt)] = _; simp only [i32_oi]) ⟨Nat.le_of_ble_eq_true rfl, Nat.le_of_ble_eq_true rfl⟩ clX11 rfl rfl (Nat.le_of_ble_eq_true rfl) ⟨Nat.le_of_ble_eq_true rfl, Nat.le_of_ble_eq_true rfl⟩ ?_
  rintro r S2' H locs ⟨rfl, hQ⟩ hP2 hP1 hS
  show W p l e room_1 s m #[Value.ref b] below meth c H locs 62 6075 (lw_Z below #[Value.ref b] s) (F0 m 368 ls [.int (Int32.ofInt (sp_step A ((xs (Int32.ofInt (i : Int) + 1).toNatClampNeg).toInt) ((xs (Int32.ofInt (i : Int) + 2).toNatClampNeg).toInt) ((xs (Int32.ofInt (i : Int) + 3).toNatClampNeg).toInt))), .int (Int32.ofInt v1)])
  rw [ev1]
  refine lv_icmp_eq (tgt := 1682) hx hb dL_law_368 (by decide) (fun _ => ?_) (fun q => absurd rfl q)
  exact kk _ _ _ _ _ hR1 hQ hP1 hP2 hS

set_option maxHeartbeats 4000000 in
set_option maxRecDepth 100000 in
theorem lw_k5 {p : Program} {l : Launch} {e : Env} {s : State} {m : MethodId} {below : List Frame} {meth : Method} {c : Code} {b L : Nat} {xs : Nat → Int32} {D : va_G} {a1 a2 : Nat → Nat} {T : zT} {A S1 S2 : SS} {i : Nat} {H : Heap} {locs : List Loc} {ls : Array Slot} (hL : L ≤ 3072) (hx : p.tables.exec = Jvm.exec) (hb : c.code = cL_law) (hml : c.maxLocals = 4) (hown : s.vm.findClass RL = some m.cls) (hts : ∀ w ∈ TB, w.before #[Value.ref b] s = true) (hK : va_K D vwCl (zTy T) s) (hN : zN s) (hX : va_X b L xs s s.heap) (hbl : b < s.heap.size) (hD : lwD s a1 a2) (hi : i + 6 ≤ L) (hS : va_S (fun q => s.heap.size ≤ q) s.heap H locs) (hP1 : va_P D vwCl (wd a1 T LX S1) H) (hP2 : va_P D vwCl (wd a2 T LM S2) H) (hl : lv_has ls 4 [(0, .ref b), (1, .ref (a1 0)), (2, .ref (a2 0)), (3, .int (Int32.ofInt (i : Int)))]) (hR1 : cRel S1 A) (hR2 : mRel S2 A) (kk : ∀ (A' S1' S2' : SS) (H1 : Heap) (locs1 : List Loc), cRel S1' A' → mRel S2' A' → va_P D vwCl (wd a1 T LX S1') H1 → va_P D vwCl (wd a2 T LM S2') H1 → va_S (fun q => s.heap.size ≤ q) s.heap H1 locs1 → W p l e room_1 s m #[Value.ref b] below meth c H1 locs1 62 6075 (lw_Z below #[Value.ref b] s) (F0 m 1682 ls [])) : W p l e room_1 s m #[Value.ref b] below meth c H locs 62 6075 (lw_Z below #[Value.ref b] s) (F0 m 373 ls []) := by
  have hm := hR1.1
  refine lv_aload_n hx hb dL_law_373 rfl (lv_at hl 1 rfl) ?_
  refine lv_aload_n hx hb dL_law_374 rfl (lv_at hl 0 rfl) ?_
  refine lv_iload_n hx hb dL_law_375 rfl (lv_at hl 3 rfl) ?_
  refine lv_iconst (v := 1) hx hb dL_law_376 (by decide) ?_
  refine lv_iadd hx hb dL_law_377 ?_
  refine va_sld hx hb hX hbl (Nat.not_le.mpr hbl) hS (lw_ix 1 hL hi (by decide) rfl) dL_law_378 ?_
  refine lw_call (L := LX) (L2 := LM) (ad := a1) (ad2 := a2) (As := [.int (xs (Int32.ofInt (i : Int) + 1).toNatClampNeg)]) (rest := []) hx hb hml hown hts hK hN hD.1 hS hD.2.2.1 (fun q h1 h2 => hD.2.2.2.2 q h2 h1) hP1 hP2 (m_X10_whole ((xs (Int32.ofInt (i : Int) + 1).toNatClampNeg).toInt) A S1 (i32_r _) hR1) dL_law_379 mcX10_whole miX10_whole (tb_in 364 (by decide +kernel) rfl) hl.1 rfl (by show [Value.int (Int32.ofInt (xs (Int32.ofInt (i : Int) + 1).toNatClampNeg).toInt)] = _; simp only [i32_oi]) ⟨Nat.le_of_ble_eq_true rfl, Nat.le_of_ble_eq_true rfl⟩ clX10 rfl rfl (Nat.le_of_ble_eq_true rfl) ⟨Nat.le_of_ble_eq_true rfl, Nat.le_of_ble_eq_true rfl⟩ ?_
  rintro r S1' H locs ⟨rfl, rfl⟩ hP1 hP2 hS
  obtain ⟨v1, ev1⟩ : ∃ v1 : Int, sp_whole A ((xs (Int32.ofInt (i : Int) + 1).toNatClampNeg).toInt) = v1 := ⟨_, rfl⟩
  show W p l e room_1 s m #[Value.ref b] below meth c H locs 62 6075 (lw_Z below #[Value.ref b] s) (F0 m 382 ls [.int (Int32.ofInt (sp_whole A ((xs (Int32.ofInt (i : Int) + 1).toNatClampNeg).toInt)))])
  rw [ev1]
  refine lv_aload_n hx hb dL_law_382 rfl (lv_at hl 2 rfl) ?_
  refine lv_aload_n hx hb dL_law_383 rfl (lv_at hl 0 rfl) ?_
  refine lv_iload_n hx hb dL_law_384 rfl (lv_at hl 3 rfl) ?_
  refine lv_iconst (v := 1) hx hb dL_law_385 (by decide) ?_
  refine lv_iadd hx hb dL_law_386 ?_
  refine va_sld hx hb hX hbl (Nat.not_le.mpr hbl) hS (lw_ix 1 hL hi (by decide) rfl) dL_law_387 ?_
  refine lw_call (L := LM) (L2 := LX) (ad := a2) (ad2 := a1) (As := [.int (xs (Int32.ofInt (i : Int) + 1).toNatClampNeg)]) (rest := [.int (Int32.ofInt v1)]) hx hb hml hown hts hK hN hD.2.1 hS hD.2.2.2.1 hD.2.2.2.2 hP2 hP1 (m_X11_whole ((xs (Int32.ofInt (i : Int) + 1).toNatClampNeg).toInt) A S2 (i32_r _) hR2 hm) dL_law_388 mcX11_whole miX11_whole (tb_in 962 (by decide +kernel) rfl) hl.1 rfl (by show [Value.int (Int32.ofInt (xs (Int32.ofInt (i : Int) + 1).toNatClampNeg).toInt)] = _; simp only [i32_oi]) ⟨Nat.le_of_ble_eq_true rfl, Nat.le_of_ble_eq_true rfl⟩ clX11 rfl rfl (Nat.le_of_ble_eq_true rfl) ⟨Nat.le_of_ble_eq_true rfl, Nat.le_of_ble_eq_true rfl⟩ ?_
  rintro r S2' H locs ⟨rfl, hQ⟩ hP2 hP1 hS
  show W p l e room_1 s m #[Value.ref b] below meth c H locs 62 6075 (lw_Z below #[Value.ref b] s) (F0 m 391 ls [.int (Int32.ofInt (sp_whole A ((xs (Int32.ofInt (i : Int) + 1).toNatClampNeg).toInt))), .int (Int32.ofInt v1)])
  rw [ev1]
  refine lv_icmp_eq (tgt := 1682) hx hb dL_law_391 (by decide) (fun _ => ?_) (fun q => absurd rfl q)
  exact kk _ _ _ _ _ hR1 hQ hP1 hP2 hS

set_option maxHeartbeats 4000000 in
set_option maxRecDepth 100000 in
theorem lw_k6 {p : Program} {l : Launch} {e : Env} {s : State} {m : MethodId} {below : List Frame} {meth : Method} {c : Code} {b L : Nat} {xs : Nat → Int32} {D : va_G} {a1 a2 : Nat → Nat} {T : zT} {A S1 S2 : SS} {i : Nat} {H : Heap} {locs : List Loc} {ls : Array Slot} (hL : L ≤ 3072) (hx : p.tables.exec = Jvm.exec) (hb : c.code = cL_law) (hml : c.maxLocals = 4) (hown : s.vm.findClass RL = some m.cls) (hts : ∀ w ∈ TB, w.before #[Value.ref b] s = true) (hK : va_K D vwCl (zTy T) s) (hN : zN s) (hX : va_X b L xs s s.heap) (hbl : b < s.heap.size) (hD : lwD s a1 a2) (hi : i + 6 ≤ L) (hS : va_S (fun q => s.heap.size ≤ q) s.heap H locs) (hP1 : va_P D vwCl (wd a1 T LX S1) H) (hP2 : va_P D vwCl (wd a2 T LM S2) H) (hl : lv_has ls 4 [(0, .ref b), (1, .ref (a1 0)), (2, .ref (a2 0)), (3, .int (Int32.ofInt (i : Int)))]) (hR1 : cRel S1 A) (hR2 : mRel S2 A) (kk : ∀ (A' S1' S2' : SS) (H1 : Heap) (locs1 : List Loc), cRel S1' A' → mRel S2' A' → va_P D vwCl (wd a1 T LX S1') H1 → va_P D vwCl (wd a2 T LM S2') H1 → va_S (fun q => s.heap.size ≤ q) s.heap H1 locs1 → W p l e room_1 s m #[Value.ref b] below meth c H1 locs1 62 6075 (lw_Z below #[Value.ref b] s) (F0 m 1682 ls [])) : W p l e room_1 s m #[Value.ref b] below meth c H locs 62 6075 (lw_Z below #[Value.ref b] s) (F0 m 396 ls []) := by
  have hm := hR1.1
  refine lv_aload_n hx hb dL_law_396 rfl (lv_at hl 1 rfl) ?_
  refine lv_aload_n hx hb dL_law_397 rfl (lv_at hl 0 rfl) ?_
  refine lv_iload_n hx hb dL_law_398 rfl (lv_at hl 3 rfl) ?_
  refine lv_iconst (v := 1) hx hb dL_law_399 (by decide) ?_
  refine lv_iadd hx hb dL_law_400 ?_
  refine va_sld hx hb hX hbl (Nat.not_le.mpr hbl) hS (lw_ix 1 hL hi (by decide) rfl) dL_law_401 ?_
  refine lv_aload_n hx hb dL_law_402 rfl (lv_at hl 0 rfl) ?_
  refine lv_iload_n hx hb dL_law_403 rfl (lv_at hl 3 rfl) ?_
  refine lv_iconst (v := 2) hx hb dL_law_404 (by decide) ?_
  refine lv_iadd hx hb dL_law_405 ?_
  refine va_sld hx hb hX hbl (Nat.not_le.mpr hbl) hS (lw_ix 2 hL hi (by decide) rfl) dL_law_406 ?_
  refine lw_call (L := LX) (L2 := LM) (ad := a1) (ad2 := a2) (As := [.int (xs (Int32.ofInt (i : Int) + 1).toNatClampNeg), .int (xs (Int32.ofInt (i : Int) + 2).toNatClampNeg)]) (rest := []) hx hb hml hown hts hK hN hD.1 hS hD.2.2.1 (fun q h1 h2 => hD.2.2.2.2 q h2 h1) hP1 hP2 (m_X10_set ((xs (Int32.ofInt (i : Int) + 1).toNatClampNeg).toInt) ((xs (Int32.ofInt (i : Int) + 2).toNatClampNeg).toInt) A S1 (i32_r _) (i32_r _) hR1) dL_law_407 mcX10_set miX10_set (tb_in 377 (by decide +kernel) rfl) hl.1 rfl (by show [Value.int (Int32.ofInt (xs (Int32.ofInt (i : Int) + 1).toNatClampNeg).toInt), Value.int (Int32.ofInt (xs (Int32.ofInt (i : Int) + 2).toNatClampNeg).toInt)] = _; simp only [i32_oi]) ⟨Nat.le_of_ble_eq_true rfl, Nat.le_of_ble_eq_true rfl⟩ clX10 rfl rfl (Nat.le_of_ble_eq_true rfl) ⟨Nat.le_of_ble_eq_true rfl, Nat.le_of_ble_eq_true rfl⟩ ?_
  rintro r S1' H locs ⟨rfl, hQ⟩ hP1 hP2 hS
  have hR1 := hQ
  obtain ⟨v1, ev1⟩ : ∃ v1 : Int, sp_set A ((xs (Int32.ofInt (i : Int) + 1).toNatClampNeg).toInt) ((xs (Int32.ofInt (i : Int) + 2).toNatClampNeg).toInt) = v1 := ⟨_, rfl⟩
  show W p l e room_1 s m #[Value.ref b] below meth c H locs 62 6075 (lw_Z below #[Value.ref b] s) (F0 m 410 ls [.int (Int32.ofInt (sp_set A ((xs (Int32.ofInt (i : Int) + 1).toNatClampNeg).toInt) ((xs (Int32.ofInt (i : Int) + 2).toNatClampNeg).toInt)))])
  rw [ev1]
  refine lv_aload_n hx hb dL_law_410 rfl (lv_at hl 2 rfl) ?_
  refine lv_aload_n hx hb dL_law_411 rfl (lv_at hl 0 rfl) ?_
  refine lv_iload_n hx hb dL_law_412 rfl (lv_at hl 3 rfl) ?_
  refine lv_iconst (v := 1) hx hb dL_law_413 (by decide) ?_
  refine lv_iadd hx hb dL_law_414 ?_
  refine va_sld hx hb hX hbl (Nat.not_le.mpr hbl) hS (lw_ix 1 hL hi (by decide) rfl) dL_law_415 ?_
  refine lv_aload_n hx hb dL_law_416 rfl (lv_at hl 0 rfl) ?_
  refine lv_iload_n hx hb dL_law_417 rfl (lv_at hl 3 rfl) ?_
  refine lv_iconst (v := 2) hx hb dL_law_418 (by decide) ?_
  refine lv_iadd hx hb dL_law_419 ?_
  refine va_sld hx hb hX hbl (Nat.not_le.mpr hbl) hS (lw_ix 2 hL hi (by decide) rfl) dL_law_420 ?_
  refine lw_call (L := LM) (L2 := LX) (ad := a2) (ad2 := a1) (As := [.int (xs (Int32.ofInt (i : Int) + 1).toNatClampNeg), .int (xs (Int32.ofInt (i : Int) + 2).toNatClampNeg)]) (rest := [.int (Int32.ofInt v1)]) hx hb hml hown hts hK hN hD.2.1 hS hD.2.2.2.1 hD.2.2.2.2 hP2 hP1 (m_X11_set ((xs (Int32.ofInt (i : Int) + 1).toNatClampNeg).toInt) ((xs (Int32.ofInt (i : Int) + 2).toNatClampNeg).toInt) A S2 (i32_r _) (i32_r _) hR2 hm) dL_law_421 mcX11_set miX11_set (tb_in 970 (by decide +kernel) rfl) hl.1 rfl (by show [Value.int (Int32.ofInt (xs (Int32.ofInt (i : Int) + 1).toNatClampNeg).toInt), Value.int (Int32.ofInt (xs (Int32.ofInt (i : Int) + 2).toNatClampNeg).toInt)] = _; simp only [i32_oi]) ⟨Nat.le_of_ble_eq_true rfl, Nat.le_of_ble_eq_true rfl⟩ clX11 rfl rfl (Nat.le_of_ble_eq_true rfl) ⟨Nat.le_of_ble_eq_true rfl, Nat.le_of_ble_eq_true rfl⟩ ?_
  rintro r S2' H locs ⟨rfl, hQ⟩ hP2 hP1 hS
  show W p l e room_1 s m #[Value.ref b] below meth c H locs 62 6075 (lw_Z below #[Value.ref b] s) (F0 m 424 ls [.int (Int32.ofInt (sp_set A ((xs (Int32.ofInt (i : Int) + 1).toNatClampNeg).toInt) ((xs (Int32.ofInt (i : Int) + 2).toNatClampNeg).toInt))), .int (Int32.ofInt v1)])
  rw [ev1]
  refine lv_icmp_eq (tgt := 1682) hx hb dL_law_424 (by decide) (fun _ => ?_) (fun q => absurd rfl q)
  exact kk _ _ _ _ _ hR1 hQ hP1 hP2 hS

set_option maxHeartbeats 4000000 in
set_option maxRecDepth 100000 in
theorem lw_k7 {p : Program} {l : Launch} {e : Env} {s : State} {m : MethodId} {below : List Frame} {meth : Method} {c : Code} {b L : Nat} {xs : Nat → Int32} {D : va_G} {a1 a2 : Nat → Nat} {T : zT} {A S1 S2 : SS} {i : Nat} {H : Heap} {locs : List Loc} {ls : Array Slot} (hL : L ≤ 3072) (hx : p.tables.exec = Jvm.exec) (hb : c.code = cL_law) (hml : c.maxLocals = 4) (hown : s.vm.findClass RL = some m.cls) (hts : ∀ w ∈ TB, w.before #[Value.ref b] s = true) (hK : va_K D vwCl (zTy T) s) (hN : zN s) (hX : va_X b L xs s s.heap) (hbl : b < s.heap.size) (hD : lwD s a1 a2) (hi : i + 6 ≤ L) (hS : va_S (fun q => s.heap.size ≤ q) s.heap H locs) (hP1 : va_P D vwCl (wd a1 T LX S1) H) (hP2 : va_P D vwCl (wd a2 T LM S2) H) (hl : lv_has ls 4 [(0, .ref b), (1, .ref (a1 0)), (2, .ref (a2 0)), (3, .int (Int32.ofInt (i : Int)))]) (hR1 : cRel S1 A) (hR2 : mRel S2 A) (kk : ∀ (A' S1' S2' : SS) (H1 : Heap) (locs1 : List Loc), cRel S1' A' → mRel S2' A' → va_P D vwCl (wd a1 T LX S1') H1 → va_P D vwCl (wd a2 T LM S2') H1 → va_S (fun q => s.heap.size ≤ q) s.heap H1 locs1 → W p l e room_1 s m #[Value.ref b] below meth c H1 locs1 62 6075 (lw_Z below #[Value.ref b] s) (F0 m 1682 ls [])) : W p l e room_1 s m #[Value.ref b] below meth c H locs 62 6075 (lw_Z below #[Value.ref b] s) (F0 m 429 ls []) := by
  have hm := hR1.1
  refine lv_aload_n hx hb dL_law_429 rfl (lv_at hl 1 rfl) ?_
  refine lv_aload_n hx hb dL_law_430 rfl (lv_at hl 0 rfl) ?_
  refine lv_iload_n hx hb dL_law_431 rfl (lv_at hl 3 rfl) ?_
  refine lv_iconst (v := 1) hx hb dL_law_432 (by decide) ?_
  refine lv_iadd hx hb dL_law_433 ?_
  refine va_sld hx hb hX hbl (Nat.not_le.mpr hbl) hS (lw_ix 1 hL hi (by decide) rfl) dL_law_434 ?_
  refine lv_aload_n hx hb dL_law_435 rfl (lv_at hl 0 rfl) ?_
  refine lv_iload_n hx hb dL_law_436 rfl (lv_at hl 3 rfl) ?_
  refine lv_iconst (v := 2) hx hb dL_law_437 (by decide) ?_
  refine lv_iadd hx hb dL_law_438 ?_
  refine va_sld hx hb hX hbl (Nat.not_le.mpr hbl) hS (lw_ix 2 hL hi (by decide) rfl) dL_law_439 ?_
  refine lv_aload_n hx hb dL_law_440 rfl (lv_at hl 0 rfl) ?_
  refine lv_iload_n hx hb dL_law_441 rfl (lv_at hl 3 rfl) ?_
  refine lv_iconst (v := 3) hx hb dL_law_442 (by decide) ?_
  refine lv_iadd hx hb dL_law_443 ?_
  refine va_sld hx hb hX hbl (Nat.not_le.mpr hbl) hS (lw_ix 3 hL hi (by decide) rfl) dL_law_444 ?_
  refine lw_call (L := LX) (L2 := LM) (ad := a1) (ad2 := a2) (As := [.int (xs (Int32.ofInt (i : Int) + 1).toNatClampNeg), .int (xs (Int32.ofInt (i : Int) + 2).toNatClampNeg), .int (xs (Int32.ofInt (i : Int) + 3).toNatClampNeg)]) (rest := []) hx hb hml hown hts hK hN hD.1 hS hD.2.2.1 (fun q h1 h2 => hD.2.2.2.2 q h2 h1) hP1 hP2 (m_X10_drum ((xs (Int32.ofInt (i : Int) + 1).toNatClampNeg).toInt) ((xs (Int32.ofInt (i : Int) + 2).toNatClampNeg).toInt) ((xs (Int32.ofInt (i : Int) + 3).toNatClampNeg).toInt) S1 (i32_r _) (i32_r _) (i32_r _)) dL_law_445 mcX10_drum miX10_drum (tb_in 381 (by decide +kernel) rfl) hl.1 rfl (by show [Value.int (Int32.ofInt (xs (Int32.ofInt (i : Int) + 1).toNatClampNeg).toInt), Value.int (Int32.ofInt (xs (Int32.ofInt (i : Int) + 2).toNatClampNeg).toInt), Value.int (Int32.ofInt (xs (Int32.ofInt (i : Int) + 3).toNatClampNeg).toInt)] = _; simp only [i32_oi]) ⟨Nat.le_of_ble_eq_true rfl, Nat.le_of_ble_eq_true rfl⟩ clX10 rfl rfl (Nat.le_of_ble_eq_true rfl) ⟨Nat.le_of_ble_eq_true rfl, Nat.le_of_ble_eq_true rfl⟩ ?_
  rintro r S1' H locs ⟨rfl, rfl⟩ hP1 hP2 hS
  obtain ⟨v1, ev1⟩ : ∃ v1 : Int, sp_drum ((xs (Int32.ofInt (i : Int) + 1).toNatClampNeg).toInt) ((xs (Int32.ofInt (i : Int) + 2).toNatClampNeg).toInt) ((xs (Int32.ofInt (i : Int) + 3).toNatClampNeg).toInt) = v1 := ⟨_, rfl⟩
  show W p l e room_1 s m #[Value.ref b] below meth c H locs 62 6075 (lw_Z below #[Value.ref b] s) (F0 m 448 ls [.int (Int32.ofInt (sp_drum ((xs (Int32.ofInt (i : Int) + 1).toNatClampNeg).toInt) ((xs (Int32.ofInt (i : Int) + 2).toNatClampNeg).toInt) ((xs (Int32.ofInt (i : Int) + 3).toNatClampNeg).toInt)))])
  rw [ev1]
  refine lv_aload_n hx hb dL_law_448 rfl (lv_at hl 2 rfl) ?_
  refine lv_aload_n hx hb dL_law_449 rfl (lv_at hl 0 rfl) ?_
  refine lv_iload_n hx hb dL_law_450 rfl (lv_at hl 3 rfl) ?_
  refine lv_iconst (v := 1) hx hb dL_law_451 (by decide) ?_
  refine lv_iadd hx hb dL_law_452 ?_
  refine va_sld hx hb hX hbl (Nat.not_le.mpr hbl) hS (lw_ix 1 hL hi (by decide) rfl) dL_law_453 ?_
  refine lv_aload_n hx hb dL_law_454 rfl (lv_at hl 0 rfl) ?_
  refine lv_iload_n hx hb dL_law_455 rfl (lv_at hl 3 rfl) ?_
  refine lv_iconst (v := 2) hx hb dL_law_456 (by decide) ?_
  refine lv_iadd hx hb dL_law_457 ?_
  refine va_sld hx hb hX hbl (Nat.not_le.mpr hbl) hS (lw_ix 2 hL hi (by decide) rfl) dL_law_458 ?_
  refine lv_aload_n hx hb dL_law_459 rfl (lv_at hl 0 rfl) ?_
  refine lv_iload_n hx hb dL_law_460 rfl (lv_at hl 3 rfl) ?_
  refine lv_iconst (v := 3) hx hb dL_law_461 (by decide) ?_
  refine lv_iadd hx hb dL_law_462 ?_
  refine va_sld hx hb hX hbl (Nat.not_le.mpr hbl) hS (lw_ix 3 hL hi (by decide) rfl) dL_law_463 ?_
  refine lw_call (L := LM) (L2 := LX) (ad := a2) (ad2 := a1) (As := [.int (xs (Int32.ofInt (i : Int) + 1).toNatClampNeg), .int (xs (Int32.ofInt (i : Int) + 2).toNatClampNeg), .int (xs (Int32.ofInt (i : Int) + 3).toNatClampNeg)]) (rest := [.int (Int32.ofInt v1)]) hx hb hml hown hts hK hN hD.2.1 hS hD.2.2.2.1 hD.2.2.2.2 hP2 hP1 (m_X11_drum ((xs (Int32.ofInt (i : Int) + 1).toNatClampNeg).toInt) ((xs (Int32.ofInt (i : Int) + 2).toNatClampNeg).toInt) ((xs (Int32.ofInt (i : Int) + 3).toNatClampNeg).toInt) S2 (i32_r _) (i32_r _) (i32_r _)) dL_law_464 mcX11_drum miX11_drum (tb_in 974 (by decide +kernel) rfl) hl.1 rfl (by show [Value.int (Int32.ofInt (xs (Int32.ofInt (i : Int) + 1).toNatClampNeg).toInt), Value.int (Int32.ofInt (xs (Int32.ofInt (i : Int) + 2).toNatClampNeg).toInt), Value.int (Int32.ofInt (xs (Int32.ofInt (i : Int) + 3).toNatClampNeg).toInt)] = _; simp only [i32_oi]) ⟨Nat.le_of_ble_eq_true rfl, Nat.le_of_ble_eq_true rfl⟩ clX11 rfl rfl (Nat.le_of_ble_eq_true rfl) ⟨Nat.le_of_ble_eq_true rfl, Nat.le_of_ble_eq_true rfl⟩ ?_
  rintro r S2' H locs ⟨rfl, rfl⟩ hP2 hP1 hS
  show W p l e room_1 s m #[Value.ref b] below meth c H locs 62 6075 (lw_Z below #[Value.ref b] s) (F0 m 467 ls [.int (Int32.ofInt (sp_drum ((xs (Int32.ofInt (i : Int) + 1).toNatClampNeg).toInt) ((xs (Int32.ofInt (i : Int) + 2).toNatClampNeg).toInt) ((xs (Int32.ofInt (i : Int) + 3).toNatClampNeg).toInt))), .int (Int32.ofInt v1)])
  rw [ev1]
  refine lv_icmp_eq (tgt := 1682) hx hb dL_law_467 (by decide) (fun _ => ?_) (fun q => absurd rfl q)
  exact kk _ _ _ _ _ hR1 hR2 hP1 hP2 hS

set_option maxHeartbeats 4000000 in
set_option maxRecDepth 100000 in
theorem lw_k8 {p : Program} {l : Launch} {e : Env} {s : State} {m : MethodId} {below : List Frame} {meth : Method} {c : Code} {b L : Nat} {xs : Nat → Int32} {D : va_G} {a1 a2 : Nat → Nat} {T : zT} {A S1 S2 : SS} {i : Nat} {H : Heap} {locs : List Loc} {ls : Array Slot} (hL : L ≤ 3072) (hx : p.tables.exec = Jvm.exec) (hb : c.code = cL_law) (hml : c.maxLocals = 4) (hown : s.vm.findClass RL = some m.cls) (hts : ∀ w ∈ TB, w.before #[Value.ref b] s = true) (hK : va_K D vwCl (zTy T) s) (hN : zN s) (hX : va_X b L xs s s.heap) (hbl : b < s.heap.size) (hD : lwD s a1 a2) (hi : i + 6 ≤ L) (hS : va_S (fun q => s.heap.size ≤ q) s.heap H locs) (hP1 : va_P D vwCl (wd a1 T LX S1) H) (hP2 : va_P D vwCl (wd a2 T LM S2) H) (hl : lv_has ls 4 [(0, .ref b), (1, .ref (a1 0)), (2, .ref (a2 0)), (3, .int (Int32.ofInt (i : Int)))]) (hR1 : cRel S1 A) (hR2 : mRel S2 A) (kk : ∀ (A' S1' S2' : SS) (H1 : Heap) (locs1 : List Loc), cRel S1' A' → mRel S2' A' → va_P D vwCl (wd a1 T LX S1') H1 → va_P D vwCl (wd a2 T LM S2') H1 → va_S (fun q => s.heap.size ≤ q) s.heap H1 locs1 → W p l e room_1 s m #[Value.ref b] below meth c H1 locs1 62 6075 (lw_Z below #[Value.ref b] s) (F0 m 1682 ls [])) : W p l e room_1 s m #[Value.ref b] below meth c H locs 62 6075 (lw_Z below #[Value.ref b] s) (F0 m 472 ls []) := by
  have hm := hR1.1
  refine lv_aload_n hx hb dL_law_472 rfl (lv_at hl 1 rfl) ?_
  refine lv_aload_n hx hb dL_law_473 rfl (lv_at hl 0 rfl) ?_
  refine lv_iload_n hx hb dL_law_474 rfl (lv_at hl 3 rfl) ?_
  refine lv_iconst (v := 1) hx hb dL_law_475 (by decide) ?_
  refine lv_iadd hx hb dL_law_476 ?_
  refine va_sld hx hb hX hbl (Nat.not_le.mpr hbl) hS (lw_ix 1 hL hi (by decide) rfl) dL_law_477 ?_
  refine lv_aload_n hx hb dL_law_478 rfl (lv_at hl 0 rfl) ?_
  refine lv_iload_n hx hb dL_law_479 rfl (lv_at hl 3 rfl) ?_
  refine lv_iconst (v := 2) hx hb dL_law_480 (by decide) ?_
  refine lv_iadd hx hb dL_law_481 ?_
  refine va_sld hx hb hX hbl (Nat.not_le.mpr hbl) hS (lw_ix 2 hL hi (by decide) rfl) dL_law_482 ?_
  refine lv_aload_n hx hb dL_law_483 rfl (lv_at hl 0 rfl) ?_
  refine lv_iload_n hx hb dL_law_484 rfl (lv_at hl 3 rfl) ?_
  refine lv_iconst (v := 3) hx hb dL_law_485 (by decide) ?_
  refine lv_iadd hx hb dL_law_486 ?_
  refine va_sld hx hb hX hbl (Nat.not_le.mpr hbl) hS (lw_ix 3 hL hi (by decide) rfl) dL_law_487 ?_
  refine lw_call (L := LX) (L2 := LM) (ad := a1) (ad2 := a2) (As := [.int (xs (Int32.ofInt (i : Int) + 1).toNatClampNeg), .int (xs (Int32.ofInt (i : Int) + 2).toNatClampNeg), .int (xs (Int32.ofInt (i : Int) + 3).toNatClampNeg)]) (rest := []) hx hb hml hown hts hK hN hD.1 hS hD.2.2.1 (fun q h1 h2 => hD.2.2.2.2 q h2 h1) hP1 hP2 (m_X10_drift ((xs (Int32.ofInt (i : Int) + 1).toNatClampNeg).toInt) ((xs (Int32.ofInt (i : Int) + 2).toNatClampNeg).toInt) ((xs (Int32.ofInt (i : Int) + 3).toNatClampNeg).toInt) S1 (i32_r _) (i32_r _) (i32_r _)) dL_law_488 mcX10_drift miX10_drift (tb_in 408 (by decide +kernel) rfl) hl.1 rfl (by show [Value.int (Int32.ofInt (xs (Int32.ofInt (i : Int) + 1).toNatClampNeg).toInt), Value.int (Int32.ofInt (xs (Int32.ofInt (i : Int) + 2).toNatClampNeg).toInt), Value.int (Int32.ofInt (xs (Int32.ofInt (i : Int) + 3).toNatClampNeg).toInt)] = _; simp only [i32_oi]) ⟨Nat.le_of_ble_eq_true rfl, Nat.le_of_ble_eq_true rfl⟩ clX10 rfl rfl (Nat.le_of_ble_eq_true rfl) ⟨Nat.le_of_ble_eq_true rfl, Nat.le_of_ble_eq_true rfl⟩ ?_
  rintro r S1' H locs ⟨rfl, rfl⟩ hP1 hP2 hS
  obtain ⟨v1, ev1⟩ : ∃ v1 : Int, sp_drift ((xs (Int32.ofInt (i : Int) + 1).toNatClampNeg).toInt) ((xs (Int32.ofInt (i : Int) + 2).toNatClampNeg).toInt) ((xs (Int32.ofInt (i : Int) + 3).toNatClampNeg).toInt) = v1 := ⟨_, rfl⟩
  show W p l e room_1 s m #[Value.ref b] below meth c H locs 62 6075 (lw_Z below #[Value.ref b] s) (F0 m 491 ls [.long (Int64.ofInt (sp_drift ((xs (Int32.ofInt (i : Int) + 1).toNatClampNeg).toInt) ((xs (Int32.ofInt (i : Int) + 2).toNatClampNeg).toInt) ((xs (Int32.ofInt (i : Int) + 3).toNatClampNeg).toInt)))])
  rw [ev1]
  refine lv_aload_n hx hb dL_law_491 rfl (lv_at hl 2 rfl) ?_
  refine lv_aload_n hx hb dL_law_492 rfl (lv_at hl 0 rfl) ?_
  refine lv_iload_n hx hb dL_law_493 rfl (lv_at hl 3 rfl) ?_
  refine lv_iconst (v := 1) hx hb dL_law_494 (by decide) ?_
  refine lv_iadd hx hb dL_law_495 ?_
  refine va_sld hx hb hX hbl (Nat.not_le.mpr hbl) hS (lw_ix 1 hL hi (by decide) rfl) dL_law_496 ?_
  refine lv_aload_n hx hb dL_law_497 rfl (lv_at hl 0 rfl) ?_
  refine lv_iload_n hx hb dL_law_498 rfl (lv_at hl 3 rfl) ?_
  refine lv_iconst (v := 2) hx hb dL_law_499 (by decide) ?_
  refine lv_iadd hx hb dL_law_500 ?_
  refine va_sld hx hb hX hbl (Nat.not_le.mpr hbl) hS (lw_ix 2 hL hi (by decide) rfl) dL_law_501 ?_
  refine lv_aload_n hx hb dL_law_502 rfl (lv_at hl 0 rfl) ?_
  refine lv_iload_n hx hb dL_law_503 rfl (lv_at hl 3 rfl) ?_
  refine lv_iconst (v := 3) hx hb dL_law_504 (by decide) ?_
  refine lv_iadd hx hb dL_law_505 ?_
  refine va_sld hx hb hX hbl (Nat.not_le.mpr hbl) hS (lw_ix 3 hL hi (by decide) rfl) dL_law_506 ?_
  refine lw_call (L := LM) (L2 := LX) (ad := a2) (ad2 := a1) (As := [.int (xs (Int32.ofInt (i : Int) + 1).toNatClampNeg), .int (xs (Int32.ofInt (i : Int) + 2).toNatClampNeg), .int (xs (Int32.ofInt (i : Int) + 3).toNatClampNeg)]) (rest := [.long (Int64.ofInt v1)]) hx hb hml hown hts hK hN hD.2.1 hS hD.2.2.2.1 hD.2.2.2.2 hP2 hP1 (m_X11_drift ((xs (Int32.ofInt (i : Int) + 1).toNatClampNeg).toInt) ((xs (Int32.ofInt (i : Int) + 2).toNatClampNeg).toInt) ((xs (Int32.ofInt (i : Int) + 3).toNatClampNeg).toInt) S2 (i32_r _) (i32_r _) (i32_r _)) dL_law_507 mcX11_drift miX11_drift (tb_in 987 (by decide +kernel) rfl) hl.1 rfl (by show [Value.int (Int32.ofInt (xs (Int32.ofInt (i : Int) + 1).toNatClampNeg).toInt), Value.int (Int32.ofInt (xs (Int32.ofInt (i : Int) + 2).toNatClampNeg).toInt), Value.int (Int32.ofInt (xs (Int32.ofInt (i : Int) + 3).toNatClampNeg).toInt)] = _; simp only [i32_oi]) ⟨Nat.le_of_ble_eq_true rfl, Nat.le_of_ble_eq_true rfl⟩ clX11 rfl rfl (Nat.le_of_ble_eq_true rfl) ⟨Nat.le_of_ble_eq_true rfl, Nat.le_of_ble_eq_true rfl⟩ ?_
  rintro r S2' H locs ⟨rfl, rfl⟩ hP2 hP1 hS
  show W p l e room_1 s m #[Value.ref b] below meth c H locs 62 6075 (lw_Z below #[Value.ref b] s) (F0 m 510 ls [.long (Int64.ofInt (sp_drift ((xs (Int32.ofInt (i : Int) + 1).toNatClampNeg).toInt) ((xs (Int32.ofInt (i : Int) + 2).toNatClampNeg).toInt) ((xs (Int32.ofInt (i : Int) + 3).toNatClampNeg).toInt))), .long (Int64.ofInt v1)])
  rw [ev1]
  refine W.lcmp hx hb dL_law_510 ?_
  unfold lg_cmp
  rw [if_neg (by rw [gt_iff_lt, Int64.lt_iff_toInt_lt]; omega), if_pos rfl]
  refine lv_if_eq (tgt := 1682) hx hb dL_law_511 (by decide) (fun _ => ?_) (fun q => absurd rfl q)
  exact kk _ _ _ _ _ hR1 hR2 hP1 hP2 hS

set_option maxHeartbeats 4000000 in
set_option maxRecDepth 100000 in
theorem lw_k9 {p : Program} {l : Launch} {e : Env} {s : State} {m : MethodId} {below : List Frame} {meth : Method} {c : Code} {b L : Nat} {xs : Nat → Int32} {D : va_G} {a1 a2 : Nat → Nat} {T : zT} {A S1 S2 : SS} {i : Nat} {H : Heap} {locs : List Loc} {ls : Array Slot} (hL : L ≤ 3072) (hx : p.tables.exec = Jvm.exec) (hb : c.code = cL_law) (hml : c.maxLocals = 4) (hown : s.vm.findClass RL = some m.cls) (hts : ∀ w ∈ TB, w.before #[Value.ref b] s = true) (hK : va_K D vwCl (zTy T) s) (hN : zN s) (hX : va_X b L xs s s.heap) (hbl : b < s.heap.size) (hD : lwD s a1 a2) (hi : i + 6 ≤ L) (hS : va_S (fun q => s.heap.size ≤ q) s.heap H locs) (hP1 : va_P D vwCl (wd a1 T LX S1) H) (hP2 : va_P D vwCl (wd a2 T LM S2) H) (hl : lv_has ls 4 [(0, .ref b), (1, .ref (a1 0)), (2, .ref (a2 0)), (3, .int (Int32.ofInt (i : Int)))]) (hR1 : cRel S1 A) (hR2 : mRel S2 A) (kk : ∀ (A' S1' S2' : SS) (H1 : Heap) (locs1 : List Loc), cRel S1' A' → mRel S2' A' → va_P D vwCl (wd a1 T LX S1') H1 → va_P D vwCl (wd a2 T LM S2') H1 → va_S (fun q => s.heap.size ≤ q) s.heap H1 locs1 → W p l e room_1 s m #[Value.ref b] below meth c H1 locs1 62 6075 (lw_Z below #[Value.ref b] s) (F0 m 1682 ls [])) : W p l e room_1 s m #[Value.ref b] below meth c H locs 62 6075 (lw_Z below #[Value.ref b] s) (F0 m 516 ls []) := by
  have hm := hR1.1
  refine lv_aload_n hx hb dL_law_516 rfl (lv_at hl 1 rfl) ?_
  refine lv_aload_n hx hb dL_law_517 rfl (lv_at hl 0 rfl) ?_
  refine lv_iload_n hx hb dL_law_518 rfl (lv_at hl 3 rfl) ?_
  refine lv_iconst (v := 1) hx hb dL_law_519 (by decide) ?_
  refine lv_iadd hx hb dL_law_520 ?_
  refine va_sld hx hb hX hbl (Nat.not_le.mpr hbl) hS (lw_ix 1 hL hi (by decide) rfl) dL_law_521 ?_
  refine lv_aload_n hx hb dL_law_522 rfl (lv_at hl 0 rfl) ?_
  refine lv_iload_n hx hb dL_law_523 rfl (lv_at hl 3 rfl) ?_
  refine lv_iconst (v := 2) hx hb dL_law_524 (by decide) ?_
  refine lv_iadd hx hb dL_law_525 ?_
  refine va_sld hx hb hX hbl (Nat.not_le.mpr hbl) hS (lw_ix 2 hL hi (by decide) rfl) dL_law_526 ?_
  refine lv_aload_n hx hb dL_law_527 rfl (lv_at hl 0 rfl) ?_
  refine lv_iload_n hx hb dL_law_528 rfl (lv_at hl 3 rfl) ?_
  refine lv_iconst (v := 3) hx hb dL_law_529 (by decide) ?_
  refine lv_iadd hx hb dL_law_530 ?_
  refine va_sld hx hb hX hbl (Nat.not_le.mpr hbl) hS (lw_ix 3 hL hi (by decide) rfl) dL_law_531 ?_
  refine lw_call (L := LX) (L2 := LM) (ad := a1) (ad2 := a2) (As := [.int (xs (Int32.ofInt (i : Int) + 1).toNatClampNeg), .int (xs (Int32.ofInt (i : Int) + 2).toNatClampNeg), .int (xs (Int32.ofInt (i : Int) + 3).toNatClampNeg)]) (rest := []) hx hb hml hown hts hK hN hD.1 hS hD.2.2.1 (fun q h1 h2 => hD.2.2.2.2 q h2 h1) hP1 hP2 (m_X10_seen ((xs (Int32.ofInt (i : Int) + 1).toNatClampNeg).toInt) ((xs (Int32.ofInt (i : Int) + 2).toNatClampNeg).toInt) ((xs (Int32.ofInt (i : Int) + 3).toNatClampNeg).toInt) A S1 (i32_r _) (i32_r _) (i32_r _) hR1) dL_law_532 mcX10_seen miX10_seen (tb_in 424 (by decide +kernel) rfl) hl.1 rfl (by show [Value.int (Int32.ofInt (xs (Int32.ofInt (i : Int) + 1).toNatClampNeg).toInt), Value.int (Int32.ofInt (xs (Int32.ofInt (i : Int) + 2).toNatClampNeg).toInt), Value.int (Int32.ofInt (xs (Int32.ofInt (i : Int) + 3).toNatClampNeg).toInt)] = _; simp only [i32_oi]) ⟨Nat.le_of_ble_eq_true rfl, Nat.le_of_ble_eq_true rfl⟩ clX10 rfl rfl (Nat.le_of_ble_eq_true rfl) ⟨Nat.le_of_ble_eq_true rfl, Nat.le_of_ble_eq_true rfl⟩ ?_
  rintro r S1' H locs ⟨rfl, rfl⟩ hP1 hP2 hS
  obtain ⟨v1, ev1⟩ : ∃ v1 : Int, sp_seen A ((xs (Int32.ofInt (i : Int) + 1).toNatClampNeg).toInt) ((xs (Int32.ofInt (i : Int) + 2).toNatClampNeg).toInt) ((xs (Int32.ofInt (i : Int) + 3).toNatClampNeg).toInt) = v1 := ⟨_, rfl⟩
  show W p l e room_1 s m #[Value.ref b] below meth c H locs 62 6075 (lw_Z below #[Value.ref b] s) (F0 m 535 ls [.int (Int32.ofInt (sp_seen A ((xs (Int32.ofInt (i : Int) + 1).toNatClampNeg).toInt) ((xs (Int32.ofInt (i : Int) + 2).toNatClampNeg).toInt) ((xs (Int32.ofInt (i : Int) + 3).toNatClampNeg).toInt)))])
  rw [ev1]
  refine lv_aload_n hx hb dL_law_535 rfl (lv_at hl 2 rfl) ?_
  refine lv_aload_n hx hb dL_law_536 rfl (lv_at hl 0 rfl) ?_
  refine lv_iload_n hx hb dL_law_537 rfl (lv_at hl 3 rfl) ?_
  refine lv_iconst (v := 1) hx hb dL_law_538 (by decide) ?_
  refine lv_iadd hx hb dL_law_539 ?_
  refine va_sld hx hb hX hbl (Nat.not_le.mpr hbl) hS (lw_ix 1 hL hi (by decide) rfl) dL_law_540 ?_
  refine lv_aload_n hx hb dL_law_541 rfl (lv_at hl 0 rfl) ?_
  refine lv_iload_n hx hb dL_law_542 rfl (lv_at hl 3 rfl) ?_
  refine lv_iconst (v := 2) hx hb dL_law_543 (by decide) ?_
  refine lv_iadd hx hb dL_law_544 ?_
  refine va_sld hx hb hX hbl (Nat.not_le.mpr hbl) hS (lw_ix 2 hL hi (by decide) rfl) dL_law_545 ?_
  refine lv_aload_n hx hb dL_law_546 rfl (lv_at hl 0 rfl) ?_
  refine lv_iload_n hx hb dL_law_547 rfl (lv_at hl 3 rfl) ?_
  refine lv_iconst (v := 3) hx hb dL_law_548 (by decide) ?_
  refine lv_iadd hx hb dL_law_549 ?_
  refine va_sld hx hb hX hbl (Nat.not_le.mpr hbl) hS (lw_ix 3 hL hi (by decide) rfl) dL_law_550 ?_
  refine lw_call (L := LM) (L2 := LX) (ad := a2) (ad2 := a1) (As := [.int (xs (Int32.ofInt (i : Int) + 1).toNatClampNeg), .int (xs (Int32.ofInt (i : Int) + 2).toNatClampNeg), .int (xs (Int32.ofInt (i : Int) + 3).toNatClampNeg)]) (rest := [.int (Int32.ofInt v1)]) hx hb hml hown hts hK hN hD.2.1 hS hD.2.2.2.1 hD.2.2.2.2 hP2 hP1 (m_X11_seen ((xs (Int32.ofInt (i : Int) + 1).toNatClampNeg).toInt) ((xs (Int32.ofInt (i : Int) + 2).toNatClampNeg).toInt) ((xs (Int32.ofInt (i : Int) + 3).toNatClampNeg).toInt) A S2 (i32_r _) (i32_r _) (i32_r _) hR2 hm) dL_law_551 mcX11_seen miX11_seen (tb_in 1001 (by decide +kernel) rfl) hl.1 rfl (by show [Value.int (Int32.ofInt (xs (Int32.ofInt (i : Int) + 1).toNatClampNeg).toInt), Value.int (Int32.ofInt (xs (Int32.ofInt (i : Int) + 2).toNatClampNeg).toInt), Value.int (Int32.ofInt (xs (Int32.ofInt (i : Int) + 3).toNatClampNeg).toInt)] = _; simp only [i32_oi]) ⟨Nat.le_of_ble_eq_true rfl, Nat.le_of_ble_eq_true rfl⟩ clX11 rfl rfl (Nat.le_of_ble_eq_true rfl) ⟨Nat.le_of_ble_eq_true rfl, Nat.le_of_ble_eq_true rfl⟩ ?_
  rintro r S2' H locs ⟨rfl, hQ⟩ hP2 hP1 hS
  show W p l e room_1 s m #[Value.ref b] below meth c H locs 62 6075 (lw_Z below #[Value.ref b] s) (F0 m 554 ls [.int (Int32.ofInt (sp_seen A ((xs (Int32.ofInt (i : Int) + 1).toNatClampNeg).toInt) ((xs (Int32.ofInt (i : Int) + 2).toNatClampNeg).toInt) ((xs (Int32.ofInt (i : Int) + 3).toNatClampNeg).toInt))), .int (Int32.ofInt v1)])
  rw [ev1]
  refine lv_icmp_eq (tgt := 1682) hx hb dL_law_554 (by decide) (fun _ => ?_) (fun q => absurd rfl q)
  exact kk _ _ _ _ _ hR1 hQ hP1 hP2 hS

set_option maxHeartbeats 4000000 in
set_option maxRecDepth 100000 in
theorem lw_k10 {p : Program} {l : Launch} {e : Env} {s : State} {m : MethodId} {below : List Frame} {meth : Method} {c : Code} {b L : Nat} {xs : Nat → Int32} {D : va_G} {a1 a2 : Nat → Nat} {T : zT} {A S1 S2 : SS} {i : Nat} {H : Heap} {locs : List Loc} {ls : Array Slot} (hL : L ≤ 3072) (hx : p.tables.exec = Jvm.exec) (hb : c.code = cL_law) (hml : c.maxLocals = 4) (hown : s.vm.findClass RL = some m.cls) (hts : ∀ w ∈ TB, w.before #[Value.ref b] s = true) (hK : va_K D vwCl (zTy T) s) (hN : zN s) (hX : va_X b L xs s s.heap) (hbl : b < s.heap.size) (hD : lwD s a1 a2) (hi : i + 6 ≤ L) (hS : va_S (fun q => s.heap.size ≤ q) s.heap H locs) (hP1 : va_P D vwCl (wd a1 T LX S1) H) (hP2 : va_P D vwCl (wd a2 T LM S2) H) (hl : lv_has ls 4 [(0, .ref b), (1, .ref (a1 0)), (2, .ref (a2 0)), (3, .int (Int32.ofInt (i : Int)))]) (hR1 : cRel S1 A) (hR2 : mRel S2 A) (kk : ∀ (A' S1' S2' : SS) (H1 : Heap) (locs1 : List Loc), cRel S1' A' → mRel S2' A' → va_P D vwCl (wd a1 T LX S1') H1 → va_P D vwCl (wd a2 T LM S2') H1 → va_S (fun q => s.heap.size ≤ q) s.heap H1 locs1 → W p l e room_1 s m #[Value.ref b] below meth c H1 locs1 62 6075 (lw_Z below #[Value.ref b] s) (F0 m 1682 ls [])) : W p l e room_1 s m #[Value.ref b] below meth c H locs 62 6075 (lw_Z below #[Value.ref b] s) (F0 m 559 ls []) := by
  have hm := hR1.1
  refine lv_aload_n hx hb dL_law_559 rfl (lv_at hl 1 rfl) ?_
  refine lv_aload_n hx hb dL_law_560 rfl (lv_at hl 0 rfl) ?_
  refine lv_iload_n hx hb dL_law_561 rfl (lv_at hl 3 rfl) ?_
  refine lv_iconst (v := 1) hx hb dL_law_562 (by decide) ?_
  refine lv_iadd hx hb dL_law_563 ?_
  refine va_sld hx hb hX hbl (Nat.not_le.mpr hbl) hS (lw_ix 1 hL hi (by decide) rfl) dL_law_564 ?_
  refine lv_aload_n hx hb dL_law_565 rfl (lv_at hl 0 rfl) ?_
  refine lv_iload_n hx hb dL_law_566 rfl (lv_at hl 3 rfl) ?_
  refine lv_iconst (v := 2) hx hb dL_law_567 (by decide) ?_
  refine lv_iadd hx hb dL_law_568 ?_
  refine va_sld hx hb hX hbl (Nat.not_le.mpr hbl) hS (lw_ix 2 hL hi (by decide) rfl) dL_law_569 ?_
  refine lv_aload_n hx hb dL_law_570 rfl (lv_at hl 0 rfl) ?_
  refine lv_iload_n hx hb dL_law_571 rfl (lv_at hl 3 rfl) ?_
  refine lv_iconst (v := 3) hx hb dL_law_572 (by decide) ?_
  refine lv_iadd hx hb dL_law_573 ?_
  refine va_sld hx hb hX hbl (Nat.not_le.mpr hbl) hS (lw_ix 3 hL hi (by decide) rfl) dL_law_574 ?_
  refine lw_call (L := LX) (L2 := LM) (ad := a1) (ad2 := a2) (As := [.int (xs (Int32.ofInt (i : Int) + 1).toNatClampNeg), .int (xs (Int32.ofInt (i : Int) + 2).toNatClampNeg), .int (xs (Int32.ofInt (i : Int) + 3).toNatClampNeg)]) (rest := []) hx hb hml hown hts hK hN hD.1 hS hD.2.2.1 (fun q h1 h2 => hD.2.2.2.2 q h2 h1) hP1 hP2 (m_X10_numbers ((xs (Int32.ofInt (i : Int) + 1).toNatClampNeg).toInt) ((xs (Int32.ofInt (i : Int) + 2).toNatClampNeg).toInt) ((xs (Int32.ofInt (i : Int) + 3).toNatClampNeg).toInt) S1 (i32_r _) (i32_r _) (i32_r _)) dL_law_575 mcX10_numbers miX10_numbers (tb_in 433 (by decide +kernel) rfl) hl.1 rfl (by show [Value.int (Int32.ofInt (xs (Int32.ofInt (i : Int) + 1).toNatClampNeg).toInt), Value.int (Int32.ofInt (xs (Int32.ofInt (i : Int) + 2).toNatClampNeg).toInt), Value.int (Int32.ofInt (xs (Int32.ofInt (i : Int) + 3).toNatClampNeg).toInt)] = _; simp only [i32_oi]) ⟨Nat.le_of_ble_eq_true rfl, Nat.le_of_ble_eq_true rfl⟩ clX10 rfl rfl (Nat.le_of_ble_eq_true rfl) ⟨Nat.le_of_ble_eq_true rfl, Nat.le_of_ble_eq_true rfl⟩ ?_
  rintro r S1' H locs ⟨rfl, rfl⟩ hP1 hP2 hS
  obtain ⟨v1, ev1⟩ : ∃ v1 : Int, sp_numbers ((xs (Int32.ofInt (i : Int) + 1).toNatClampNeg).toInt) ((xs (Int32.ofInt (i : Int) + 2).toNatClampNeg).toInt) ((xs (Int32.ofInt (i : Int) + 3).toNatClampNeg).toInt) = v1 := ⟨_, rfl⟩
  show W p l e room_1 s m #[Value.ref b] below meth c H locs 62 6075 (lw_Z below #[Value.ref b] s) (F0 m 578 ls [.int (Int32.ofInt (sp_numbers ((xs (Int32.ofInt (i : Int) + 1).toNatClampNeg).toInt) ((xs (Int32.ofInt (i : Int) + 2).toNatClampNeg).toInt) ((xs (Int32.ofInt (i : Int) + 3).toNatClampNeg).toInt)))])
  rw [ev1]
  refine lv_aload_n hx hb dL_law_578 rfl (lv_at hl 2 rfl) ?_
  refine lv_aload_n hx hb dL_law_579 rfl (lv_at hl 0 rfl) ?_
  refine lv_iload_n hx hb dL_law_580 rfl (lv_at hl 3 rfl) ?_
  refine lv_iconst (v := 1) hx hb dL_law_581 (by decide) ?_
  refine lv_iadd hx hb dL_law_582 ?_
  refine va_sld hx hb hX hbl (Nat.not_le.mpr hbl) hS (lw_ix 1 hL hi (by decide) rfl) dL_law_583 ?_
  refine lv_aload_n hx hb dL_law_584 rfl (lv_at hl 0 rfl) ?_
  refine lv_iload_n hx hb dL_law_585 rfl (lv_at hl 3 rfl) ?_
  refine lv_iconst (v := 2) hx hb dL_law_586 (by decide) ?_
  refine lv_iadd hx hb dL_law_587 ?_
  refine va_sld hx hb hX hbl (Nat.not_le.mpr hbl) hS (lw_ix 2 hL hi (by decide) rfl) dL_law_588 ?_
  refine lv_aload_n hx hb dL_law_589 rfl (lv_at hl 0 rfl) ?_
  refine lv_iload_n hx hb dL_law_590 rfl (lv_at hl 3 rfl) ?_
  refine lv_iconst (v := 3) hx hb dL_law_591 (by decide) ?_
  refine lv_iadd hx hb dL_law_592 ?_
  refine va_sld hx hb hX hbl (Nat.not_le.mpr hbl) hS (lw_ix 3 hL hi (by decide) rfl) dL_law_593 ?_
  refine lw_call (L := LM) (L2 := LX) (ad := a2) (ad2 := a1) (As := [.int (xs (Int32.ofInt (i : Int) + 1).toNatClampNeg), .int (xs (Int32.ofInt (i : Int) + 2).toNatClampNeg), .int (xs (Int32.ofInt (i : Int) + 3).toNatClampNeg)]) (rest := [.int (Int32.ofInt v1)]) hx hb hml hown hts hK hN hD.2.1 hS hD.2.2.2.1 hD.2.2.2.2 hP2 hP1 (m_X11_numbers ((xs (Int32.ofInt (i : Int) + 1).toNatClampNeg).toInt) ((xs (Int32.ofInt (i : Int) + 2).toNatClampNeg).toInt) ((xs (Int32.ofInt (i : Int) + 3).toNatClampNeg).toInt) S2 (i32_r _) (i32_r _) (i32_r _)) dL_law_594 mcX11_numbers miX11_numbers (tb_in 1009 (by decide +kernel) rfl) hl.1 rfl (by show [Value.int (Int32.ofInt (xs (Int32.ofInt (i : Int) + 1).toNatClampNeg).toInt), Value.int (Int32.ofInt (xs (Int32.ofInt (i : Int) + 2).toNatClampNeg).toInt), Value.int (Int32.ofInt (xs (Int32.ofInt (i : Int) + 3).toNatClampNeg).toInt)] = _; simp only [i32_oi]) ⟨Nat.le_of_ble_eq_true rfl, Nat.le_of_ble_eq_true rfl⟩ clX11 rfl rfl (Nat.le_of_ble_eq_true rfl) ⟨Nat.le_of_ble_eq_true rfl, Nat.le_of_ble_eq_true rfl⟩ ?_
  rintro r S2' H locs ⟨rfl, rfl⟩ hP2 hP1 hS
  show W p l e room_1 s m #[Value.ref b] below meth c H locs 62 6075 (lw_Z below #[Value.ref b] s) (F0 m 597 ls [.int (Int32.ofInt (sp_numbers ((xs (Int32.ofInt (i : Int) + 1).toNatClampNeg).toInt) ((xs (Int32.ofInt (i : Int) + 2).toNatClampNeg).toInt) ((xs (Int32.ofInt (i : Int) + 3).toNatClampNeg).toInt))), .int (Int32.ofInt v1)])
  rw [ev1]
  refine lv_icmp_eq (tgt := 1682) hx hb dL_law_597 (by decide) (fun _ => ?_) (fun q => absurd rfl q)
  exact kk _ _ _ _ _ hR1 hR2 hP1 hP2 hS

set_option maxHeartbeats 4000000 in
set_option maxRecDepth 100000 in
theorem lw_k11 {p : Program} {l : Launch} {e : Env} {s : State} {m : MethodId} {below : List Frame} {meth : Method} {c : Code} {b L : Nat} {xs : Nat → Int32} {D : va_G} {a1 a2 : Nat → Nat} {T : zT} {A S1 S2 : SS} {i : Nat} {H : Heap} {locs : List Loc} {ls : Array Slot} (hL : L ≤ 3072) (hx : p.tables.exec = Jvm.exec) (hb : c.code = cL_law) (hml : c.maxLocals = 4) (hown : s.vm.findClass RL = some m.cls) (hts : ∀ w ∈ TB, w.before #[Value.ref b] s = true) (hK : va_K D vwCl (zTy T) s) (hN : zN s) (hX : va_X b L xs s s.heap) (hbl : b < s.heap.size) (hD : lwD s a1 a2) (hi : i + 6 ≤ L) (hS : va_S (fun q => s.heap.size ≤ q) s.heap H locs) (hP1 : va_P D vwCl (wd a1 T LX S1) H) (hP2 : va_P D vwCl (wd a2 T LM S2) H) (hl : lv_has ls 4 [(0, .ref b), (1, .ref (a1 0)), (2, .ref (a2 0)), (3, .int (Int32.ofInt (i : Int)))]) (hR1 : cRel S1 A) (hR2 : mRel S2 A) (kk : ∀ (A' S1' S2' : SS) (H1 : Heap) (locs1 : List Loc), cRel S1' A' → mRel S2' A' → va_P D vwCl (wd a1 T LX S1') H1 → va_P D vwCl (wd a2 T LM S2') H1 → va_S (fun q => s.heap.size ≤ q) s.heap H1 locs1 → W p l e room_1 s m #[Value.ref b] below meth c H1 locs1 62 6075 (lw_Z below #[Value.ref b] s) (F0 m 1682 ls [])) : W p l e room_1 s m #[Value.ref b] below meth c H locs 62 6075 (lw_Z below #[Value.ref b] s) (F0 m 602 ls []) := by
  have hm := hR1.1
  refine lv_aload_n hx hb dL_law_602 rfl (lv_at hl 1 rfl) ?_
  refine lv_aload_n hx hb dL_law_603 rfl (lv_at hl 0 rfl) ?_
  refine lv_iload_n hx hb dL_law_604 rfl (lv_at hl 3 rfl) ?_
  refine lv_iconst (v := 1) hx hb dL_law_605 (by decide) ?_
  refine lv_iadd hx hb dL_law_606 ?_
  refine va_sld hx hb hX hbl (Nat.not_le.mpr hbl) hS (lw_ix 1 hL hi (by decide) rfl) dL_law_607 ?_
  refine lv_aload_n hx hb dL_law_608 rfl (lv_at hl 0 rfl) ?_
  refine lv_iload_n hx hb dL_law_609 rfl (lv_at hl 3 rfl) ?_
  refine lv_iconst (v := 2) hx hb dL_law_610 (by decide) ?_
  refine lv_iadd hx hb dL_law_611 ?_
  refine va_sld hx hb hX hbl (Nat.not_le.mpr hbl) hS (lw_ix 2 hL hi (by decide) rfl) dL_law_612 ?_
  refine lv_aload_n hx hb dL_law_613 rfl (lv_at hl 0 rfl) ?_
  refine lv_iload_n hx hb dL_law_614 rfl (lv_at hl 3 rfl) ?_
  refine lv_iconst (v := 3) hx hb dL_law_615 (by decide) ?_
  refine lv_iadd hx hb dL_law_616 ?_
  refine va_sld hx hb hX hbl (Nat.not_le.mpr hbl) hS (lw_ix 3 hL hi (by decide) rfl) dL_law_617 ?_
  refine lv_aload_n hx hb dL_law_618 rfl (lv_at hl 0 rfl) ?_
  refine lv_iload_n hx hb dL_law_619 rfl (lv_at hl 3 rfl) ?_
  refine lv_iconst (v := 4) hx hb dL_law_620 (by decide) ?_
  refine lv_iadd hx hb dL_law_621 ?_
  refine va_sld hx hb hX hbl (Nat.not_le.mpr hbl) hS (lw_ix 4 hL hi (by decide) rfl) dL_law_622 ?_
  refine lw_call (L := LX) (L2 := LM) (ad := a1) (ad2 := a2) (As := [.int (xs (Int32.ofInt (i : Int) + 1).toNatClampNeg), .int (xs (Int32.ofInt (i : Int) + 2).toNatClampNeg), .int (xs (Int32.ofInt (i : Int) + 3).toNatClampNeg), .int (xs (Int32.ofInt (i : Int) + 4).toNatClampNeg)]) (rest := []) hx hb hml hown hts hK hN hD.1 hS hD.2.2.1 (fun q h1 h2 => hD.2.2.2.2 q h2 h1) hP1 hP2 (m_X10_wheel ((xs (Int32.ofInt (i : Int) + 1).toNatClampNeg).toInt) ((xs (Int32.ofInt (i : Int) + 2).toNatClampNeg).toInt) ((xs (Int32.ofInt (i : Int) + 3).toNatClampNeg).toInt) ((xs (Int32.ofInt (i : Int) + 4).toNatClampNeg).toInt) S1 (i32_r _) (i32_r _) (i32_r _) (i32_r _)) dL_law_623 mcX10_wheel miX10_wheel (tb_in 441 (by decide +kernel) rfl) hl.1 rfl (by show [Value.int (Int32.ofInt (xs (Int32.ofInt (i : Int) + 1).toNatClampNeg).toInt), Value.int (Int32.ofInt (xs (Int32.ofInt (i : Int) + 2).toNatClampNeg).toInt), Value.int (Int32.ofInt (xs (Int32.ofInt (i : Int) + 3).toNatClampNeg).toInt), Value.int (Int32.ofInt (xs (Int32.ofInt (i : Int) + 4).toNatClampNeg).toInt)] = _; simp only [i32_oi]) ⟨Nat.le_of_ble_eq_true rfl, Nat.le_of_ble_eq_true rfl⟩ clX10 rfl rfl (Nat.le_of_ble_eq_true rfl) ⟨Nat.le_of_ble_eq_true rfl, Nat.le_of_ble_eq_true rfl⟩ ?_
  rintro r S1' H locs ⟨rfl, rfl⟩ hP1 hP2 hS
  obtain ⟨v1, ev1⟩ : ∃ v1 : Int, sp_wheel ((xs (Int32.ofInt (i : Int) + 1).toNatClampNeg).toInt) ((xs (Int32.ofInt (i : Int) + 2).toNatClampNeg).toInt) ((xs (Int32.ofInt (i : Int) + 3).toNatClampNeg).toInt) ((xs (Int32.ofInt (i : Int) + 4).toNatClampNeg).toInt) = v1 := ⟨_, rfl⟩
  show W p l e room_1 s m #[Value.ref b] below meth c H locs 62 6075 (lw_Z below #[Value.ref b] s) (F0 m 626 ls [.long (Int64.ofInt (sp_wheel ((xs (Int32.ofInt (i : Int) + 1).toNatClampNeg).toInt) ((xs (Int32.ofInt (i : Int) + 2).toNatClampNeg).toInt) ((xs (Int32.ofInt (i : Int) + 3).toNatClampNeg).toInt) ((xs (Int32.ofInt (i : Int) + 4).toNatClampNeg).toInt)))])
  rw [ev1]
  refine lv_aload_n hx hb dL_law_626 rfl (lv_at hl 2 rfl) ?_
  refine lv_aload_n hx hb dL_law_627 rfl (lv_at hl 0 rfl) ?_
  refine lv_iload_n hx hb dL_law_628 rfl (lv_at hl 3 rfl) ?_
  refine lv_iconst (v := 1) hx hb dL_law_629 (by decide) ?_
  refine lv_iadd hx hb dL_law_630 ?_
  refine va_sld hx hb hX hbl (Nat.not_le.mpr hbl) hS (lw_ix 1 hL hi (by decide) rfl) dL_law_631 ?_
  refine lv_aload_n hx hb dL_law_632 rfl (lv_at hl 0 rfl) ?_
  refine lv_iload_n hx hb dL_law_633 rfl (lv_at hl 3 rfl) ?_
  refine lv_iconst (v := 2) hx hb dL_law_634 (by decide) ?_
  refine lv_iadd hx hb dL_law_635 ?_
  refine va_sld hx hb hX hbl (Nat.not_le.mpr hbl) hS (lw_ix 2 hL hi (by decide) rfl) dL_law_636 ?_
  refine lv_aload_n hx hb dL_law_637 rfl (lv_at hl 0 rfl) ?_
  refine lv_iload_n hx hb dL_law_638 rfl (lv_at hl 3 rfl) ?_
  refine lv_iconst (v := 3) hx hb dL_law_639 (by decide) ?_
  refine lv_iadd hx hb dL_law_640 ?_
  refine va_sld hx hb hX hbl (Nat.not_le.mpr hbl) hS (lw_ix 3 hL hi (by decide) rfl) dL_law_641 ?_
  refine lv_aload_n hx hb dL_law_642 rfl (lv_at hl 0 rfl) ?_
  refine lv_iload_n hx hb dL_law_643 rfl (lv_at hl 3 rfl) ?_
  refine lv_iconst (v := 4) hx hb dL_law_644 (by decide) ?_
  refine lv_iadd hx hb dL_law_645 ?_
  refine va_sld hx hb hX hbl (Nat.not_le.mpr hbl) hS (lw_ix 4 hL hi (by decide) rfl) dL_law_646 ?_
  refine lw_call (L := LM) (L2 := LX) (ad := a2) (ad2 := a1) (As := [.int (xs (Int32.ofInt (i : Int) + 1).toNatClampNeg), .int (xs (Int32.ofInt (i : Int) + 2).toNatClampNeg), .int (xs (Int32.ofInt (i : Int) + 3).toNatClampNeg), .int (xs (Int32.ofInt (i : Int) + 4).toNatClampNeg)]) (rest := [.long (Int64.ofInt v1)]) hx hb hml hown hts hK hN hD.2.1 hS hD.2.2.2.1 hD.2.2.2.2 hP2 hP1 (m_X11_wheel ((xs (Int32.ofInt (i : Int) + 1).toNatClampNeg).toInt) ((xs (Int32.ofInt (i : Int) + 2).toNatClampNeg).toInt) ((xs (Int32.ofInt (i : Int) + 3).toNatClampNeg).toInt) ((xs (Int32.ofInt (i : Int) + 4).toNatClampNeg).toInt) S2 (i32_r _) (i32_r _) (i32_r _) (i32_r _)) dL_law_647 mcX11_wheel miX11_wheel (tb_in 1016 (by decide +kernel) rfl) hl.1 rfl (by show [Value.int (Int32.ofInt (xs (Int32.ofInt (i : Int) + 1).toNatClampNeg).toInt), Value.int (Int32.ofInt (xs (Int32.ofInt (i : Int) + 2).toNatClampNeg).toInt), Value.int (Int32.ofInt (xs (Int32.ofInt (i : Int) + 3).toNatClampNeg).toInt), Value.int (Int32.ofInt (xs (Int32.ofInt (i : Int) + 4).toNatClampNeg).toInt)] = _; simp only [i32_oi]) ⟨Nat.le_of_ble_eq_true rfl, Nat.le_of_ble_eq_true rfl⟩ clX11 rfl rfl (Nat.le_of_ble_eq_true rfl) ⟨Nat.le_of_ble_eq_true rfl, Nat.le_of_ble_eq_true rfl⟩ ?_
  rintro r S2' H locs ⟨rfl, rfl⟩ hP2 hP1 hS
  show W p l e room_1 s m #[Value.ref b] below meth c H locs 62 6075 (lw_Z below #[Value.ref b] s) (F0 m 650 ls [.long (Int64.ofInt (sp_wheel ((xs (Int32.ofInt (i : Int) + 1).toNatClampNeg).toInt) ((xs (Int32.ofInt (i : Int) + 2).toNatClampNeg).toInt) ((xs (Int32.ofInt (i : Int) + 3).toNatClampNeg).toInt) ((xs (Int32.ofInt (i : Int) + 4).toNatClampNeg).toInt))), .long (Int64.ofInt v1)])
  rw [ev1]
  refine W.lcmp hx hb dL_law_650 ?_
  unfold lg_cmp
  rw [if_neg (by rw [gt_iff_lt, Int64.lt_iff_toInt_lt]; omega), if_pos rfl]
  refine lv_if_eq (tgt := 1682) hx hb dL_law_651 (by decide) (fun _ => ?_) (fun q => absurd rfl q)
  exact kk _ _ _ _ _ hR1 hR2 hP1 hP2 hS

set_option maxHeartbeats 4000000 in
set_option maxRecDepth 100000 in
theorem lw_k12 {p : Program} {l : Launch} {e : Env} {s : State} {m : MethodId} {below : List Frame} {meth : Method} {c : Code} {b L : Nat} {xs : Nat → Int32} {D : va_G} {a1 a2 : Nat → Nat} {T : zT} {A S1 S2 : SS} {i : Nat} {H : Heap} {locs : List Loc} {ls : Array Slot} (hL : L ≤ 3072) (hx : p.tables.exec = Jvm.exec) (hb : c.code = cL_law) (hml : c.maxLocals = 4) (hown : s.vm.findClass RL = some m.cls) (hts : ∀ w ∈ TB, w.before #[Value.ref b] s = true) (hK : va_K D vwCl (zTy T) s) (hN : zN s) (hX : va_X b L xs s s.heap) (hbl : b < s.heap.size) (hD : lwD s a1 a2) (hi : i + 6 ≤ L) (hS : va_S (fun q => s.heap.size ≤ q) s.heap H locs) (hP1 : va_P D vwCl (wd a1 T LX S1) H) (hP2 : va_P D vwCl (wd a2 T LM S2) H) (hl : lv_has ls 4 [(0, .ref b), (1, .ref (a1 0)), (2, .ref (a2 0)), (3, .int (Int32.ofInt (i : Int)))]) (hR1 : cRel S1 A) (hR2 : mRel S2 A) (kk : ∀ (A' S1' S2' : SS) (H1 : Heap) (locs1 : List Loc), cRel S1' A' → mRel S2' A' → va_P D vwCl (wd a1 T LX S1') H1 → va_P D vwCl (wd a2 T LM S2') H1 → va_S (fun q => s.heap.size ≤ q) s.heap H1 locs1 → W p l e room_1 s m #[Value.ref b] below meth c H1 locs1 62 6075 (lw_Z below #[Value.ref b] s) (F0 m 1682 ls [])) : W p l e room_1 s m #[Value.ref b] below meth c H locs 62 6075 (lw_Z below #[Value.ref b] s) (F0 m 656 ls []) := by
  have hm := hR1.1
  refine lv_aload_n hx hb dL_law_656 rfl (lv_at hl 1 rfl) ?_
  refine lv_aload_n hx hb dL_law_657 rfl (lv_at hl 0 rfl) ?_
  refine lv_iload_n hx hb dL_law_658 rfl (lv_at hl 3 rfl) ?_
  refine lv_iconst (v := 1) hx hb dL_law_659 (by decide) ?_
  refine lv_iadd hx hb dL_law_660 ?_
  refine va_sld hx hb hX hbl (Nat.not_le.mpr hbl) hS (lw_ix 1 hL hi (by decide) rfl) dL_law_661 ?_
  refine lv_aload_n hx hb dL_law_662 rfl (lv_at hl 0 rfl) ?_
  refine lv_iload_n hx hb dL_law_663 rfl (lv_at hl 3 rfl) ?_
  refine lv_iconst (v := 2) hx hb dL_law_664 (by decide) ?_
  refine lv_iadd hx hb dL_law_665 ?_
  refine va_sld hx hb hX hbl (Nat.not_le.mpr hbl) hS (lw_ix 2 hL hi (by decide) rfl) dL_law_666 ?_
  refine lv_aload_n hx hb dL_law_667 rfl (lv_at hl 0 rfl) ?_
  refine lv_iload_n hx hb dL_law_668 rfl (lv_at hl 3 rfl) ?_
  refine lv_iconst (v := 3) hx hb dL_law_669 (by decide) ?_
  refine lv_iadd hx hb dL_law_670 ?_
  refine va_sld hx hb hX hbl (Nat.not_le.mpr hbl) hS (lw_ix 3 hL hi (by decide) rfl) dL_law_671 ?_
  refine lv_aload_n hx hb dL_law_672 rfl (lv_at hl 0 rfl) ?_
  refine lv_iload_n hx hb dL_law_673 rfl (lv_at hl 3 rfl) ?_
  refine lv_iconst (v := 4) hx hb dL_law_674 (by decide) ?_
  refine lv_iadd hx hb dL_law_675 ?_
  refine va_sld hx hb hX hbl (Nat.not_le.mpr hbl) hS (lw_ix 4 hL hi (by decide) rfl) dL_law_676 ?_
  refine lv_aload_n hx hb dL_law_677 rfl (lv_at hl 0 rfl) ?_
  refine lv_iload_n hx hb dL_law_678 rfl (lv_at hl 3 rfl) ?_
  refine lv_iconst (v := 5) hx hb dL_law_679 (by decide) ?_
  refine lv_iadd hx hb dL_law_680 ?_
  refine va_sld hx hb hX hbl (Nat.not_le.mpr hbl) hS (lw_ix 5 hL hi (by decide) rfl) dL_law_681 ?_
  refine lw_call (L := LX) (L2 := LM) (ad := a1) (ad2 := a2) (As := [.int (xs (Int32.ofInt (i : Int) + 1).toNatClampNeg), .int (xs (Int32.ofInt (i : Int) + 2).toNatClampNeg), .int (xs (Int32.ofInt (i : Int) + 3).toNatClampNeg), .int (xs (Int32.ofInt (i : Int) + 4).toNatClampNeg), .int (xs (Int32.ofInt (i : Int) + 5).toNatClampNeg)]) (rest := []) hx hb hml hown hts hK hN hD.1 hS hD.2.2.1 (fun q h1 h2 => hD.2.2.2.2 q h2 h1) hP1 hP2 (m_X10_fits ((xs (Int32.ofInt (i : Int) + 1).toNatClampNeg).toInt) ((xs (Int32.ofInt (i : Int) + 2).toNatClampNeg).toInt) ((xs (Int32.ofInt (i : Int) + 3).toNatClampNeg).toInt) ((xs (Int32.ofInt (i : Int) + 4).toNatClampNeg).toInt) ((xs (Int32.ofInt (i : Int) + 5).toNatClampNeg).toInt) S1 (i32_r _) (i32_r _) (i32_r _) (i32_r _) (i32_r _)) dL_law_682 mcX10_fits miX10_fits (tb_in 457 (by decide +kernel) rfl) hl.1 rfl (by show [Value.int (Int32.ofInt (xs (Int32.ofInt (i : Int) + 1).toNatClampNeg).toInt), Value.int (Int32.ofInt (xs (Int32.ofInt (i : Int) + 2).toNatClampNeg).toInt), Value.int (Int32.ofInt (xs (Int32.ofInt (i : Int) + 3).toNatClampNeg).toInt), Value.int (Int32.ofInt (xs (Int32.ofInt (i : Int) + 4).toNatClampNeg).toInt), Value.int (Int32.ofInt (xs (Int32.ofInt (i : Int) + 5).toNatClampNeg).toInt)] = _; simp only [i32_oi]) ⟨Nat.le_of_ble_eq_true rfl, Nat.le_of_ble_eq_true rfl⟩ clX10 rfl rfl (Nat.le_of_ble_eq_true rfl) ⟨Nat.le_of_ble_eq_true rfl, Nat.le_of_ble_eq_true rfl⟩ ?_
  rintro r S1' H locs ⟨rfl, rfl⟩ hP1 hP2 hS
  obtain ⟨v1, ev1⟩ : ∃ v1 : Int, sp_fits ((xs (Int32.ofInt (i : Int) + 1).toNatClampNeg).toInt) ((xs (Int32.ofInt (i : Int) + 2).toNatClampNeg).toInt) ((xs (Int32.ofInt (i : Int) + 3).toNatClampNeg).toInt) ((xs (Int32.ofInt (i : Int) + 4).toNatClampNeg).toInt) ((xs (Int32.ofInt (i : Int) + 5).toNatClampNeg).toInt) = v1 := ⟨_, rfl⟩
  show W p l e room_1 s m #[Value.ref b] below meth c H locs 62 6075 (lw_Z below #[Value.ref b] s) (F0 m 685 ls [.int (Int32.ofInt (sp_fits ((xs (Int32.ofInt (i : Int) + 1).toNatClampNeg).toInt) ((xs (Int32.ofInt (i : Int) + 2).toNatClampNeg).toInt) ((xs (Int32.ofInt (i : Int) + 3).toNatClampNeg).toInt) ((xs (Int32.ofInt (i : Int) + 4).toNatClampNeg).toInt) ((xs (Int32.ofInt (i : Int) + 5).toNatClampNeg).toInt)))])
  rw [ev1]
  refine lv_aload_n hx hb dL_law_685 rfl (lv_at hl 2 rfl) ?_
  refine lv_aload_n hx hb dL_law_686 rfl (lv_at hl 0 rfl) ?_
  refine lv_iload_n hx hb dL_law_687 rfl (lv_at hl 3 rfl) ?_
  refine lv_iconst (v := 1) hx hb dL_law_688 (by decide) ?_
  refine lv_iadd hx hb dL_law_689 ?_
  refine va_sld hx hb hX hbl (Nat.not_le.mpr hbl) hS (lw_ix 1 hL hi (by decide) rfl) dL_law_690 ?_
  refine lv_aload_n hx hb dL_law_691 rfl (lv_at hl 0 rfl) ?_
  refine lv_iload_n hx hb dL_law_692 rfl (lv_at hl 3 rfl) ?_
  refine lv_iconst (v := 2) hx hb dL_law_693 (by decide) ?_
  refine lv_iadd hx hb dL_law_694 ?_
  refine va_sld hx hb hX hbl (Nat.not_le.mpr hbl) hS (lw_ix 2 hL hi (by decide) rfl) dL_law_695 ?_
  refine lv_aload_n hx hb dL_law_696 rfl (lv_at hl 0 rfl) ?_
  refine lv_iload_n hx hb dL_law_697 rfl (lv_at hl 3 rfl) ?_
  refine lv_iconst (v := 3) hx hb dL_law_698 (by decide) ?_
  refine lv_iadd hx hb dL_law_699 ?_
  refine va_sld hx hb hX hbl (Nat.not_le.mpr hbl) hS (lw_ix 3 hL hi (by decide) rfl) dL_law_700 ?_
  refine lv_aload_n hx hb dL_law_701 rfl (lv_at hl 0 rfl) ?_
  refine lv_iload_n hx hb dL_law_702 rfl (lv_at hl 3 rfl) ?_
  refine lv_iconst (v := 4) hx hb dL_law_703 (by decide) ?_
  refine lv_iadd hx hb dL_law_704 ?_
  refine va_sld hx hb hX hbl (Nat.not_le.mpr hbl) hS (lw_ix 4 hL hi (by decide) rfl) dL_law_705 ?_
  refine lv_aload_n hx hb dL_law_706 rfl (lv_at hl 0 rfl) ?_
  refine lv_iload_n hx hb dL_law_707 rfl (lv_at hl 3 rfl) ?_
  refine lv_iconst (v := 5) hx hb dL_law_708 (by decide) ?_
  refine lv_iadd hx hb dL_law_709 ?_
  refine va_sld hx hb hX hbl (Nat.not_le.mpr hbl) hS (lw_ix 5 hL hi (by decide) rfl) dL_law_710 ?_
  refine lw_call (L := LM) (L2 := LX) (ad := a2) (ad2 := a1) (As := [.int (xs (Int32.ofInt (i : Int) + 1).toNatClampNeg), .int (xs (Int32.ofInt (i : Int) + 2).toNatClampNeg), .int (xs (Int32.ofInt (i : Int) + 3).toNatClampNeg), .int (xs (Int32.ofInt (i : Int) + 4).toNatClampNeg), .int (xs (Int32.ofInt (i : Int) + 5).toNatClampNeg)]) (rest := [.int (Int32.ofInt v1)]) hx hb hml hown hts hK hN hD.2.1 hS hD.2.2.2.1 hD.2.2.2.2 hP2 hP1 (m_X11_fits ((xs (Int32.ofInt (i : Int) + 1).toNatClampNeg).toInt) ((xs (Int32.ofInt (i : Int) + 2).toNatClampNeg).toInt) ((xs (Int32.ofInt (i : Int) + 3).toNatClampNeg).toInt) ((xs (Int32.ofInt (i : Int) + 4).toNatClampNeg).toInt) ((xs (Int32.ofInt (i : Int) + 5).toNatClampNeg).toInt) S2 (i32_r _) (i32_r _) (i32_r _) (i32_r _) (i32_r _)) dL_law_711 mcX11_fits miX11_fits (tb_in 1023 (by decide +kernel) rfl) hl.1 rfl (by show [Value.int (Int32.ofInt (xs (Int32.ofInt (i : Int) + 1).toNatClampNeg).toInt), Value.int (Int32.ofInt (xs (Int32.ofInt (i : Int) + 2).toNatClampNeg).toInt), Value.int (Int32.ofInt (xs (Int32.ofInt (i : Int) + 3).toNatClampNeg).toInt), Value.int (Int32.ofInt (xs (Int32.ofInt (i : Int) + 4).toNatClampNeg).toInt), Value.int (Int32.ofInt (xs (Int32.ofInt (i : Int) + 5).toNatClampNeg).toInt)] = _; simp only [i32_oi]) ⟨Nat.le_of_ble_eq_true rfl, Nat.le_of_ble_eq_true rfl⟩ clX11 rfl rfl (Nat.le_of_ble_eq_true rfl) ⟨Nat.le_of_ble_eq_true rfl, Nat.le_of_ble_eq_true rfl⟩ ?_
  rintro r S2' H locs ⟨rfl, rfl⟩ hP2 hP1 hS
  show W p l e room_1 s m #[Value.ref b] below meth c H locs 62 6075 (lw_Z below #[Value.ref b] s) (F0 m 714 ls [.int (Int32.ofInt (sp_fits ((xs (Int32.ofInt (i : Int) + 1).toNatClampNeg).toInt) ((xs (Int32.ofInt (i : Int) + 2).toNatClampNeg).toInt) ((xs (Int32.ofInt (i : Int) + 3).toNatClampNeg).toInt) ((xs (Int32.ofInt (i : Int) + 4).toNatClampNeg).toInt) ((xs (Int32.ofInt (i : Int) + 5).toNatClampNeg).toInt))), .int (Int32.ofInt v1)])
  rw [ev1]
  refine lv_icmp_eq (tgt := 1682) hx hb dL_law_714 (by decide) (fun _ => ?_) (fun q => absurd rfl q)
  exact kk _ _ _ _ _ hR1 hR2 hP1 hP2 hS

set_option maxHeartbeats 4000000 in
set_option maxRecDepth 100000 in
theorem lw_k13 {p : Program} {l : Launch} {e : Env} {s : State} {m : MethodId} {below : List Frame} {meth : Method} {c : Code} {b L : Nat} {xs : Nat → Int32} {D : va_G} {a1 a2 : Nat → Nat} {T : zT} {A S1 S2 : SS} {i : Nat} {H : Heap} {locs : List Loc} {ls : Array Slot} (hL : L ≤ 3072) (hx : p.tables.exec = Jvm.exec) (hb : c.code = cL_law) (hml : c.maxLocals = 4) (hown : s.vm.findClass RL = some m.cls) (hts : ∀ w ∈ TB, w.before #[Value.ref b] s = true) (hK : va_K D vwCl (zTy T) s) (hN : zN s) (hX : va_X b L xs s s.heap) (hbl : b < s.heap.size) (hD : lwD s a1 a2) (hi : i + 6 ≤ L) (hS : va_S (fun q => s.heap.size ≤ q) s.heap H locs) (hP1 : va_P D vwCl (wd a1 T LX S1) H) (hP2 : va_P D vwCl (wd a2 T LM S2) H) (hl : lv_has ls 4 [(0, .ref b), (1, .ref (a1 0)), (2, .ref (a2 0)), (3, .int (Int32.ofInt (i : Int)))]) (hR1 : cRel S1 A) (hR2 : mRel S2 A) (kk : ∀ (A' S1' S2' : SS) (H1 : Heap) (locs1 : List Loc), cRel S1' A' → mRel S2' A' → va_P D vwCl (wd a1 T LX S1') H1 → va_P D vwCl (wd a2 T LM S2') H1 → va_S (fun q => s.heap.size ≤ q) s.heap H1 locs1 → W p l e room_1 s m #[Value.ref b] below meth c H1 locs1 62 6075 (lw_Z below #[Value.ref b] s) (F0 m 1682 ls [])) : W p l e room_1 s m #[Value.ref b] below meth c H locs 62 6075 (lw_Z below #[Value.ref b] s) (F0 m 719 ls []) := by
  have hm := hR1.1
  refine lv_aload_n hx hb dL_law_719 rfl (lv_at hl 1 rfl) ?_
  refine lv_aload_n hx hb dL_law_720 rfl (lv_at hl 0 rfl) ?_
  refine lv_iload_n hx hb dL_law_721 rfl (lv_at hl 3 rfl) ?_
  refine lv_iconst (v := 1) hx hb dL_law_722 (by decide) ?_
  refine lv_iadd hx hb dL_law_723 ?_
  refine va_sld hx hb hX hbl (Nat.not_le.mpr hbl) hS (lw_ix 1 hL hi (by decide) rfl) dL_law_724 ?_
  refine lv_aload_n hx hb dL_law_725 rfl (lv_at hl 0 rfl) ?_
  refine lv_iload_n hx hb dL_law_726 rfl (lv_at hl 3 rfl) ?_
  refine lv_iconst (v := 2) hx hb dL_law_727 (by decide) ?_
  refine lv_iadd hx hb dL_law_728 ?_
  refine va_sld hx hb hX hbl (Nat.not_le.mpr hbl) hS (lw_ix 2 hL hi (by decide) rfl) dL_law_729 ?_
  refine lv_aload_n hx hb dL_law_730 rfl (lv_at hl 0 rfl) ?_
  refine lv_iload_n hx hb dL_law_731 rfl (lv_at hl 3 rfl) ?_
  refine lv_iconst (v := 3) hx hb dL_law_732 (by decide) ?_
  refine lv_iadd hx hb dL_law_733 ?_
  refine va_sld hx hb hX hbl (Nat.not_le.mpr hbl) hS (lw_ix 3 hL hi (by decide) rfl) dL_law_734 ?_
  refine lv_aload_n hx hb dL_law_735 rfl (lv_at hl 0 rfl) ?_
  refine lv_iload_n hx hb dL_law_736 rfl (lv_at hl 3 rfl) ?_
  refine lv_iconst (v := 4) hx hb dL_law_737 (by decide) ?_
  refine lv_iadd hx hb dL_law_738 ?_
  refine va_sld hx hb hX hbl (Nat.not_le.mpr hbl) hS (lw_ix 4 hL hi (by decide) rfl) dL_law_739 ?_
  refine lv_aload_n hx hb dL_law_740 rfl (lv_at hl 0 rfl) ?_
  refine lv_iload_n hx hb dL_law_741 rfl (lv_at hl 3 rfl) ?_
  refine lv_iconst (v := 5) hx hb dL_law_742 (by decide) ?_
  refine lv_iadd hx hb dL_law_743 ?_
  refine va_sld hx hb hX hbl (Nat.not_le.mpr hbl) hS (lw_ix 5 hL hi (by decide) rfl) dL_law_744 ?_
  refine lw_call (L := LX) (L2 := LM) (ad := a1) (ad2 := a2) (As := [.int (xs (Int32.ofInt (i : Int) + 1).toNatClampNeg), .int (xs (Int32.ofInt (i : Int) + 2).toNatClampNeg), .int (xs (Int32.ofInt (i : Int) + 3).toNatClampNeg), .int (xs (Int32.ofInt (i : Int) + 4).toNatClampNeg), .int (xs (Int32.ofInt (i : Int) + 5).toNatClampNeg)]) (rest := []) hx hb hml hown hts hK hN hD.1 hS hD.2.2.1 (fun q h1 h2 => hD.2.2.2.2 q h2 h1) hP1 hP2 (m_X10_upTo ((xs (Int32.ofInt (i : Int) + 1).toNatClampNeg).toInt) ((xs (Int32.ofInt (i : Int) + 2).toNatClampNeg).toInt) ((xs (Int32.ofInt (i : Int) + 3).toNatClampNeg).toInt) ((xs (Int32.ofInt (i : Int) + 4).toNatClampNeg).toInt) ((xs (Int32.ofInt (i : Int) + 5).toNatClampNeg).toInt) S1 (i32_r _) (i32_r _) (i32_r _) (i32_r _) (i32_r _)) dL_law_745 mcX10_upTo miX10_upTo (tb_in 477 (by decide +kernel) rfl) hl.1 rfl (by show [Value.int (Int32.ofInt (xs (Int32.ofInt (i : Int) + 1).toNatClampNeg).toInt), Value.int (Int32.ofInt (xs (Int32.ofInt (i : Int) + 2).toNatClampNeg).toInt), Value.int (Int32.ofInt (xs (Int32.ofInt (i : Int) + 3).toNatClampNeg).toInt), Value.int (Int32.ofInt (xs (Int32.ofInt (i : Int) + 4).toNatClampNeg).toInt), Value.int (Int32.ofInt (xs (Int32.ofInt (i : Int) + 5).toNatClampNeg).toInt)] = _; simp only [i32_oi]) ⟨Nat.le_of_ble_eq_true rfl, Nat.le_of_ble_eq_true rfl⟩ clX10 rfl rfl (Nat.le_of_ble_eq_true rfl) ⟨Nat.le_of_ble_eq_true rfl, Nat.le_of_ble_eq_true rfl⟩ ?_
  rintro r S1' H locs ⟨rfl, rfl⟩ hP1 hP2 hS
  obtain ⟨v1, ev1⟩ : ∃ v1 : Int, sp_upTo ((xs (Int32.ofInt (i : Int) + 1).toNatClampNeg).toInt) ((xs (Int32.ofInt (i : Int) + 2).toNatClampNeg).toInt) ((xs (Int32.ofInt (i : Int) + 3).toNatClampNeg).toInt) ((xs (Int32.ofInt (i : Int) + 4).toNatClampNeg).toInt) ((xs (Int32.ofInt (i : Int) + 5).toNatClampNeg).toInt) = v1 := ⟨_, rfl⟩
  show W p l e room_1 s m #[Value.ref b] below meth c H locs 62 6075 (lw_Z below #[Value.ref b] s) (F0 m 748 ls [.int (Int32.ofInt (sp_upTo ((xs (Int32.ofInt (i : Int) + 1).toNatClampNeg).toInt) ((xs (Int32.ofInt (i : Int) + 2).toNatClampNeg).toInt) ((xs (Int32.ofInt (i : Int) + 3).toNatClampNeg).toInt) ((xs (Int32.ofInt (i : Int) + 4).toNatClampNeg).toInt) ((xs (Int32.ofInt (i : Int) + 5).toNatClampNeg).toInt)))])
  rw [ev1]
  refine lv_aload_n hx hb dL_law_748 rfl (lv_at hl 2 rfl) ?_
  refine lv_aload_n hx hb dL_law_749 rfl (lv_at hl 0 rfl) ?_
  refine lv_iload_n hx hb dL_law_750 rfl (lv_at hl 3 rfl) ?_
  refine lv_iconst (v := 1) hx hb dL_law_751 (by decide) ?_
  refine lv_iadd hx hb dL_law_752 ?_
  refine va_sld hx hb hX hbl (Nat.not_le.mpr hbl) hS (lw_ix 1 hL hi (by decide) rfl) dL_law_753 ?_
  refine lv_aload_n hx hb dL_law_754 rfl (lv_at hl 0 rfl) ?_
  refine lv_iload_n hx hb dL_law_755 rfl (lv_at hl 3 rfl) ?_
  refine lv_iconst (v := 2) hx hb dL_law_756 (by decide) ?_
  refine lv_iadd hx hb dL_law_757 ?_
  refine va_sld hx hb hX hbl (Nat.not_le.mpr hbl) hS (lw_ix 2 hL hi (by decide) rfl) dL_law_758 ?_
  refine lv_aload_n hx hb dL_law_759 rfl (lv_at hl 0 rfl) ?_
  refine lv_iload_n hx hb dL_law_760 rfl (lv_at hl 3 rfl) ?_
  refine lv_iconst (v := 3) hx hb dL_law_761 (by decide) ?_
  refine lv_iadd hx hb dL_law_762 ?_
  refine va_sld hx hb hX hbl (Nat.not_le.mpr hbl) hS (lw_ix 3 hL hi (by decide) rfl) dL_law_763 ?_
  refine lv_aload_n hx hb dL_law_764 rfl (lv_at hl 0 rfl) ?_
  refine lv_iload_n hx hb dL_law_765 rfl (lv_at hl 3 rfl) ?_
  refine lv_iconst (v := 4) hx hb dL_law_766 (by decide) ?_
  refine lv_iadd hx hb dL_law_767 ?_
  refine va_sld hx hb hX hbl (Nat.not_le.mpr hbl) hS (lw_ix 4 hL hi (by decide) rfl) dL_law_768 ?_
  refine lv_aload_n hx hb dL_law_769 rfl (lv_at hl 0 rfl) ?_
  refine lv_iload_n hx hb dL_law_770 rfl (lv_at hl 3 rfl) ?_
  refine lv_iconst (v := 5) hx hb dL_law_771 (by decide) ?_
  refine lv_iadd hx hb dL_law_772 ?_
  refine va_sld hx hb hX hbl (Nat.not_le.mpr hbl) hS (lw_ix 5 hL hi (by decide) rfl) dL_law_773 ?_
  refine lw_call (L := LM) (L2 := LX) (ad := a2) (ad2 := a1) (As := [.int (xs (Int32.ofInt (i : Int) + 1).toNatClampNeg), .int (xs (Int32.ofInt (i : Int) + 2).toNatClampNeg), .int (xs (Int32.ofInt (i : Int) + 3).toNatClampNeg), .int (xs (Int32.ofInt (i : Int) + 4).toNatClampNeg), .int (xs (Int32.ofInt (i : Int) + 5).toNatClampNeg)]) (rest := [.int (Int32.ofInt v1)]) hx hb hml hown hts hK hN hD.2.1 hS hD.2.2.2.1 hD.2.2.2.2 hP2 hP1 (m_X11_upTo ((xs (Int32.ofInt (i : Int) + 1).toNatClampNeg).toInt) ((xs (Int32.ofInt (i : Int) + 2).toNatClampNeg).toInt) ((xs (Int32.ofInt (i : Int) + 3).toNatClampNeg).toInt) ((xs (Int32.ofInt (i : Int) + 4).toNatClampNeg).toInt) ((xs (Int32.ofInt (i : Int) + 5).toNatClampNeg).toInt) S2 (i32_r _) (i32_r _) (i32_r _) (i32_r _) (i32_r _)) dL_law_774 mcX11_upTo miX11_upTo (tb_in 1030 (by decide +kernel) rfl) hl.1 rfl (by show [Value.int (Int32.ofInt (xs (Int32.ofInt (i : Int) + 1).toNatClampNeg).toInt), Value.int (Int32.ofInt (xs (Int32.ofInt (i : Int) + 2).toNatClampNeg).toInt), Value.int (Int32.ofInt (xs (Int32.ofInt (i : Int) + 3).toNatClampNeg).toInt), Value.int (Int32.ofInt (xs (Int32.ofInt (i : Int) + 4).toNatClampNeg).toInt), Value.int (Int32.ofInt (xs (Int32.ofInt (i : Int) + 5).toNatClampNeg).toInt)] = _; simp only [i32_oi]) ⟨Nat.le_of_ble_eq_true rfl, Nat.le_of_ble_eq_true rfl⟩ clX11 rfl rfl (Nat.le_of_ble_eq_true rfl) ⟨Nat.le_of_ble_eq_true rfl, Nat.le_of_ble_eq_true rfl⟩ ?_
  rintro r S2' H locs ⟨rfl, rfl⟩ hP2 hP1 hS
  show W p l e room_1 s m #[Value.ref b] below meth c H locs 62 6075 (lw_Z below #[Value.ref b] s) (F0 m 777 ls [.int (Int32.ofInt (sp_upTo ((xs (Int32.ofInt (i : Int) + 1).toNatClampNeg).toInt) ((xs (Int32.ofInt (i : Int) + 2).toNatClampNeg).toInt) ((xs (Int32.ofInt (i : Int) + 3).toNatClampNeg).toInt) ((xs (Int32.ofInt (i : Int) + 4).toNatClampNeg).toInt) ((xs (Int32.ofInt (i : Int) + 5).toNatClampNeg).toInt))), .int (Int32.ofInt v1)])
  rw [ev1]
  refine lv_icmp_eq (tgt := 1682) hx hb dL_law_777 (by decide) (fun _ => ?_) (fun q => absurd rfl q)
  exact kk _ _ _ _ _ hR1 hR2 hP1 hP2 hS

set_option maxHeartbeats 4000000 in
set_option maxRecDepth 100000 in
theorem lw_k14 {p : Program} {l : Launch} {e : Env} {s : State} {m : MethodId} {below : List Frame} {meth : Method} {c : Code} {b L : Nat} {xs : Nat → Int32} {D : va_G} {a1 a2 : Nat → Nat} {T : zT} {A S1 S2 : SS} {i : Nat} {H : Heap} {locs : List Loc} {ls : Array Slot} (hL : L ≤ 3072) (hx : p.tables.exec = Jvm.exec) (hb : c.code = cL_law) (hml : c.maxLocals = 4) (hown : s.vm.findClass RL = some m.cls) (hts : ∀ w ∈ TB, w.before #[Value.ref b] s = true) (hK : va_K D vwCl (zTy T) s) (hN : zN s) (hX : va_X b L xs s s.heap) (hbl : b < s.heap.size) (hD : lwD s a1 a2) (hi : i + 6 ≤ L) (hS : va_S (fun q => s.heap.size ≤ q) s.heap H locs) (hP1 : va_P D vwCl (wd a1 T LX S1) H) (hP2 : va_P D vwCl (wd a2 T LM S2) H) (hl : lv_has ls 4 [(0, .ref b), (1, .ref (a1 0)), (2, .ref (a2 0)), (3, .int (Int32.ofInt (i : Int)))]) (hR1 : cRel S1 A) (hR2 : mRel S2 A) (kk : ∀ (A' S1' S2' : SS) (H1 : Heap) (locs1 : List Loc), cRel S1' A' → mRel S2' A' → va_P D vwCl (wd a1 T LX S1') H1 → va_P D vwCl (wd a2 T LM S2') H1 → va_S (fun q => s.heap.size ≤ q) s.heap H1 locs1 → W p l e room_1 s m #[Value.ref b] below meth c H1 locs1 62 6075 (lw_Z below #[Value.ref b] s) (F0 m 1682 ls [])) : W p l e room_1 s m #[Value.ref b] below meth c H locs 62 6075 (lw_Z below #[Value.ref b] s) (F0 m 782 ls []) := by
  have hm := hR1.1
  refine lv_aload_n hx hb dL_law_782 rfl (lv_at hl 1 rfl) ?_
  refine lv_aload_n hx hb dL_law_783 rfl (lv_at hl 0 rfl) ?_
  refine lv_iload_n hx hb dL_law_784 rfl (lv_at hl 3 rfl) ?_
  refine lv_iconst (v := 1) hx hb dL_law_785 (by decide) ?_
  refine lv_iadd hx hb dL_law_786 ?_
  refine va_sld hx hb hX hbl (Nat.not_le.mpr hbl) hS (lw_ix 1 hL hi (by decide) rfl) dL_law_787 ?_
  refine lv_aload_n hx hb dL_law_788 rfl (lv_at hl 0 rfl) ?_
  refine lv_iload_n hx hb dL_law_789 rfl (lv_at hl 3 rfl) ?_
  refine lv_iconst (v := 2) hx hb dL_law_790 (by decide) ?_
  refine lv_iadd hx hb dL_law_791 ?_
  refine va_sld hx hb hX hbl (Nat.not_le.mpr hbl) hS (lw_ix 2 hL hi (by decide) rfl) dL_law_792 ?_
  refine lv_aload_n hx hb dL_law_793 rfl (lv_at hl 0 rfl) ?_
  refine lv_iload_n hx hb dL_law_794 rfl (lv_at hl 3 rfl) ?_
  refine lv_iconst (v := 3) hx hb dL_law_795 (by decide) ?_
  refine lv_iadd hx hb dL_law_796 ?_
  refine va_sld hx hb hX hbl (Nat.not_le.mpr hbl) hS (lw_ix 3 hL hi (by decide) rfl) dL_law_797 ?_
  refine lw_call (L := LX) (L2 := LM) (ad := a1) (ad2 := a2) (As := [.int (xs (Int32.ofInt (i : Int) + 1).toNatClampNeg), .int (xs (Int32.ofInt (i : Int) + 2).toNatClampNeg), .int (xs (Int32.ofInt (i : Int) + 3).toNatClampNeg)]) (rest := []) hx hb hml hown hts hK hN hD.1 hS hD.2.2.1 (fun q h1 h2 => hD.2.2.2.2 q h2 h1) hP1 hP2 (m_X10_dot ((xs (Int32.ofInt (i : Int) + 1).toNatClampNeg).toInt) ((xs (Int32.ofInt (i : Int) + 2).toNatClampNeg).toInt) ((xs (Int32.ofInt (i : Int) + 3).toNatClampNeg).toInt) A S1 (i32_r _) (i32_r _) (i32_r _) hR1) dL_law_798 mcX10_dot miX10_dot (tb_in 481 (by decide +kernel) rfl) hl.1 rfl (by show [Value.int (Int32.ofInt (xs (Int32.ofInt (i : Int) + 1).toNatClampNeg).toInt), Value.int (Int32.ofInt (xs (Int32.ofInt (i : Int) + 2).toNatClampNeg).toInt), Value.int (Int32.ofInt (xs (Int32.ofInt (i : Int) + 3).toNatClampNeg).toInt)] = _; simp only [i32_oi]) ⟨Nat.le_of_ble_eq_true rfl, Nat.le_of_ble_eq_true rfl⟩ clX10 rfl rfl (Nat.le_of_ble_eq_true rfl) ⟨Nat.le_of_ble_eq_true rfl, Nat.le_of_ble_eq_true rfl⟩ ?_
  rintro r S1' H locs ⟨rfl, hQ⟩ hP1 hP2 hS
  have hR1 := hQ
  obtain ⟨v1, ev1⟩ : ∃ v1 : Int, sp_dot A ((xs (Int32.ofInt (i : Int) + 1).toNatClampNeg).toInt) ((xs (Int32.ofInt (i : Int) + 2).toNatClampNeg).toInt) ((xs (Int32.ofInt (i : Int) + 3).toNatClampNeg).toInt) = v1 := ⟨_, rfl⟩
  show W p l e room_1 s m #[Value.ref b] below meth c H locs 62 6075 (lw_Z below #[Value.ref b] s) (F0 m 801 ls [.int (Int32.ofInt (sp_dot A ((xs (Int32.ofInt (i : Int) + 1).toNatClampNeg).toInt) ((xs (Int32.ofInt (i : Int) + 2).toNatClampNeg).toInt) ((xs (Int32.ofInt (i : Int) + 3).toNatClampNeg).toInt)))])
  rw [ev1]
  refine lv_aload_n hx hb dL_law_801 rfl (lv_at hl 2 rfl) ?_
  refine lv_aload_n hx hb dL_law_802 rfl (lv_at hl 0 rfl) ?_
  refine lv_iload_n hx hb dL_law_803 rfl (lv_at hl 3 rfl) ?_
  refine lv_iconst (v := 1) hx hb dL_law_804 (by decide) ?_
  refine lv_iadd hx hb dL_law_805 ?_
  refine va_sld hx hb hX hbl (Nat.not_le.mpr hbl) hS (lw_ix 1 hL hi (by decide) rfl) dL_law_806 ?_
  refine lv_aload_n hx hb dL_law_807 rfl (lv_at hl 0 rfl) ?_
  refine lv_iload_n hx hb dL_law_808 rfl (lv_at hl 3 rfl) ?_
  refine lv_iconst (v := 2) hx hb dL_law_809 (by decide) ?_
  refine lv_iadd hx hb dL_law_810 ?_
  refine va_sld hx hb hX hbl (Nat.not_le.mpr hbl) hS (lw_ix 2 hL hi (by decide) rfl) dL_law_811 ?_
  refine lv_aload_n hx hb dL_law_812 rfl (lv_at hl 0 rfl) ?_
  refine lv_iload_n hx hb dL_law_813 rfl (lv_at hl 3 rfl) ?_
  refine lv_iconst (v := 3) hx hb dL_law_814 (by decide) ?_
  refine lv_iadd hx hb dL_law_815 ?_
  refine va_sld hx hb hX hbl (Nat.not_le.mpr hbl) hS (lw_ix 3 hL hi (by decide) rfl) dL_law_816 ?_
  refine lw_call (L := LM) (L2 := LX) (ad := a2) (ad2 := a1) (As := [.int (xs (Int32.ofInt (i : Int) + 1).toNatClampNeg), .int (xs (Int32.ofInt (i : Int) + 2).toNatClampNeg), .int (xs (Int32.ofInt (i : Int) + 3).toNatClampNeg)]) (rest := [.int (Int32.ofInt v1)]) hx hb hml hown hts hK hN hD.2.1 hS hD.2.2.2.1 hD.2.2.2.2 hP2 hP1 (m_X11_dot ((xs (Int32.ofInt (i : Int) + 1).toNatClampNeg).toInt) ((xs (Int32.ofInt (i : Int) + 2).toNatClampNeg).toInt) ((xs (Int32.ofInt (i : Int) + 3).toNatClampNeg).toInt) A S2 (i32_r _) (i32_r _) (i32_r _) hR2 hm) dL_law_817 mcX11_dot miX11_dot (tb_in 1034 (by decide +kernel) rfl) hl.1 rfl (by show [Value.int (Int32.ofInt (xs (Int32.ofInt (i : Int) + 1).toNatClampNeg).toInt), Value.int (Int32.ofInt (xs (Int32.ofInt (i : Int) + 2).toNatClampNeg).toInt), Value.int (Int32.ofInt (xs (Int32.ofInt (i : Int) + 3).toNatClampNeg).toInt)] = _; simp only [i32_oi]) ⟨Nat.le_of_ble_eq_true rfl, Nat.le_of_ble_eq_true rfl⟩ clX11 rfl rfl (Nat.le_of_ble_eq_true rfl) ⟨Nat.le_of_ble_eq_true rfl, Nat.le_of_ble_eq_true rfl⟩ ?_
  rintro r S2' H locs ⟨rfl, hQ⟩ hP2 hP1 hS
  show W p l e room_1 s m #[Value.ref b] below meth c H locs 62 6075 (lw_Z below #[Value.ref b] s) (F0 m 820 ls [.int (Int32.ofInt ((sp_dot A ((xs (Int32.ofInt (i : Int) + 1).toNatClampNeg).toInt) ((xs (Int32.ofInt (i : Int) + 2).toNatClampNeg).toInt) ((xs (Int32.ofInt (i : Int) + 3).toNatClampNeg).toInt)))), .int (Int32.ofInt v1)])
  rw [ev1]
  refine lv_icmp_eq (tgt := 1682) hx hb dL_law_820 (by decide) (fun _ => ?_) (fun q => absurd rfl q)
  exact kk _ _ _ _ _ hR1 hQ hP1 hP2 hS

set_option maxHeartbeats 4000000 in
set_option maxRecDepth 100000 in
theorem lw_k15 {p : Program} {l : Launch} {e : Env} {s : State} {m : MethodId} {below : List Frame} {meth : Method} {c : Code} {b L : Nat} {xs : Nat → Int32} {D : va_G} {a1 a2 : Nat → Nat} {T : zT} {A S1 S2 : SS} {i : Nat} {H : Heap} {locs : List Loc} {ls : Array Slot} (hL : L ≤ 3072) (hx : p.tables.exec = Jvm.exec) (hb : c.code = cL_law) (hml : c.maxLocals = 4) (hown : s.vm.findClass RL = some m.cls) (hts : ∀ w ∈ TB, w.before #[Value.ref b] s = true) (hK : va_K D vwCl (zTy T) s) (hN : zN s) (hX : va_X b L xs s s.heap) (hbl : b < s.heap.size) (hD : lwD s a1 a2) (hi : i + 6 ≤ L) (hS : va_S (fun q => s.heap.size ≤ q) s.heap H locs) (hP1 : va_P D vwCl (wd a1 T LX S1) H) (hP2 : va_P D vwCl (wd a2 T LM S2) H) (hl : lv_has ls 4 [(0, .ref b), (1, .ref (a1 0)), (2, .ref (a2 0)), (3, .int (Int32.ofInt (i : Int)))]) (hR1 : cRel S1 A) (hR2 : mRel S2 A) (kk : ∀ (A' S1' S2' : SS) (H1 : Heap) (locs1 : List Loc), cRel S1' A' → mRel S2' A' → va_P D vwCl (wd a1 T LX S1') H1 → va_P D vwCl (wd a2 T LM S2') H1 → va_S (fun q => s.heap.size ≤ q) s.heap H1 locs1 → W p l e room_1 s m #[Value.ref b] below meth c H1 locs1 62 6075 (lw_Z below #[Value.ref b] s) (F0 m 1682 ls [])) : W p l e room_1 s m #[Value.ref b] below meth c H locs 62 6075 (lw_Z below #[Value.ref b] s) (F0 m 825 ls []) := by
  have hm := hR1.1
  refine lv_aload_n hx hb dL_law_825 rfl (lv_at hl 1 rfl) ?_
  refine lv_aload_n hx hb dL_law_826 rfl (lv_at hl 0 rfl) ?_
  refine lv_iload_n hx hb dL_law_827 rfl (lv_at hl 3 rfl) ?_
  refine lv_iconst (v := 1) hx hb dL_law_828 (by decide) ?_
  refine lv_iadd hx hb dL_law_829 ?_
  refine va_sld hx hb hX hbl (Nat.not_le.mpr hbl) hS (lw_ix 1 hL hi (by decide) rfl) dL_law_830 ?_
  refine lv_aload_n hx hb dL_law_831 rfl (lv_at hl 0 rfl) ?_
  refine lv_iload_n hx hb dL_law_832 rfl (lv_at hl 3 rfl) ?_
  refine lv_iconst (v := 2) hx hb dL_law_833 (by decide) ?_
  refine lv_iadd hx hb dL_law_834 ?_
  refine va_sld hx hb hX hbl (Nat.not_le.mpr hbl) hS (lw_ix 2 hL hi (by decide) rfl) dL_law_835 ?_
  refine lw_call (L := LX) (L2 := LM) (ad := a1) (ad2 := a2) (As := [.int (xs (Int32.ofInt (i : Int) + 1).toNatClampNeg), .int (xs (Int32.ofInt (i : Int) + 2).toNatClampNeg)]) (rest := []) hx hb hml hown hts hK hN hD.1 hS hD.2.2.1 (fun q h1 h2 => hD.2.2.2.2 q h2 h1) hP1 hP2 (m_X10_read ((xs (Int32.ofInt (i : Int) + 1).toNatClampNeg).toInt) ((xs (Int32.ofInt (i : Int) + 2).toNatClampNeg).toInt) A S1 (i32_r _) (i32_r _) hR1) dL_law_836 mcX10_read miX10_read (tb_in 494 (by decide +kernel) rfl) hl.1 rfl (by show [Value.int (Int32.ofInt (xs (Int32.ofInt (i : Int) + 1).toNatClampNeg).toInt), Value.int (Int32.ofInt (xs (Int32.ofInt (i : Int) + 2).toNatClampNeg).toInt)] = _; simp only [i32_oi]) ⟨Nat.le_of_ble_eq_true rfl, Nat.le_of_ble_eq_true rfl⟩ clX10 rfl rfl (Nat.le_of_ble_eq_true rfl) ⟨Nat.le_of_ble_eq_true rfl, Nat.le_of_ble_eq_true rfl⟩ ?_
  rintro r S1' H locs ⟨rfl, hQ⟩ hP1 hP2 hS
  have hR1 := hQ
  obtain ⟨v1, ev1⟩ : ∃ v1 : Int, sp_read A ((xs (Int32.ofInt (i : Int) + 1).toNatClampNeg).toInt) ((xs (Int32.ofInt (i : Int) + 2).toNatClampNeg).toInt) = v1 := ⟨_, rfl⟩
  show W p l e room_1 s m #[Value.ref b] below meth c H locs 62 6075 (lw_Z below #[Value.ref b] s) (F0 m 839 ls [.int (Int32.ofInt (sp_read A ((xs (Int32.ofInt (i : Int) + 1).toNatClampNeg).toInt) ((xs (Int32.ofInt (i : Int) + 2).toNatClampNeg).toInt)))])
  rw [ev1]
  refine lv_aload_n hx hb dL_law_839 rfl (lv_at hl 2 rfl) ?_
  refine lv_aload_n hx hb dL_law_840 rfl (lv_at hl 0 rfl) ?_
  refine lv_iload_n hx hb dL_law_841 rfl (lv_at hl 3 rfl) ?_
  refine lv_iconst (v := 1) hx hb dL_law_842 (by decide) ?_
  refine lv_iadd hx hb dL_law_843 ?_
  refine va_sld hx hb hX hbl (Nat.not_le.mpr hbl) hS (lw_ix 1 hL hi (by decide) rfl) dL_law_844 ?_
  refine lv_aload_n hx hb dL_law_845 rfl (lv_at hl 0 rfl) ?_
  refine lv_iload_n hx hb dL_law_846 rfl (lv_at hl 3 rfl) ?_
  refine lv_iconst (v := 2) hx hb dL_law_847 (by decide) ?_
  refine lv_iadd hx hb dL_law_848 ?_
  refine va_sld hx hb hX hbl (Nat.not_le.mpr hbl) hS (lw_ix 2 hL hi (by decide) rfl) dL_law_849 ?_
  refine lw_call (L := LM) (L2 := LX) (ad := a2) (ad2 := a1) (As := [.int (xs (Int32.ofInt (i : Int) + 1).toNatClampNeg), .int (xs (Int32.ofInt (i : Int) + 2).toNatClampNeg)]) (rest := [.int (Int32.ofInt v1)]) hx hb hml hown hts hK hN hD.2.1 hS hD.2.2.2.1 hD.2.2.2.2 hP2 hP1 (m_X11_read ((xs (Int32.ofInt (i : Int) + 1).toNatClampNeg).toInt) ((xs (Int32.ofInt (i : Int) + 2).toNatClampNeg).toInt) A S2 (i32_r _) (i32_r _) hR2 hm) dL_law_850 mcX11_read miX11_read (tb_in 1042 (by decide +kernel) rfl) hl.1 rfl (by show [Value.int (Int32.ofInt (xs (Int32.ofInt (i : Int) + 1).toNatClampNeg).toInt), Value.int (Int32.ofInt (xs (Int32.ofInt (i : Int) + 2).toNatClampNeg).toInt)] = _; simp only [i32_oi]) ⟨Nat.le_of_ble_eq_true rfl, Nat.le_of_ble_eq_true rfl⟩ clX11 rfl rfl (Nat.le_of_ble_eq_true rfl) ⟨Nat.le_of_ble_eq_true rfl, Nat.le_of_ble_eq_true rfl⟩ ?_
  rintro r S2' H locs ⟨rfl, hQ⟩ hP2 hP1 hS
  show W p l e room_1 s m #[Value.ref b] below meth c H locs 62 6075 (lw_Z below #[Value.ref b] s) (F0 m 853 ls [.int (Int32.ofInt (sp_read A ((xs (Int32.ofInt (i : Int) + 1).toNatClampNeg).toInt) ((xs (Int32.ofInt (i : Int) + 2).toNatClampNeg).toInt))), .int (Int32.ofInt v1)])
  rw [ev1]
  refine lv_icmp_eq (tgt := 1682) hx hb dL_law_853 (by decide) (fun _ => ?_) (fun q => absurd rfl q)
  exact kk _ _ _ _ _ hR1 hQ hP1 hP2 hS

set_option maxHeartbeats 4000000 in
set_option maxRecDepth 100000 in
theorem lw_k16 {p : Program} {l : Launch} {e : Env} {s : State} {m : MethodId} {below : List Frame} {meth : Method} {c : Code} {b L : Nat} {xs : Nat → Int32} {D : va_G} {a1 a2 : Nat → Nat} {T : zT} {A S1 S2 : SS} {i : Nat} {H : Heap} {locs : List Loc} {ls : Array Slot} (hL : L ≤ 3072) (hx : p.tables.exec = Jvm.exec) (hb : c.code = cL_law) (hml : c.maxLocals = 4) (hown : s.vm.findClass RL = some m.cls) (hts : ∀ w ∈ TB, w.before #[Value.ref b] s = true) (hK : va_K D vwCl (zTy T) s) (hN : zN s) (hX : va_X b L xs s s.heap) (hbl : b < s.heap.size) (hD : lwD s a1 a2) (hi : i + 6 ≤ L) (hS : va_S (fun q => s.heap.size ≤ q) s.heap H locs) (hP1 : va_P D vwCl (wd a1 T LX S1) H) (hP2 : va_P D vwCl (wd a2 T LM S2) H) (hl : lv_has ls 4 [(0, .ref b), (1, .ref (a1 0)), (2, .ref (a2 0)), (3, .int (Int32.ofInt (i : Int)))]) (hR1 : cRel S1 A) (hR2 : mRel S2 A) (kk : ∀ (A' S1' S2' : SS) (H1 : Heap) (locs1 : List Loc), cRel S1' A' → mRel S2' A' → va_P D vwCl (wd a1 T LX S1') H1 → va_P D vwCl (wd a2 T LM S2') H1 → va_S (fun q => s.heap.size ≤ q) s.heap H1 locs1 → W p l e room_1 s m #[Value.ref b] below meth c H1 locs1 62 6075 (lw_Z below #[Value.ref b] s) (F0 m 1682 ls [])) : W p l e room_1 s m #[Value.ref b] below meth c H locs 62 6075 (lw_Z below #[Value.ref b] s) (F0 m 858 ls []) := by
  have hm := hR1.1
  refine lv_aload_n hx hb dL_law_858 rfl (lv_at hl 1 rfl) ?_
  refine lv_aload_n hx hb dL_law_859 rfl (lv_at hl 0 rfl) ?_
  refine lv_iload_n hx hb dL_law_860 rfl (lv_at hl 3 rfl) ?_
  refine lv_iconst (v := 1) hx hb dL_law_861 (by decide) ?_
  refine lv_iadd hx hb dL_law_862 ?_
  refine va_sld hx hb hX hbl (Nat.not_le.mpr hbl) hS (lw_ix 1 hL hi (by decide) rfl) dL_law_863 ?_
  refine lw_call (L := LX) (L2 := LM) (ad := a1) (ad2 := a2) (As := [.int (xs (Int32.ofInt (i : Int) + 1).toNatClampNeg)]) (rest := []) hx hb hml hown hts hK hN hD.1 hS hD.2.2.1 (fun q h1 h2 => hD.2.2.2.2 q h2 h1) hP1 hP2 (m_X10_blink ((xs (Int32.ofInt (i : Int) + 1).toNatClampNeg).toInt) A S1 (i32_r _) hR1) dL_law_864 mcX10_blink miX10_blink (tb_in 511 (by decide +kernel) rfl) hl.1 rfl (by show [Value.int (Int32.ofInt (xs (Int32.ofInt (i : Int) + 1).toNatClampNeg).toInt)] = _; simp only [i32_oi]) ⟨Nat.le_of_ble_eq_true rfl, Nat.le_of_ble_eq_true rfl⟩ clX10 rfl rfl (Nat.le_of_ble_eq_true rfl) ⟨Nat.le_of_ble_eq_true rfl, Nat.le_of_ble_eq_true rfl⟩ ?_
  rintro r S1' H locs ⟨rfl, hQ⟩ hP1 hP2 hS
  have hR1 := hQ
  obtain ⟨v1, ev1⟩ : ∃ v1 : Int, sp_blink A ((xs (Int32.ofInt (i : Int) + 1).toNatClampNeg).toInt) = v1 := ⟨_, rfl⟩
  show W p l e room_1 s m #[Value.ref b] below meth c H locs 62 6075 (lw_Z below #[Value.ref b] s) (F0 m 867 ls [.int (Int32.ofInt (sp_blink A ((xs (Int32.ofInt (i : Int) + 1).toNatClampNeg).toInt)))])
  rw [ev1]
  refine lv_aload_n hx hb dL_law_867 rfl (lv_at hl 2 rfl) ?_
  refine lv_aload_n hx hb dL_law_868 rfl (lv_at hl 0 rfl) ?_
  refine lv_iload_n hx hb dL_law_869 rfl (lv_at hl 3 rfl) ?_
  refine lv_iconst (v := 1) hx hb dL_law_870 (by decide) ?_
  refine lv_iadd hx hb dL_law_871 ?_
  refine va_sld hx hb hX hbl (Nat.not_le.mpr hbl) hS (lw_ix 1 hL hi (by decide) rfl) dL_law_872 ?_
  refine lw_call (L := LM) (L2 := LX) (ad := a2) (ad2 := a1) (As := [.int (xs (Int32.ofInt (i : Int) + 1).toNatClampNeg)]) (rest := [.int (Int32.ofInt v1)]) hx hb hml hown hts hK hN hD.2.1 hS hD.2.2.2.1 hD.2.2.2.2 hP2 hP1 (m_X11_blink ((xs (Int32.ofInt (i : Int) + 1).toNatClampNeg).toInt) A S2 (i32_r _) hR2 hm) dL_law_873 mcX11_blink miX11_blink (tb_in 1053 (by decide +kernel) rfl) hl.1 rfl (by show [Value.int (Int32.ofInt (xs (Int32.ofInt (i : Int) + 1).toNatClampNeg).toInt)] = _; simp only [i32_oi]) ⟨Nat.le_of_ble_eq_true rfl, Nat.le_of_ble_eq_true rfl⟩ clX11 rfl rfl (Nat.le_of_ble_eq_true rfl) ⟨Nat.le_of_ble_eq_true rfl, Nat.le_of_ble_eq_true rfl⟩ ?_
  rintro r S2' H locs ⟨rfl, hQ⟩ hP2 hP1 hS
  show W p l e room_1 s m #[Value.ref b] below meth c H locs 62 6075 (lw_Z below #[Value.ref b] s) (F0 m 876 ls [.int (Int32.ofInt (sp_blink A ((xs (Int32.ofInt (i : Int) + 1).toNatClampNeg).toInt))), .int (Int32.ofInt v1)])
  rw [ev1]
  refine lv_icmp_eq (tgt := 1682) hx hb dL_law_876 (by decide) (fun _ => ?_) (fun q => absurd rfl q)
  exact kk _ _ _ _ _ hR1 hQ hP1 hP2 hS

set_option maxHeartbeats 4000000 in
set_option maxRecDepth 100000 in
theorem lw_k17 {p : Program} {l : Launch} {e : Env} {s : State} {m : MethodId} {below : List Frame} {meth : Method} {c : Code} {b L : Nat} {xs : Nat → Int32} {D : va_G} {a1 a2 : Nat → Nat} {T : zT} {A S1 S2 : SS} {i : Nat} {H : Heap} {locs : List Loc} {ls : Array Slot} (hL : L ≤ 3072) (hx : p.tables.exec = Jvm.exec) (hb : c.code = cL_law) (hml : c.maxLocals = 4) (hown : s.vm.findClass RL = some m.cls) (hts : ∀ w ∈ TB, w.before #[Value.ref b] s = true) (hK : va_K D vwCl (zTy T) s) (hN : zN s) (hX : va_X b L xs s s.heap) (hbl : b < s.heap.size) (hD : lwD s a1 a2) (hi : i + 6 ≤ L) (hS : va_S (fun q => s.heap.size ≤ q) s.heap H locs) (hP1 : va_P D vwCl (wd a1 T LX S1) H) (hP2 : va_P D vwCl (wd a2 T LM S2) H) (hl : lv_has ls 4 [(0, .ref b), (1, .ref (a1 0)), (2, .ref (a2 0)), (3, .int (Int32.ofInt (i : Int)))]) (hR1 : cRel S1 A) (hR2 : mRel S2 A) (kk : ∀ (A' S1' S2' : SS) (H1 : Heap) (locs1 : List Loc), cRel S1' A' → mRel S2' A' → va_P D vwCl (wd a1 T LX S1') H1 → va_P D vwCl (wd a2 T LM S2') H1 → va_S (fun q => s.heap.size ≤ q) s.heap H1 locs1 → W p l e room_1 s m #[Value.ref b] below meth c H1 locs1 62 6075 (lw_Z below #[Value.ref b] s) (F0 m 1682 ls [])) : W p l e room_1 s m #[Value.ref b] below meth c H locs 62 6075 (lw_Z below #[Value.ref b] s) (F0 m 881 ls []) := by
  have hm := hR1.1
  refine lv_aload_n hx hb dL_law_881 rfl (lv_at hl 1 rfl) ?_
  refine lv_aload_n hx hb dL_law_882 rfl (lv_at hl 0 rfl) ?_
  refine lv_iload_n hx hb dL_law_883 rfl (lv_at hl 3 rfl) ?_
  refine lv_iconst (v := 1) hx hb dL_law_884 (by decide) ?_
  refine lv_iadd hx hb dL_law_885 ?_
  refine va_sld hx hb hX hbl (Nat.not_le.mpr hbl) hS (lw_ix 1 hL hi (by decide) rfl) dL_law_886 ?_
  refine lw_call (L := LX) (L2 := LM) (ad := a1) (ad2 := a2) (As := [.int (xs (Int32.ofInt (i : Int) + 1).toNatClampNeg)]) (rest := []) hx hb hml hown hts hK hN hD.1 hS hD.2.2.1 (fun q h1 h2 => hD.2.2.2.2 q h2 h1) hP1 hP2 (m_X10_join ((xs (Int32.ofInt (i : Int) + 1).toNatClampNeg).toInt) A S1 (i32_r _) hR1) dL_law_887 mcX10_join miX10_join (tb_in 519 (by decide +kernel) rfl) hl.1 rfl (by show [Value.int (Int32.ofInt (xs (Int32.ofInt (i : Int) + 1).toNatClampNeg).toInt)] = _; simp only [i32_oi]) ⟨Nat.le_of_ble_eq_true rfl, Nat.le_of_ble_eq_true rfl⟩ clX10 rfl rfl (Nat.le_of_ble_eq_true rfl) ⟨Nat.le_of_ble_eq_true rfl, Nat.le_of_ble_eq_true rfl⟩ ?_
  rintro r S1' H locs ⟨rfl, hQ⟩ hP1 hP2 hS
  have hR1 := hQ
  obtain ⟨v1, ev1⟩ : ∃ v1 : Int, (sp_join A ((xs (Int32.ofInt (i : Int) + 1).toNatClampNeg).toInt)) = v1 := ⟨_, rfl⟩
  show W p l e room_1 s m #[Value.ref b] below meth c H locs 62 6075 (lw_Z below #[Value.ref b] s) (F0 m 890 ls [.int (Int32.ofInt ((sp_join A ((xs (Int32.ofInt (i : Int) + 1).toNatClampNeg).toInt))))])
  rw [ev1]
  refine lv_aload_n hx hb dL_law_890 rfl (lv_at hl 2 rfl) ?_
  refine lv_aload_n hx hb dL_law_891 rfl (lv_at hl 0 rfl) ?_
  refine lv_iload_n hx hb dL_law_892 rfl (lv_at hl 3 rfl) ?_
  refine lv_iconst (v := 1) hx hb dL_law_893 (by decide) ?_
  refine lv_iadd hx hb dL_law_894 ?_
  refine va_sld hx hb hX hbl (Nat.not_le.mpr hbl) hS (lw_ix 1 hL hi (by decide) rfl) dL_law_895 ?_
  refine lw_call (L := LM) (L2 := LX) (ad := a2) (ad2 := a1) (As := [.int (xs (Int32.ofInt (i : Int) + 1).toNatClampNeg)]) (rest := [.int (Int32.ofInt v1)]) hx hb hml hown hts hK hN hD.2.1 hS hD.2.2.2.1 hD.2.2.2.2 hP2 hP1 (m_X11_join ((xs (Int32.ofInt (i : Int) + 1).toNatClampNeg).toInt) A S2 (i32_r _) hR2 hm) dL_law_896 mcX11_join miX11_join (tb_in 1057 (by decide +kernel) rfl) hl.1 rfl (by show [Value.int (Int32.ofInt (xs (Int32.ofInt (i : Int) + 1).toNatClampNeg).toInt)] = _; simp only [i32_oi]) ⟨Nat.le_of_ble_eq_true rfl, Nat.le_of_ble_eq_true rfl⟩ clX11 rfl rfl (Nat.le_of_ble_eq_true rfl) ⟨Nat.le_of_ble_eq_true rfl, Nat.le_of_ble_eq_true rfl⟩ ?_
  rintro r S2' H locs ⟨rfl, hQ⟩ hP2 hP1 hS
  show W p l e room_1 s m #[Value.ref b] below meth c H locs 62 6075 (lw_Z below #[Value.ref b] s) (F0 m 899 ls [.int (Int32.ofInt ((sp_join A ((xs (Int32.ofInt (i : Int) + 1).toNatClampNeg).toInt)))), .int (Int32.ofInt v1)])
  rw [ev1]
  refine lv_icmp_eq (tgt := 1682) hx hb dL_law_899 (by decide) (fun _ => ?_) (fun q => absurd rfl q)
  exact kk _ _ _ _ _ hR1 hQ hP1 hP2 hS

set_option maxHeartbeats 4000000 in
set_option maxRecDepth 100000 in
theorem lw_k18 {p : Program} {l : Launch} {e : Env} {s : State} {m : MethodId} {below : List Frame} {meth : Method} {c : Code} {b L : Nat} {xs : Nat → Int32} {D : va_G} {a1 a2 : Nat → Nat} {T : zT} {A S1 S2 : SS} {i : Nat} {H : Heap} {locs : List Loc} {ls : Array Slot} (hL : L ≤ 3072) (hx : p.tables.exec = Jvm.exec) (hb : c.code = cL_law) (hml : c.maxLocals = 4) (hown : s.vm.findClass RL = some m.cls) (hts : ∀ w ∈ TB, w.before #[Value.ref b] s = true) (hK : va_K D vwCl (zTy T) s) (hN : zN s) (hX : va_X b L xs s s.heap) (hbl : b < s.heap.size) (hD : lwD s a1 a2) (hi : i + 6 ≤ L) (hS : va_S (fun q => s.heap.size ≤ q) s.heap H locs) (hP1 : va_P D vwCl (wd a1 T LX S1) H) (hP2 : va_P D vwCl (wd a2 T LM S2) H) (hl : lv_has ls 4 [(0, .ref b), (1, .ref (a1 0)), (2, .ref (a2 0)), (3, .int (Int32.ofInt (i : Int)))]) (hR1 : cRel S1 A) (hR2 : mRel S2 A) (kk : ∀ (A' S1' S2' : SS) (H1 : Heap) (locs1 : List Loc), cRel S1' A' → mRel S2' A' → va_P D vwCl (wd a1 T LX S1') H1 → va_P D vwCl (wd a2 T LM S2') H1 → va_S (fun q => s.heap.size ≤ q) s.heap H1 locs1 → W p l e room_1 s m #[Value.ref b] below meth c H1 locs1 62 6075 (lw_Z below #[Value.ref b] s) (F0 m 1682 ls [])) : W p l e room_1 s m #[Value.ref b] below meth c H locs 62 6075 (lw_Z below #[Value.ref b] s) (F0 m 904 ls []) := by
  have hm := hR1.1
  refine lv_aload_n hx hb dL_law_904 rfl (lv_at hl 1 rfl) ?_
  refine lw_call (L := LX) (L2 := LM) (ad := a1) (ad2 := a2) (As := []) (rest := []) hx hb hml hown hts hK hN hD.1 hS hD.2.2.1 (fun q h1 h2 => hD.2.2.2.2 q h2 h1) hP1 hP2 (m_X10_net A S1 hR1) dL_law_905 mcX10_net miX10_net (tb_in 579 (by decide +kernel) rfl) hl.1 rfl rfl ⟨Nat.le_of_ble_eq_true rfl, Nat.le_of_ble_eq_true rfl⟩ clX10 rfl rfl (Nat.le_of_ble_eq_true rfl) ⟨Nat.le_of_ble_eq_true rfl, Nat.le_of_ble_eq_true rfl⟩ ?_
  rintro r S1' H locs ⟨rfl, hQ⟩ hP1 hP2 hS
  have hR1 := hQ
  obtain ⟨v1, ev1⟩ : ∃ v1 : Int, (netV A) = v1 := ⟨_, rfl⟩
  show W p l e room_1 s m #[Value.ref b] below meth c H locs 62 6075 (lw_Z below #[Value.ref b] s) (F0 m 908 ls [.int (Int32.ofInt ((netV A)))])
  rw [ev1]
  refine lv_aload_n hx hb dL_law_908 rfl (lv_at hl 2 rfl) ?_
  refine lw_call (L := LM) (L2 := LX) (ad := a2) (ad2 := a1) (As := []) (rest := [.int (Int32.ofInt v1)]) hx hb hml hown hts hK hN hD.2.1 hS hD.2.2.2.1 hD.2.2.2.2 hP2 hP1 (m_X11_net A S2 hR2 hm) dL_law_909 mcX11_net miX11_net (tb_in 1076 (by decide +kernel) rfl) hl.1 rfl rfl ⟨Nat.le_of_ble_eq_true rfl, Nat.le_of_ble_eq_true rfl⟩ clX11 rfl rfl (Nat.le_of_ble_eq_true rfl) ⟨Nat.le_of_ble_eq_true rfl, Nat.le_of_ble_eq_true rfl⟩ ?_
  rintro r S2' H locs ⟨rfl, hQ⟩ hP2 hP1 hS
  show W p l e room_1 s m #[Value.ref b] below meth c H locs 62 6075 (lw_Z below #[Value.ref b] s) (F0 m 912 ls [.int (Int32.ofInt ((netV A))), .int (Int32.ofInt v1)])
  rw [ev1]
  refine lv_icmp_eq (tgt := 1682) hx hb dL_law_912 (by decide) (fun _ => ?_) (fun q => absurd rfl q)
  exact kk _ _ _ _ _ hR1 hQ hP1 hP2 hS

set_option maxHeartbeats 4000000 in
set_option maxRecDepth 100000 in
theorem lw_k19 {p : Program} {l : Launch} {e : Env} {s : State} {m : MethodId} {below : List Frame} {meth : Method} {c : Code} {b L : Nat} {xs : Nat → Int32} {D : va_G} {a1 a2 : Nat → Nat} {T : zT} {A S1 S2 : SS} {i : Nat} {H : Heap} {locs : List Loc} {ls : Array Slot} (hL : L ≤ 3072) (hx : p.tables.exec = Jvm.exec) (hb : c.code = cL_law) (hml : c.maxLocals = 4) (hown : s.vm.findClass RL = some m.cls) (hts : ∀ w ∈ TB, w.before #[Value.ref b] s = true) (hK : va_K D vwCl (zTy T) s) (hN : zN s) (hX : va_X b L xs s s.heap) (hbl : b < s.heap.size) (hD : lwD s a1 a2) (hi : i + 6 ≤ L) (hS : va_S (fun q => s.heap.size ≤ q) s.heap H locs) (hP1 : va_P D vwCl (wd a1 T LX S1) H) (hP2 : va_P D vwCl (wd a2 T LM S2) H) (hl : lv_has ls 4 [(0, .ref b), (1, .ref (a1 0)), (2, .ref (a2 0)), (3, .int (Int32.ofInt (i : Int)))]) (hR1 : cRel S1 A) (hR2 : mRel S2 A) (kk : ∀ (A' S1' S2' : SS) (H1 : Heap) (locs1 : List Loc), cRel S1' A' → mRel S2' A' → va_P D vwCl (wd a1 T LX S1') H1 → va_P D vwCl (wd a2 T LM S2') H1 → va_S (fun q => s.heap.size ≤ q) s.heap H1 locs1 → W p l e room_1 s m #[Value.ref b] below meth c H1 locs1 62 6075 (lw_Z below #[Value.ref b] s) (F0 m 1682 ls [])) : W p l e room_1 s m #[Value.ref b] below meth c H locs 62 6075 (lw_Z below #[Value.ref b] s) (F0 m 917 ls []) := by
  have hm := hR1.1
  refine lv_aload_n hx hb dL_law_917 rfl (lv_at hl 1 rfl) ?_
  refine lv_aload_n hx hb dL_law_918 rfl (lv_at hl 0 rfl) ?_
  refine lv_iload_n hx hb dL_law_919 rfl (lv_at hl 3 rfl) ?_
  refine lv_iconst (v := 1) hx hb dL_law_920 (by decide) ?_
  refine lv_iadd hx hb dL_law_921 ?_
  refine va_sld hx hb hX hbl (Nat.not_le.mpr hbl) hS (lw_ix 1 hL hi (by decide) rfl) dL_law_922 ?_
  refine lv_aload_n hx hb dL_law_923 rfl (lv_at hl 0 rfl) ?_
  refine lv_iload_n hx hb dL_law_924 rfl (lv_at hl 3 rfl) ?_
  refine lv_iconst (v := 2) hx hb dL_law_925 (by decide) ?_
  refine lv_iadd hx hb dL_law_926 ?_
  refine va_sld hx hb hX hbl (Nat.not_le.mpr hbl) hS (lw_ix 2 hL hi (by decide) rfl) dL_law_927 ?_
  refine lw_call (L := LX) (L2 := LM) (ad := a1) (ad2 := a2) (As := [.int (xs (Int32.ofInt (i : Int) + 1).toNatClampNeg), .int (xs (Int32.ofInt (i : Int) + 2).toNatClampNeg)]) (rest := []) hx hb hml hown hts hK hN hD.1 hS hD.2.2.1 (fun q h1 h2 => hD.2.2.2.2 q h2 h1) hP1 hP2 (m_X10_joined ((xs (Int32.ofInt (i : Int) + 1).toNatClampNeg).toInt) ((xs (Int32.ofInt (i : Int) + 2).toNatClampNeg).toInt) A S1 (i32_r _) (i32_r _) hR1) dL_law_928 mcX10_joined miX10_joined (tb_in 583 (by decide +kernel) rfl) hl.1 rfl (by show [Value.int (Int32.ofInt (xs (Int32.ofInt (i : Int) + 1).toNatClampNeg).toInt), Value.int (Int32.ofInt (xs (Int32.ofInt (i : Int) + 2).toNatClampNeg).toInt)] = _; simp only [i32_oi]) ⟨Nat.le_of_ble_eq_true rfl, Nat.le_of_ble_eq_true rfl⟩ clX10 rfl rfl (Nat.le_of_ble_eq_true rfl) ⟨Nat.le_of_ble_eq_true rfl, Nat.le_of_ble_eq_true rfl⟩ ?_
  rintro r S1' H locs ⟨rfl, hQ⟩ hP1 hP2 hS
  have hR1 := hQ
  obtain ⟨v1, ev1⟩ : ∃ v1 : Int, (sp_joined A ((xs (Int32.ofInt (i : Int) + 1).toNatClampNeg).toInt) ((xs (Int32.ofInt (i : Int) + 2).toNatClampNeg).toInt)) = v1 := ⟨_, rfl⟩
  show W p l e room_1 s m #[Value.ref b] below meth c H locs 62 6075 (lw_Z below #[Value.ref b] s) (F0 m 931 ls [.int (Int32.ofInt ((sp_joined A ((xs (Int32.ofInt (i : Int) + 1).toNatClampNeg).toInt) ((xs (Int32.ofInt (i : Int) + 2).toNatClampNeg).toInt))))])
  rw [ev1]
  refine lv_aload_n hx hb dL_law_931 rfl (lv_at hl 2 rfl) ?_
  refine lv_aload_n hx hb dL_law_932 rfl (lv_at hl 0 rfl) ?_
  refine lv_iload_n hx hb dL_law_933 rfl (lv_at hl 3 rfl) ?_
  refine lv_iconst (v := 1) hx hb dL_law_934 (by decide) ?_
  refine lv_iadd hx hb dL_law_935 ?_
  refine va_sld hx hb hX hbl (Nat.not_le.mpr hbl) hS (lw_ix 1 hL hi (by decide) rfl) dL_law_936 ?_
  refine lv_aload_n hx hb dL_law_937 rfl (lv_at hl 0 rfl) ?_
  refine lv_iload_n hx hb dL_law_938 rfl (lv_at hl 3 rfl) ?_
  refine lv_iconst (v := 2) hx hb dL_law_939 (by decide) ?_
  refine lv_iadd hx hb dL_law_940 ?_
  refine va_sld hx hb hX hbl (Nat.not_le.mpr hbl) hS (lw_ix 2 hL hi (by decide) rfl) dL_law_941 ?_
  refine lw_call (L := LM) (L2 := LX) (ad := a2) (ad2 := a1) (As := [.int (xs (Int32.ofInt (i : Int) + 1).toNatClampNeg), .int (xs (Int32.ofInt (i : Int) + 2).toNatClampNeg)]) (rest := [.int (Int32.ofInt v1)]) hx hb hml hown hts hK hN hD.2.1 hS hD.2.2.2.1 hD.2.2.2.2 hP2 hP1 (m_X11_joined ((xs (Int32.ofInt (i : Int) + 1).toNatClampNeg).toInt) ((xs (Int32.ofInt (i : Int) + 2).toNatClampNeg).toInt) A S2 (i32_r _) (i32_r _) hR2 hm) dL_law_942 mcX11_joined miX11_joined (tb_in 1084 (by decide +kernel) rfl) hl.1 rfl (by show [Value.int (Int32.ofInt (xs (Int32.ofInt (i : Int) + 1).toNatClampNeg).toInt), Value.int (Int32.ofInt (xs (Int32.ofInt (i : Int) + 2).toNatClampNeg).toInt)] = _; simp only [i32_oi]) ⟨Nat.le_of_ble_eq_true rfl, Nat.le_of_ble_eq_true rfl⟩ clX11 rfl rfl (Nat.le_of_ble_eq_true rfl) ⟨Nat.le_of_ble_eq_true rfl, Nat.le_of_ble_eq_true rfl⟩ ?_
  rintro r S2' H locs ⟨rfl, hQ⟩ hP2 hP1 hS
  show W p l e room_1 s m #[Value.ref b] below meth c H locs 62 6075 (lw_Z below #[Value.ref b] s) (F0 m 945 ls [.int (Int32.ofInt ((sp_joined A ((xs (Int32.ofInt (i : Int) + 1).toNatClampNeg).toInt) ((xs (Int32.ofInt (i : Int) + 2).toNatClampNeg).toInt)))), .int (Int32.ofInt v1)])
  rw [ev1]
  refine lv_icmp_eq (tgt := 1682) hx hb dL_law_945 (by decide) (fun _ => ?_) (fun q => absurd rfl q)
  exact kk _ _ _ _ _ hR1 hQ hP1 hP2 hS

set_option maxHeartbeats 4000000 in
set_option maxRecDepth 100000 in
theorem lw_k20 {p : Program} {l : Launch} {e : Env} {s : State} {m : MethodId} {below : List Frame} {meth : Method} {c : Code} {b L : Nat} {xs : Nat → Int32} {D : va_G} {a1 a2 : Nat → Nat} {T : zT} {A S1 S2 : SS} {i : Nat} {H : Heap} {locs : List Loc} {ls : Array Slot} (hL : L ≤ 3072) (hx : p.tables.exec = Jvm.exec) (hb : c.code = cL_law) (hml : c.maxLocals = 4) (hown : s.vm.findClass RL = some m.cls) (hts : ∀ w ∈ TB, w.before #[Value.ref b] s = true) (hK : va_K D vwCl (zTy T) s) (hN : zN s) (hX : va_X b L xs s s.heap) (hbl : b < s.heap.size) (hD : lwD s a1 a2) (hi : i + 6 ≤ L) (hS : va_S (fun q => s.heap.size ≤ q) s.heap H locs) (hP1 : va_P D vwCl (wd a1 T LX S1) H) (hP2 : va_P D vwCl (wd a2 T LM S2) H) (hl : lv_has ls 4 [(0, .ref b), (1, .ref (a1 0)), (2, .ref (a2 0)), (3, .int (Int32.ofInt (i : Int)))]) (hR1 : cRel S1 A) (hR2 : mRel S2 A) (kk : ∀ (A' S1' S2' : SS) (H1 : Heap) (locs1 : List Loc), cRel S1' A' → mRel S2' A' → va_P D vwCl (wd a1 T LX S1') H1 → va_P D vwCl (wd a2 T LM S2') H1 → va_S (fun q => s.heap.size ≤ q) s.heap H1 locs1 → W p l e room_1 s m #[Value.ref b] below meth c H1 locs1 62 6075 (lw_Z below #[Value.ref b] s) (F0 m 1682 ls [])) : W p l e room_1 s m #[Value.ref b] below meth c H locs 62 6075 (lw_Z below #[Value.ref b] s) (F0 m 950 ls []) := by
  have hm := hR1.1
  refine lv_aload_n hx hb dL_law_950 rfl (lv_at hl 1 rfl) ?_
  refine lv_aload_n hx hb dL_law_951 rfl (lv_at hl 0 rfl) ?_
  refine lv_iload_n hx hb dL_law_952 rfl (lv_at hl 3 rfl) ?_
  refine lv_iconst (v := 1) hx hb dL_law_953 (by decide) ?_
  refine lv_iadd hx hb dL_law_954 ?_
  refine va_sld hx hb hX hbl (Nat.not_le.mpr hbl) hS (lw_ix 1 hL hi (by decide) rfl) dL_law_955 ?_
  refine lv_aload_n hx hb dL_law_956 rfl (lv_at hl 0 rfl) ?_
  refine lv_iload_n hx hb dL_law_957 rfl (lv_at hl 3 rfl) ?_
  refine lv_iconst (v := 2) hx hb dL_law_958 (by decide) ?_
  refine lv_iadd hx hb dL_law_959 ?_
  refine va_sld hx hb hX hbl (Nat.not_le.mpr hbl) hS (lw_ix 2 hL hi (by decide) rfl) dL_law_960 ?_
  refine lv_aload_n hx hb dL_law_961 rfl (lv_at hl 0 rfl) ?_
  refine lv_iload_n hx hb dL_law_962 rfl (lv_at hl 3 rfl) ?_
  refine lv_iconst (v := 3) hx hb dL_law_963 (by decide) ?_
  refine lv_iadd hx hb dL_law_964 ?_
  refine va_sld hx hb hX hbl (Nat.not_le.mpr hbl) hS (lw_ix 3 hL hi (by decide) rfl) dL_law_965 ?_
  refine lv_aload_n hx hb dL_law_966 rfl (lv_at hl 0 rfl) ?_
  refine lv_iload_n hx hb dL_law_967 rfl (lv_at hl 3 rfl) ?_
  refine lv_iconst (v := 4) hx hb dL_law_968 (by decide) ?_
  refine lv_iadd hx hb dL_law_969 ?_
  refine va_sld hx hb hX hbl (Nat.not_le.mpr hbl) hS (lw_ix 4 hL hi (by decide) rfl) dL_law_970 ?_
  refine lw_call (L := LX) (L2 := LM) (ad := a1) (ad2 := a2) (As := [.int (xs (Int32.ofInt (i : Int) + 1).toNatClampNeg), .int (xs (Int32.ofInt (i : Int) + 2).toNatClampNeg), .int (xs (Int32.ofInt (i : Int) + 3).toNatClampNeg), .int (xs (Int32.ofInt (i : Int) + 4).toNatClampNeg)]) (rest := []) hx hb hml hown hts hK hN hD.1 hS hD.2.2.1 (fun q h1 h2 => hD.2.2.2.2 q h2 h1) hP1 hP2 (m_X10_narrow ((xs (Int32.ofInt (i : Int) + 1).toNatClampNeg).toInt) ((xs (Int32.ofInt (i : Int) + 2).toNatClampNeg).toInt) ((xs (Int32.ofInt (i : Int) + 3).toNatClampNeg).toInt) ((xs (Int32.ofInt (i : Int) + 4).toNatClampNeg).toInt) S1 (i32_r _) (i32_r _) (i32_r _) (i32_r _)) dL_law_971 mcX10_narrow miX10_narrow (tb_in 592 (by decide +kernel) rfl) hl.1 rfl (by show [Value.int (Int32.ofInt (xs (Int32.ofInt (i : Int) + 1).toNatClampNeg).toInt), Value.int (Int32.ofInt (xs (Int32.ofInt (i : Int) + 2).toNatClampNeg).toInt), Value.int (Int32.ofInt (xs (Int32.ofInt (i : Int) + 3).toNatClampNeg).toInt), Value.int (Int32.ofInt (xs (Int32.ofInt (i : Int) + 4).toNatClampNeg).toInt)] = _; simp only [i32_oi]) ⟨Nat.le_of_ble_eq_true rfl, Nat.le_of_ble_eq_true rfl⟩ clX10 rfl rfl (Nat.le_of_ble_eq_true rfl) ⟨Nat.le_of_ble_eq_true rfl, Nat.le_of_ble_eq_true rfl⟩ ?_
  rintro r S1' H locs ⟨rfl, rfl⟩ hP1 hP2 hS
  obtain ⟨v1, ev1⟩ : ∃ v1 : Int, sp_narrow ((xs (Int32.ofInt (i : Int) + 1).toNatClampNeg).toInt) ((xs (Int32.ofInt (i : Int) + 2).toNatClampNeg).toInt) ((xs (Int32.ofInt (i : Int) + 3).toNatClampNeg).toInt) ((xs (Int32.ofInt (i : Int) + 4).toNatClampNeg).toInt) = v1 := ⟨_, rfl⟩
  show W p l e room_1 s m #[Value.ref b] below meth c H locs 62 6075 (lw_Z below #[Value.ref b] s) (F0 m 974 ls [.long (Int64.ofInt (sp_narrow ((xs (Int32.ofInt (i : Int) + 1).toNatClampNeg).toInt) ((xs (Int32.ofInt (i : Int) + 2).toNatClampNeg).toInt) ((xs (Int32.ofInt (i : Int) + 3).toNatClampNeg).toInt) ((xs (Int32.ofInt (i : Int) + 4).toNatClampNeg).toInt)))])
  rw [ev1]
  refine lv_aload_n hx hb dL_law_974 rfl (lv_at hl 2 rfl) ?_
  refine lv_aload_n hx hb dL_law_975 rfl (lv_at hl 0 rfl) ?_
  refine lv_iload_n hx hb dL_law_976 rfl (lv_at hl 3 rfl) ?_
  refine lv_iconst (v := 1) hx hb dL_law_977 (by decide) ?_
  refine lv_iadd hx hb dL_law_978 ?_
  refine va_sld hx hb hX hbl (Nat.not_le.mpr hbl) hS (lw_ix 1 hL hi (by decide) rfl) dL_law_979 ?_
  refine lv_aload_n hx hb dL_law_980 rfl (lv_at hl 0 rfl) ?_
  refine lv_iload_n hx hb dL_law_981 rfl (lv_at hl 3 rfl) ?_
  refine lv_iconst (v := 2) hx hb dL_law_982 (by decide) ?_
  refine lv_iadd hx hb dL_law_983 ?_
  refine va_sld hx hb hX hbl (Nat.not_le.mpr hbl) hS (lw_ix 2 hL hi (by decide) rfl) dL_law_984 ?_
  refine lv_aload_n hx hb dL_law_985 rfl (lv_at hl 0 rfl) ?_
  refine lv_iload_n hx hb dL_law_986 rfl (lv_at hl 3 rfl) ?_
  refine lv_iconst (v := 3) hx hb dL_law_987 (by decide) ?_
  refine lv_iadd hx hb dL_law_988 ?_
  refine va_sld hx hb hX hbl (Nat.not_le.mpr hbl) hS (lw_ix 3 hL hi (by decide) rfl) dL_law_989 ?_
  refine lv_aload_n hx hb dL_law_990 rfl (lv_at hl 0 rfl) ?_
  refine lv_iload_n hx hb dL_law_991 rfl (lv_at hl 3 rfl) ?_
  refine lv_iconst (v := 4) hx hb dL_law_992 (by decide) ?_
  refine lv_iadd hx hb dL_law_993 ?_
  refine va_sld hx hb hX hbl (Nat.not_le.mpr hbl) hS (lw_ix 4 hL hi (by decide) rfl) dL_law_994 ?_
  refine lw_call (L := LM) (L2 := LX) (ad := a2) (ad2 := a1) (As := [.int (xs (Int32.ofInt (i : Int) + 1).toNatClampNeg), .int (xs (Int32.ofInt (i : Int) + 2).toNatClampNeg), .int (xs (Int32.ofInt (i : Int) + 3).toNatClampNeg), .int (xs (Int32.ofInt (i : Int) + 4).toNatClampNeg)]) (rest := [.long (Int64.ofInt v1)]) hx hb hml hown hts hK hN hD.2.1 hS hD.2.2.2.1 hD.2.2.2.2 hP2 hP1 (m_X11_narrow ((xs (Int32.ofInt (i : Int) + 1).toNatClampNeg).toInt) ((xs (Int32.ofInt (i : Int) + 2).toNatClampNeg).toInt) ((xs (Int32.ofInt (i : Int) + 3).toNatClampNeg).toInt) ((xs (Int32.ofInt (i : Int) + 4).toNatClampNeg).toInt) S2 (i32_r _) (i32_r _) (i32_r _) (i32_r _)) dL_law_995 mcX11_narrow miX11_narrow (tb_in 1092 (by decide +kernel) rfl) hl.1 rfl (by show [Value.int (Int32.ofInt (xs (Int32.ofInt (i : Int) + 1).toNatClampNeg).toInt), Value.int (Int32.ofInt (xs (Int32.ofInt (i : Int) + 2).toNatClampNeg).toInt), Value.int (Int32.ofInt (xs (Int32.ofInt (i : Int) + 3).toNatClampNeg).toInt), Value.int (Int32.ofInt (xs (Int32.ofInt (i : Int) + 4).toNatClampNeg).toInt)] = _; simp only [i32_oi]) ⟨Nat.le_of_ble_eq_true rfl, Nat.le_of_ble_eq_true rfl⟩ clX11 rfl rfl (Nat.le_of_ble_eq_true rfl) ⟨Nat.le_of_ble_eq_true rfl, Nat.le_of_ble_eq_true rfl⟩ ?_
  rintro r S2' H locs ⟨rfl, rfl⟩ hP2 hP1 hS
  show W p l e room_1 s m #[Value.ref b] below meth c H locs 62 6075 (lw_Z below #[Value.ref b] s) (F0 m 998 ls [.long (Int64.ofInt (sp_narrow ((xs (Int32.ofInt (i : Int) + 1).toNatClampNeg).toInt) ((xs (Int32.ofInt (i : Int) + 2).toNatClampNeg).toInt) ((xs (Int32.ofInt (i : Int) + 3).toNatClampNeg).toInt) ((xs (Int32.ofInt (i : Int) + 4).toNatClampNeg).toInt))), .long (Int64.ofInt v1)])
  rw [ev1]
  refine W.lcmp hx hb dL_law_998 ?_
  unfold lg_cmp
  rw [if_neg (by rw [gt_iff_lt, Int64.lt_iff_toInt_lt]; omega), if_pos rfl]
  refine lv_if_eq (tgt := 1682) hx hb dL_law_999 (by decide) (fun _ => ?_) (fun q => absurd rfl q)
  exact kk _ _ _ _ _ hR1 hR2 hP1 hP2 hS

set_option maxHeartbeats 4000000 in
set_option maxRecDepth 100000 in
theorem lw_k21 {p : Program} {l : Launch} {e : Env} {s : State} {m : MethodId} {below : List Frame} {meth : Method} {c : Code} {b L : Nat} {xs : Nat → Int32} {D : va_G} {a1 a2 : Nat → Nat} {T : zT} {A S1 S2 : SS} {i : Nat} {H : Heap} {locs : List Loc} {ls : Array Slot} (hL : L ≤ 3072) (hx : p.tables.exec = Jvm.exec) (hb : c.code = cL_law) (hml : c.maxLocals = 4) (hown : s.vm.findClass RL = some m.cls) (hts : ∀ w ∈ TB, w.before #[Value.ref b] s = true) (hK : va_K D vwCl (zTy T) s) (hN : zN s) (hX : va_X b L xs s s.heap) (hbl : b < s.heap.size) (hD : lwD s a1 a2) (hi : i + 6 ≤ L) (hS : va_S (fun q => s.heap.size ≤ q) s.heap H locs) (hP1 : va_P D vwCl (wd a1 T LX S1) H) (hP2 : va_P D vwCl (wd a2 T LM S2) H) (hl : lv_has ls 4 [(0, .ref b), (1, .ref (a1 0)), (2, .ref (a2 0)), (3, .int (Int32.ofInt (i : Int)))]) (hR1 : cRel S1 A) (hR2 : mRel S2 A) (kk : ∀ (A' S1' S2' : SS) (H1 : Heap) (locs1 : List Loc), cRel S1' A' → mRel S2' A' → va_P D vwCl (wd a1 T LX S1') H1 → va_P D vwCl (wd a2 T LM S2') H1 → va_S (fun q => s.heap.size ≤ q) s.heap H1 locs1 → W p l e room_1 s m #[Value.ref b] below meth c H1 locs1 62 6075 (lw_Z below #[Value.ref b] s) (F0 m 1682 ls [])) : W p l e room_1 s m #[Value.ref b] below meth c H locs 62 6075 (lw_Z below #[Value.ref b] s) (F0 m 1004 ls []) := by
  have hm := hR1.1
  refine lv_aload_n hx hb dL_law_1004 rfl (lv_at hl 1 rfl) ?_
  refine lv_aload_n hx hb dL_law_1005 rfl (lv_at hl 0 rfl) ?_
  refine lv_iload_n hx hb dL_law_1006 rfl (lv_at hl 3 rfl) ?_
  refine lv_iconst (v := 1) hx hb dL_law_1007 (by decide) ?_
  refine lv_iadd hx hb dL_law_1008 ?_
  refine va_sld hx hb hX hbl (Nat.not_le.mpr hbl) hS (lw_ix 1 hL hi (by decide) rfl) dL_law_1009 ?_
  refine lv_aload_n hx hb dL_law_1010 rfl (lv_at hl 0 rfl) ?_
  refine lv_iload_n hx hb dL_law_1011 rfl (lv_at hl 3 rfl) ?_
  refine lv_iconst (v := 2) hx hb dL_law_1012 (by decide) ?_
  refine lv_iadd hx hb dL_law_1013 ?_
  refine va_sld hx hb hX hbl (Nat.not_le.mpr hbl) hS (lw_ix 2 hL hi (by decide) rfl) dL_law_1014 ?_
  refine lv_aload_n hx hb dL_law_1015 rfl (lv_at hl 0 rfl) ?_
  refine lv_iload_n hx hb dL_law_1016 rfl (lv_at hl 3 rfl) ?_
  refine lv_iconst (v := 3) hx hb dL_law_1017 (by decide) ?_
  refine lv_iadd hx hb dL_law_1018 ?_
  refine va_sld hx hb hX hbl (Nat.not_le.mpr hbl) hS (lw_ix 3 hL hi (by decide) rfl) dL_law_1019 ?_
  refine lw_call (L := LX) (L2 := LM) (ad := a1) (ad2 := a2) (As := [.int (xs (Int32.ofInt (i : Int) + 1).toNatClampNeg), .int (xs (Int32.ofInt (i : Int) + 2).toNatClampNeg), .int (xs (Int32.ofInt (i : Int) + 3).toNatClampNeg)]) (rest := []) hx hb hml hown hts hK hN hD.1 hS hD.2.2.1 (fun q h1 h2 => hD.2.2.2.2 q h2 h1) hP1 hP2 (m_X10_wide ((xs (Int32.ofInt (i : Int) + 1).toNatClampNeg).toInt) ((xs (Int32.ofInt (i : Int) + 2).toNatClampNeg).toInt) ((xs (Int32.ofInt (i : Int) + 3).toNatClampNeg).toInt) S1 (i32_r _) (i32_r _) (i32_r _)) dL_law_1020 mcX10_wide miX10_wide (tb_in 599 (by decide +kernel) rfl) hl.1 rfl (by show [Value.int (Int32.ofInt (xs (Int32.ofInt (i : Int) + 1).toNatClampNeg).toInt), Value.int (Int32.ofInt (xs (Int32.ofInt (i : Int) + 2).toNatClampNeg).toInt), Value.int (Int32.ofInt (xs (Int32.ofInt (i : Int) + 3).toNatClampNeg).toInt)] = _; simp only [i32_oi]) ⟨Nat.le_of_ble_eq_true rfl, Nat.le_of_ble_eq_true rfl⟩ clX10 rfl rfl (Nat.le_of_ble_eq_true rfl) ⟨Nat.le_of_ble_eq_true rfl, Nat.le_of_ble_eq_true rfl⟩ ?_
  rintro r S1' H locs ⟨rfl, rfl⟩ hP1 hP2 hS
  obtain ⟨v1, ev1⟩ : ∃ v1 : Int, sp_wide ((xs (Int32.ofInt (i : Int) + 1).toNatClampNeg).toInt) ((xs (Int32.ofInt (i : Int) + 2).toNatClampNeg).toInt) ((xs (Int32.ofInt (i : Int) + 3).toNatClampNeg).toInt) = v1 := ⟨_, rfl⟩
  show W p l e room_1 s m #[Value.ref b] below meth c H locs 62 6075 (lw_Z below #[Value.ref b] s) (F0 m 1023 ls [.int (Int32.ofInt (sp_wide ((xs (Int32.ofInt (i : Int) + 1).toNatClampNeg).toInt) ((xs (Int32.ofInt (i : Int) + 2).toNatClampNeg).toInt) ((xs (Int32.ofInt (i : Int) + 3).toNatClampNeg).toInt)))])
  rw [ev1]
  refine lv_aload_n hx hb dL_law_1023 rfl (lv_at hl 2 rfl) ?_
  refine lv_aload_n hx hb dL_law_1024 rfl (lv_at hl 0 rfl) ?_
  refine lv_iload_n hx hb dL_law_1025 rfl (lv_at hl 3 rfl) ?_
  refine lv_iconst (v := 1) hx hb dL_law_1026 (by decide) ?_
  refine lv_iadd hx hb dL_law_1027 ?_
  refine va_sld hx hb hX hbl (Nat.not_le.mpr hbl) hS (lw_ix 1 hL hi (by decide) rfl) dL_law_1028 ?_
  refine lv_aload_n hx hb dL_law_1029 rfl (lv_at hl 0 rfl) ?_
  refine lv_iload_n hx hb dL_law_1030 rfl (lv_at hl 3 rfl) ?_
  refine lv_iconst (v := 2) hx hb dL_law_1031 (by decide) ?_
  refine lv_iadd hx hb dL_law_1032 ?_
  refine va_sld hx hb hX hbl (Nat.not_le.mpr hbl) hS (lw_ix 2 hL hi (by decide) rfl) dL_law_1033 ?_
  refine lv_aload_n hx hb dL_law_1034 rfl (lv_at hl 0 rfl) ?_
  refine lv_iload_n hx hb dL_law_1035 rfl (lv_at hl 3 rfl) ?_
  refine lv_iconst (v := 3) hx hb dL_law_1036 (by decide) ?_
  refine lv_iadd hx hb dL_law_1037 ?_
  refine va_sld hx hb hX hbl (Nat.not_le.mpr hbl) hS (lw_ix 3 hL hi (by decide) rfl) dL_law_1038 ?_
  refine lw_call (L := LM) (L2 := LX) (ad := a2) (ad2 := a1) (As := [.int (xs (Int32.ofInt (i : Int) + 1).toNatClampNeg), .int (xs (Int32.ofInt (i : Int) + 2).toNatClampNeg), .int (xs (Int32.ofInt (i : Int) + 3).toNatClampNeg)]) (rest := [.int (Int32.ofInt v1)]) hx hb hml hown hts hK hN hD.2.1 hS hD.2.2.2.1 hD.2.2.2.2 hP2 hP1 (m_X11_wide ((xs (Int32.ofInt (i : Int) + 1).toNatClampNeg).toInt) ((xs (Int32.ofInt (i : Int) + 2).toNatClampNeg).toInt) ((xs (Int32.ofInt (i : Int) + 3).toNatClampNeg).toInt) S2 (i32_r _) (i32_r _) (i32_r _)) dL_law_1039 mcX11_wide miX11_wide (tb_in 1099 (by decide +kernel) rfl) hl.1 rfl (by show [Value.int (Int32.ofInt (xs (Int32.ofInt (i : Int) + 1).toNatClampNeg).toInt), Value.int (Int32.ofInt (xs (Int32.ofInt (i : Int) + 2).toNatClampNeg).toInt), Value.int (Int32.ofInt (xs (Int32.ofInt (i : Int) + 3).toNatClampNeg).toInt)] = _; simp only [i32_oi]) ⟨Nat.le_of_ble_eq_true rfl, Nat.le_of_ble_eq_true rfl⟩ clX11 rfl rfl (Nat.le_of_ble_eq_true rfl) ⟨Nat.le_of_ble_eq_true rfl, Nat.le_of_ble_eq_true rfl⟩ ?_
  rintro r S2' H locs ⟨rfl, rfl⟩ hP2 hP1 hS
  show W p l e room_1 s m #[Value.ref b] below meth c H locs 62 6075 (lw_Z below #[Value.ref b] s) (F0 m 1042 ls [.int (Int32.ofInt (sp_wide ((xs (Int32.ofInt (i : Int) + 1).toNatClampNeg).toInt) ((xs (Int32.ofInt (i : Int) + 2).toNatClampNeg).toInt) ((xs (Int32.ofInt (i : Int) + 3).toNatClampNeg).toInt))), .int (Int32.ofInt v1)])
  rw [ev1]
  refine lv_icmp_eq (tgt := 1682) hx hb dL_law_1042 (by decide) (fun _ => ?_) (fun q => absurd rfl q)
  exact kk _ _ _ _ _ hR1 hR2 hP1 hP2 hS

set_option maxHeartbeats 4000000 in
set_option maxRecDepth 100000 in
theorem lw_k22 {p : Program} {l : Launch} {e : Env} {s : State} {m : MethodId} {below : List Frame} {meth : Method} {c : Code} {b L : Nat} {xs : Nat → Int32} {D : va_G} {a1 a2 : Nat → Nat} {T : zT} {A S1 S2 : SS} {i : Nat} {H : Heap} {locs : List Loc} {ls : Array Slot} (hL : L ≤ 3072) (hx : p.tables.exec = Jvm.exec) (hb : c.code = cL_law) (hml : c.maxLocals = 4) (hown : s.vm.findClass RL = some m.cls) (hts : ∀ w ∈ TB, w.before #[Value.ref b] s = true) (hK : va_K D vwCl (zTy T) s) (hN : zN s) (hX : va_X b L xs s s.heap) (hbl : b < s.heap.size) (hD : lwD s a1 a2) (hi : i + 6 ≤ L) (hS : va_S (fun q => s.heap.size ≤ q) s.heap H locs) (hP1 : va_P D vwCl (wd a1 T LX S1) H) (hP2 : va_P D vwCl (wd a2 T LM S2) H) (hl : lv_has ls 4 [(0, .ref b), (1, .ref (a1 0)), (2, .ref (a2 0)), (3, .int (Int32.ofInt (i : Int)))]) (hR1 : cRel S1 A) (hR2 : mRel S2 A) (kk : ∀ (A' S1' S2' : SS) (H1 : Heap) (locs1 : List Loc), cRel S1' A' → mRel S2' A' → va_P D vwCl (wd a1 T LX S1') H1 → va_P D vwCl (wd a2 T LM S2') H1 → va_S (fun q => s.heap.size ≤ q) s.heap H1 locs1 → W p l e room_1 s m #[Value.ref b] below meth c H1 locs1 62 6075 (lw_Z below #[Value.ref b] s) (F0 m 1682 ls [])) : W p l e room_1 s m #[Value.ref b] below meth c H locs 62 6075 (lw_Z below #[Value.ref b] s) (F0 m 1047 ls []) := by
  have hm := hR1.1
  refine lv_aload_n hx hb dL_law_1047 rfl (lv_at hl 1 rfl) ?_
  refine lv_aload_n hx hb dL_law_1048 rfl (lv_at hl 0 rfl) ?_
  refine lv_iload_n hx hb dL_law_1049 rfl (lv_at hl 3 rfl) ?_
  refine lv_iconst (v := 1) hx hb dL_law_1050 (by decide) ?_
  refine lv_iadd hx hb dL_law_1051 ?_
  refine va_sld hx hb hX hbl (Nat.not_le.mpr hbl) hS (lw_ix 1 hL hi (by decide) rfl) dL_law_1052 ?_
  refine lv_aload_n hx hb dL_law_1053 rfl (lv_at hl 0 rfl) ?_
  refine lv_iload_n hx hb dL_law_1054 rfl (lv_at hl 3 rfl) ?_
  refine lv_iconst (v := 2) hx hb dL_law_1055 (by decide) ?_
  refine lv_iadd hx hb dL_law_1056 ?_
  refine va_sld hx hb hX hbl (Nat.not_le.mpr hbl) hS (lw_ix 2 hL hi (by decide) rfl) dL_law_1057 ?_
  refine lw_call (L := LX) (L2 := LM) (ad := a1) (ad2 := a2) (As := [.int (xs (Int32.ofInt (i : Int) + 1).toNatClampNeg), .int (xs (Int32.ofInt (i : Int) + 2).toNatClampNeg)]) (rest := []) hx hb hml hown hts hK hN hD.1 hS hD.2.2.1 (fun q h1 h2 => hD.2.2.2.2 q h2 h1) hP1 hP2 (m_X10_slit ((xs (Int32.ofInt (i : Int) + 1).toNatClampNeg).toInt) ((xs (Int32.ofInt (i : Int) + 2).toNatClampNeg).toInt) S1 (i32_r _) (i32_r _)) dL_law_1058 mcX10_slit miX10_slit (tb_in 603 (by decide +kernel) rfl) hl.1 rfl (by show [Value.int (Int32.ofInt (xs (Int32.ofInt (i : Int) + 1).toNatClampNeg).toInt), Value.int (Int32.ofInt (xs (Int32.ofInt (i : Int) + 2).toNatClampNeg).toInt)] = _; simp only [i32_oi]) ⟨Nat.le_of_ble_eq_true rfl, Nat.le_of_ble_eq_true rfl⟩ clX10 rfl rfl (Nat.le_of_ble_eq_true rfl) ⟨Nat.le_of_ble_eq_true rfl, Nat.le_of_ble_eq_true rfl⟩ ?_
  rintro r S1' H locs ⟨rfl, rfl⟩ hP1 hP2 hS
  obtain ⟨v1, ev1⟩ : ∃ v1 : Int, sp_slit ((xs (Int32.ofInt (i : Int) + 1).toNatClampNeg).toInt) ((xs (Int32.ofInt (i : Int) + 2).toNatClampNeg).toInt) = v1 := ⟨_, rfl⟩
  show W p l e room_1 s m #[Value.ref b] below meth c H locs 62 6075 (lw_Z below #[Value.ref b] s) (F0 m 1061 ls [.int (Int32.ofInt (sp_slit ((xs (Int32.ofInt (i : Int) + 1).toNatClampNeg).toInt) ((xs (Int32.ofInt (i : Int) + 2).toNatClampNeg).toInt)))])
  rw [ev1]
  refine lv_aload_n hx hb dL_law_1061 rfl (lv_at hl 2 rfl) ?_
  refine lv_aload_n hx hb dL_law_1062 rfl (lv_at hl 0 rfl) ?_
  refine lv_iload_n hx hb dL_law_1063 rfl (lv_at hl 3 rfl) ?_
  refine lv_iconst (v := 1) hx hb dL_law_1064 (by decide) ?_
  refine lv_iadd hx hb dL_law_1065 ?_
  refine va_sld hx hb hX hbl (Nat.not_le.mpr hbl) hS (lw_ix 1 hL hi (by decide) rfl) dL_law_1066 ?_
  refine lv_aload_n hx hb dL_law_1067 rfl (lv_at hl 0 rfl) ?_
  refine lv_iload_n hx hb dL_law_1068 rfl (lv_at hl 3 rfl) ?_
  refine lv_iconst (v := 2) hx hb dL_law_1069 (by decide) ?_
  refine lv_iadd hx hb dL_law_1070 ?_
  refine va_sld hx hb hX hbl (Nat.not_le.mpr hbl) hS (lw_ix 2 hL hi (by decide) rfl) dL_law_1071 ?_
  refine lw_call (L := LM) (L2 := LX) (ad := a2) (ad2 := a1) (As := [.int (xs (Int32.ofInt (i : Int) + 1).toNatClampNeg), .int (xs (Int32.ofInt (i : Int) + 2).toNatClampNeg)]) (rest := [.int (Int32.ofInt v1)]) hx hb hml hown hts hK hN hD.2.1 hS hD.2.2.2.1 hD.2.2.2.2 hP2 hP1 (m_X11_slit ((xs (Int32.ofInt (i : Int) + 1).toNatClampNeg).toInt) ((xs (Int32.ofInt (i : Int) + 2).toNatClampNeg).toInt) S2 (i32_r _) (i32_r _)) dL_law_1072 mcX11_slit miX11_slit (tb_in 1103 (by decide +kernel) rfl) hl.1 rfl (by show [Value.int (Int32.ofInt (xs (Int32.ofInt (i : Int) + 1).toNatClampNeg).toInt), Value.int (Int32.ofInt (xs (Int32.ofInt (i : Int) + 2).toNatClampNeg).toInt)] = _; simp only [i32_oi]) ⟨Nat.le_of_ble_eq_true rfl, Nat.le_of_ble_eq_true rfl⟩ clX11 rfl rfl (Nat.le_of_ble_eq_true rfl) ⟨Nat.le_of_ble_eq_true rfl, Nat.le_of_ble_eq_true rfl⟩ ?_
  rintro r S2' H locs ⟨rfl, rfl⟩ hP2 hP1 hS
  show W p l e room_1 s m #[Value.ref b] below meth c H locs 62 6075 (lw_Z below #[Value.ref b] s) (F0 m 1075 ls [.int (Int32.ofInt (sp_slit ((xs (Int32.ofInt (i : Int) + 1).toNatClampNeg).toInt) ((xs (Int32.ofInt (i : Int) + 2).toNatClampNeg).toInt))), .int (Int32.ofInt v1)])
  rw [ev1]
  refine lv_icmp_eq (tgt := 1682) hx hb dL_law_1075 (by decide) (fun _ => ?_) (fun q => absurd rfl q)
  exact kk _ _ _ _ _ hR1 hR2 hP1 hP2 hS

set_option maxHeartbeats 4000000 in
set_option maxRecDepth 100000 in
theorem lw_k23 {p : Program} {l : Launch} {e : Env} {s : State} {m : MethodId} {below : List Frame} {meth : Method} {c : Code} {b L : Nat} {xs : Nat → Int32} {D : va_G} {a1 a2 : Nat → Nat} {T : zT} {A S1 S2 : SS} {i : Nat} {H : Heap} {locs : List Loc} {ls : Array Slot} (hL : L ≤ 3072) (hx : p.tables.exec = Jvm.exec) (hb : c.code = cL_law) (hml : c.maxLocals = 4) (hown : s.vm.findClass RL = some m.cls) (hts : ∀ w ∈ TB, w.before #[Value.ref b] s = true) (hK : va_K D vwCl (zTy T) s) (hN : zN s) (hX : va_X b L xs s s.heap) (hbl : b < s.heap.size) (hD : lwD s a1 a2) (hi : i + 6 ≤ L) (hS : va_S (fun q => s.heap.size ≤ q) s.heap H locs) (hP1 : va_P D vwCl (wd a1 T LX S1) H) (hP2 : va_P D vwCl (wd a2 T LM S2) H) (hl : lv_has ls 4 [(0, .ref b), (1, .ref (a1 0)), (2, .ref (a2 0)), (3, .int (Int32.ofInt (i : Int)))]) (hR1 : cRel S1 A) (hR2 : mRel S2 A) (kk : ∀ (A' S1' S2' : SS) (H1 : Heap) (locs1 : List Loc), cRel S1' A' → mRel S2' A' → va_P D vwCl (wd a1 T LX S1') H1 → va_P D vwCl (wd a2 T LM S2') H1 → va_S (fun q => s.heap.size ≤ q) s.heap H1 locs1 → W p l e room_1 s m #[Value.ref b] below meth c H1 locs1 62 6075 (lw_Z below #[Value.ref b] s) (F0 m 1682 ls [])) : W p l e room_1 s m #[Value.ref b] below meth c H locs 62 6075 (lw_Z below #[Value.ref b] s) (F0 m 1080 ls []) := by
  have hm := hR1.1
  refine lv_aload_n hx hb dL_law_1080 rfl (lv_at hl 1 rfl) ?_
  refine lv_aload_n hx hb dL_law_1081 rfl (lv_at hl 0 rfl) ?_
  refine lv_iload_n hx hb dL_law_1082 rfl (lv_at hl 3 rfl) ?_
  refine lv_iconst (v := 1) hx hb dL_law_1083 (by decide) ?_
  refine lv_iadd hx hb dL_law_1084 ?_
  refine va_sld hx hb hX hbl (Nat.not_le.mpr hbl) hS (lw_ix 1 hL hi (by decide) rfl) dL_law_1085 ?_
  refine lv_aload_n hx hb dL_law_1086 rfl (lv_at hl 0 rfl) ?_
  refine lv_iload_n hx hb dL_law_1087 rfl (lv_at hl 3 rfl) ?_
  refine lv_iconst (v := 2) hx hb dL_law_1088 (by decide) ?_
  refine lv_iadd hx hb dL_law_1089 ?_
  refine va_sld hx hb hX hbl (Nat.not_le.mpr hbl) hS (lw_ix 2 hL hi (by decide) rfl) dL_law_1090 ?_
  refine lw_call (L := LX) (L2 := LM) (ad := a1) (ad2 := a2) (As := [.int (xs (Int32.ofInt (i : Int) + 1).toNatClampNeg), .int (xs (Int32.ofInt (i : Int) + 2).toNatClampNeg)]) (rest := []) hx hb hml hown hts hK hN hD.1 hS hD.2.2.1 (fun q h1 h2 => hD.2.2.2.2 q h2 h1) hP1 hP2 (m_X10_order ((xs (Int32.ofInt (i : Int) + 1).toNatClampNeg).toInt) ((xs (Int32.ofInt (i : Int) + 2).toNatClampNeg).toInt) A S1 (i32_r _) (i32_r _) hR1) dL_law_1091 mcX10_order miX10_order (tb_in 610 (by decide +kernel) rfl) hl.1 rfl (by show [Value.int (Int32.ofInt (xs (Int32.ofInt (i : Int) + 1).toNatClampNeg).toInt), Value.int (Int32.ofInt (xs (Int32.ofInt (i : Int) + 2).toNatClampNeg).toInt)] = _; simp only [i32_oi]) ⟨Nat.le_of_ble_eq_true rfl, Nat.le_of_ble_eq_true rfl⟩ clX10 rfl rfl (Nat.le_of_ble_eq_true rfl) ⟨Nat.le_of_ble_eq_true rfl, Nat.le_of_ble_eq_true rfl⟩ ?_
  rintro r S1' H locs ⟨rfl, hQ⟩ hP1 hP2 hS
  have hR1 := hQ
  obtain ⟨v1, ev1⟩ : ∃ v1 : Int, (sp_order A ((xs (Int32.ofInt (i : Int) + 1).toNatClampNeg).toInt) ((xs (Int32.ofInt (i : Int) + 2).toNatClampNeg).toInt)) = v1 := ⟨_, rfl⟩
  show W p l e room_1 s m #[Value.ref b] below meth c H locs 62 6075 (lw_Z below #[Value.ref b] s) (F0 m 1094 ls [.int (Int32.ofInt ((sp_order A ((xs (Int32.ofInt (i : Int) + 1).toNatClampNeg).toInt) ((xs (Int32.ofInt (i : Int) + 2).toNatClampNeg).toInt))))])
  rw [ev1]
  refine lv_aload_n hx hb dL_law_1094 rfl (lv_at hl 2 rfl) ?_
  refine lv_aload_n hx hb dL_law_1095 rfl (lv_at hl 0 rfl) ?_
  refine lv_iload_n hx hb dL_law_1096 rfl (lv_at hl 3 rfl) ?_
  refine lv_iconst (v := 1) hx hb dL_law_1097 (by decide) ?_
  refine lv_iadd hx hb dL_law_1098 ?_
  refine va_sld hx hb hX hbl (Nat.not_le.mpr hbl) hS (lw_ix 1 hL hi (by decide) rfl) dL_law_1099 ?_
  refine lv_aload_n hx hb dL_law_1100 rfl (lv_at hl 0 rfl) ?_
  refine lv_iload_n hx hb dL_law_1101 rfl (lv_at hl 3 rfl) ?_
  refine lv_iconst (v := 2) hx hb dL_law_1102 (by decide) ?_
  refine lv_iadd hx hb dL_law_1103 ?_
  refine va_sld hx hb hX hbl (Nat.not_le.mpr hbl) hS (lw_ix 2 hL hi (by decide) rfl) dL_law_1104 ?_
  refine lw_call (L := LM) (L2 := LX) (ad := a2) (ad2 := a1) (As := [.int (xs (Int32.ofInt (i : Int) + 1).toNatClampNeg), .int (xs (Int32.ofInt (i : Int) + 2).toNatClampNeg)]) (rest := [.int (Int32.ofInt v1)]) hx hb hml hown hts hK hN hD.2.1 hS hD.2.2.2.1 hD.2.2.2.2 hP2 hP1 (m_X11_order ((xs (Int32.ofInt (i : Int) + 1).toNatClampNeg).toInt) ((xs (Int32.ofInt (i : Int) + 2).toNatClampNeg).toInt) A S2 (i32_r _) (i32_r _) hR2 hm) dL_law_1105 mcX11_order miX11_order (tb_in 1107 (by decide +kernel) rfl) hl.1 rfl (by show [Value.int (Int32.ofInt (xs (Int32.ofInt (i : Int) + 1).toNatClampNeg).toInt), Value.int (Int32.ofInt (xs (Int32.ofInt (i : Int) + 2).toNatClampNeg).toInt)] = _; simp only [i32_oi]) ⟨Nat.le_of_ble_eq_true rfl, Nat.le_of_ble_eq_true rfl⟩ clX11 rfl rfl (Nat.le_of_ble_eq_true rfl) ⟨Nat.le_of_ble_eq_true rfl, Nat.le_of_ble_eq_true rfl⟩ ?_
  rintro r S2' H locs ⟨rfl, hQ⟩ hP2 hP1 hS
  show W p l e room_1 s m #[Value.ref b] below meth c H locs 62 6075 (lw_Z below #[Value.ref b] s) (F0 m 1108 ls [.int (Int32.ofInt ((sp_order A ((xs (Int32.ofInt (i : Int) + 1).toNatClampNeg).toInt) ((xs (Int32.ofInt (i : Int) + 2).toNatClampNeg).toInt)))), .int (Int32.ofInt v1)])
  rw [ev1]
  refine lv_icmp_eq (tgt := 1682) hx hb dL_law_1108 (by decide) (fun _ => ?_) (fun q => absurd rfl q)
  exact kk _ _ _ _ _ hR1 hQ hP1 hP2 hS

set_option maxHeartbeats 4000000 in
set_option maxRecDepth 100000 in
theorem lw_k24 {p : Program} {l : Launch} {e : Env} {s : State} {m : MethodId} {below : List Frame} {meth : Method} {c : Code} {b L : Nat} {xs : Nat → Int32} {D : va_G} {a1 a2 : Nat → Nat} {T : zT} {A S1 S2 : SS} {i : Nat} {H : Heap} {locs : List Loc} {ls : Array Slot} (hL : L ≤ 3072) (hx : p.tables.exec = Jvm.exec) (hb : c.code = cL_law) (hml : c.maxLocals = 4) (hown : s.vm.findClass RL = some m.cls) (hts : ∀ w ∈ TB, w.before #[Value.ref b] s = true) (hK : va_K D vwCl (zTy T) s) (hN : zN s) (hX : va_X b L xs s s.heap) (hbl : b < s.heap.size) (hD : lwD s a1 a2) (hi : i + 6 ≤ L) (hS : va_S (fun q => s.heap.size ≤ q) s.heap H locs) (hP1 : va_P D vwCl (wd a1 T LX S1) H) (hP2 : va_P D vwCl (wd a2 T LM S2) H) (hl : lv_has ls 4 [(0, .ref b), (1, .ref (a1 0)), (2, .ref (a2 0)), (3, .int (Int32.ofInt (i : Int)))]) (hR1 : cRel S1 A) (hR2 : mRel S2 A) (kk : ∀ (A' S1' S2' : SS) (H1 : Heap) (locs1 : List Loc), cRel S1' A' → mRel S2' A' → va_P D vwCl (wd a1 T LX S1') H1 → va_P D vwCl (wd a2 T LM S2') H1 → va_S (fun q => s.heap.size ≤ q) s.heap H1 locs1 → W p l e room_1 s m #[Value.ref b] below meth c H1 locs1 62 6075 (lw_Z below #[Value.ref b] s) (F0 m 1682 ls [])) : W p l e room_1 s m #[Value.ref b] below meth c H locs 62 6075 (lw_Z below #[Value.ref b] s) (F0 m 1113 ls []) := by
  have hm := hR1.1
  refine lv_aload_n hx hb dL_law_1113 rfl (lv_at hl 1 rfl) ?_
  refine lv_aload_n hx hb dL_law_1114 rfl (lv_at hl 0 rfl) ?_
  refine lv_iload_n hx hb dL_law_1115 rfl (lv_at hl 3 rfl) ?_
  refine lv_iconst (v := 1) hx hb dL_law_1116 (by decide) ?_
  refine lv_iadd hx hb dL_law_1117 ?_
  refine va_sld hx hb hX hbl (Nat.not_le.mpr hbl) hS (lw_ix 1 hL hi (by decide) rfl) dL_law_1118 ?_
  refine lw_call (L := LX) (L2 := LM) (ad := a1) (ad2 := a2) (As := [.int (xs (Int32.ofInt (i : Int) + 1).toNatClampNeg)]) (rest := []) hx hb hml hown hts hK hN hD.1 hS hD.2.2.1 (fun q h1 h2 => hD.2.2.2.2 q h2 h1) hP1 hP2 (m_X10_orders ((xs (Int32.ofInt (i : Int) + 1).toNatClampNeg).toInt) A S1 (i32_r _) hR1) dL_law_1119 mcX10_orders miX10_orders (tb_in 648 (by decide +kernel) rfl) hl.1 rfl (by show [Value.int (Int32.ofInt (xs (Int32.ofInt (i : Int) + 1).toNatClampNeg).toInt)] = _; simp only [i32_oi]) ⟨Nat.le_of_ble_eq_true rfl, Nat.le_of_ble_eq_true rfl⟩ clX10 rfl rfl (Nat.le_of_ble_eq_true rfl) ⟨Nat.le_of_ble_eq_true rfl, Nat.le_of_ble_eq_true rfl⟩ ?_
  rintro r S1' H locs ⟨rfl, hQ⟩ hP1 hP2 hS
  have hR1 := hQ
  obtain ⟨v1, ev1⟩ : ∃ v1 : Int, (sp_orders A ((xs (Int32.ofInt (i : Int) + 1).toNatClampNeg).toInt)) = v1 := ⟨_, rfl⟩
  show W p l e room_1 s m #[Value.ref b] below meth c H locs 62 6075 (lw_Z below #[Value.ref b] s) (F0 m 1122 ls [.int (Int32.ofInt ((sp_orders A ((xs (Int32.ofInt (i : Int) + 1).toNatClampNeg).toInt))))])
  rw [ev1]
  refine lv_aload_n hx hb dL_law_1122 rfl (lv_at hl 2 rfl) ?_
  refine lv_aload_n hx hb dL_law_1123 rfl (lv_at hl 0 rfl) ?_
  refine lv_iload_n hx hb dL_law_1124 rfl (lv_at hl 3 rfl) ?_
  refine lv_iconst (v := 1) hx hb dL_law_1125 (by decide) ?_
  refine lv_iadd hx hb dL_law_1126 ?_
  refine va_sld hx hb hX hbl (Nat.not_le.mpr hbl) hS (lw_ix 1 hL hi (by decide) rfl) dL_law_1127 ?_
  refine lw_call (L := LM) (L2 := LX) (ad := a2) (ad2 := a1) (As := [.int (xs (Int32.ofInt (i : Int) + 1).toNatClampNeg)]) (rest := [.int (Int32.ofInt v1)]) hx hb hml hown hts hK hN hD.2.1 hS hD.2.2.2.1 hD.2.2.2.2 hP2 hP1 (m_X11_orders ((xs (Int32.ofInt (i : Int) + 1).toNatClampNeg).toInt) A S2 (i32_r _) hR2 hm) dL_law_1128 mcX11_orders miX11_orders (tb_in 1119 (by decide +kernel) rfl) hl.1 rfl (by show [Value.int (Int32.ofInt (xs (Int32.ofInt (i : Int) + 1).toNatClampNeg).toInt)] = _; simp only [i32_oi]) ⟨Nat.le_of_ble_eq_true rfl, Nat.le_of_ble_eq_true rfl⟩ clX11 rfl rfl (Nat.le_of_ble_eq_true rfl) ⟨Nat.le_of_ble_eq_true rfl, Nat.le_of_ble_eq_true rfl⟩ ?_
  rintro r S2' H locs ⟨rfl, hQ⟩ hP2 hP1 hS
  show W p l e room_1 s m #[Value.ref b] below meth c H locs 62 6075 (lw_Z below #[Value.ref b] s) (F0 m 1131 ls [.int (Int32.ofInt ((sp_orders A ((xs (Int32.ofInt (i : Int) + 1).toNatClampNeg).toInt)))), .int (Int32.ofInt v1)])
  rw [ev1]
  refine lv_icmp_eq (tgt := 1682) hx hb dL_law_1131 (by decide) (fun _ => ?_) (fun q => absurd rfl q)
  exact kk _ _ _ _ _ hR1 hQ hP1 hP2 hS

set_option maxHeartbeats 4000000 in
set_option maxRecDepth 100000 in
theorem lw_k25 {p : Program} {l : Launch} {e : Env} {s : State} {m : MethodId} {below : List Frame} {meth : Method} {c : Code} {b L : Nat} {xs : Nat → Int32} {D : va_G} {a1 a2 : Nat → Nat} {T : zT} {A S1 S2 : SS} {i : Nat} {H : Heap} {locs : List Loc} {ls : Array Slot} (hL : L ≤ 3072) (hx : p.tables.exec = Jvm.exec) (hb : c.code = cL_law) (hml : c.maxLocals = 4) (hown : s.vm.findClass RL = some m.cls) (hts : ∀ w ∈ TB, w.before #[Value.ref b] s = true) (hK : va_K D vwCl (zTy T) s) (hN : zN s) (hX : va_X b L xs s s.heap) (hbl : b < s.heap.size) (hD : lwD s a1 a2) (hi : i + 6 ≤ L) (hS : va_S (fun q => s.heap.size ≤ q) s.heap H locs) (hP1 : va_P D vwCl (wd a1 T LX S1) H) (hP2 : va_P D vwCl (wd a2 T LM S2) H) (hl : lv_has ls 4 [(0, .ref b), (1, .ref (a1 0)), (2, .ref (a2 0)), (3, .int (Int32.ofInt (i : Int)))]) (hR1 : cRel S1 A) (hR2 : mRel S2 A) (kk : ∀ (A' S1' S2' : SS) (H1 : Heap) (locs1 : List Loc), cRel S1' A' → mRel S2' A' → va_P D vwCl (wd a1 T LX S1') H1 → va_P D vwCl (wd a2 T LM S2') H1 → va_S (fun q => s.heap.size ≤ q) s.heap H1 locs1 → W p l e room_1 s m #[Value.ref b] below meth c H1 locs1 62 6075 (lw_Z below #[Value.ref b] s) (F0 m 1682 ls [])) : W p l e room_1 s m #[Value.ref b] below meth c H locs 62 6075 (lw_Z below #[Value.ref b] s) (F0 m 1136 ls []) := by
  have hm := hR1.1
  refine lv_aload_n hx hb dL_law_1136 rfl (lv_at hl 1 rfl) ?_
  refine lv_aload_n hx hb dL_law_1137 rfl (lv_at hl 0 rfl) ?_
  refine lv_iload_n hx hb dL_law_1138 rfl (lv_at hl 3 rfl) ?_
  refine lv_iconst (v := 1) hx hb dL_law_1139 (by decide) ?_
  refine lv_iadd hx hb dL_law_1140 ?_
  refine va_sld hx hb hX hbl (Nat.not_le.mpr hbl) hS (lw_ix 1 hL hi (by decide) rfl) dL_law_1141 ?_
  refine lv_aload_n hx hb dL_law_1142 rfl (lv_at hl 0 rfl) ?_
  refine lv_iload_n hx hb dL_law_1143 rfl (lv_at hl 3 rfl) ?_
  refine lv_iconst (v := 2) hx hb dL_law_1144 (by decide) ?_
  refine lv_iadd hx hb dL_law_1145 ?_
  refine va_sld hx hb hX hbl (Nat.not_le.mpr hbl) hS (lw_ix 2 hL hi (by decide) rfl) dL_law_1146 ?_
  refine lw_call (L := LX) (L2 := LM) (ad := a1) (ad2 := a2) (As := [.int (xs (Int32.ofInt (i : Int) + 1).toNatClampNeg), .int (xs (Int32.ofInt (i : Int) + 2).toNatClampNeg)]) (rest := []) hx hb hml hown hts hK hN hD.1 hS hD.2.2.1 (fun q h1 h2 => hD.2.2.2.2 q h2 h1) hP1 hP2 (m_X10_missing ((xs (Int32.ofInt (i : Int) + 1).toNatClampNeg).toInt) ((xs (Int32.ofInt (i : Int) + 2).toNatClampNeg).toInt) A S1 (i32_r _) (i32_r _) hR1) dL_law_1147 mcX10_missing miX10_missing (tb_in 656 (by decide +kernel) rfl) hl.1 rfl (by show [Value.int (Int32.ofInt (xs (Int32.ofInt (i : Int) + 1).toNatClampNeg).toInt), Value.int (Int32.ofInt (xs (Int32.ofInt (i : Int) + 2).toNatClampNeg).toInt)] = _; simp only [i32_oi]) ⟨Nat.le_of_ble_eq_true rfl, Nat.le_of_ble_eq_true rfl⟩ clX10 rfl rfl (Nat.le_of_ble_eq_true rfl) ⟨Nat.le_of_ble_eq_true rfl, Nat.le_of_ble_eq_true rfl⟩ ?_
  rintro r S1' H locs ⟨rfl, rfl⟩ hP1 hP2 hS
  obtain ⟨v1, ev1⟩ : ∃ v1 : Int, sp_missing A ((xs (Int32.ofInt (i : Int) + 1).toNatClampNeg).toInt) ((xs (Int32.ofInt (i : Int) + 2).toNatClampNeg).toInt) = v1 := ⟨_, rfl⟩
  show W p l e room_1 s m #[Value.ref b] below meth c H locs 62 6075 (lw_Z below #[Value.ref b] s) (F0 m 1150 ls [.int (Int32.ofInt (sp_missing A ((xs (Int32.ofInt (i : Int) + 1).toNatClampNeg).toInt) ((xs (Int32.ofInt (i : Int) + 2).toNatClampNeg).toInt)))])
  rw [ev1]
  refine lv_aload_n hx hb dL_law_1150 rfl (lv_at hl 2 rfl) ?_
  refine lv_aload_n hx hb dL_law_1151 rfl (lv_at hl 0 rfl) ?_
  refine lv_iload_n hx hb dL_law_1152 rfl (lv_at hl 3 rfl) ?_
  refine lv_iconst (v := 1) hx hb dL_law_1153 (by decide) ?_
  refine lv_iadd hx hb dL_law_1154 ?_
  refine va_sld hx hb hX hbl (Nat.not_le.mpr hbl) hS (lw_ix 1 hL hi (by decide) rfl) dL_law_1155 ?_
  refine lv_aload_n hx hb dL_law_1156 rfl (lv_at hl 0 rfl) ?_
  refine lv_iload_n hx hb dL_law_1157 rfl (lv_at hl 3 rfl) ?_
  refine lv_iconst (v := 2) hx hb dL_law_1158 (by decide) ?_
  refine lv_iadd hx hb dL_law_1159 ?_
  refine va_sld hx hb hX hbl (Nat.not_le.mpr hbl) hS (lw_ix 2 hL hi (by decide) rfl) dL_law_1160 ?_
  refine lw_call (L := LM) (L2 := LX) (ad := a2) (ad2 := a1) (As := [.int (xs (Int32.ofInt (i : Int) + 1).toNatClampNeg), .int (xs (Int32.ofInt (i : Int) + 2).toNatClampNeg)]) (rest := [.int (Int32.ofInt v1)]) hx hb hml hown hts hK hN hD.2.1 hS hD.2.2.2.1 hD.2.2.2.2 hP2 hP1 (m_X11_missing ((xs (Int32.ofInt (i : Int) + 1).toNatClampNeg).toInt) ((xs (Int32.ofInt (i : Int) + 2).toNatClampNeg).toInt) A S2 (i32_r _) (i32_r _) hR2 hm) dL_law_1161 mcX11_missing miX11_missing (tb_in 1127 (by decide +kernel) rfl) hl.1 rfl (by show [Value.int (Int32.ofInt (xs (Int32.ofInt (i : Int) + 1).toNatClampNeg).toInt), Value.int (Int32.ofInt (xs (Int32.ofInt (i : Int) + 2).toNatClampNeg).toInt)] = _; simp only [i32_oi]) ⟨Nat.le_of_ble_eq_true rfl, Nat.le_of_ble_eq_true rfl⟩ clX11 rfl rfl (Nat.le_of_ble_eq_true rfl) ⟨Nat.le_of_ble_eq_true rfl, Nat.le_of_ble_eq_true rfl⟩ ?_
  rintro r S2' H locs ⟨rfl, hQ⟩ hP2 hP1 hS
  show W p l e room_1 s m #[Value.ref b] below meth c H locs 62 6075 (lw_Z below #[Value.ref b] s) (F0 m 1164 ls [.int (Int32.ofInt (sp_missing A ((xs (Int32.ofInt (i : Int) + 1).toNatClampNeg).toInt) ((xs (Int32.ofInt (i : Int) + 2).toNatClampNeg).toInt))), .int (Int32.ofInt v1)])
  rw [ev1]
  refine lv_icmp_eq (tgt := 1682) hx hb dL_law_1164 (by decide) (fun _ => ?_) (fun q => absurd rfl q)
  exact kk _ _ _ _ _ hR1 hQ hP1 hP2 hS

set_option maxHeartbeats 4000000 in
set_option maxRecDepth 100000 in
theorem lw_k26 {p : Program} {l : Launch} {e : Env} {s : State} {m : MethodId} {below : List Frame} {meth : Method} {c : Code} {b L : Nat} {xs : Nat → Int32} {D : va_G} {a1 a2 : Nat → Nat} {T : zT} {A S1 S2 : SS} {i : Nat} {H : Heap} {locs : List Loc} {ls : Array Slot} (hL : L ≤ 3072) (hx : p.tables.exec = Jvm.exec) (hb : c.code = cL_law) (hml : c.maxLocals = 4) (hown : s.vm.findClass RL = some m.cls) (hts : ∀ w ∈ TB, w.before #[Value.ref b] s = true) (hK : va_K D vwCl (zTy T) s) (hN : zN s) (hX : va_X b L xs s s.heap) (hbl : b < s.heap.size) (hD : lwD s a1 a2) (hi : i + 6 ≤ L) (hS : va_S (fun q => s.heap.size ≤ q) s.heap H locs) (hP1 : va_P D vwCl (wd a1 T LX S1) H) (hP2 : va_P D vwCl (wd a2 T LM S2) H) (hl : lv_has ls 4 [(0, .ref b), (1, .ref (a1 0)), (2, .ref (a2 0)), (3, .int (Int32.ofInt (i : Int)))]) (hR1 : cRel S1 A) (hR2 : mRel S2 A) (kk : ∀ (A' S1' S2' : SS) (H1 : Heap) (locs1 : List Loc), cRel S1' A' → mRel S2' A' → va_P D vwCl (wd a1 T LX S1') H1 → va_P D vwCl (wd a2 T LM S2') H1 → va_S (fun q => s.heap.size ≤ q) s.heap H1 locs1 → W p l e room_1 s m #[Value.ref b] below meth c H1 locs1 62 6075 (lw_Z below #[Value.ref b] s) (F0 m 1682 ls [])) : W p l e room_1 s m #[Value.ref b] below meth c H locs 62 6075 (lw_Z below #[Value.ref b] s) (F0 m 1169 ls []) := by
  have hm := hR1.1
  refine lv_aload_n hx hb dL_law_1169 rfl (lv_at hl 1 rfl) ?_
  refine lv_aload_n hx hb dL_law_1170 rfl (lv_at hl 0 rfl) ?_
  refine lv_iload_n hx hb dL_law_1171 rfl (lv_at hl 3 rfl) ?_
  refine lv_iconst (v := 1) hx hb dL_law_1172 (by decide) ?_
  refine lv_iadd hx hb dL_law_1173 ?_
  refine va_sld hx hb hX hbl (Nat.not_le.mpr hbl) hS (lw_ix 1 hL hi (by decide) rfl) dL_law_1174 ?_
  refine lv_aload_n hx hb dL_law_1175 rfl (lv_at hl 0 rfl) ?_
  refine lv_iload_n hx hb dL_law_1176 rfl (lv_at hl 3 rfl) ?_
  refine lv_iconst (v := 2) hx hb dL_law_1177 (by decide) ?_
  refine lv_iadd hx hb dL_law_1178 ?_
  refine va_sld hx hb hX hbl (Nat.not_le.mpr hbl) hS (lw_ix 2 hL hi (by decide) rfl) dL_law_1179 ?_
  refine lv_aload_n hx hb dL_law_1180 rfl (lv_at hl 0 rfl) ?_
  refine lv_iload_n hx hb dL_law_1181 rfl (lv_at hl 3 rfl) ?_
  refine lv_iconst (v := 3) hx hb dL_law_1182 (by decide) ?_
  refine lv_iadd hx hb dL_law_1183 ?_
  refine va_sld hx hb hX hbl (Nat.not_le.mpr hbl) hS (lw_ix 3 hL hi (by decide) rfl) dL_law_1184 ?_
  refine lw_call (L := LX) (L2 := LM) (ad := a1) (ad2 := a2) (As := [.int (xs (Int32.ofInt (i : Int) + 1).toNatClampNeg), .int (xs (Int32.ofInt (i : Int) + 2).toNatClampNeg), .int (xs (Int32.ofInt (i : Int) + 3).toNatClampNeg)]) (rest := []) hx hb hml hown hts hK hN hD.1 hS hD.2.2.1 (fun q h1 h2 => hD.2.2.2.2 q h2 h1) hP1 hP2 (m_X10_half ((xs (Int32.ofInt (i : Int) + 1).toNatClampNeg).toInt) ((xs (Int32.ofInt (i : Int) + 2).toNatClampNeg).toInt) ((xs (Int32.ofInt (i : Int) + 3).toNatClampNeg).toInt) A S1 (i32_r _) (i32_r _) (i32_r _) hR1) dL_law_1185 mcX10_half miX10_half (tb_in 673 (by decide +kernel) rfl) hl.1 rfl (by show [Value.int (Int32.ofInt (xs (Int32.ofInt (i : Int) + 1).toNatClampNeg).toInt), Value.int (Int32.ofInt (xs (Int32.ofInt (i : Int) + 2).toNatClampNeg).toInt), Value.int (Int32.ofInt (xs (Int32.ofInt (i : Int) + 3).toNatClampNeg).toInt)] = _; simp only [i32_oi]) ⟨Nat.le_of_ble_eq_true rfl, Nat.le_of_ble_eq_true rfl⟩ clX10 rfl rfl (Nat.le_of_ble_eq_true rfl) ⟨Nat.le_of_ble_eq_true rfl, Nat.le_of_ble_eq_true rfl⟩ ?_
  rintro r S1' H locs ⟨rfl, rfl⟩ hP1 hP2 hS
  obtain ⟨v1, ev1⟩ : ∃ v1 : Int, sp_half A ((xs (Int32.ofInt (i : Int) + 1).toNatClampNeg).toInt) ((xs (Int32.ofInt (i : Int) + 2).toNatClampNeg).toInt) ((xs (Int32.ofInt (i : Int) + 3).toNatClampNeg).toInt) = v1 := ⟨_, rfl⟩
  show W p l e room_1 s m #[Value.ref b] below meth c H locs 62 6075 (lw_Z below #[Value.ref b] s) (F0 m 1188 ls [.int (Int32.ofInt (sp_half A ((xs (Int32.ofInt (i : Int) + 1).toNatClampNeg).toInt) ((xs (Int32.ofInt (i : Int) + 2).toNatClampNeg).toInt) ((xs (Int32.ofInt (i : Int) + 3).toNatClampNeg).toInt)))])
  rw [ev1]
  refine lv_aload_n hx hb dL_law_1188 rfl (lv_at hl 2 rfl) ?_
  refine lv_aload_n hx hb dL_law_1189 rfl (lv_at hl 0 rfl) ?_
  refine lv_iload_n hx hb dL_law_1190 rfl (lv_at hl 3 rfl) ?_
  refine lv_iconst (v := 1) hx hb dL_law_1191 (by decide) ?_
  refine lv_iadd hx hb dL_law_1192 ?_
  refine va_sld hx hb hX hbl (Nat.not_le.mpr hbl) hS (lw_ix 1 hL hi (by decide) rfl) dL_law_1193 ?_
  refine lv_aload_n hx hb dL_law_1194 rfl (lv_at hl 0 rfl) ?_
  refine lv_iload_n hx hb dL_law_1195 rfl (lv_at hl 3 rfl) ?_
  refine lv_iconst (v := 2) hx hb dL_law_1196 (by decide) ?_
  refine lv_iadd hx hb dL_law_1197 ?_
  refine va_sld hx hb hX hbl (Nat.not_le.mpr hbl) hS (lw_ix 2 hL hi (by decide) rfl) dL_law_1198 ?_
  refine lv_aload_n hx hb dL_law_1199 rfl (lv_at hl 0 rfl) ?_
  refine lv_iload_n hx hb dL_law_1200 rfl (lv_at hl 3 rfl) ?_
  refine lv_iconst (v := 3) hx hb dL_law_1201 (by decide) ?_
  refine lv_iadd hx hb dL_law_1202 ?_
  refine va_sld hx hb hX hbl (Nat.not_le.mpr hbl) hS (lw_ix 3 hL hi (by decide) rfl) dL_law_1203 ?_
  refine lw_call (L := LM) (L2 := LX) (ad := a2) (ad2 := a1) (As := [.int (xs (Int32.ofInt (i : Int) + 1).toNatClampNeg), .int (xs (Int32.ofInt (i : Int) + 2).toNatClampNeg), .int (xs (Int32.ofInt (i : Int) + 3).toNatClampNeg)]) (rest := [.int (Int32.ofInt v1)]) hx hb hml hown hts hK hN hD.2.1 hS hD.2.2.2.1 hD.2.2.2.2 hP2 hP1 (m_X11_half ((xs (Int32.ofInt (i : Int) + 1).toNatClampNeg).toInt) ((xs (Int32.ofInt (i : Int) + 2).toNatClampNeg).toInt) ((xs (Int32.ofInt (i : Int) + 3).toNatClampNeg).toInt) A S2 (i32_r _) (i32_r _) (i32_r _) hR2 hm) dL_law_1204 mcX11_half miX11_half (tb_in 1139 (by decide +kernel) rfl) hl.1 rfl (by show [Value.int (Int32.ofInt (xs (Int32.ofInt (i : Int) + 1).toNatClampNeg).toInt), Value.int (Int32.ofInt (xs (Int32.ofInt (i : Int) + 2).toNatClampNeg).toInt), Value.int (Int32.ofInt (xs (Int32.ofInt (i : Int) + 3).toNatClampNeg).toInt)] = _; simp only [i32_oi]) ⟨Nat.le_of_ble_eq_true rfl, Nat.le_of_ble_eq_true rfl⟩ clX11 rfl rfl (Nat.le_of_ble_eq_true rfl) ⟨Nat.le_of_ble_eq_true rfl, Nat.le_of_ble_eq_true rfl⟩ ?_
  rintro r S2' H locs ⟨rfl, hQ⟩ hP2 hP1 hS
  show W p l e room_1 s m #[Value.ref b] below meth c H locs 62 6075 (lw_Z below #[Value.ref b] s) (F0 m 1207 ls [.int (Int32.ofInt (sp_half A ((xs (Int32.ofInt (i : Int) + 1).toNatClampNeg).toInt) ((xs (Int32.ofInt (i : Int) + 2).toNatClampNeg).toInt) ((xs (Int32.ofInt (i : Int) + 3).toNatClampNeg).toInt))), .int (Int32.ofInt v1)])
  rw [ev1]
  refine lv_icmp_eq (tgt := 1682) hx hb dL_law_1207 (by decide) (fun _ => ?_) (fun q => absurd rfl q)
  exact kk _ _ _ _ _ hR1 hQ hP1 hP2 hS

set_option maxHeartbeats 4000000 in
set_option maxRecDepth 100000 in
theorem lw_k27 {p : Program} {l : Launch} {e : Env} {s : State} {m : MethodId} {below : List Frame} {meth : Method} {c : Code} {b L : Nat} {xs : Nat → Int32} {D : va_G} {a1 a2 : Nat → Nat} {T : zT} {A S1 S2 : SS} {i : Nat} {H : Heap} {locs : List Loc} {ls : Array Slot} (hL : L ≤ 3072) (hx : p.tables.exec = Jvm.exec) (hb : c.code = cL_law) (hml : c.maxLocals = 4) (hown : s.vm.findClass RL = some m.cls) (hts : ∀ w ∈ TB, w.before #[Value.ref b] s = true) (hK : va_K D vwCl (zTy T) s) (hN : zN s) (hX : va_X b L xs s s.heap) (hbl : b < s.heap.size) (hD : lwD s a1 a2) (hi : i + 6 ≤ L) (hS : va_S (fun q => s.heap.size ≤ q) s.heap H locs) (hP1 : va_P D vwCl (wd a1 T LX S1) H) (hP2 : va_P D vwCl (wd a2 T LM S2) H) (hl : lv_has ls 4 [(0, .ref b), (1, .ref (a1 0)), (2, .ref (a2 0)), (3, .int (Int32.ofInt (i : Int)))]) (hR1 : cRel S1 A) (hR2 : mRel S2 A) (kk : ∀ (A' S1' S2' : SS) (H1 : Heap) (locs1 : List Loc), cRel S1' A' → mRel S2' A' → va_P D vwCl (wd a1 T LX S1') H1 → va_P D vwCl (wd a2 T LM S2') H1 → va_S (fun q => s.heap.size ≤ q) s.heap H1 locs1 → W p l e room_1 s m #[Value.ref b] below meth c H1 locs1 62 6075 (lw_Z below #[Value.ref b] s) (F0 m 1682 ls [])) : W p l e room_1 s m #[Value.ref b] below meth c H locs 62 6075 (lw_Z below #[Value.ref b] s) (F0 m 1212 ls []) := by
  have hm := hR1.1
  refine lv_aload_n hx hb dL_law_1212 rfl (lv_at hl 1 rfl) ?_
  refine lv_aload_n hx hb dL_law_1213 rfl (lv_at hl 0 rfl) ?_
  refine lv_iload_n hx hb dL_law_1214 rfl (lv_at hl 3 rfl) ?_
  refine lv_iconst (v := 1) hx hb dL_law_1215 (by decide) ?_
  refine lv_iadd hx hb dL_law_1216 ?_
  refine va_sld hx hb hX hbl (Nat.not_le.mpr hbl) hS (lw_ix 1 hL hi (by decide) rfl) dL_law_1217 ?_
  refine lv_aload_n hx hb dL_law_1218 rfl (lv_at hl 0 rfl) ?_
  refine lv_iload_n hx hb dL_law_1219 rfl (lv_at hl 3 rfl) ?_
  refine lv_iconst (v := 2) hx hb dL_law_1220 (by decide) ?_
  refine lv_iadd hx hb dL_law_1221 ?_
  refine va_sld hx hb hX hbl (Nat.not_le.mpr hbl) hS (lw_ix 2 hL hi (by decide) rfl) dL_law_1222 ?_
  refine lw_call (L := LX) (L2 := LM) (ad := a1) (ad2 := a2) (As := [.int (xs (Int32.ofInt (i : Int) + 1).toNatClampNeg), .int (xs (Int32.ofInt (i : Int) + 2).toNatClampNeg)]) (rest := []) hx hb hml hown hts hK hN hD.1 hS hD.2.2.1 (fun q h1 h2 => hD.2.2.2.2 q h2 h1) hP1 hP2 (m_X10_few ((xs (Int32.ofInt (i : Int) + 1).toNatClampNeg).toInt) ((xs (Int32.ofInt (i : Int) + 2).toNatClampNeg).toInt) A S1 (i32_r _) (i32_r _) hR1) dL_law_1223 mcX10_few miX10_few (tb_in 678 (by decide +kernel) rfl) hl.1 rfl (by show [Value.int (Int32.ofInt (xs (Int32.ofInt (i : Int) + 1).toNatClampNeg).toInt), Value.int (Int32.ofInt (xs (Int32.ofInt (i : Int) + 2).toNatClampNeg).toInt)] = _; simp only [i32_oi]) ⟨Nat.le_of_ble_eq_true rfl, Nat.le_of_ble_eq_true rfl⟩ clX10 rfl rfl (Nat.le_of_ble_eq_true rfl) ⟨Nat.le_of_ble_eq_true rfl, Nat.le_of_ble_eq_true rfl⟩ ?_
  rintro r S1' H locs ⟨rfl, hQ⟩ hP1 hP2 hS
  have hR1 := hQ
  obtain ⟨v1, ev1⟩ : ∃ v1 : Int, sp_few A ((xs (Int32.ofInt (i : Int) + 1).toNatClampNeg).toInt) ((xs (Int32.ofInt (i : Int) + 2).toNatClampNeg).toInt) = v1 := ⟨_, rfl⟩
  show W p l e room_1 s m #[Value.ref b] below meth c H locs 62 6075 (lw_Z below #[Value.ref b] s) (F0 m 1226 ls [.int (Int32.ofInt (sp_few A ((xs (Int32.ofInt (i : Int) + 1).toNatClampNeg).toInt) ((xs (Int32.ofInt (i : Int) + 2).toNatClampNeg).toInt)))])
  rw [ev1]
  refine lv_aload_n hx hb dL_law_1226 rfl (lv_at hl 2 rfl) ?_
  refine lv_aload_n hx hb dL_law_1227 rfl (lv_at hl 0 rfl) ?_
  refine lv_iload_n hx hb dL_law_1228 rfl (lv_at hl 3 rfl) ?_
  refine lv_iconst (v := 1) hx hb dL_law_1229 (by decide) ?_
  refine lv_iadd hx hb dL_law_1230 ?_
  refine va_sld hx hb hX hbl (Nat.not_le.mpr hbl) hS (lw_ix 1 hL hi (by decide) rfl) dL_law_1231 ?_
  refine lv_aload_n hx hb dL_law_1232 rfl (lv_at hl 0 rfl) ?_
  refine lv_iload_n hx hb dL_law_1233 rfl (lv_at hl 3 rfl) ?_
  refine lv_iconst (v := 2) hx hb dL_law_1234 (by decide) ?_
  refine lv_iadd hx hb dL_law_1235 ?_
  refine va_sld hx hb hX hbl (Nat.not_le.mpr hbl) hS (lw_ix 2 hL hi (by decide) rfl) dL_law_1236 ?_
  refine lw_call (L := LM) (L2 := LX) (ad := a2) (ad2 := a1) (As := [.int (xs (Int32.ofInt (i : Int) + 1).toNatClampNeg), .int (xs (Int32.ofInt (i : Int) + 2).toNatClampNeg)]) (rest := [.int (Int32.ofInt v1)]) hx hb hml hown hts hK hN hD.2.1 hS hD.2.2.2.1 hD.2.2.2.2 hP2 hP1 (m_X11_few ((xs (Int32.ofInt (i : Int) + 1).toNatClampNeg).toInt) ((xs (Int32.ofInt (i : Int) + 2).toNatClampNeg).toInt) A S2 (i32_r _) (i32_r _) hR2 hm) dL_law_1237 mcX11_few miX11_few (tb_in 1143 (by decide +kernel) rfl) hl.1 rfl (by show [Value.int (Int32.ofInt (xs (Int32.ofInt (i : Int) + 1).toNatClampNeg).toInt), Value.int (Int32.ofInt (xs (Int32.ofInt (i : Int) + 2).toNatClampNeg).toInt)] = _; simp only [i32_oi]) ⟨Nat.le_of_ble_eq_true rfl, Nat.le_of_ble_eq_true rfl⟩ clX11 rfl rfl (Nat.le_of_ble_eq_true rfl) ⟨Nat.le_of_ble_eq_true rfl, Nat.le_of_ble_eq_true rfl⟩ ?_
  rintro r S2' H locs ⟨rfl, hQ⟩ hP2 hP1 hS
  show W p l e room_1 s m #[Value.ref b] below meth c H locs 62 6075 (lw_Z below #[Value.ref b] s) (F0 m 1240 ls [.int (Int32.ofInt (sp_few A ((xs (Int32.ofInt (i : Int) + 1).toNatClampNeg).toInt) ((xs (Int32.ofInt (i : Int) + 2).toNatClampNeg).toInt))), .int (Int32.ofInt v1)])
  rw [ev1]
  refine lv_icmp_eq (tgt := 1682) hx hb dL_law_1240 (by decide) (fun _ => ?_) (fun q => absurd rfl q)
  exact kk _ _ _ _ _ hR1 hQ hP1 hP2 hS

set_option maxHeartbeats 4000000 in
set_option maxRecDepth 100000 in
theorem lw_k28 {p : Program} {l : Launch} {e : Env} {s : State} {m : MethodId} {below : List Frame} {meth : Method} {c : Code} {b L : Nat} {xs : Nat → Int32} {D : va_G} {a1 a2 : Nat → Nat} {T : zT} {A S1 S2 : SS} {i : Nat} {H : Heap} {locs : List Loc} {ls : Array Slot} (hL : L ≤ 3072) (hx : p.tables.exec = Jvm.exec) (hb : c.code = cL_law) (hml : c.maxLocals = 4) (hown : s.vm.findClass RL = some m.cls) (hts : ∀ w ∈ TB, w.before #[Value.ref b] s = true) (hK : va_K D vwCl (zTy T) s) (hN : zN s) (hX : va_X b L xs s s.heap) (hbl : b < s.heap.size) (hD : lwD s a1 a2) (hi : i + 6 ≤ L) (hS : va_S (fun q => s.heap.size ≤ q) s.heap H locs) (hP1 : va_P D vwCl (wd a1 T LX S1) H) (hP2 : va_P D vwCl (wd a2 T LM S2) H) (hl : lv_has ls 4 [(0, .ref b), (1, .ref (a1 0)), (2, .ref (a2 0)), (3, .int (Int32.ofInt (i : Int)))]) (hR1 : cRel S1 A) (hR2 : mRel S2 A) (kk : ∀ (A' S1' S2' : SS) (H1 : Heap) (locs1 : List Loc), cRel S1' A' → mRel S2' A' → va_P D vwCl (wd a1 T LX S1') H1 → va_P D vwCl (wd a2 T LM S2') H1 → va_S (fun q => s.heap.size ≤ q) s.heap H1 locs1 → W p l e room_1 s m #[Value.ref b] below meth c H1 locs1 62 6075 (lw_Z below #[Value.ref b] s) (F0 m 1682 ls [])) : W p l e room_1 s m #[Value.ref b] below meth c H locs 62 6075 (lw_Z below #[Value.ref b] s) (F0 m 1245 ls []) := by
  have hm := hR1.1
  refine lv_aload_n hx hb dL_law_1245 rfl (lv_at hl 1 rfl) ?_
  refine lv_aload_n hx hb dL_law_1246 rfl (lv_at hl 0 rfl) ?_
  refine lv_iload_n hx hb dL_law_1247 rfl (lv_at hl 3 rfl) ?_
  refine lv_iconst (v := 1) hx hb dL_law_1248 (by decide) ?_
  refine lv_iadd hx hb dL_law_1249 ?_
  refine va_sld hx hb hX hbl (Nat.not_le.mpr hbl) hS (lw_ix 1 hL hi (by decide) rfl) dL_law_1250 ?_
  refine lv_aload_n hx hb dL_law_1251 rfl (lv_at hl 0 rfl) ?_
  refine lv_iload_n hx hb dL_law_1252 rfl (lv_at hl 3 rfl) ?_
  refine lv_iconst (v := 2) hx hb dL_law_1253 (by decide) ?_
  refine lv_iadd hx hb dL_law_1254 ?_
  refine va_sld hx hb hX hbl (Nat.not_le.mpr hbl) hS (lw_ix 2 hL hi (by decide) rfl) dL_law_1255 ?_
  refine lv_aload_n hx hb dL_law_1256 rfl (lv_at hl 0 rfl) ?_
  refine lv_iload_n hx hb dL_law_1257 rfl (lv_at hl 3 rfl) ?_
  refine lv_iconst (v := 3) hx hb dL_law_1258 (by decide) ?_
  refine lv_iadd hx hb dL_law_1259 ?_
  refine va_sld hx hb hX hbl (Nat.not_le.mpr hbl) hS (lw_ix 3 hL hi (by decide) rfl) dL_law_1260 ?_
  refine lw_call (L := LX) (L2 := LM) (ad := a1) (ad2 := a2) (As := [.int (xs (Int32.ofInt (i : Int) + 1).toNatClampNeg), .int (xs (Int32.ofInt (i : Int) + 2).toNatClampNeg), .int (xs (Int32.ofInt (i : Int) + 3).toNatClampNeg)]) (rest := []) hx hb hml hown hts hK hN hD.1 hS hD.2.2.1 (fun q h1 h2 => hD.2.2.2.2 q h2 h1) hP1 hP2 (m_X10_tries ((xs (Int32.ofInt (i : Int) + 1).toNatClampNeg).toInt) ((xs (Int32.ofInt (i : Int) + 2).toNatClampNeg).toInt) ((xs (Int32.ofInt (i : Int) + 3).toNatClampNeg).toInt) A S1 (i32_r _) (i32_r _) (i32_r _) hR1) dL_law_1261 mcX10_tries miX10_tries (tb_in 695 (by decide +kernel) rfl) hl.1 rfl (by show [Value.int (Int32.ofInt (xs (Int32.ofInt (i : Int) + 1).toNatClampNeg).toInt), Value.int (Int32.ofInt (xs (Int32.ofInt (i : Int) + 2).toNatClampNeg).toInt), Value.int (Int32.ofInt (xs (Int32.ofInt (i : Int) + 3).toNatClampNeg).toInt)] = _; simp only [i32_oi]) ⟨Nat.le_of_ble_eq_true rfl, Nat.le_of_ble_eq_true rfl⟩ clX10 rfl rfl (Nat.le_of_ble_eq_true rfl) ⟨Nat.le_of_ble_eq_true rfl, Nat.le_of_ble_eq_true rfl⟩ ?_
  rintro r S1' H locs ⟨rfl, hQ⟩ hP1 hP2 hS
  have hR1 := hQ
  obtain ⟨v1, ev1⟩ : ∃ v1 : Int, sp_tries A ((xs (Int32.ofInt (i : Int) + 1).toNatClampNeg).toInt) ((xs (Int32.ofInt (i : Int) + 2).toNatClampNeg).toInt) ((xs (Int32.ofInt (i : Int) + 3).toNatClampNeg).toInt) = v1 := ⟨_, rfl⟩
  show W p l e room_1 s m #[Value.ref b] below meth c H locs 62 6075 (lw_Z below #[Value.ref b] s) (F0 m 1264 ls [.int (Int32.ofInt (sp_tries A ((xs (Int32.ofInt (i : Int) + 1).toNatClampNeg).toInt) ((xs (Int32.ofInt (i : Int) + 2).toNatClampNeg).toInt) ((xs (Int32.ofInt (i : Int) + 3).toNatClampNeg).toInt)))])
  rw [ev1]
  refine lv_aload_n hx hb dL_law_1264 rfl (lv_at hl 2 rfl) ?_
  refine lv_aload_n hx hb dL_law_1265 rfl (lv_at hl 0 rfl) ?_
  refine lv_iload_n hx hb dL_law_1266 rfl (lv_at hl 3 rfl) ?_
  refine lv_iconst (v := 1) hx hb dL_law_1267 (by decide) ?_
  refine lv_iadd hx hb dL_law_1268 ?_
  refine va_sld hx hb hX hbl (Nat.not_le.mpr hbl) hS (lw_ix 1 hL hi (by decide) rfl) dL_law_1269 ?_
  refine lv_aload_n hx hb dL_law_1270 rfl (lv_at hl 0 rfl) ?_
  refine lv_iload_n hx hb dL_law_1271 rfl (lv_at hl 3 rfl) ?_
  refine lv_iconst (v := 2) hx hb dL_law_1272 (by decide) ?_
  refine lv_iadd hx hb dL_law_1273 ?_
  refine va_sld hx hb hX hbl (Nat.not_le.mpr hbl) hS (lw_ix 2 hL hi (by decide) rfl) dL_law_1274 ?_
  refine lv_aload_n hx hb dL_law_1275 rfl (lv_at hl 0 rfl) ?_
  refine lv_iload_n hx hb dL_law_1276 rfl (lv_at hl 3 rfl) ?_
  refine lv_iconst (v := 3) hx hb dL_law_1277 (by decide) ?_
  refine lv_iadd hx hb dL_law_1278 ?_
  refine va_sld hx hb hX hbl (Nat.not_le.mpr hbl) hS (lw_ix 3 hL hi (by decide) rfl) dL_law_1279 ?_
  refine lw_call (L := LM) (L2 := LX) (ad := a2) (ad2 := a1) (As := [.int (xs (Int32.ofInt (i : Int) + 1).toNatClampNeg), .int (xs (Int32.ofInt (i : Int) + 2).toNatClampNeg), .int (xs (Int32.ofInt (i : Int) + 3).toNatClampNeg)]) (rest := [.int (Int32.ofInt v1)]) hx hb hml hown hts hK hN hD.2.1 hS hD.2.2.2.1 hD.2.2.2.2 hP2 hP1 (m_X11_tries ((xs (Int32.ofInt (i : Int) + 1).toNatClampNeg).toInt) ((xs (Int32.ofInt (i : Int) + 2).toNatClampNeg).toInt) ((xs (Int32.ofInt (i : Int) + 3).toNatClampNeg).toInt) A S2 (i32_r _) (i32_r _) (i32_r _) hR2 hm) dL_law_1280 mcX11_tries miX11_tries (tb_in 1154 (by decide +kernel) rfl) hl.1 rfl (by show [Value.int (Int32.ofInt (xs (Int32.ofInt (i : Int) + 1).toNatClampNeg).toInt), Value.int (Int32.ofInt (xs (Int32.ofInt (i : Int) + 2).toNatClampNeg).toInt), Value.int (Int32.ofInt (xs (Int32.ofInt (i : Int) + 3).toNatClampNeg).toInt)] = _; simp only [i32_oi]) ⟨Nat.le_of_ble_eq_true rfl, Nat.le_of_ble_eq_true rfl⟩ clX11 rfl rfl (Nat.le_of_ble_eq_true rfl) ⟨Nat.le_of_ble_eq_true rfl, Nat.le_of_ble_eq_true rfl⟩ ?_
  rintro r S2' H locs ⟨rfl, hQ⟩ hP2 hP1 hS
  show W p l e room_1 s m #[Value.ref b] below meth c H locs 62 6075 (lw_Z below #[Value.ref b] s) (F0 m 1283 ls [.int (Int32.ofInt ((sp_tries A ((xs (Int32.ofInt (i : Int) + 1).toNatClampNeg).toInt) ((xs (Int32.ofInt (i : Int) + 2).toNatClampNeg).toInt) ((xs (Int32.ofInt (i : Int) + 3).toNatClampNeg).toInt)))), .int (Int32.ofInt v1)])
  rw [ev1]
  refine lv_icmp_eq (tgt := 1682) hx hb dL_law_1283 (by decide) (fun _ => ?_) (fun q => absurd rfl q)
  exact kk _ _ _ _ _ hR1 hQ hP1 hP2 hS

set_option maxHeartbeats 4000000 in
set_option maxRecDepth 100000 in
theorem lw_k29 {p : Program} {l : Launch} {e : Env} {s : State} {m : MethodId} {below : List Frame} {meth : Method} {c : Code} {b L : Nat} {xs : Nat → Int32} {D : va_G} {a1 a2 : Nat → Nat} {T : zT} {A S1 S2 : SS} {i : Nat} {H : Heap} {locs : List Loc} {ls : Array Slot} (hL : L ≤ 3072) (hx : p.tables.exec = Jvm.exec) (hb : c.code = cL_law) (hml : c.maxLocals = 4) (hown : s.vm.findClass RL = some m.cls) (hts : ∀ w ∈ TB, w.before #[Value.ref b] s = true) (hK : va_K D vwCl (zTy T) s) (hN : zN s) (hX : va_X b L xs s s.heap) (hbl : b < s.heap.size) (hD : lwD s a1 a2) (hi : i + 6 ≤ L) (hS : va_S (fun q => s.heap.size ≤ q) s.heap H locs) (hP1 : va_P D vwCl (wd a1 T LX S1) H) (hP2 : va_P D vwCl (wd a2 T LM S2) H) (hl : lv_has ls 4 [(0, .ref b), (1, .ref (a1 0)), (2, .ref (a2 0)), (3, .int (Int32.ofInt (i : Int)))]) (hR1 : cRel S1 A) (hR2 : mRel S2 A) (kk : ∀ (A' S1' S2' : SS) (H1 : Heap) (locs1 : List Loc), cRel S1' A' → mRel S2' A' → va_P D vwCl (wd a1 T LX S1') H1 → va_P D vwCl (wd a2 T LM S2') H1 → va_S (fun q => s.heap.size ≤ q) s.heap H1 locs1 → W p l e room_1 s m #[Value.ref b] below meth c H1 locs1 62 6075 (lw_Z below #[Value.ref b] s) (F0 m 1682 ls [])) : W p l e room_1 s m #[Value.ref b] below meth c H locs 62 6075 (lw_Z below #[Value.ref b] s) (F0 m 1288 ls []) := by
  have hm := hR1.1
  refine lv_aload_n hx hb dL_law_1288 rfl (lv_at hl 1 rfl) ?_
  refine lv_aload_n hx hb dL_law_1289 rfl (lv_at hl 0 rfl) ?_
  refine lv_iload_n hx hb dL_law_1290 rfl (lv_at hl 3 rfl) ?_
  refine lv_iconst (v := 1) hx hb dL_law_1291 (by decide) ?_
  refine lv_iadd hx hb dL_law_1292 ?_
  refine va_sld hx hb hX hbl (Nat.not_le.mpr hbl) hS (lw_ix 1 hL hi (by decide) rfl) dL_law_1293 ?_
  refine lv_aload_n hx hb dL_law_1294 rfl (lv_at hl 0 rfl) ?_
  refine lv_iload_n hx hb dL_law_1295 rfl (lv_at hl 3 rfl) ?_
  refine lv_iconst (v := 2) hx hb dL_law_1296 (by decide) ?_
  refine lv_iadd hx hb dL_law_1297 ?_
  refine va_sld hx hb hX hbl (Nat.not_le.mpr hbl) hS (lw_ix 2 hL hi (by decide) rfl) dL_law_1298 ?_
  refine lw_call (L := LX) (L2 := LM) (ad := a1) (ad2 := a2) (As := [.int (xs (Int32.ofInt (i : Int) + 1).toNatClampNeg), .int (xs (Int32.ofInt (i : Int) + 2).toNatClampNeg)]) (rest := []) hx hb hml hown hts hK hN hD.1 hS hD.2.2.1 (fun q h1 h2 => hD.2.2.2.2 q h2 h1) hP1 hP2 (m_X10_wrong ((xs (Int32.ofInt (i : Int) + 1).toNatClampNeg).toInt) ((xs (Int32.ofInt (i : Int) + 2).toNatClampNeg).toInt) A S1 (i32_r _) (i32_r _) hR1) dL_law_1299 mcX10_wrong miX10_wrong (tb_in 703 (by decide +kernel) rfl) hl.1 rfl (by show [Value.int (Int32.ofInt (xs (Int32.ofInt (i : Int) + 1).toNatClampNeg).toInt), Value.int (Int32.ofInt (xs (Int32.ofInt (i : Int) + 2).toNatClampNeg).toInt)] = _; simp only [i32_oi]) ⟨Nat.le_of_ble_eq_true rfl, Nat.le_of_ble_eq_true rfl⟩ clX10 rfl rfl (Nat.le_of_ble_eq_true rfl) ⟨Nat.le_of_ble_eq_true rfl, Nat.le_of_ble_eq_true rfl⟩ ?_
  rintro r S1' H locs ⟨rfl, rfl⟩ hP1 hP2 hS
  obtain ⟨v1, ev1⟩ : ∃ v1 : Int, sp_wrong A ((xs (Int32.ofInt (i : Int) + 1).toNatClampNeg).toInt) ((xs (Int32.ofInt (i : Int) + 2).toNatClampNeg).toInt) = v1 := ⟨_, rfl⟩
  show W p l e room_1 s m #[Value.ref b] below meth c H locs 62 6075 (lw_Z below #[Value.ref b] s) (F0 m 1302 ls [.int (Int32.ofInt (sp_wrong A ((xs (Int32.ofInt (i : Int) + 1).toNatClampNeg).toInt) ((xs (Int32.ofInt (i : Int) + 2).toNatClampNeg).toInt)))])
  rw [ev1]
  refine lv_aload_n hx hb dL_law_1302 rfl (lv_at hl 2 rfl) ?_
  refine lv_aload_n hx hb dL_law_1303 rfl (lv_at hl 0 rfl) ?_
  refine lv_iload_n hx hb dL_law_1304 rfl (lv_at hl 3 rfl) ?_
  refine lv_iconst (v := 1) hx hb dL_law_1305 (by decide) ?_
  refine lv_iadd hx hb dL_law_1306 ?_
  refine va_sld hx hb hX hbl (Nat.not_le.mpr hbl) hS (lw_ix 1 hL hi (by decide) rfl) dL_law_1307 ?_
  refine lv_aload_n hx hb dL_law_1308 rfl (lv_at hl 0 rfl) ?_
  refine lv_iload_n hx hb dL_law_1309 rfl (lv_at hl 3 rfl) ?_
  refine lv_iconst (v := 2) hx hb dL_law_1310 (by decide) ?_
  refine lv_iadd hx hb dL_law_1311 ?_
  refine va_sld hx hb hX hbl (Nat.not_le.mpr hbl) hS (lw_ix 2 hL hi (by decide) rfl) dL_law_1312 ?_
  refine lw_call (L := LM) (L2 := LX) (ad := a2) (ad2 := a1) (As := [.int (xs (Int32.ofInt (i : Int) + 1).toNatClampNeg), .int (xs (Int32.ofInt (i : Int) + 2).toNatClampNeg)]) (rest := [.int (Int32.ofInt v1)]) hx hb hml hown hts hK hN hD.2.1 hS hD.2.2.2.1 hD.2.2.2.2 hP2 hP1 (m_X11_wrong ((xs (Int32.ofInt (i : Int) + 1).toNatClampNeg).toInt) ((xs (Int32.ofInt (i : Int) + 2).toNatClampNeg).toInt) A S2 (i32_r _) (i32_r _) hR2 hm) dL_law_1313 mcX11_wrong miX11_wrong (tb_in 1158 (by decide +kernel) rfl) hl.1 rfl (by show [Value.int (Int32.ofInt (xs (Int32.ofInt (i : Int) + 1).toNatClampNeg).toInt), Value.int (Int32.ofInt (xs (Int32.ofInt (i : Int) + 2).toNatClampNeg).toInt)] = _; simp only [i32_oi]) ⟨Nat.le_of_ble_eq_true rfl, Nat.le_of_ble_eq_true rfl⟩ clX11 rfl rfl (Nat.le_of_ble_eq_true rfl) ⟨Nat.le_of_ble_eq_true rfl, Nat.le_of_ble_eq_true rfl⟩ ?_
  rintro r S2' H locs ⟨rfl, rfl⟩ hP2 hP1 hS
  show W p l e room_1 s m #[Value.ref b] below meth c H locs 62 6075 (lw_Z below #[Value.ref b] s) (F0 m 1316 ls [.int (Int32.ofInt (sp_wrong A ((xs (Int32.ofInt (i : Int) + 1).toNatClampNeg).toInt) ((xs (Int32.ofInt (i : Int) + 2).toNatClampNeg).toInt))), .int (Int32.ofInt v1)])
  rw [ev1]
  refine lv_icmp_eq (tgt := 1682) hx hb dL_law_1316 (by decide) (fun _ => ?_) (fun q => absurd rfl q)
  exact kk _ _ _ _ _ hR1 hR2 hP1 hP2 hS

set_option maxHeartbeats 4000000 in
set_option maxRecDepth 100000 in
theorem lw_k30 {p : Program} {l : Launch} {e : Env} {s : State} {m : MethodId} {below : List Frame} {meth : Method} {c : Code} {b L : Nat} {xs : Nat → Int32} {D : va_G} {a1 a2 : Nat → Nat} {T : zT} {A S1 S2 : SS} {i : Nat} {H : Heap} {locs : List Loc} {ls : Array Slot} (hL : L ≤ 3072) (hx : p.tables.exec = Jvm.exec) (hb : c.code = cL_law) (hml : c.maxLocals = 4) (hown : s.vm.findClass RL = some m.cls) (hts : ∀ w ∈ TB, w.before #[Value.ref b] s = true) (hK : va_K D vwCl (zTy T) s) (hN : zN s) (hX : va_X b L xs s s.heap) (hbl : b < s.heap.size) (hD : lwD s a1 a2) (hi : i + 6 ≤ L) (hS : va_S (fun q => s.heap.size ≤ q) s.heap H locs) (hP1 : va_P D vwCl (wd a1 T LX S1) H) (hP2 : va_P D vwCl (wd a2 T LM S2) H) (hl : lv_has ls 4 [(0, .ref b), (1, .ref (a1 0)), (2, .ref (a2 0)), (3, .int (Int32.ofInt (i : Int)))]) (hR1 : cRel S1 A) (hR2 : mRel S2 A) (kk : ∀ (A' S1' S2' : SS) (H1 : Heap) (locs1 : List Loc), cRel S1' A' → mRel S2' A' → va_P D vwCl (wd a1 T LX S1') H1 → va_P D vwCl (wd a2 T LM S2') H1 → va_S (fun q => s.heap.size ≤ q) s.heap H1 locs1 → W p l e room_1 s m #[Value.ref b] below meth c H1 locs1 62 6075 (lw_Z below #[Value.ref b] s) (F0 m 1682 ls [])) : W p l e room_1 s m #[Value.ref b] below meth c H locs 62 6075 (lw_Z below #[Value.ref b] s) (F0 m 1321 ls []) := by
  have hm := hR1.1
  refine lv_aload_n hx hb dL_law_1321 rfl (lv_at hl 1 rfl) ?_
  refine lv_aload_n hx hb dL_law_1322 rfl (lv_at hl 0 rfl) ?_
  refine lv_iload_n hx hb dL_law_1323 rfl (lv_at hl 3 rfl) ?_
  refine lv_iconst (v := 1) hx hb dL_law_1324 (by decide) ?_
  refine lv_iadd hx hb dL_law_1325 ?_
  refine va_sld hx hb hX hbl (Nat.not_le.mpr hbl) hS (lw_ix 1 hL hi (by decide) rfl) dL_law_1326 ?_
  refine lw_call (L := LX) (L2 := LM) (ad := a1) (ad2 := a2) (As := [.int (xs (Int32.ofInt (i : Int) + 1).toNatClampNeg)]) (rest := []) hx hb hml hown hts hK hN hD.1 hS hD.2.2.1 (fun q h1 h2 => hD.2.2.2.2 q h2 h1) hP1 hP2 (m_X10_line ((xs (Int32.ofInt (i : Int) + 1).toNatClampNeg).toInt) A S1 (i32_r _) hR1) dL_law_1327 mcX10_line miX10_line (tb_in 711 (by decide +kernel) rfl) hl.1 rfl (by show [Value.int (Int32.ofInt (xs (Int32.ofInt (i : Int) + 1).toNatClampNeg).toInt)] = _; simp only [i32_oi]) ⟨Nat.le_of_ble_eq_true rfl, Nat.le_of_ble_eq_true rfl⟩ clX10 rfl rfl (Nat.le_of_ble_eq_true rfl) ⟨Nat.le_of_ble_eq_true rfl, Nat.le_of_ble_eq_true rfl⟩ ?_
  rintro r S1' H locs ⟨rfl, hQ⟩ hP1 hP2 hS
  have hR1 := hQ
  obtain ⟨v1, ev1⟩ : ∃ v1 : Int, sp_line A ((xs (Int32.ofInt (i : Int) + 1).toNatClampNeg).toInt) = v1 := ⟨_, rfl⟩
  show W p l e room_1 s m #[Value.ref b] below meth c H locs 62 6075 (lw_Z below #[Value.ref b] s) (F0 m 1330 ls [.int (Int32.ofInt (sp_line A ((xs (Int32.ofInt (i : Int) + 1).toNatClampNeg).toInt)))])
  rw [ev1]
  refine lv_aload_n hx hb dL_law_1330 rfl (lv_at hl 2 rfl) ?_
  refine lv_aload_n hx hb dL_law_1331 rfl (lv_at hl 0 rfl) ?_
  refine lv_iload_n hx hb dL_law_1332 rfl (lv_at hl 3 rfl) ?_
  refine lv_iconst (v := 1) hx hb dL_law_1333 (by decide) ?_
  refine lv_iadd hx hb dL_law_1334 ?_
  refine va_sld hx hb hX hbl (Nat.not_le.mpr hbl) hS (lw_ix 1 hL hi (by decide) rfl) dL_law_1335 ?_
  refine lw_call (L := LM) (L2 := LX) (ad := a2) (ad2 := a1) (As := [.int (xs (Int32.ofInt (i : Int) + 1).toNatClampNeg)]) (rest := [.int (Int32.ofInt v1)]) hx hb hml hown hts hK hN hD.2.1 hS hD.2.2.2.1 hD.2.2.2.2 hP2 hP1 (m_X11_line ((xs (Int32.ofInt (i : Int) + 1).toNatClampNeg).toInt) A S2 (i32_r _) hR2 hm) dL_law_1336 mcX11_line miX11_line (tb_in 1166 (by decide +kernel) rfl) hl.1 rfl (by show [Value.int (Int32.ofInt (xs (Int32.ofInt (i : Int) + 1).toNatClampNeg).toInt)] = _; simp only [i32_oi]) ⟨Nat.le_of_ble_eq_true rfl, Nat.le_of_ble_eq_true rfl⟩ clX11 rfl rfl (Nat.le_of_ble_eq_true rfl) ⟨Nat.le_of_ble_eq_true rfl, Nat.le_of_ble_eq_true rfl⟩ ?_
  rintro r S2' H locs ⟨rfl, rfl⟩ hP2 hP1 hS
  show W p l e room_1 s m #[Value.ref b] below meth c H locs 62 6075 (lw_Z below #[Value.ref b] s) (F0 m 1339 ls [.int (Int32.ofInt (sp_line A ((xs (Int32.ofInt (i : Int) + 1).toNatClampNeg).toInt))), .int (Int32.ofInt v1)])
  rw [ev1]
  refine lv_icmp_eq (tgt := 1682) hx hb dL_law_1339 (by decide) (fun _ => ?_) (fun q => absurd rfl q)
  exact kk _ _ _ _ _ hR1 hR2 hP1 hP2 hS

set_option maxHeartbeats 4000000 in
set_option maxRecDepth 100000 in
theorem lw_k31 {p : Program} {l : Launch} {e : Env} {s : State} {m : MethodId} {below : List Frame} {meth : Method} {c : Code} {b L : Nat} {xs : Nat → Int32} {D : va_G} {a1 a2 : Nat → Nat} {T : zT} {A S1 S2 : SS} {i : Nat} {H : Heap} {locs : List Loc} {ls : Array Slot} (hL : L ≤ 3072) (hx : p.tables.exec = Jvm.exec) (hb : c.code = cL_law) (hml : c.maxLocals = 4) (hown : s.vm.findClass RL = some m.cls) (hts : ∀ w ∈ TB, w.before #[Value.ref b] s = true) (hK : va_K D vwCl (zTy T) s) (hN : zN s) (hX : va_X b L xs s s.heap) (hbl : b < s.heap.size) (hD : lwD s a1 a2) (hi : i + 6 ≤ L) (hS : va_S (fun q => s.heap.size ≤ q) s.heap H locs) (hP1 : va_P D vwCl (wd a1 T LX S1) H) (hP2 : va_P D vwCl (wd a2 T LM S2) H) (hl : lv_has ls 4 [(0, .ref b), (1, .ref (a1 0)), (2, .ref (a2 0)), (3, .int (Int32.ofInt (i : Int)))]) (hR1 : cRel S1 A) (hR2 : mRel S2 A) (kk : ∀ (A' S1' S2' : SS) (H1 : Heap) (locs1 : List Loc), cRel S1' A' → mRel S2' A' → va_P D vwCl (wd a1 T LX S1') H1 → va_P D vwCl (wd a2 T LM S2') H1 → va_S (fun q => s.heap.size ≤ q) s.heap H1 locs1 → W p l e room_1 s m #[Value.ref b] below meth c H1 locs1 62 6075 (lw_Z below #[Value.ref b] s) (F0 m 1682 ls [])) : W p l e room_1 s m #[Value.ref b] below meth c H locs 62 6075 (lw_Z below #[Value.ref b] s) (F0 m 1344 ls []) := by
  have hm := hR1.1
  refine lv_aload_n hx hb dL_law_1344 rfl (lv_at hl 1 rfl) ?_
  refine lv_aload_n hx hb dL_law_1345 rfl (lv_at hl 0 rfl) ?_
  refine lv_iload_n hx hb dL_law_1346 rfl (lv_at hl 3 rfl) ?_
  refine lv_iconst (v := 1) hx hb dL_law_1347 (by decide) ?_
  refine lv_iadd hx hb dL_law_1348 ?_
  refine va_sld hx hb hX hbl (Nat.not_le.mpr hbl) hS (lw_ix 1 hL hi (by decide) rfl) dL_law_1349 ?_
  refine lv_aload_n hx hb dL_law_1350 rfl (lv_at hl 0 rfl) ?_
  refine lv_iload_n hx hb dL_law_1351 rfl (lv_at hl 3 rfl) ?_
  refine lv_iconst (v := 2) hx hb dL_law_1352 (by decide) ?_
  refine lv_iadd hx hb dL_law_1353 ?_
  refine va_sld hx hb hX hbl (Nat.not_le.mpr hbl) hS (lw_ix 2 hL hi (by decide) rfl) dL_law_1354 ?_
  refine lw_call (L := LX) (L2 := LM) (ad := a1) (ad2 := a2) (As := [.int (xs (Int32.ofInt (i : Int) + 1).toNatClampNeg), .int (xs (Int32.ofInt (i : Int) + 2).toNatClampNeg)]) (rest := []) hx hb hml hown hts hK hN hD.1 hS hD.2.2.1 (fun q h1 h2 => hD.2.2.2.2 q h2 h1) hP1 hP2 (m_X10_bent ((xs (Int32.ofInt (i : Int) + 1).toNatClampNeg).toInt) ((xs (Int32.ofInt (i : Int) + 2).toNatClampNeg).toInt) A S1 (i32_r _) (i32_r _) hR1) dL_law_1355 mcX10_bent miX10_bent (tb_in 720 (by decide +kernel) rfl) hl.1 rfl (by show [Value.int (Int32.ofInt (xs (Int32.ofInt (i : Int) + 1).toNatClampNeg).toInt), Value.int (Int32.ofInt (xs (Int32.ofInt (i : Int) + 2).toNatClampNeg).toInt)] = _; simp only [i32_oi]) ⟨Nat.le_of_ble_eq_true rfl, Nat.le_of_ble_eq_true rfl⟩ clX10 rfl rfl (Nat.le_of_ble_eq_true rfl) ⟨Nat.le_of_ble_eq_true rfl, Nat.le_of_ble_eq_true rfl⟩ ?_
  rintro r S1' H locs ⟨rfl, hQ⟩ hP1 hP2 hS
  have hR1 := hQ
  obtain ⟨v1, ev1⟩ : ∃ v1 : Int, (sp_bent A ((xs (Int32.ofInt (i : Int) + 1).toNatClampNeg).toInt) ((xs (Int32.ofInt (i : Int) + 2).toNatClampNeg).toInt)) = v1 := ⟨_, rfl⟩
  show W p l e room_1 s m #[Value.ref b] below meth c H locs 62 6075 (lw_Z below #[Value.ref b] s) (F0 m 1358 ls [.int (Int32.ofInt ((sp_bent A ((xs (Int32.ofInt (i : Int) + 1).toNatClampNeg).toInt) ((xs (Int32.ofInt (i : Int) + 2).toNatClampNeg).toInt))))])
  rw [ev1]
  refine lv_aload_n hx hb dL_law_1358 rfl (lv_at hl 2 rfl) ?_
  refine lv_aload_n hx hb dL_law_1359 rfl (lv_at hl 0 rfl) ?_
  refine lv_iload_n hx hb dL_law_1360 rfl (lv_at hl 3 rfl) ?_
  refine lv_iconst (v := 1) hx hb dL_law_1361 (by decide) ?_
  refine lv_iadd hx hb dL_law_1362 ?_
  refine va_sld hx hb hX hbl (Nat.not_le.mpr hbl) hS (lw_ix 1 hL hi (by decide) rfl) dL_law_1363 ?_
  refine lv_aload_n hx hb dL_law_1364 rfl (lv_at hl 0 rfl) ?_
  refine lv_iload_n hx hb dL_law_1365 rfl (lv_at hl 3 rfl) ?_
  refine lv_iconst (v := 2) hx hb dL_law_1366 (by decide) ?_
  refine lv_iadd hx hb dL_law_1367 ?_
  refine va_sld hx hb hX hbl (Nat.not_le.mpr hbl) hS (lw_ix 2 hL hi (by decide) rfl) dL_law_1368 ?_
  refine lw_call (L := LM) (L2 := LX) (ad := a2) (ad2 := a1) (As := [.int (xs (Int32.ofInt (i : Int) + 1).toNatClampNeg), .int (xs (Int32.ofInt (i : Int) + 2).toNatClampNeg)]) (rest := [.int (Int32.ofInt v1)]) hx hb hml hown hts hK hN hD.2.1 hS hD.2.2.2.1 hD.2.2.2.2 hP2 hP1 (m_X11_bent ((xs (Int32.ofInt (i : Int) + 1).toNatClampNeg).toInt) ((xs (Int32.ofInt (i : Int) + 2).toNatClampNeg).toInt) A S2 (i32_r _) (i32_r _) hR2 hm) dL_law_1369 mcX11_bent miX11_bent (tb_in 1174 (by decide +kernel) rfl) hl.1 rfl (by show [Value.int (Int32.ofInt (xs (Int32.ofInt (i : Int) + 1).toNatClampNeg).toInt), Value.int (Int32.ofInt (xs (Int32.ofInt (i : Int) + 2).toNatClampNeg).toInt)] = _; simp only [i32_oi]) ⟨Nat.le_of_ble_eq_true rfl, Nat.le_of_ble_eq_true rfl⟩ clX11 rfl rfl (Nat.le_of_ble_eq_true rfl) ⟨Nat.le_of_ble_eq_true rfl, Nat.le_of_ble_eq_true rfl⟩ ?_
  rintro r S2' H locs ⟨rfl, hQ⟩ hP2 hP1 hS
  show W p l e room_1 s m #[Value.ref b] below meth c H locs 62 6075 (lw_Z below #[Value.ref b] s) (F0 m 1372 ls [.int (Int32.ofInt ((sp_bent A ((xs (Int32.ofInt (i : Int) + 1).toNatClampNeg).toInt) ((xs (Int32.ofInt (i : Int) + 2).toNatClampNeg).toInt)))), .int (Int32.ofInt v1)])
  rw [ev1]
  refine lv_icmp_eq (tgt := 1682) hx hb dL_law_1372 (by decide) (fun _ => ?_) (fun q => absurd rfl q)
  exact kk _ _ _ _ _ hR1 hQ hP1 hP2 hS

set_option maxHeartbeats 4000000 in
set_option maxRecDepth 100000 in
theorem lw_k32 {p : Program} {l : Launch} {e : Env} {s : State} {m : MethodId} {below : List Frame} {meth : Method} {c : Code} {b L : Nat} {xs : Nat → Int32} {D : va_G} {a1 a2 : Nat → Nat} {T : zT} {A S1 S2 : SS} {i : Nat} {H : Heap} {locs : List Loc} {ls : Array Slot} (hL : L ≤ 3072) (hx : p.tables.exec = Jvm.exec) (hb : c.code = cL_law) (hml : c.maxLocals = 4) (hown : s.vm.findClass RL = some m.cls) (hts : ∀ w ∈ TB, w.before #[Value.ref b] s = true) (hK : va_K D vwCl (zTy T) s) (hN : zN s) (hX : va_X b L xs s s.heap) (hbl : b < s.heap.size) (hD : lwD s a1 a2) (hi : i + 6 ≤ L) (hS : va_S (fun q => s.heap.size ≤ q) s.heap H locs) (hP1 : va_P D vwCl (wd a1 T LX S1) H) (hP2 : va_P D vwCl (wd a2 T LM S2) H) (hl : lv_has ls 4 [(0, .ref b), (1, .ref (a1 0)), (2, .ref (a2 0)), (3, .int (Int32.ofInt (i : Int)))]) (hR1 : cRel S1 A) (hR2 : mRel S2 A) (kk : ∀ (A' S1' S2' : SS) (H1 : Heap) (locs1 : List Loc), cRel S1' A' → mRel S2' A' → va_P D vwCl (wd a1 T LX S1') H1 → va_P D vwCl (wd a2 T LM S2') H1 → va_S (fun q => s.heap.size ≤ q) s.heap H1 locs1 → W p l e room_1 s m #[Value.ref b] below meth c H1 locs1 62 6075 (lw_Z below #[Value.ref b] s) (F0 m 1682 ls [])) : W p l e room_1 s m #[Value.ref b] below meth c H locs 62 6075 (lw_Z below #[Value.ref b] s) (F0 m 1377 ls []) := by
  have hm := hR1.1
  refine lv_aload_n hx hb dL_law_1377 rfl (lv_at hl 1 rfl) ?_
  refine lv_aload_n hx hb dL_law_1378 rfl (lv_at hl 0 rfl) ?_
  refine lv_iload_n hx hb dL_law_1379 rfl (lv_at hl 3 rfl) ?_
  refine lv_iconst (v := 1) hx hb dL_law_1380 (by decide) ?_
  refine lv_iadd hx hb dL_law_1381 ?_
  refine va_sld hx hb hX hbl (Nat.not_le.mpr hbl) hS (lw_ix 1 hL hi (by decide) rfl) dL_law_1382 ?_
  refine lv_aload_n hx hb dL_law_1383 rfl (lv_at hl 0 rfl) ?_
  refine lv_iload_n hx hb dL_law_1384 rfl (lv_at hl 3 rfl) ?_
  refine lv_iconst (v := 2) hx hb dL_law_1385 (by decide) ?_
  refine lv_iadd hx hb dL_law_1386 ?_
  refine va_sld hx hb hX hbl (Nat.not_le.mpr hbl) hS (lw_ix 2 hL hi (by decide) rfl) dL_law_1387 ?_
  refine lv_aload_n hx hb dL_law_1388 rfl (lv_at hl 0 rfl) ?_
  refine lv_iload_n hx hb dL_law_1389 rfl (lv_at hl 3 rfl) ?_
  refine lv_iconst (v := 3) hx hb dL_law_1390 (by decide) ?_
  refine lv_iadd hx hb dL_law_1391 ?_
  refine va_sld hx hb hX hbl (Nat.not_le.mpr hbl) hS (lw_ix 3 hL hi (by decide) rfl) dL_law_1392 ?_
  refine lw_call (L := LX) (L2 := LM) (ad := a1) (ad2 := a2) (As := [.int (xs (Int32.ofInt (i : Int) + 1).toNatClampNeg), .int (xs (Int32.ofInt (i : Int) + 2).toNatClampNeg), .int (xs (Int32.ofInt (i : Int) + 3).toNatClampNeg)]) (rest := []) hx hb hml hown hts hK hN hD.1 hS hD.2.2.1 (fun q h1 h2 => hD.2.2.2.2 q h2 h1) hP1 hP2 (m_X10_sheet ((xs (Int32.ofInt (i : Int) + 1).toNatClampNeg).toInt) ((xs (Int32.ofInt (i : Int) + 2).toNatClampNeg).toInt) ((xs (Int32.ofInt (i : Int) + 3).toNatClampNeg).toInt) A S1 (i32_r _) (i32_r _) (i32_r _) hR1) dL_law_1393 mcX10_sheet miX10_sheet (tb_in 750 (by decide +kernel) rfl) hl.1 rfl (by show [Value.int (Int32.ofInt (xs (Int32.ofInt (i : Int) + 1).toNatClampNeg).toInt), Value.int (Int32.ofInt (xs (Int32.ofInt (i : Int) + 2).toNatClampNeg).toInt), Value.int (Int32.ofInt (xs (Int32.ofInt (i : Int) + 3).toNatClampNeg).toInt)] = _; simp only [i32_oi]) ⟨Nat.le_of_ble_eq_true rfl, Nat.le_of_ble_eq_true rfl⟩ clX10 rfl rfl (Nat.le_of_ble_eq_true rfl) ⟨Nat.le_of_ble_eq_true rfl, Nat.le_of_ble_eq_true rfl⟩ ?_
  rintro r S1' H locs ⟨rfl, hQ⟩ hP1 hP2 hS
  have hR1 := hQ
  obtain ⟨v1, ev1⟩ : ∃ v1 : Int, sp_sheet ((xs (Int32.ofInt (i : Int) + 1).toNatClampNeg).toInt) ((xs (Int32.ofInt (i : Int) + 2).toNatClampNeg).toInt) ((xs (Int32.ofInt (i : Int) + 3).toNatClampNeg).toInt) = v1 := ⟨_, rfl⟩
  show W p l e room_1 s m #[Value.ref b] below meth c H locs 62 6075 (lw_Z below #[Value.ref b] s) (F0 m 1396 ls [.int (Int32.ofInt (sp_sheet ((xs (Int32.ofInt (i : Int) + 1).toNatClampNeg).toInt) ((xs (Int32.ofInt (i : Int) + 2).toNatClampNeg).toInt) ((xs (Int32.ofInt (i : Int) + 3).toNatClampNeg).toInt)))])
  rw [ev1]
  refine lv_aload_n hx hb dL_law_1396 rfl (lv_at hl 2 rfl) ?_
  refine lv_aload_n hx hb dL_law_1397 rfl (lv_at hl 0 rfl) ?_
  refine lv_iload_n hx hb dL_law_1398 rfl (lv_at hl 3 rfl) ?_
  refine lv_iconst (v := 1) hx hb dL_law_1399 (by decide) ?_
  refine lv_iadd hx hb dL_law_1400 ?_
  refine va_sld hx hb hX hbl (Nat.not_le.mpr hbl) hS (lw_ix 1 hL hi (by decide) rfl) dL_law_1401 ?_
  refine lv_aload_n hx hb dL_law_1402 rfl (lv_at hl 0 rfl) ?_
  refine lv_iload_n hx hb dL_law_1403 rfl (lv_at hl 3 rfl) ?_
  refine lv_iconst (v := 2) hx hb dL_law_1404 (by decide) ?_
  refine lv_iadd hx hb dL_law_1405 ?_
  refine va_sld hx hb hX hbl (Nat.not_le.mpr hbl) hS (lw_ix 2 hL hi (by decide) rfl) dL_law_1406 ?_
  refine lv_aload_n hx hb dL_law_1407 rfl (lv_at hl 0 rfl) ?_
  refine lv_iload_n hx hb dL_law_1408 rfl (lv_at hl 3 rfl) ?_
  refine lv_iconst (v := 3) hx hb dL_law_1409 (by decide) ?_
  refine lv_iadd hx hb dL_law_1410 ?_
  refine va_sld hx hb hX hbl (Nat.not_le.mpr hbl) hS (lw_ix 3 hL hi (by decide) rfl) dL_law_1411 ?_
  refine lw_call (L := LM) (L2 := LX) (ad := a2) (ad2 := a1) (As := [.int (xs (Int32.ofInt (i : Int) + 1).toNatClampNeg), .int (xs (Int32.ofInt (i : Int) + 2).toNatClampNeg), .int (xs (Int32.ofInt (i : Int) + 3).toNatClampNeg)]) (rest := [.int (Int32.ofInt v1)]) hx hb hml hown hts hK hN hD.2.1 hS hD.2.2.2.1 hD.2.2.2.2 hP2 hP1 (m_X11_sheet ((xs (Int32.ofInt (i : Int) + 1).toNatClampNeg).toInt) ((xs (Int32.ofInt (i : Int) + 2).toNatClampNeg).toInt) ((xs (Int32.ofInt (i : Int) + 3).toNatClampNeg).toInt) A S2 (i32_r _) (i32_r _) (i32_r _) hR2 hm) dL_law_1412 mcX11_sheet miX11_sheet (tb_in 1178 (by decide +kernel) rfl) hl.1 rfl (by show [Value.int (Int32.ofInt (xs (Int32.ofInt (i : Int) + 1).toNatClampNeg).toInt), Value.int (Int32.ofInt (xs (Int32.ofInt (i : Int) + 2).toNatClampNeg).toInt), Value.int (Int32.ofInt (xs (Int32.ofInt (i : Int) + 3).toNatClampNeg).toInt)] = _; simp only [i32_oi]) ⟨Nat.le_of_ble_eq_true rfl, Nat.le_of_ble_eq_true rfl⟩ clX11 rfl rfl (Nat.le_of_ble_eq_true rfl) ⟨Nat.le_of_ble_eq_true rfl, Nat.le_of_ble_eq_true rfl⟩ ?_
  rintro r S2' H locs ⟨rfl, hQ⟩ hP2 hP1 hS
  show W p l e room_1 s m #[Value.ref b] below meth c H locs 62 6075 (lw_Z below #[Value.ref b] s) (F0 m 1415 ls [.int (Int32.ofInt ((sp_sheet ((xs (Int32.ofInt (i : Int) + 1).toNatClampNeg).toInt) ((xs (Int32.ofInt (i : Int) + 2).toNatClampNeg).toInt) ((xs (Int32.ofInt (i : Int) + 3).toNatClampNeg).toInt)))), .int (Int32.ofInt v1)])
  rw [ev1]
  refine lv_icmp_eq (tgt := 1682) hx hb dL_law_1415 (by decide) (fun _ => ?_) (fun q => absurd rfl q)
  exact kk _ _ _ _ _ hR1 hQ hP1 hP2 hS

set_option maxHeartbeats 4000000 in
set_option maxRecDepth 100000 in
theorem lw_k33 {p : Program} {l : Launch} {e : Env} {s : State} {m : MethodId} {below : List Frame} {meth : Method} {c : Code} {b L : Nat} {xs : Nat → Int32} {D : va_G} {a1 a2 : Nat → Nat} {T : zT} {A S1 S2 : SS} {i : Nat} {H : Heap} {locs : List Loc} {ls : Array Slot} (hL : L ≤ 3072) (hx : p.tables.exec = Jvm.exec) (hb : c.code = cL_law) (hml : c.maxLocals = 4) (hown : s.vm.findClass RL = some m.cls) (hts : ∀ w ∈ TB, w.before #[Value.ref b] s = true) (hK : va_K D vwCl (zTy T) s) (hN : zN s) (hX : va_X b L xs s s.heap) (hbl : b < s.heap.size) (hD : lwD s a1 a2) (hi : i + 6 ≤ L) (hS : va_S (fun q => s.heap.size ≤ q) s.heap H locs) (hP1 : va_P D vwCl (wd a1 T LX S1) H) (hP2 : va_P D vwCl (wd a2 T LM S2) H) (hl : lv_has ls 4 [(0, .ref b), (1, .ref (a1 0)), (2, .ref (a2 0)), (3, .int (Int32.ofInt (i : Int)))]) (hR1 : cRel S1 A) (hR2 : mRel S2 A) (kk : ∀ (A' S1' S2' : SS) (H1 : Heap) (locs1 : List Loc), cRel S1' A' → mRel S2' A' → va_P D vwCl (wd a1 T LX S1') H1 → va_P D vwCl (wd a2 T LM S2') H1 → va_S (fun q => s.heap.size ≤ q) s.heap H1 locs1 → W p l e room_1 s m #[Value.ref b] below meth c H1 locs1 62 6075 (lw_Z below #[Value.ref b] s) (F0 m 1682 ls [])) : W p l e room_1 s m #[Value.ref b] below meth c H locs 62 6075 (lw_Z below #[Value.ref b] s) (F0 m 1420 ls []) := by
  have hm := hR1.1
  refine lv_aload_n hx hb dL_law_1420 rfl (lv_at hl 1 rfl) ?_
  refine lv_aload_n hx hb dL_law_1421 rfl (lv_at hl 0 rfl) ?_
  refine lv_iload_n hx hb dL_law_1422 rfl (lv_at hl 3 rfl) ?_
  refine lv_iconst (v := 1) hx hb dL_law_1423 (by decide) ?_
  refine lv_iadd hx hb dL_law_1424 ?_
  refine va_sld hx hb hX hbl (Nat.not_le.mpr hbl) hS (lw_ix 1 hL hi (by decide) rfl) dL_law_1425 ?_
  refine lw_call (L := LX) (L2 := LM) (ad := a1) (ad2 := a2) (As := [.int (xs (Int32.ofInt (i : Int) + 1).toNatClampNeg)]) (rest := []) hx hb hml hown hts hK hN hD.1 hS hD.2.2.1 (fun q h1 h2 => hD.2.2.2.2 q h2 h1) hP1 hP2 (m_X10_lose ((xs (Int32.ofInt (i : Int) + 1).toNatClampNeg).toInt) A S1 (i32_r _) hR1) dL_law_1426 mcX10_lose miX10_lose (tb_in 763 (by decide +kernel) rfl) hl.1 rfl (by show [Value.int (Int32.ofInt (xs (Int32.ofInt (i : Int) + 1).toNatClampNeg).toInt)] = _; simp only [i32_oi]) ⟨Nat.le_of_ble_eq_true rfl, Nat.le_of_ble_eq_true rfl⟩ clX10 rfl rfl (Nat.le_of_ble_eq_true rfl) ⟨Nat.le_of_ble_eq_true rfl, Nat.le_of_ble_eq_true rfl⟩ ?_
  rintro r S1' H locs ⟨rfl, hQ⟩ hP1 hP2 hS
  have hR1 := hQ
  obtain ⟨v1, ev1⟩ : ∃ v1 : Int, sp_lose A ((xs (Int32.ofInt (i : Int) + 1).toNatClampNeg).toInt) = v1 := ⟨_, rfl⟩
  show W p l e room_1 s m #[Value.ref b] below meth c H locs 62 6075 (lw_Z below #[Value.ref b] s) (F0 m 1429 ls [.int (Int32.ofInt (sp_lose A ((xs (Int32.ofInt (i : Int) + 1).toNatClampNeg).toInt)))])
  rw [ev1]
  refine lv_aload_n hx hb dL_law_1429 rfl (lv_at hl 2 rfl) ?_
  refine lv_aload_n hx hb dL_law_1430 rfl (lv_at hl 0 rfl) ?_
  refine lv_iload_n hx hb dL_law_1431 rfl (lv_at hl 3 rfl) ?_
  refine lv_iconst (v := 1) hx hb dL_law_1432 (by decide) ?_
  refine lv_iadd hx hb dL_law_1433 ?_
  refine va_sld hx hb hX hbl (Nat.not_le.mpr hbl) hS (lw_ix 1 hL hi (by decide) rfl) dL_law_1434 ?_
  refine lw_call (L := LM) (L2 := LX) (ad := a2) (ad2 := a1) (As := [.int (xs (Int32.ofInt (i : Int) + 1).toNatClampNeg)]) (rest := [.int (Int32.ofInt v1)]) hx hb hml hown hts hK hN hD.2.1 hS hD.2.2.2.1 hD.2.2.2.2 hP2 hP1 (m_X11_lose ((xs (Int32.ofInt (i : Int) + 1).toNatClampNeg).toInt) A S2 (i32_r _) hR2 hm) dL_law_1435 mcX11_lose miX11_lose (tb_in 1182 (by decide +kernel) rfl) hl.1 rfl (by show [Value.int (Int32.ofInt (xs (Int32.ofInt (i : Int) + 1).toNatClampNeg).toInt)] = _; simp only [i32_oi]) ⟨Nat.le_of_ble_eq_true rfl, Nat.le_of_ble_eq_true rfl⟩ clX11 rfl rfl (Nat.le_of_ble_eq_true rfl) ⟨Nat.le_of_ble_eq_true rfl, Nat.le_of_ble_eq_true rfl⟩ ?_
  rintro r S2' H locs ⟨rfl, hQ⟩ hP2 hP1 hS
  show W p l e room_1 s m #[Value.ref b] below meth c H locs 62 6075 (lw_Z below #[Value.ref b] s) (F0 m 1438 ls [.int (Int32.ofInt (sp_lose A ((xs (Int32.ofInt (i : Int) + 1).toNatClampNeg).toInt))), .int (Int32.ofInt v1)])
  rw [ev1]
  refine lv_icmp_eq (tgt := 1682) hx hb dL_law_1438 (by decide) (fun _ => ?_) (fun q => absurd rfl q)
  exact kk _ _ _ _ _ hR1 hQ hP1 hP2 hS

set_option maxHeartbeats 4000000 in
set_option maxRecDepth 100000 in
theorem lw_k34 {p : Program} {l : Launch} {e : Env} {s : State} {m : MethodId} {below : List Frame} {meth : Method} {c : Code} {b L : Nat} {xs : Nat → Int32} {D : va_G} {a1 a2 : Nat → Nat} {T : zT} {A S1 S2 : SS} {i : Nat} {H : Heap} {locs : List Loc} {ls : Array Slot} (hL : L ≤ 3072) (hx : p.tables.exec = Jvm.exec) (hb : c.code = cL_law) (hml : c.maxLocals = 4) (hown : s.vm.findClass RL = some m.cls) (hts : ∀ w ∈ TB, w.before #[Value.ref b] s = true) (hK : va_K D vwCl (zTy T) s) (hN : zN s) (hX : va_X b L xs s s.heap) (hbl : b < s.heap.size) (hD : lwD s a1 a2) (hi : i + 6 ≤ L) (hS : va_S (fun q => s.heap.size ≤ q) s.heap H locs) (hP1 : va_P D vwCl (wd a1 T LX S1) H) (hP2 : va_P D vwCl (wd a2 T LM S2) H) (hl : lv_has ls 4 [(0, .ref b), (1, .ref (a1 0)), (2, .ref (a2 0)), (3, .int (Int32.ofInt (i : Int)))]) (hR1 : cRel S1 A) (hR2 : mRel S2 A) (kk : ∀ (A' S1' S2' : SS) (H1 : Heap) (locs1 : List Loc), cRel S1' A' → mRel S2' A' → va_P D vwCl (wd a1 T LX S1') H1 → va_P D vwCl (wd a2 T LM S2') H1 → va_S (fun q => s.heap.size ≤ q) s.heap H1 locs1 → W p l e room_1 s m #[Value.ref b] below meth c H1 locs1 62 6075 (lw_Z below #[Value.ref b] s) (F0 m 1682 ls [])) : W p l e room_1 s m #[Value.ref b] below meth c H locs 62 6075 (lw_Z below #[Value.ref b] s) (F0 m 1443 ls []) := by
  have hm := hR1.1
  refine lv_aload_n hx hb dL_law_1443 rfl (lv_at hl 1 rfl) ?_
  refine lv_aload_n hx hb dL_law_1444 rfl (lv_at hl 0 rfl) ?_
  refine lv_iload_n hx hb dL_law_1445 rfl (lv_at hl 3 rfl) ?_
  refine lv_iconst (v := 1) hx hb dL_law_1446 (by decide) ?_
  refine lv_iadd hx hb dL_law_1447 ?_
  refine va_sld hx hb hX hbl (Nat.not_le.mpr hbl) hS (lw_ix 1 hL hi (by decide) rfl) dL_law_1448 ?_
  refine lv_aload_n hx hb dL_law_1449 rfl (lv_at hl 0 rfl) ?_
  refine lv_iload_n hx hb dL_law_1450 rfl (lv_at hl 3 rfl) ?_
  refine lv_iconst (v := 2) hx hb dL_law_1451 (by decide) ?_
  refine lv_iadd hx hb dL_law_1452 ?_
  refine va_sld hx hb hX hbl (Nat.not_le.mpr hbl) hS (lw_ix 2 hL hi (by decide) rfl) dL_law_1453 ?_
  refine lv_aload_n hx hb dL_law_1454 rfl (lv_at hl 0 rfl) ?_
  refine lv_iload_n hx hb dL_law_1455 rfl (lv_at hl 3 rfl) ?_
  refine lv_iconst (v := 3) hx hb dL_law_1456 (by decide) ?_
  refine lv_iadd hx hb dL_law_1457 ?_
  refine va_sld hx hb hX hbl (Nat.not_le.mpr hbl) hS (lw_ix 3 hL hi (by decide) rfl) dL_law_1458 ?_
  refine lv_aload_n hx hb dL_law_1459 rfl (lv_at hl 0 rfl) ?_
  refine lv_iload_n hx hb dL_law_1460 rfl (lv_at hl 3 rfl) ?_
  refine lv_iconst (v := 4) hx hb dL_law_1461 (by decide) ?_
  refine lv_iadd hx hb dL_law_1462 ?_
  refine va_sld hx hb hX hbl (Nat.not_le.mpr hbl) hS (lw_ix 4 hL hi (by decide) rfl) dL_law_1463 ?_
  refine lw_call (L := LX) (L2 := LM) (ad := a1) (ad2 := a2) (As := [.int (xs (Int32.ofInt (i : Int) + 1).toNatClampNeg), .int (xs (Int32.ofInt (i : Int) + 2).toNatClampNeg), .int (xs (Int32.ofInt (i : Int) + 3).toNatClampNeg), .int (xs (Int32.ofInt (i : Int) + 4).toNatClampNeg)]) (rest := []) hx hb hml hown hts hK hN hD.1 hS hD.2.2.1 (fun q h1 h2 => hD.2.2.2.2 q h2 h1) hP1 hP2 (m_X10_put ((xs (Int32.ofInt (i : Int) + 1).toNatClampNeg).toInt) ((xs (Int32.ofInt (i : Int) + 2).toNatClampNeg).toInt) ((xs (Int32.ofInt (i : Int) + 3).toNatClampNeg).toInt) ((xs (Int32.ofInt (i : Int) + 4).toNatClampNeg).toInt) A S1 (i32_r _) (i32_r _) (i32_r _) (i32_r _) hR1) dL_law_1464 mcX10_put miX10_put (tb_in 767 (by decide +kernel) rfl) hl.1 rfl (by show [Value.int (Int32.ofInt (xs (Int32.ofInt (i : Int) + 1).toNatClampNeg).toInt), Value.int (Int32.ofInt (xs (Int32.ofInt (i : Int) + 2).toNatClampNeg).toInt), Value.int (Int32.ofInt (xs (Int32.ofInt (i : Int) + 3).toNatClampNeg).toInt), Value.int (Int32.ofInt (xs (Int32.ofInt (i : Int) + 4).toNatClampNeg).toInt)] = _; simp only [i32_oi]) ⟨Nat.le_of_ble_eq_true rfl, Nat.le_of_ble_eq_true rfl⟩ clX10 rfl rfl (Nat.le_of_ble_eq_true rfl) ⟨Nat.le_of_ble_eq_true rfl, Nat.le_of_ble_eq_true rfl⟩ ?_
  rintro r S1' H locs ⟨rfl, hQ⟩ hP1 hP2 hS
  have hR1 := hQ
  obtain ⟨v1, ev1⟩ : ∃ v1 : Int, sp_put A ((xs (Int32.ofInt (i : Int) + 1).toNatClampNeg).toInt) ((xs (Int32.ofInt (i : Int) + 2).toNatClampNeg).toInt) ((xs (Int32.ofInt (i : Int) + 3).toNatClampNeg).toInt) ((xs (Int32.ofInt (i : Int) + 4).toNatClampNeg).toInt) = v1 := ⟨_, rfl⟩
  show W p l e room_1 s m #[Value.ref b] below meth c H locs 62 6075 (lw_Z below #[Value.ref b] s) (F0 m 1467 ls [.int (Int32.ofInt (sp_put A ((xs (Int32.ofInt (i : Int) + 1).toNatClampNeg).toInt) ((xs (Int32.ofInt (i : Int) + 2).toNatClampNeg).toInt) ((xs (Int32.ofInt (i : Int) + 3).toNatClampNeg).toInt) ((xs (Int32.ofInt (i : Int) + 4).toNatClampNeg).toInt)))])
  rw [ev1]
  refine lv_aload_n hx hb dL_law_1467 rfl (lv_at hl 2 rfl) ?_
  refine lv_aload_n hx hb dL_law_1468 rfl (lv_at hl 0 rfl) ?_
  refine lv_iload_n hx hb dL_law_1469 rfl (lv_at hl 3 rfl) ?_
  refine lv_iconst (v := 1) hx hb dL_law_1470 (by decide) ?_
  refine lv_iadd hx hb dL_law_1471 ?_
  refine va_sld hx hb hX hbl (Nat.not_le.mpr hbl) hS (lw_ix 1 hL hi (by decide) rfl) dL_law_1472 ?_
  refine lv_aload_n hx hb dL_law_1473 rfl (lv_at hl 0 rfl) ?_
  refine lv_iload_n hx hb dL_law_1474 rfl (lv_at hl 3 rfl) ?_
  refine lv_iconst (v := 2) hx hb dL_law_1475 (by decide) ?_
  refine lv_iadd hx hb dL_law_1476 ?_
  refine va_sld hx hb hX hbl (Nat.not_le.mpr hbl) hS (lw_ix 2 hL hi (by decide) rfl) dL_law_1477 ?_
  refine lv_aload_n hx hb dL_law_1478 rfl (lv_at hl 0 rfl) ?_
  refine lv_iload_n hx hb dL_law_1479 rfl (lv_at hl 3 rfl) ?_
  refine lv_iconst (v := 3) hx hb dL_law_1480 (by decide) ?_
  refine lv_iadd hx hb dL_law_1481 ?_
  refine va_sld hx hb hX hbl (Nat.not_le.mpr hbl) hS (lw_ix 3 hL hi (by decide) rfl) dL_law_1482 ?_
  refine lv_aload_n hx hb dL_law_1483 rfl (lv_at hl 0 rfl) ?_
  refine lv_iload_n hx hb dL_law_1484 rfl (lv_at hl 3 rfl) ?_
  refine lv_iconst (v := 4) hx hb dL_law_1485 (by decide) ?_
  refine lv_iadd hx hb dL_law_1486 ?_
  refine va_sld hx hb hX hbl (Nat.not_le.mpr hbl) hS (lw_ix 4 hL hi (by decide) rfl) dL_law_1487 ?_
  refine lw_call (L := LM) (L2 := LX) (ad := a2) (ad2 := a1) (As := [.int (xs (Int32.ofInt (i : Int) + 1).toNatClampNeg), .int (xs (Int32.ofInt (i : Int) + 2).toNatClampNeg), .int (xs (Int32.ofInt (i : Int) + 3).toNatClampNeg), .int (xs (Int32.ofInt (i : Int) + 4).toNatClampNeg)]) (rest := [.int (Int32.ofInt v1)]) hx hb hml hown hts hK hN hD.2.1 hS hD.2.2.2.1 hD.2.2.2.2 hP2 hP1 (m_X11_put ((xs (Int32.ofInt (i : Int) + 1).toNatClampNeg).toInt) ((xs (Int32.ofInt (i : Int) + 2).toNatClampNeg).toInt) ((xs (Int32.ofInt (i : Int) + 3).toNatClampNeg).toInt) ((xs (Int32.ofInt (i : Int) + 4).toNatClampNeg).toInt) A S2 (i32_r _) (i32_r _) (i32_r _) (i32_r _) hR2 hm) dL_law_1488 mcX11_put miX11_put (tb_in 1186 (by decide +kernel) rfl) hl.1 rfl (by show [Value.int (Int32.ofInt (xs (Int32.ofInt (i : Int) + 1).toNatClampNeg).toInt), Value.int (Int32.ofInt (xs (Int32.ofInt (i : Int) + 2).toNatClampNeg).toInt), Value.int (Int32.ofInt (xs (Int32.ofInt (i : Int) + 3).toNatClampNeg).toInt), Value.int (Int32.ofInt (xs (Int32.ofInt (i : Int) + 4).toNatClampNeg).toInt)] = _; simp only [i32_oi]) ⟨Nat.le_of_ble_eq_true rfl, Nat.le_of_ble_eq_true rfl⟩ clX11 rfl rfl (Nat.le_of_ble_eq_true rfl) ⟨Nat.le_of_ble_eq_true rfl, Nat.le_of_ble_eq_true rfl⟩ ?_
  rintro r S2' H locs ⟨rfl, hQ⟩ hP2 hP1 hS
  show W p l e room_1 s m #[Value.ref b] below meth c H locs 62 6075 (lw_Z below #[Value.ref b] s) (F0 m 1491 ls [.int (Int32.ofInt (sp_put A ((xs (Int32.ofInt (i : Int) + 1).toNatClampNeg).toInt) ((xs (Int32.ofInt (i : Int) + 2).toNatClampNeg).toInt) ((xs (Int32.ofInt (i : Int) + 3).toNatClampNeg).toInt) ((xs (Int32.ofInt (i : Int) + 4).toNatClampNeg).toInt))), .int (Int32.ofInt v1)])
  rw [ev1]
  refine lv_icmp_eq (tgt := 1682) hx hb dL_law_1491 (by decide) (fun _ => ?_) (fun q => absurd rfl q)
  exact kk _ _ _ _ _ hR1 hQ hP1 hP2 hS

set_option maxHeartbeats 4000000 in
set_option maxRecDepth 100000 in
theorem lw_k35 {p : Program} {l : Launch} {e : Env} {s : State} {m : MethodId} {below : List Frame} {meth : Method} {c : Code} {b L : Nat} {xs : Nat → Int32} {D : va_G} {a1 a2 : Nat → Nat} {T : zT} {A S1 S2 : SS} {i : Nat} {H : Heap} {locs : List Loc} {ls : Array Slot} (hL : L ≤ 3072) (hx : p.tables.exec = Jvm.exec) (hb : c.code = cL_law) (hml : c.maxLocals = 4) (hown : s.vm.findClass RL = some m.cls) (hts : ∀ w ∈ TB, w.before #[Value.ref b] s = true) (hK : va_K D vwCl (zTy T) s) (hN : zN s) (hX : va_X b L xs s s.heap) (hbl : b < s.heap.size) (hD : lwD s a1 a2) (hi : i + 6 ≤ L) (hS : va_S (fun q => s.heap.size ≤ q) s.heap H locs) (hP1 : va_P D vwCl (wd a1 T LX S1) H) (hP2 : va_P D vwCl (wd a2 T LM S2) H) (hl : lv_has ls 4 [(0, .ref b), (1, .ref (a1 0)), (2, .ref (a2 0)), (3, .int (Int32.ofInt (i : Int)))]) (hR1 : cRel S1 A) (hR2 : mRel S2 A) (kk : ∀ (A' S1' S2' : SS) (H1 : Heap) (locs1 : List Loc), cRel S1' A' → mRel S2' A' → va_P D vwCl (wd a1 T LX S1') H1 → va_P D vwCl (wd a2 T LM S2') H1 → va_S (fun q => s.heap.size ≤ q) s.heap H1 locs1 → W p l e room_1 s m #[Value.ref b] below meth c H1 locs1 62 6075 (lw_Z below #[Value.ref b] s) (F0 m 1682 ls [])) : W p l e room_1 s m #[Value.ref b] below meth c H locs 62 6075 (lw_Z below #[Value.ref b] s) (F0 m 1496 ls []) := by
  have hm := hR1.1
  refine lv_aload_n hx hb dL_law_1496 rfl (lv_at hl 1 rfl) ?_
  refine lv_aload_n hx hb dL_law_1497 rfl (lv_at hl 0 rfl) ?_
  refine lv_iload_n hx hb dL_law_1498 rfl (lv_at hl 3 rfl) ?_
  refine lv_iconst (v := 1) hx hb dL_law_1499 (by decide) ?_
  refine lv_iadd hx hb dL_law_1500 ?_
  refine va_sld hx hb hX hbl (Nat.not_le.mpr hbl) hS (lw_ix 1 hL hi (by decide) rfl) dL_law_1501 ?_
  refine lv_aload_n hx hb dL_law_1502 rfl (lv_at hl 0 rfl) ?_
  refine lv_iload_n hx hb dL_law_1503 rfl (lv_at hl 3 rfl) ?_
  refine lv_iconst (v := 2) hx hb dL_law_1504 (by decide) ?_
  refine lv_iadd hx hb dL_law_1505 ?_
  refine va_sld hx hb hX hbl (Nat.not_le.mpr hbl) hS (lw_ix 2 hL hi (by decide) rfl) dL_law_1506 ?_
  refine lv_aload_n hx hb dL_law_1507 rfl (lv_at hl 0 rfl) ?_
  refine lv_iload_n hx hb dL_law_1508 rfl (lv_at hl 3 rfl) ?_
  refine lv_iconst (v := 3) hx hb dL_law_1509 (by decide) ?_
  refine lv_iadd hx hb dL_law_1510 ?_
  refine va_sld hx hb hX hbl (Nat.not_le.mpr hbl) hS (lw_ix 3 hL hi (by decide) rfl) dL_law_1511 ?_
  refine lw_call (L := LX) (L2 := LM) (ad := a1) (ad2 := a2) (As := [.int (xs (Int32.ofInt (i : Int) + 1).toNatClampNeg), .int (xs (Int32.ofInt (i : Int) + 2).toNatClampNeg), .int (xs (Int32.ofInt (i : Int) + 3).toNatClampNeg)]) (rest := []) hx hb hml hown hts hK hN hD.1 hS hD.2.2.1 (fun q h1 h2 => hD.2.2.2.2 q h2 h1) hP1 hP2 (m_X10_get ((xs (Int32.ofInt (i : Int) + 1).toNatClampNeg).toInt) ((xs (Int32.ofInt (i : Int) + 2).toNatClampNeg).toInt) ((xs (Int32.ofInt (i : Int) + 3).toNatClampNeg).toInt) A S1 (i32_r _) (i32_r _) (i32_r _) hR1) dL_law_1512 mcX10_get miX10_get (tb_in 779 (by decide +kernel) rfl) hl.1 rfl (by show [Value.int (Int32.ofInt (xs (Int32.ofInt (i : Int) + 1).toNatClampNeg).toInt), Value.int (Int32.ofInt (xs (Int32.ofInt (i : Int) + 2).toNatClampNeg).toInt), Value.int (Int32.ofInt (xs (Int32.ofInt (i : Int) + 3).toNatClampNeg).toInt)] = _; simp only [i32_oi]) ⟨Nat.le_of_ble_eq_true rfl, Nat.le_of_ble_eq_true rfl⟩ clX10 rfl rfl (Nat.le_of_ble_eq_true rfl) ⟨Nat.le_of_ble_eq_true rfl, Nat.le_of_ble_eq_true rfl⟩ ?_
  rintro r S1' H locs ⟨rfl, hQ⟩ hP1 hP2 hS
  have hR1 := hQ
  obtain ⟨v1, ev1⟩ : ∃ v1 : Int, sp_get A ((xs (Int32.ofInt (i : Int) + 1).toNatClampNeg).toInt) ((xs (Int32.ofInt (i : Int) + 2).toNatClampNeg).toInt) ((xs (Int32.ofInt (i : Int) + 3).toNatClampNeg).toInt) = v1 := ⟨_, rfl⟩
  show W p l e room_1 s m #[Value.ref b] below meth c H locs 62 6075 (lw_Z below #[Value.ref b] s) (F0 m 1515 ls [.int (Int32.ofInt (sp_get A ((xs (Int32.ofInt (i : Int) + 1).toNatClampNeg).toInt) ((xs (Int32.ofInt (i : Int) + 2).toNatClampNeg).toInt) ((xs (Int32.ofInt (i : Int) + 3).toNatClampNeg).toInt)))])
  rw [ev1]
  refine lv_aload_n hx hb dL_law_1515 rfl (lv_at hl 2 rfl) ?_
  refine lv_aload_n hx hb dL_law_1516 rfl (lv_at hl 0 rfl) ?_
  refine lv_iload_n hx hb dL_law_1517 rfl (lv_at hl 3 rfl) ?_
  refine lv_iconst (v := 1) hx hb dL_law_1518 (by decide) ?_
  refine lv_iadd hx hb dL_law_1519 ?_
  refine va_sld hx hb hX hbl (Nat.not_le.mpr hbl) hS (lw_ix 1 hL hi (by decide) rfl) dL_law_1520 ?_
  refine lv_aload_n hx hb dL_law_1521 rfl (lv_at hl 0 rfl) ?_
  refine lv_iload_n hx hb dL_law_1522 rfl (lv_at hl 3 rfl) ?_
  refine lv_iconst (v := 2) hx hb dL_law_1523 (by decide) ?_
  refine lv_iadd hx hb dL_law_1524 ?_
  refine va_sld hx hb hX hbl (Nat.not_le.mpr hbl) hS (lw_ix 2 hL hi (by decide) rfl) dL_law_1525 ?_
  refine lv_aload_n hx hb dL_law_1526 rfl (lv_at hl 0 rfl) ?_
  refine lv_iload_n hx hb dL_law_1527 rfl (lv_at hl 3 rfl) ?_
  refine lv_iconst (v := 3) hx hb dL_law_1528 (by decide) ?_
  refine lv_iadd hx hb dL_law_1529 ?_
  refine va_sld hx hb hX hbl (Nat.not_le.mpr hbl) hS (lw_ix 3 hL hi (by decide) rfl) dL_law_1530 ?_
  refine lw_call (L := LM) (L2 := LX) (ad := a2) (ad2 := a1) (As := [.int (xs (Int32.ofInt (i : Int) + 1).toNatClampNeg), .int (xs (Int32.ofInt (i : Int) + 2).toNatClampNeg), .int (xs (Int32.ofInt (i : Int) + 3).toNatClampNeg)]) (rest := [.int (Int32.ofInt v1)]) hx hb hml hown hts hK hN hD.2.1 hS hD.2.2.2.1 hD.2.2.2.2 hP2 hP1 (m_X11_get ((xs (Int32.ofInt (i : Int) + 1).toNatClampNeg).toInt) ((xs (Int32.ofInt (i : Int) + 2).toNatClampNeg).toInt) ((xs (Int32.ofInt (i : Int) + 3).toNatClampNeg).toInt) A S2 (i32_r _) (i32_r _) (i32_r _) hR2 hm) dL_law_1531 mcX11_get miX11_get (tb_in 1198 (by decide +kernel) rfl) hl.1 rfl (by show [Value.int (Int32.ofInt (xs (Int32.ofInt (i : Int) + 1).toNatClampNeg).toInt), Value.int (Int32.ofInt (xs (Int32.ofInt (i : Int) + 2).toNatClampNeg).toInt), Value.int (Int32.ofInt (xs (Int32.ofInt (i : Int) + 3).toNatClampNeg).toInt)] = _; simp only [i32_oi]) ⟨Nat.le_of_ble_eq_true rfl, Nat.le_of_ble_eq_true rfl⟩ clX11 rfl rfl (Nat.le_of_ble_eq_true rfl) ⟨Nat.le_of_ble_eq_true rfl, Nat.le_of_ble_eq_true rfl⟩ ?_
  rintro r S2' H locs ⟨rfl, hQ⟩ hP2 hP1 hS
  show W p l e room_1 s m #[Value.ref b] below meth c H locs 62 6075 (lw_Z below #[Value.ref b] s) (F0 m 1534 ls [.int (Int32.ofInt (sp_get A ((xs (Int32.ofInt (i : Int) + 1).toNatClampNeg).toInt) ((xs (Int32.ofInt (i : Int) + 2).toNatClampNeg).toInt) ((xs (Int32.ofInt (i : Int) + 3).toNatClampNeg).toInt))), .int (Int32.ofInt v1)])
  rw [ev1]
  refine lv_icmp_eq (tgt := 1682) hx hb dL_law_1534 (by decide) (fun _ => ?_) (fun q => absurd rfl q)
  exact kk _ _ _ _ _ hR1 hQ hP1 hP2 hS

set_option maxHeartbeats 4000000 in
set_option maxRecDepth 100000 in
theorem lw_k36 {p : Program} {l : Launch} {e : Env} {s : State} {m : MethodId} {below : List Frame} {meth : Method} {c : Code} {b L : Nat} {xs : Nat → Int32} {D : va_G} {a1 a2 : Nat → Nat} {T : zT} {A S1 S2 : SS} {i : Nat} {H : Heap} {locs : List Loc} {ls : Array Slot} (hL : L ≤ 3072) (hx : p.tables.exec = Jvm.exec) (hb : c.code = cL_law) (hml : c.maxLocals = 4) (hown : s.vm.findClass RL = some m.cls) (hts : ∀ w ∈ TB, w.before #[Value.ref b] s = true) (hK : va_K D vwCl (zTy T) s) (hN : zN s) (hX : va_X b L xs s s.heap) (hbl : b < s.heap.size) (hD : lwD s a1 a2) (hi : i + 6 ≤ L) (hS : va_S (fun q => s.heap.size ≤ q) s.heap H locs) (hP1 : va_P D vwCl (wd a1 T LX S1) H) (hP2 : va_P D vwCl (wd a2 T LM S2) H) (hl : lv_has ls 4 [(0, .ref b), (1, .ref (a1 0)), (2, .ref (a2 0)), (3, .int (Int32.ofInt (i : Int)))]) (hR1 : cRel S1 A) (hR2 : mRel S2 A) (kk : ∀ (A' S1' S2' : SS) (H1 : Heap) (locs1 : List Loc), cRel S1' A' → mRel S2' A' → va_P D vwCl (wd a1 T LX S1') H1 → va_P D vwCl (wd a2 T LM S2') H1 → va_S (fun q => s.heap.size ≤ q) s.heap H1 locs1 → W p l e room_1 s m #[Value.ref b] below meth c H1 locs1 62 6075 (lw_Z below #[Value.ref b] s) (F0 m 1682 ls [])) : W p l e room_1 s m #[Value.ref b] below meth c H locs 62 6075 (lw_Z below #[Value.ref b] s) (F0 m 1539 ls []) := by
  have hm := hR1.1
  refine lv_aload_n hx hb dL_law_1539 rfl (lv_at hl 1 rfl) ?_
  refine lv_aload_n hx hb dL_law_1540 rfl (lv_at hl 0 rfl) ?_
  refine lv_iload_n hx hb dL_law_1541 rfl (lv_at hl 3 rfl) ?_
  refine lv_iconst (v := 1) hx hb dL_law_1542 (by decide) ?_
  refine lv_iadd hx hb dL_law_1543 ?_
  refine va_sld hx hb hX hbl (Nat.not_le.mpr hbl) hS (lw_ix 1 hL hi (by decide) rfl) dL_law_1544 ?_
  refine lv_aload_n hx hb dL_law_1545 rfl (lv_at hl 0 rfl) ?_
  refine lv_iload_n hx hb dL_law_1546 rfl (lv_at hl 3 rfl) ?_
  refine lv_iconst (v := 2) hx hb dL_law_1547 (by decide) ?_
  refine lv_iadd hx hb dL_law_1548 ?_
  refine va_sld hx hb hX hbl (Nat.not_le.mpr hbl) hS (lw_ix 2 hL hi (by decide) rfl) dL_law_1549 ?_
  refine lv_aload_n hx hb dL_law_1550 rfl (lv_at hl 0 rfl) ?_
  refine lv_iload_n hx hb dL_law_1551 rfl (lv_at hl 3 rfl) ?_
  refine lv_iconst (v := 3) hx hb dL_law_1552 (by decide) ?_
  refine lv_iadd hx hb dL_law_1553 ?_
  refine va_sld hx hb hX hbl (Nat.not_le.mpr hbl) hS (lw_ix 3 hL hi (by decide) rfl) dL_law_1554 ?_
  refine lv_aload_n hx hb dL_law_1555 rfl (lv_at hl 0 rfl) ?_
  refine lv_iload_n hx hb dL_law_1556 rfl (lv_at hl 3 rfl) ?_
  refine lv_iconst (v := 4) hx hb dL_law_1557 (by decide) ?_
  refine lv_iadd hx hb dL_law_1558 ?_
  refine va_sld hx hb hX hbl (Nat.not_le.mpr hbl) hS (lw_ix 4 hL hi (by decide) rfl) dL_law_1559 ?_
  refine lv_aload_n hx hb dL_law_1560 rfl (lv_at hl 0 rfl) ?_
  refine lv_iload_n hx hb dL_law_1561 rfl (lv_at hl 3 rfl) ?_
  refine lv_iconst (v := 5) hx hb dL_law_1562 (by decide) ?_
  refine lv_iadd hx hb dL_law_1563 ?_
  refine va_sld hx hb hX hbl (Nat.not_le.mpr hbl) hS (lw_ix 5 hL hi (by decide) rfl) dL_law_1564 ?_
  refine lw_call (L := LX) (L2 := LM) (ad := a1) (ad2 := a2) (As := [.int (xs (Int32.ofInt (i : Int) + 1).toNatClampNeg), .int (xs (Int32.ofInt (i : Int) + 2).toNatClampNeg), .int (xs (Int32.ofInt (i : Int) + 3).toNatClampNeg), .int (xs (Int32.ofInt (i : Int) + 4).toNatClampNeg), .int (xs (Int32.ofInt (i : Int) + 5).toNatClampNeg)]) (rest := []) hx hb hml hown hts hK hN hD.1 hS hD.2.2.1 (fun q h1 h2 => hD.2.2.2.2 q h2 h1) hP1 hP2 (m_X10_copy ((xs (Int32.ofInt (i : Int) + 1).toNatClampNeg).toInt) ((xs (Int32.ofInt (i : Int) + 2).toNatClampNeg).toInt) ((xs (Int32.ofInt (i : Int) + 3).toNatClampNeg).toInt) ((xs (Int32.ofInt (i : Int) + 4).toNatClampNeg).toInt) ((xs (Int32.ofInt (i : Int) + 5).toNatClampNeg).toInt) A S1 (i32_r _) (i32_r _) (i32_r _) (i32_r _) (i32_r _) hR1) dL_law_1565 mcX10_copy miX10_copy (tb_in 784 (by decide +kernel) rfl) hl.1 rfl (by show [Value.int (Int32.ofInt (xs (Int32.ofInt (i : Int) + 1).toNatClampNeg).toInt), Value.int (Int32.ofInt (xs (Int32.ofInt (i : Int) + 2).toNatClampNeg).toInt), Value.int (Int32.ofInt (xs (Int32.ofInt (i : Int) + 3).toNatClampNeg).toInt), Value.int (Int32.ofInt (xs (Int32.ofInt (i : Int) + 4).toNatClampNeg).toInt), Value.int (Int32.ofInt (xs (Int32.ofInt (i : Int) + 5).toNatClampNeg).toInt)] = _; simp only [i32_oi]) ⟨Nat.le_of_ble_eq_true rfl, Nat.le_of_ble_eq_true rfl⟩ clX10 rfl rfl (Nat.le_of_ble_eq_true rfl) ⟨Nat.le_of_ble_eq_true rfl, Nat.le_of_ble_eq_true rfl⟩ ?_
  rintro r S1' H locs ⟨rfl, hQ⟩ hP1 hP2 hS
  have hR1 := hQ
  obtain ⟨v1, ev1⟩ : ∃ v1 : Int, sp_copy A ((xs (Int32.ofInt (i : Int) + 1).toNatClampNeg).toInt) ((xs (Int32.ofInt (i : Int) + 2).toNatClampNeg).toInt) ((xs (Int32.ofInt (i : Int) + 3).toNatClampNeg).toInt) ((xs (Int32.ofInt (i : Int) + 4).toNatClampNeg).toInt) ((xs (Int32.ofInt (i : Int) + 5).toNatClampNeg).toInt) = v1 := ⟨_, rfl⟩
  show W p l e room_1 s m #[Value.ref b] below meth c H locs 62 6075 (lw_Z below #[Value.ref b] s) (F0 m 1568 ls [.int (Int32.ofInt (sp_copy A ((xs (Int32.ofInt (i : Int) + 1).toNatClampNeg).toInt) ((xs (Int32.ofInt (i : Int) + 2).toNatClampNeg).toInt) ((xs (Int32.ofInt (i : Int) + 3).toNatClampNeg).toInt) ((xs (Int32.ofInt (i : Int) + 4).toNatClampNeg).toInt) ((xs (Int32.ofInt (i : Int) + 5).toNatClampNeg).toInt)))])
  rw [ev1]
  refine lv_aload_n hx hb dL_law_1568 rfl (lv_at hl 2 rfl) ?_
  refine lv_aload_n hx hb dL_law_1569 rfl (lv_at hl 0 rfl) ?_
  refine lv_iload_n hx hb dL_law_1570 rfl (lv_at hl 3 rfl) ?_
  refine lv_iconst (v := 1) hx hb dL_law_1571 (by decide) ?_
  refine lv_iadd hx hb dL_law_1572 ?_
  refine va_sld hx hb hX hbl (Nat.not_le.mpr hbl) hS (lw_ix 1 hL hi (by decide) rfl) dL_law_1573 ?_
  refine lv_aload_n hx hb dL_law_1574 rfl (lv_at hl 0 rfl) ?_
  refine lv_iload_n hx hb dL_law_1575 rfl (lv_at hl 3 rfl) ?_
  refine lv_iconst (v := 2) hx hb dL_law_1576 (by decide) ?_
  refine lv_iadd hx hb dL_law_1577 ?_
  refine va_sld hx hb hX hbl (Nat.not_le.mpr hbl) hS (lw_ix 2 hL hi (by decide) rfl) dL_law_1578 ?_
  refine lv_aload_n hx hb dL_law_1579 rfl (lv_at hl 0 rfl) ?_
  refine lv_iload_n hx hb dL_law_1580 rfl (lv_at hl 3 rfl) ?_
  refine lv_iconst (v := 3) hx hb dL_law_1581 (by decide) ?_
  refine lv_iadd hx hb dL_law_1582 ?_
  refine va_sld hx hb hX hbl (Nat.not_le.mpr hbl) hS (lw_ix 3 hL hi (by decide) rfl) dL_law_1583 ?_
  refine lv_aload_n hx hb dL_law_1584 rfl (lv_at hl 0 rfl) ?_
  refine lv_iload_n hx hb dL_law_1585 rfl (lv_at hl 3 rfl) ?_
  refine lv_iconst (v := 4) hx hb dL_law_1586 (by decide) ?_
  refine lv_iadd hx hb dL_law_1587 ?_
  refine va_sld hx hb hX hbl (Nat.not_le.mpr hbl) hS (lw_ix 4 hL hi (by decide) rfl) dL_law_1588 ?_
  refine lv_aload_n hx hb dL_law_1589 rfl (lv_at hl 0 rfl) ?_
  refine lv_iload_n hx hb dL_law_1590 rfl (lv_at hl 3 rfl) ?_
  refine lv_iconst (v := 5) hx hb dL_law_1591 (by decide) ?_
  refine lv_iadd hx hb dL_law_1592 ?_
  refine va_sld hx hb hX hbl (Nat.not_le.mpr hbl) hS (lw_ix 5 hL hi (by decide) rfl) dL_law_1593 ?_
  refine lw_call (L := LM) (L2 := LX) (ad := a2) (ad2 := a1) (As := [.int (xs (Int32.ofInt (i : Int) + 1).toNatClampNeg), .int (xs (Int32.ofInt (i : Int) + 2).toNatClampNeg), .int (xs (Int32.ofInt (i : Int) + 3).toNatClampNeg), .int (xs (Int32.ofInt (i : Int) + 4).toNatClampNeg), .int (xs (Int32.ofInt (i : Int) + 5).toNatClampNeg)]) (rest := [.int (Int32.ofInt v1)]) hx hb hml hown hts hK hN hD.2.1 hS hD.2.2.2.1 hD.2.2.2.2 hP2 hP1 (m_X11_copy ((xs (Int32.ofInt (i : Int) + 1).toNatClampNeg).toInt) ((xs (Int32.ofInt (i : Int) + 2).toNatClampNeg).toInt) ((xs (Int32.ofInt (i : Int) + 3).toNatClampNeg).toInt) ((xs (Int32.ofInt (i : Int) + 4).toNatClampNeg).toInt) ((xs (Int32.ofInt (i : Int) + 5).toNatClampNeg).toInt) A S2 (i32_r _) (i32_r _) (i32_r _) (i32_r _) (i32_r _) hR2 hm) dL_law_1594 mcX11_copy miX11_copy (tb_in 1203 (by decide +kernel) rfl) hl.1 rfl (by show [Value.int (Int32.ofInt (xs (Int32.ofInt (i : Int) + 1).toNatClampNeg).toInt), Value.int (Int32.ofInt (xs (Int32.ofInt (i : Int) + 2).toNatClampNeg).toInt), Value.int (Int32.ofInt (xs (Int32.ofInt (i : Int) + 3).toNatClampNeg).toInt), Value.int (Int32.ofInt (xs (Int32.ofInt (i : Int) + 4).toNatClampNeg).toInt), Value.int (Int32.ofInt (xs (Int32.ofInt (i : Int) + 5).toNatClampNeg).toInt)] = _; simp only [i32_oi]) ⟨Nat.le_of_ble_eq_true rfl, Nat.le_of_ble_eq_true rfl⟩ clX11 rfl rfl (Nat.le_of_ble_eq_true rfl) ⟨Nat.le_of_ble_eq_true rfl, Nat.le_of_ble_eq_true rfl⟩ ?_
  rintro r S2' H locs ⟨rfl, hQ⟩ hP2 hP1 hS
  show W p l e room_1 s m #[Value.ref b] below meth c H locs 62 6075 (lw_Z below #[Value.ref b] s) (F0 m 1597 ls [.int (Int32.ofInt (sp_copy A ((xs (Int32.ofInt (i : Int) + 1).toNatClampNeg).toInt) ((xs (Int32.ofInt (i : Int) + 2).toNatClampNeg).toInt) ((xs (Int32.ofInt (i : Int) + 3).toNatClampNeg).toInt) ((xs (Int32.ofInt (i : Int) + 4).toNatClampNeg).toInt) ((xs (Int32.ofInt (i : Int) + 5).toNatClampNeg).toInt))), .int (Int32.ofInt v1)])
  rw [ev1]
  refine lv_icmp_eq (tgt := 1682) hx hb dL_law_1597 (by decide) (fun _ => ?_) (fun q => absurd rfl q)
  exact kk _ _ _ _ _ hR1 hQ hP1 hP2 hS

set_option maxHeartbeats 4000000 in
set_option maxRecDepth 100000 in
theorem lw_k37 {p : Program} {l : Launch} {e : Env} {s : State} {m : MethodId} {below : List Frame} {meth : Method} {c : Code} {b L : Nat} {xs : Nat → Int32} {D : va_G} {a1 a2 : Nat → Nat} {T : zT} {A S1 S2 : SS} {i : Nat} {H : Heap} {locs : List Loc} {ls : Array Slot} (hL : L ≤ 3072) (hx : p.tables.exec = Jvm.exec) (hb : c.code = cL_law) (hml : c.maxLocals = 4) (hown : s.vm.findClass RL = some m.cls) (hts : ∀ w ∈ TB, w.before #[Value.ref b] s = true) (hK : va_K D vwCl (zTy T) s) (hN : zN s) (hX : va_X b L xs s s.heap) (hbl : b < s.heap.size) (hD : lwD s a1 a2) (hi : i + 6 ≤ L) (hS : va_S (fun q => s.heap.size ≤ q) s.heap H locs) (hP1 : va_P D vwCl (wd a1 T LX S1) H) (hP2 : va_P D vwCl (wd a2 T LM S2) H) (hl : lv_has ls 4 [(0, .ref b), (1, .ref (a1 0)), (2, .ref (a2 0)), (3, .int (Int32.ofInt (i : Int)))]) (hR1 : cRel S1 A) (hR2 : mRel S2 A) (kk : ∀ (A' S1' S2' : SS) (H1 : Heap) (locs1 : List Loc), cRel S1' A' → mRel S2' A' → va_P D vwCl (wd a1 T LX S1') H1 → va_P D vwCl (wd a2 T LM S2') H1 → va_S (fun q => s.heap.size ≤ q) s.heap H1 locs1 → W p l e room_1 s m #[Value.ref b] below meth c H1 locs1 62 6075 (lw_Z below #[Value.ref b] s) (F0 m 1682 ls [])) : W p l e room_1 s m #[Value.ref b] below meth c H locs 62 6075 (lw_Z below #[Value.ref b] s) (F0 m 1602 ls []) := by
  have hm := hR1.1
  refine lv_aload_n hx hb dL_law_1602 rfl (lv_at hl 1 rfl) ?_
  refine lv_aload_n hx hb dL_law_1603 rfl (lv_at hl 0 rfl) ?_
  refine lv_iload_n hx hb dL_law_1604 rfl (lv_at hl 3 rfl) ?_
  refine lv_iconst (v := 1) hx hb dL_law_1605 (by decide) ?_
  refine lv_iadd hx hb dL_law_1606 ?_
  refine va_sld hx hb hX hbl (Nat.not_le.mpr hbl) hS (lw_ix 1 hL hi (by decide) rfl) dL_law_1607 ?_
  refine lv_aload_n hx hb dL_law_1608 rfl (lv_at hl 0 rfl) ?_
  refine lv_iload_n hx hb dL_law_1609 rfl (lv_at hl 3 rfl) ?_
  refine lv_iconst (v := 2) hx hb dL_law_1610 (by decide) ?_
  refine lv_iadd hx hb dL_law_1611 ?_
  refine va_sld hx hb hX hbl (Nat.not_le.mpr hbl) hS (lw_ix 2 hL hi (by decide) rfl) dL_law_1612 ?_
  refine lv_aload_n hx hb dL_law_1613 rfl (lv_at hl 0 rfl) ?_
  refine lv_iload_n hx hb dL_law_1614 rfl (lv_at hl 3 rfl) ?_
  refine lv_iconst (v := 3) hx hb dL_law_1615 (by decide) ?_
  refine lv_iadd hx hb dL_law_1616 ?_
  refine va_sld hx hb hX hbl (Nat.not_le.mpr hbl) hS (lw_ix 3 hL hi (by decide) rfl) dL_law_1617 ?_
  refine lw_call (L := LX) (L2 := LM) (ad := a1) (ad2 := a2) (As := [.int (xs (Int32.ofInt (i : Int) + 1).toNatClampNeg), .int (xs (Int32.ofInt (i : Int) + 2).toNatClampNeg), .int (xs (Int32.ofInt (i : Int) + 3).toNatClampNeg)]) (rest := []) hx hb hml hown hts hK hN hD.1 hS hD.2.2.1 (fun q h1 h2 => hD.2.2.2.2 q h2 h1) hP1 hP2 (m_X10_write ((xs (Int32.ofInt (i : Int) + 1).toNatClampNeg).toInt) ((xs (Int32.ofInt (i : Int) + 2).toNatClampNeg).toInt) ((xs (Int32.ofInt (i : Int) + 3).toNatClampNeg).toInt) A S1 (i32_r _) (i32_r _) (i32_r _) hR1) dL_law_1618 mcX10_write miX10_write (tb_in 795 (by decide +kernel) rfl) hl.1 rfl (by show [Value.int (Int32.ofInt (xs (Int32.ofInt (i : Int) + 1).toNatClampNeg).toInt), Value.int (Int32.ofInt (xs (Int32.ofInt (i : Int) + 2).toNatClampNeg).toInt), Value.int (Int32.ofInt (xs (Int32.ofInt (i : Int) + 3).toNatClampNeg).toInt)] = _; simp only [i32_oi]) ⟨Nat.le_of_ble_eq_true rfl, Nat.le_of_ble_eq_true rfl⟩ clX10 rfl rfl (Nat.le_of_ble_eq_true rfl) ⟨Nat.le_of_ble_eq_true rfl, Nat.le_of_ble_eq_true rfl⟩ ?_
  rintro r S1' H locs ⟨rfl, hQ⟩ hP1 hP2 hS
  have hR1 := hQ
  obtain ⟨v1, ev1⟩ : ∃ v1 : Int, sp_write A ((xs (Int32.ofInt (i : Int) + 1).toNatClampNeg).toInt) ((xs (Int32.ofInt (i : Int) + 2).toNatClampNeg).toInt) ((xs (Int32.ofInt (i : Int) + 3).toNatClampNeg).toInt) = v1 := ⟨_, rfl⟩
  show W p l e room_1 s m #[Value.ref b] below meth c H locs 62 6075 (lw_Z below #[Value.ref b] s) (F0 m 1621 ls [.int (Int32.ofInt (sp_write A ((xs (Int32.ofInt (i : Int) + 1).toNatClampNeg).toInt) ((xs (Int32.ofInt (i : Int) + 2).toNatClampNeg).toInt) ((xs (Int32.ofInt (i : Int) + 3).toNatClampNeg).toInt)))])
  rw [ev1]
  refine lv_aload_n hx hb dL_law_1621 rfl (lv_at hl 2 rfl) ?_
  refine lv_aload_n hx hb dL_law_1622 rfl (lv_at hl 0 rfl) ?_
  refine lv_iload_n hx hb dL_law_1623 rfl (lv_at hl 3 rfl) ?_
  refine lv_iconst (v := 1) hx hb dL_law_1624 (by decide) ?_
  refine lv_iadd hx hb dL_law_1625 ?_
  refine va_sld hx hb hX hbl (Nat.not_le.mpr hbl) hS (lw_ix 1 hL hi (by decide) rfl) dL_law_1626 ?_
  refine lv_aload_n hx hb dL_law_1627 rfl (lv_at hl 0 rfl) ?_
  refine lv_iload_n hx hb dL_law_1628 rfl (lv_at hl 3 rfl) ?_
  refine lv_iconst (v := 2) hx hb dL_law_1629 (by decide) ?_
  refine lv_iadd hx hb dL_law_1630 ?_
  refine va_sld hx hb hX hbl (Nat.not_le.mpr hbl) hS (lw_ix 2 hL hi (by decide) rfl) dL_law_1631 ?_
  refine lv_aload_n hx hb dL_law_1632 rfl (lv_at hl 0 rfl) ?_
  refine lv_iload_n hx hb dL_law_1633 rfl (lv_at hl 3 rfl) ?_
  refine lv_iconst (v := 3) hx hb dL_law_1634 (by decide) ?_
  refine lv_iadd hx hb dL_law_1635 ?_
  refine va_sld hx hb hX hbl (Nat.not_le.mpr hbl) hS (lw_ix 3 hL hi (by decide) rfl) dL_law_1636 ?_
  refine lw_call (L := LM) (L2 := LX) (ad := a2) (ad2 := a1) (As := [.int (xs (Int32.ofInt (i : Int) + 1).toNatClampNeg), .int (xs (Int32.ofInt (i : Int) + 2).toNatClampNeg), .int (xs (Int32.ofInt (i : Int) + 3).toNatClampNeg)]) (rest := [.int (Int32.ofInt v1)]) hx hb hml hown hts hK hN hD.2.1 hS hD.2.2.2.1 hD.2.2.2.2 hP2 hP1 (m_X11_write ((xs (Int32.ofInt (i : Int) + 1).toNatClampNeg).toInt) ((xs (Int32.ofInt (i : Int) + 2).toNatClampNeg).toInt) ((xs (Int32.ofInt (i : Int) + 3).toNatClampNeg).toInt) A S2 (i32_r _) (i32_r _) (i32_r _) hR2 hm) dL_law_1637 mcX11_write miX11_write (tb_in 1207 (by decide +kernel) rfl) hl.1 rfl (by show [Value.int (Int32.ofInt (xs (Int32.ofInt (i : Int) + 1).toNatClampNeg).toInt), Value.int (Int32.ofInt (xs (Int32.ofInt (i : Int) + 2).toNatClampNeg).toInt), Value.int (Int32.ofInt (xs (Int32.ofInt (i : Int) + 3).toNatClampNeg).toInt)] = _; simp only [i32_oi]) ⟨Nat.le_of_ble_eq_true rfl, Nat.le_of_ble_eq_true rfl⟩ clX11 rfl rfl (Nat.le_of_ble_eq_true rfl) ⟨Nat.le_of_ble_eq_true rfl, Nat.le_of_ble_eq_true rfl⟩ ?_
  rintro r S2' H locs ⟨rfl, hQ⟩ hP2 hP1 hS
  show W p l e room_1 s m #[Value.ref b] below meth c H locs 62 6075 (lw_Z below #[Value.ref b] s) (F0 m 1640 ls [.int (Int32.ofInt (sp_write A ((xs (Int32.ofInt (i : Int) + 1).toNatClampNeg).toInt) ((xs (Int32.ofInt (i : Int) + 2).toNatClampNeg).toInt) ((xs (Int32.ofInt (i : Int) + 3).toNatClampNeg).toInt))), .int (Int32.ofInt v1)])
  rw [ev1]
  refine lv_icmp_eq (tgt := 1682) hx hb dL_law_1640 (by decide) (fun _ => ?_) (fun q => absurd rfl q)
  exact kk _ _ _ _ _ hR1 hQ hP1 hP2 hS

set_option maxHeartbeats 4000000 in
set_option maxRecDepth 100000 in
theorem lw_k38 {p : Program} {l : Launch} {e : Env} {s : State} {m : MethodId} {below : List Frame} {meth : Method} {c : Code} {b L : Nat} {xs : Nat → Int32} {D : va_G} {a1 a2 : Nat → Nat} {T : zT} {A S1 S2 : SS} {i : Nat} {H : Heap} {locs : List Loc} {ls : Array Slot} (hL : L ≤ 3072) (hx : p.tables.exec = Jvm.exec) (hb : c.code = cL_law) (hml : c.maxLocals = 4) (hown : s.vm.findClass RL = some m.cls) (hts : ∀ w ∈ TB, w.before #[Value.ref b] s = true) (hK : va_K D vwCl (zTy T) s) (hN : zN s) (hX : va_X b L xs s s.heap) (hbl : b < s.heap.size) (hD : lwD s a1 a2) (hi : i + 6 ≤ L) (hS : va_S (fun q => s.heap.size ≤ q) s.heap H locs) (hP1 : va_P D vwCl (wd a1 T LX S1) H) (hP2 : va_P D vwCl (wd a2 T LM S2) H) (hl : lv_has ls 4 [(0, .ref b), (1, .ref (a1 0)), (2, .ref (a2 0)), (3, .int (Int32.ofInt (i : Int)))]) (hR1 : cRel S1 A) (hR2 : mRel S2 A) (kk : ∀ (A' S1' S2' : SS) (H1 : Heap) (locs1 : List Loc), cRel S1' A' → mRel S2' A' → va_P D vwCl (wd a1 T LX S1') H1 → va_P D vwCl (wd a2 T LM S2') H1 → va_S (fun q => s.heap.size ≤ q) s.heap H1 locs1 → W p l e room_1 s m #[Value.ref b] below meth c H1 locs1 62 6075 (lw_Z below #[Value.ref b] s) (F0 m 1682 ls [])) : W p l e room_1 s m #[Value.ref b] below meth c H locs 62 6075 (lw_Z below #[Value.ref b] s) (F0 m 1645 ls []) := by
  have hm := hR1.1
  refine lv_aload_n hx hb dL_law_1645 rfl (lv_at hl 1 rfl) ?_
  refine lv_aload_n hx hb dL_law_1646 rfl (lv_at hl 0 rfl) ?_
  refine lv_iload_n hx hb dL_law_1647 rfl (lv_at hl 3 rfl) ?_
  refine lv_iconst (v := 1) hx hb dL_law_1648 (by decide) ?_
  refine lv_iadd hx hb dL_law_1649 ?_
  refine va_sld hx hb hX hbl (Nat.not_le.mpr hbl) hS (lw_ix 1 hL hi (by decide) rfl) dL_law_1650 ?_
  refine lw_call (L := LX) (L2 := LM) (ad := a1) (ad2 := a2) (As := [.int (xs (Int32.ofInt (i : Int) + 1).toNatClampNeg)]) (rest := []) hx hb hml hown hts hK hN hD.1 hS hD.2.2.1 (fun q h1 h2 => hD.2.2.2.2 q h2 h1) hP1 hP2 (m_X10_count ((xs (Int32.ofInt (i : Int) + 1).toNatClampNeg).toInt) A S1 (i32_r _) hR1) dL_law_1651 mcX10_count miX10_count (tb_in 799 (by decide +kernel) rfl) hl.1 rfl (by show [Value.int (Int32.ofInt (xs (Int32.ofInt (i : Int) + 1).toNatClampNeg).toInt)] = _; simp only [i32_oi]) ⟨Nat.le_of_ble_eq_true rfl, Nat.le_of_ble_eq_true rfl⟩ clX10 rfl rfl (Nat.le_of_ble_eq_true rfl) ⟨Nat.le_of_ble_eq_true rfl, Nat.le_of_ble_eq_true rfl⟩ ?_
  rintro r S1' H locs ⟨rfl, rfl⟩ hP1 hP2 hS
  obtain ⟨v1, ev1⟩ : ∃ v1 : Int, sp_count A ((xs (Int32.ofInt (i : Int) + 1).toNatClampNeg).toInt) = v1 := ⟨_, rfl⟩
  show W p l e room_1 s m #[Value.ref b] below meth c H locs 62 6075 (lw_Z below #[Value.ref b] s) (F0 m 1654 ls [.int (Int32.ofInt (sp_count A ((xs (Int32.ofInt (i : Int) + 1).toNatClampNeg).toInt)))])
  rw [ev1]
  refine lv_aload_n hx hb dL_law_1654 rfl (lv_at hl 2 rfl) ?_
  refine lv_aload_n hx hb dL_law_1655 rfl (lv_at hl 0 rfl) ?_
  refine lv_iload_n hx hb dL_law_1656 rfl (lv_at hl 3 rfl) ?_
  refine lv_iconst (v := 1) hx hb dL_law_1657 (by decide) ?_
  refine lv_iadd hx hb dL_law_1658 ?_
  refine va_sld hx hb hX hbl (Nat.not_le.mpr hbl) hS (lw_ix 1 hL hi (by decide) rfl) dL_law_1659 ?_
  refine lw_call (L := LM) (L2 := LX) (ad := a2) (ad2 := a1) (As := [.int (xs (Int32.ofInt (i : Int) + 1).toNatClampNeg)]) (rest := [.int (Int32.ofInt v1)]) hx hb hml hown hts hK hN hD.2.1 hS hD.2.2.2.1 hD.2.2.2.2 hP2 hP1 (m_X11_count ((xs (Int32.ofInt (i : Int) + 1).toNatClampNeg).toInt) A S2 (i32_r _) hR2 hm) dL_law_1660 mcX11_count miX11_count (tb_in 1211 (by decide +kernel) rfl) hl.1 rfl (by show [Value.int (Int32.ofInt (xs (Int32.ofInt (i : Int) + 1).toNatClampNeg).toInt)] = _; simp only [i32_oi]) ⟨Nat.le_of_ble_eq_true rfl, Nat.le_of_ble_eq_true rfl⟩ clX11 rfl rfl (Nat.le_of_ble_eq_true rfl) ⟨Nat.le_of_ble_eq_true rfl, Nat.le_of_ble_eq_true rfl⟩ ?_
  rintro r S2' H locs ⟨rfl, hQ⟩ hP2 hP1 hS
  show W p l e room_1 s m #[Value.ref b] below meth c H locs 62 6075 (lw_Z below #[Value.ref b] s) (F0 m 1663 ls [.int (Int32.ofInt (sp_count A ((xs (Int32.ofInt (i : Int) + 1).toNatClampNeg).toInt))), .int (Int32.ofInt v1)])
  rw [ev1]
  refine lv_icmp_eq (tgt := 1682) hx hb dL_law_1663 (by decide) (fun _ => ?_) (fun q => absurd rfl q)
  exact kk _ _ _ _ _ hR1 hQ hP1 hP2 hS

set_option maxHeartbeats 4000000 in
set_option maxRecDepth 100000 in
theorem lw_k39 {p : Program} {l : Launch} {e : Env} {s : State} {m : MethodId} {below : List Frame} {meth : Method} {c : Code} {b L : Nat} {xs : Nat → Int32} {D : va_G} {a1 a2 : Nat → Nat} {T : zT} {A S1 S2 : SS} {i : Nat} {H : Heap} {locs : List Loc} {ls : Array Slot} (hL : L ≤ 3072) (hx : p.tables.exec = Jvm.exec) (hb : c.code = cL_law) (hml : c.maxLocals = 4) (hown : s.vm.findClass RL = some m.cls) (hts : ∀ w ∈ TB, w.before #[Value.ref b] s = true) (hK : va_K D vwCl (zTy T) s) (hN : zN s) (hX : va_X b L xs s s.heap) (hbl : b < s.heap.size) (hD : lwD s a1 a2) (hi : i + 6 ≤ L) (hS : va_S (fun q => s.heap.size ≤ q) s.heap H locs) (hP1 : va_P D vwCl (wd a1 T LX S1) H) (hP2 : va_P D vwCl (wd a2 T LM S2) H) (hl : lv_has ls 4 [(0, .ref b), (1, .ref (a1 0)), (2, .ref (a2 0)), (3, .int (Int32.ofInt (i : Int)))]) (hR1 : cRel S1 A) (hR2 : mRel S2 A) (kk : ∀ (A' S1' S2' : SS) (H1 : Heap) (locs1 : List Loc), cRel S1' A' → mRel S2' A' → va_P D vwCl (wd a1 T LX S1') H1 → va_P D vwCl (wd a2 T LM S2') H1 → va_S (fun q => s.heap.size ≤ q) s.heap H1 locs1 → W p l e room_1 s m #[Value.ref b] below meth c H1 locs1 62 6075 (lw_Z below #[Value.ref b] s) (F0 m 1682 ls [])) : W p l e room_1 s m #[Value.ref b] below meth c H locs 62 6075 (lw_Z below #[Value.ref b] s) (F0 m 1668 ls []) := by
  have hm := hR1.1
  refine lv_aload_n hx hb dL_law_1668 rfl (lv_at hl 1 rfl) ?_
  refine lw_call (L := LX) (L2 := LM) (ad := a1) (ad2 := a2) (As := []) (rest := []) hx hb hml hown hts hK hN hD.1 hS hD.2.2.1 (fun q h1 h2 => hD.2.2.2.2 q h2 h1) hP1 hP2 (m_X10_digest A S1 hR1) dL_law_1669 mcX10_digest miX10_digest (tb_in 803 (by decide +kernel) rfl) hl.1 rfl rfl ⟨Nat.le_of_ble_eq_true rfl, Nat.le_of_ble_eq_true rfl⟩ clX10 rfl rfl (Nat.le_of_ble_eq_true rfl) ⟨Nat.le_of_ble_eq_true rfl, Nat.le_of_ble_eq_true rfl⟩ ?_
  rintro r S1' H locs ⟨rfl, hQ⟩ hP1 hP2 hS
  have hR1 := hQ
  obtain ⟨v1, ev1⟩ : ∃ v1 : Int, (dgF A) = v1 := ⟨_, rfl⟩
  show W p l e room_1 s m #[Value.ref b] below meth c H locs 62 6075 (lw_Z below #[Value.ref b] s) (F0 m 1672 ls [.long (Int64.ofInt ((dgF A)))])
  rw [ev1]
  refine lv_aload_n hx hb dL_law_1672 rfl (lv_at hl 2 rfl) ?_
  refine lw_call (L := LM) (L2 := LX) (ad := a2) (ad2 := a1) (As := []) (rest := [.long (Int64.ofInt v1)]) hx hb hml hown hts hK hN hD.2.1 hS hD.2.2.2.1 hD.2.2.2.2 hP2 hP1 (m_X11_digest A S2 hR2 hm) dL_law_1673 mcX11_digest miX11_digest (tb_in 1215 (by decide +kernel) rfl) hl.1 rfl rfl ⟨Nat.le_of_ble_eq_true rfl, Nat.le_of_ble_eq_true rfl⟩ clX11 rfl rfl (Nat.le_of_ble_eq_true rfl) ⟨Nat.le_of_ble_eq_true rfl, Nat.le_of_ble_eq_true rfl⟩ ?_
  rintro r S2' H locs ⟨rfl, hQ⟩ hP2 hP1 hS
  show W p l e room_1 s m #[Value.ref b] below meth c H locs 62 6075 (lw_Z below #[Value.ref b] s) (F0 m 1676 ls [.long (Int64.ofInt ((dgF A))), .long (Int64.ofInt v1)])
  rw [ev1]
  refine W.lcmp hx hb dL_law_1676 ?_
  unfold lg_cmp
  rw [if_neg (by rw [gt_iff_lt, Int64.lt_iff_toInt_lt]; omega), if_pos rfl]
  refine lv_if_eq (tgt := 1682) hx hb dL_law_1677 (by decide) (fun _ => ?_) (fun q => absurd rfl q)
  exact kk _ _ _ _ _ hR1 hQ hP1 hP2 hS

/-! the law's loop -/
theorem lw_tg {L i : Nat} (hL : L ≤ 3072) (hi : i ≤ L + 5) (q : ¬ (Int32.ofInt (i : Int) > Int32.ofNat L - 6)) : i + 6 ≤ L := by
  have e1 : Int32.ofNat L - 6 = Int32.ofInt ((L : Int) - 6) := by
    rw [Int32.ofInt_sub, i32_nat (Int.natCast_nonneg L), Int.toNat_natCast]
    rfl
  rw [e1] at q
  have h1 := i32_ltF (a := (L : Int) - 6) (b := (i : Int)) ⟨by omega, by omega⟩ ⟨by omega, by omega⟩ q
  omega
theorem lw_ix0 {L i : Nat} (hL : L ≤ 3072) (hi : i + 6 ≤ L) : vp_in (Int32.ofInt (i : Int)) L := (i32_c (n := L) (by omega) (by omega) (by omega)).1
set_option maxHeartbeats 4000000 in
set_option maxRecDepth 100000 in
theorem law_loop {p : Program} {l : Launch} {e : Env} {s : State} {m : MethodId} {below : List Frame} {meth : Method} {c : Code} {b L : Nat} {xs : Nat → Int32} {D : va_G} {a1 a2 : Nat → Nat} {T : zT} (hL : L ≤ 3072) (C0 : lw_At p s m meth c b L xs) (hts : ∀ w ∈ TB, w.before #[Value.ref b] s = true) (hK : va_K D vwCl (zTy T) s) (hN : zN s) (hD : lwD s a1 a2) : ∀ (n i : Nat), L + 6 ≤ i + n → i ≤ L + 5 → ∀ (A S1 S2 : SS) (H : Heap) (locs : List Loc) (ls : Array Slot), cRel S1 A → mRel S2 A → va_P D vwCl (wd a1 T LX S1) H → va_P D vwCl (wd a2 T LM S2) H → va_S (fun q => s.heap.size ≤ q) s.heap H locs → lv_has ls 4 [(0, .ref b), (1, .ref (a1 0)), (2, .ref (a2 0)), (3, .int (Int32.ofInt (i : Int)))] → W p l e room_1 s m #[Value.ref b] below meth c H locs 62 6075 (lw_Z below #[Value.ref b] s) (F0 m 18 ls []) := by
  obtain ⟨hx, hb, hr, hml, hown, htsL, hX, hbl, hlocks, hgv⟩ := C0
  intro n
  induction n with
  | zero =>
    intro i h1 h2
    exact absurd h2 (by omega)
  | succ n ih =>
    intro i hin hi A S1 S2 H locs ls hR1 hR2 hP1 hP2 hS hl
    refine lv_iload_n hx hb dL_law_18 rfl (lv_at hl 3 rfl) ?_
    refine lv_aload_n hx hb dL_law_19 rfl (lv_at hl 0 rfl) ?_
    refine va_slen hx hb hX hbl (Nat.not_le.mpr hbl) hS dL_law_20 ?_
    refine lv_bipush (v := 6) hx hb dL_law_21 (by decide) ?_
    refine lv_isub hx hb dL_law_23 ?_
    refine lv_icmp_gt (tgt := 1688) hx hb dL_law_24 (by decide) (fun q => ?_) (fun q => ?_)
    · refine lv_iconst (v := 1) hx hb dL_law_1688 (by decide) ?_
      refine va_forget (fun q hq => hS.2.2 q hq) ?_
      exact lw_ret hx hb hr hlocks dL_law_1689
    · have hi6 : i + 6 ≤ L := lw_tg hL hi q
      refine lv_aload_n hx hb dL_law_27 rfl (lv_at hl 0 rfl) ?_
      refine lv_iload_n hx hb dL_law_28 rfl (lv_at hl 3 rfl) ?_
      refine va_sld hx hb hX hbl (Nat.not_le.mpr hbl) hS (lw_ix0 hL hi6) dL_law_29 ?_
      refine lv_bipush (v := 63) hx hb dL_law_30 (by decide) ?_
      refine lv_iand hx hb dL_law_32 ?_
      refine lv_topi (fun t et => ?_)
      have kk : ∀ (A' S1' S2' : SS) (H1 : Heap) (locs1 : List Loc), cRel S1' A' → mRel S2' A' → va_P D vwCl (wd a1 T LX S1') H1 → va_P D vwCl (wd a2 T LM S2') H1 → va_S (fun q => s.heap.size ≤ q) s.heap H1 locs1 → W p l e room_1 s m #[Value.ref b] below meth c H1 locs1 62 6075 (lw_Z below #[Value.ref b] s) (F0 m 1682 ls []) := by
        intro A' S1' S2' H1 locs1 g1 g2 g3 g4 g5
        refine lv_iinc (k := 3) (v := Int32.ofInt ((i + 6 : Nat) : Int)) (lv' := [(3, .int (Int32.ofInt ((i + 6 : Nat) : Int))), (0, .ref b), (1, .ref (a1 0)), (2, .ref (a2 0))]) hx hb dL_law_1682 hl rfl (by rw [← Int32.ofInt_add]; rfl) (by decide) rfl (fun ls hl => ?_)
        refine lv_goto (tgt := 18) hx hb dL_law_1685 (by decide) ?_
        exact ih (i + 6) (by omega) (by omega) A' S1' S2' H1 locs1 ls g1 g2 g3 g4 g5 (lv_sub hl [1, 2, 3, 0] rfl)
      clear ih
      by_cases ht : t.toInt < 0 ∨ 39 < t.toInt
      · exact lv_tableOut (tgt := 1682) hx hb dL_law_33 ht (by decide) (kk A S1 S2 H locs hR1 hR2 hP1 hP2 hS)
      · obtain ⟨k, hk⟩ : ∃ k : Nat, t.toInt = (k : Int) := ⟨t.toInt.toNat, by omega⟩
        rcases (show k = 0 ∨ k = 1 ∨ k = 2 ∨ k = 3 ∨ k = 4 ∨ k = 5 ∨ k = 6 ∨ k = 7 ∨ k = 8 ∨ k = 9 ∨ k = 10 ∨ k = 11 ∨ k = 12 ∨ k = 13 ∨ k = 14 ∨ k = 15 ∨ k = 16 ∨ k = 17 ∨ k = 18 ∨ k = 19 ∨ k = 20 ∨ k = 21 ∨ k = 22 ∨ k = 23 ∨ k = 24 ∨ k = 25 ∨ k = 26 ∨ k = 27 ∨ k = 28 ∨ k = 29 ∨ k = 30 ∨ k = 31 ∨ k = 32 ∨ k = 33 ∨ k = 34 ∨ k = 35 ∨ k = 36 ∨ k = 37 ∨ k = 38 ∨ k = 39 by omega) with rfl | rfl | rfl | rfl | rfl | rfl | rfl | rfl | rfl | rfl | rfl | rfl | rfl | rfl | rfl | rfl | rfl | rfl | rfl | rfl | rfl | rfl | rfl | rfl | rfl | rfl | rfl | rfl | rfl | rfl | rfl | rfl | rfl | rfl | rfl | rfl | rfl | rfl | rfl | rfl
        · exact lv_tableIn (tgt := 208) (off := 175) hx hb dL_law_33 (by omega) (by omega) (by rw [hk]; rfl) (by decide) (lw_k0 hL hx hb hml hown hts hK hN hX hbl hD hi6 hS hP1 hP2 hl hR1 hR2 kk)
        · exact lv_tableIn (tgt := 241) (off := 208) hx hb dL_law_33 (by omega) (by omega) (by rw [hk]; rfl) (by decide) (lw_k1 hL hx hb hml hown hts hK hN hX hbl hD hi6 hS hP1 hP2 hl hR1 hR2 kk)
        · exact lv_tableIn (tgt := 264) (off := 231) hx hb dL_law_33 (by omega) (by omega) (by rw [hk]; rfl) (by decide) (lw_k2 hL hx hb hml hown hts hK hN hX hbl hD hi6 hS hP1 hP2 hl hR1 hR2 kk)
        · exact lv_tableIn (tgt := 287) (off := 254) hx hb dL_law_33 (by omega) (by omega) (by rw [hk]; rfl) (by decide) (lw_k3 hL hx hb hml hown hts hK hN hX hbl hD hi6 hS hP1 hP2 hl hR1 hR2 kk)
        · exact lv_tableIn (tgt := 330) (off := 297) hx hb dL_law_33 (by omega) (by omega) (by rw [hk]; rfl) (by decide) (lw_k4 hL hx hb hml hown hts hK hN hX hbl hD hi6 hS hP1 hP2 hl hR1 hR2 kk)
        · exact lv_tableIn (tgt := 373) (off := 340) hx hb dL_law_33 (by omega) (by omega) (by rw [hk]; rfl) (by decide) (lw_k5 hL hx hb hml hown hts hK hN hX hbl hD hi6 hS hP1 hP2 hl hR1 hR2 kk)
        · exact lv_tableIn (tgt := 396) (off := 363) hx hb dL_law_33 (by omega) (by omega) (by rw [hk]; rfl) (by decide) (lw_k6 hL hx hb hml hown hts hK hN hX hbl hD hi6 hS hP1 hP2 hl hR1 hR2 kk)
        · exact lv_tableIn (tgt := 429) (off := 396) hx hb dL_law_33 (by omega) (by omega) (by rw [hk]; rfl) (by decide) (lw_k7 hL hx hb hml hown hts hK hN hX hbl hD hi6 hS hP1 hP2 hl hR1 hR2 kk)
        · exact lv_tableIn (tgt := 472) (off := 439) hx hb dL_law_33 (by omega) (by omega) (by rw [hk]; rfl) (by decide) (lw_k8 hL hx hb hml hown hts hK hN hX hbl hD hi6 hS hP1 hP2 hl hR1 hR2 kk)
        · exact lv_tableIn (tgt := 516) (off := 483) hx hb dL_law_33 (by omega) (by omega) (by rw [hk]; rfl) (by decide) (lw_k9 hL hx hb hml hown hts hK hN hX hbl hD hi6 hS hP1 hP2 hl hR1 hR2 kk)
        · exact lv_tableIn (tgt := 559) (off := 526) hx hb dL_law_33 (by omega) (by omega) (by rw [hk]; rfl) (by decide) (lw_k10 hL hx hb hml hown hts hK hN hX hbl hD hi6 hS hP1 hP2 hl hR1 hR2 kk)
        · exact lv_tableIn (tgt := 602) (off := 569) hx hb dL_law_33 (by omega) (by omega) (by rw [hk]; rfl) (by decide) (lw_k11 hL hx hb hml hown hts hK hN hX hbl hD hi6 hS hP1 hP2 hl hR1 hR2 kk)
        · exact lv_tableIn (tgt := 656) (off := 623) hx hb dL_law_33 (by omega) (by omega) (by rw [hk]; rfl) (by decide) (lw_k12 hL hx hb hml hown hts hK hN hX hbl hD hi6 hS hP1 hP2 hl hR1 hR2 kk)
        · exact lv_tableIn (tgt := 719) (off := 686) hx hb dL_law_33 (by omega) (by omega) (by rw [hk]; rfl) (by decide) (lw_k13 hL hx hb hml hown hts hK hN hX hbl hD hi6 hS hP1 hP2 hl hR1 hR2 kk)
        · exact lv_tableIn (tgt := 782) (off := 749) hx hb dL_law_33 (by omega) (by omega) (by rw [hk]; rfl) (by decide) (lw_k14 hL hx hb hml hown hts hK hN hX hbl hD hi6 hS hP1 hP2 hl hR1 hR2 kk)
        · exact lv_tableIn (tgt := 825) (off := 792) hx hb dL_law_33 (by omega) (by omega) (by rw [hk]; rfl) (by decide) (lw_k15 hL hx hb hml hown hts hK hN hX hbl hD hi6 hS hP1 hP2 hl hR1 hR2 kk)
        · exact lv_tableIn (tgt := 858) (off := 825) hx hb dL_law_33 (by omega) (by omega) (by rw [hk]; rfl) (by decide) (lw_k16 hL hx hb hml hown hts hK hN hX hbl hD hi6 hS hP1 hP2 hl hR1 hR2 kk)
        · exact lv_tableIn (tgt := 881) (off := 848) hx hb dL_law_33 (by omega) (by omega) (by rw [hk]; rfl) (by decide) (lw_k17 hL hx hb hml hown hts hK hN hX hbl hD hi6 hS hP1 hP2 hl hR1 hR2 kk)
        · exact lv_tableIn (tgt := 904) (off := 871) hx hb dL_law_33 (by omega) (by omega) (by rw [hk]; rfl) (by decide) (lw_k18 hL hx hb hml hown hts hK hN hX hbl hD hi6 hS hP1 hP2 hl hR1 hR2 kk)
        · exact lv_tableIn (tgt := 917) (off := 884) hx hb dL_law_33 (by omega) (by omega) (by rw [hk]; rfl) (by decide) (lw_k19 hL hx hb hml hown hts hK hN hX hbl hD hi6 hS hP1 hP2 hl hR1 hR2 kk)
        · exact lv_tableIn (tgt := 950) (off := 917) hx hb dL_law_33 (by omega) (by omega) (by rw [hk]; rfl) (by decide) (lw_k20 hL hx hb hml hown hts hK hN hX hbl hD hi6 hS hP1 hP2 hl hR1 hR2 kk)
        · exact lv_tableIn (tgt := 1004) (off := 971) hx hb dL_law_33 (by omega) (by omega) (by rw [hk]; rfl) (by decide) (lw_k21 hL hx hb hml hown hts hK hN hX hbl hD hi6 hS hP1 hP2 hl hR1 hR2 kk)
        · exact lv_tableIn (tgt := 1047) (off := 1014) hx hb dL_law_33 (by omega) (by omega) (by rw [hk]; rfl) (by decide) (lw_k22 hL hx hb hml hown hts hK hN hX hbl hD hi6 hS hP1 hP2 hl hR1 hR2 kk)
        · exact lv_tableIn (tgt := 1080) (off := 1047) hx hb dL_law_33 (by omega) (by omega) (by rw [hk]; rfl) (by decide) (lw_k23 hL hx hb hml hown hts hK hN hX hbl hD hi6 hS hP1 hP2 hl hR1 hR2 kk)
        · exact lv_tableIn (tgt := 1113) (off := 1080) hx hb dL_law_33 (by omega) (by omega) (by rw [hk]; rfl) (by decide) (lw_k24 hL hx hb hml hown hts hK hN hX hbl hD hi6 hS hP1 hP2 hl hR1 hR2 kk)
        · exact lv_tableIn (tgt := 1136) (off := 1103) hx hb dL_law_33 (by omega) (by omega) (by rw [hk]; rfl) (by decide) (lw_k25 hL hx hb hml hown hts hK hN hX hbl hD hi6 hS hP1 hP2 hl hR1 hR2 kk)
        · exact lv_tableIn (tgt := 1169) (off := 1136) hx hb dL_law_33 (by omega) (by omega) (by rw [hk]; rfl) (by decide) (lw_k26 hL hx hb hml hown hts hK hN hX hbl hD hi6 hS hP1 hP2 hl hR1 hR2 kk)
        · exact lv_tableIn (tgt := 1212) (off := 1179) hx hb dL_law_33 (by omega) (by omega) (by rw [hk]; rfl) (by decide) (lw_k27 hL hx hb hml hown hts hK hN hX hbl hD hi6 hS hP1 hP2 hl hR1 hR2 kk)
        · exact lv_tableIn (tgt := 1245) (off := 1212) hx hb dL_law_33 (by omega) (by omega) (by rw [hk]; rfl) (by decide) (lw_k28 hL hx hb hml hown hts hK hN hX hbl hD hi6 hS hP1 hP2 hl hR1 hR2 kk)
        · exact lv_tableIn (tgt := 1288) (off := 1255) hx hb dL_law_33 (by omega) (by omega) (by rw [hk]; rfl) (by decide) (lw_k29 hL hx hb hml hown hts hK hN hX hbl hD hi6 hS hP1 hP2 hl hR1 hR2 kk)
        · exact lv_tableIn (tgt := 1321) (off := 1288) hx hb dL_law_33 (by omega) (by omega) (by rw [hk]; rfl) (by decide) (lw_k30 hL hx hb hml hown hts hK hN hX hbl hD hi6 hS hP1 hP2 hl hR1 hR2 kk)
        · exact lv_tableIn (tgt := 1344) (off := 1311) hx hb dL_law_33 (by omega) (by omega) (by rw [hk]; rfl) (by decide) (lw_k31 hL hx hb hml hown hts hK hN hX hbl hD hi6 hS hP1 hP2 hl hR1 hR2 kk)
        · exact lv_tableIn (tgt := 1377) (off := 1344) hx hb dL_law_33 (by omega) (by omega) (by rw [hk]; rfl) (by decide) (lw_k32 hL hx hb hml hown hts hK hN hX hbl hD hi6 hS hP1 hP2 hl hR1 hR2 kk)
        · exact lv_tableIn (tgt := 1420) (off := 1387) hx hb dL_law_33 (by omega) (by omega) (by rw [hk]; rfl) (by decide) (lw_k33 hL hx hb hml hown hts hK hN hX hbl hD hi6 hS hP1 hP2 hl hR1 hR2 kk)
        · exact lv_tableIn (tgt := 1443) (off := 1410) hx hb dL_law_33 (by omega) (by omega) (by rw [hk]; rfl) (by decide) (lw_k34 hL hx hb hml hown hts hK hN hX hbl hD hi6 hS hP1 hP2 hl hR1 hR2 kk)
        · exact lv_tableIn (tgt := 1496) (off := 1463) hx hb dL_law_33 (by omega) (by omega) (by rw [hk]; rfl) (by decide) (lw_k35 hL hx hb hml hown hts hK hN hX hbl hD hi6 hS hP1 hP2 hl hR1 hR2 kk)
        · exact lv_tableIn (tgt := 1539) (off := 1506) hx hb dL_law_33 (by omega) (by omega) (by rw [hk]; rfl) (by decide) (lw_k36 hL hx hb hml hown hts hK hN hX hbl hD hi6 hS hP1 hP2 hl hR1 hR2 kk)
        · exact lv_tableIn (tgt := 1602) (off := 1569) hx hb dL_law_33 (by omega) (by omega) (by rw [hk]; rfl) (by decide) (lw_k37 hL hx hb hml hown hts hK hN hX hbl hD hi6 hS hP1 hP2 hl hR1 hR2 kk)
        · exact lv_tableIn (tgt := 1645) (off := 1612) hx hb dL_law_33 (by omega) (by omega) (by rw [hk]; rfl) (by decide) (lw_k38 hL hx hb hml hown hts hK hN hX hbl hD hi6 hS hP1 hP2 hl hR1 hR2 kk)
        · exact lv_tableIn (tgt := 1668) (off := 1635) hx hb dL_law_33 (by omega) (by omega) (by rw [hk]; rfl) (by decide) (lw_k39 hL hx hb hml hown hts hK hN hX hbl hD hi6 hS hP1 hP2 hl hR1 hR2 kk)

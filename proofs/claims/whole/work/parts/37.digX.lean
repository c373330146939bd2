/-! the digest: the class -/
def w32 (a : Int) : Int := (Int32.ofInt a).toInt
section
variable {x : zX} {L : List LY} {cc : ByteArray} {own : String} {nL : Nat} {ret : Option FieldType} {fr lc : Nat} {Post : Option zV → SS → Prop} {pc : Nat} {loc loc' : List (Option zV)} {st : List zV} {S : SS}
theorem z_i2lw (h : zOK x L cc own nL ret fr lc Post) {a : Int} (hd : decode cc pc = .ok (.i2l, 1)) (k : zG x L (pc + 1) loc (zl (w32 a) :: st) S) : zG x L pc loc (zi a :: st) S := by
  have e : Int32.ofInt (w32 a) = Int32.ofInt a := Int32.ofInt_toInt _
  have hr : r32 (w32 a) := ⟨by have := Int32.le_toInt (Int32.ofInt a); exact this, by have := Int32.toInt_lt (Int32.ofInt a); unfold w32; omega⟩
  have k2 := z_i2l h (a := w32 a) (st := st) (S := S) (loc := loc) hd hr k
  intro H locs ls hP hS hL
  have k3 := k2 H locs ls hP hS hL
  have e2 : (zi (w32 a) :: st).map (cv x.2.2.2.2.2.2.2.2.2.2.2.2.1) = (zi a :: st).map (cv x.2.2.2.2.2.2.2.2.2.2.2.2.1) := by
    show Value.int (Int32.ofInt (w32 a)) :: _ = Value.int (Int32.ofInt a) :: _
    rw [e]
  rw [e2] at k3
  exact k3
end
def mxR (V : Int → Int) : Nat → Int → Int → Int
  | 0, _, h => h
  | r + 1, w, h => mxR V r (w + 1) (31 * h + w32 (V w))
theorem mx_0 {V : Int → Int} {r : Nat} {w h : Int} (e : r = 0) : mxR V r w h = h := by subst e; rfl
theorem mx_s {V : Int → Int} {r r' : Nat} {w h : Int} (e : r = r' + 1) : mxR V r w h = mxR V r' (w + 1) (31 * h + w32 (V w)) := by subst e; rfl
def dgH (A : SS) (a h : Int) : Int := 31 * (31 * (31 * (31 * (31 * (31 * (31 * h + w32 (faultF (tA A a) (nA A a))) + w32 (wholeF (A 5 0) (qA A a) (mA A a))) + w32 (seenF (mA A a) 12 (-1))) + w32 (missV (A 5 0) (qA A a) (mA A a) 0)) + w32 (missV (A 5 0) (qA A a) (mA A a) 1)) + w32 (fewV (A 5 0) (qA A a) (mA A a) 5)) + w32 (ordsV (A 5 0) (qA A a) (mA A a))
def plV (A : SS) (a : Int) : Int → Int := fun i => qA A a (i / 4) (i % 4)
def dgS (A : SS) (a h : Int) : Int := mxR (plV A a) (4 * mA A a).toNat 0 (dgH A a h)
def dgL (A : SS) (l h : Int) : Int := mxR (jodV A l) (dA A l).toNat 0 h
def dgF (A : SS) : Int := mxR (lineF A) 3 0 (31 * dgL A 1 (dgL A 0 (31 * mxR (joiV A) 3 0 (dgS A 1 (dgS A 0 (mxR (sp_count A) 8 0 17))) + w32 (netV A))) + w32 (pairsF 1 2 (-1)))

set_option maxRecDepth 100000 in
set_option maxHeartbeats 4000000 in
theorem m_X10_mixedStrip (z a : Int) (A S : SS) (ha : isS a) (hR : cRel S A) : zM LX yX10_mixedStrip cX10_mixedStrip 8 (some .long) 6 144 [zr 0, zl z, zi a] S (fun r S' => r = some (zl (dgS A a z)) ∧ cRel S' A) := by
  refine zM_of (own := RX10) rfl (by decide +kernel) [some (zr 0), some (zl z), none, some (zi a), none, none, none, none] (Nat.le_of_ble_eq_true rfl) rfl ?_
  intro x h
  have hm := hR.1
  have hb := mA_b hm ha
  have hcv : sp_count A a = mA A a := by unfold sp_count; rcases (show a = 0 ∨ a = 1 by omega) with q | q; (rw [if_pos q, q]); (rw [if_neg (by omega), if_pos q, q])
  refine z_lload_n (pc := 0) h dX10_mixedStrip_0 rfl ?_
  refine z_aload_n (pc := 1) h dX10_mixedStrip_1 rfl ?_
  refine z_iload_n (pc := 2) h dX10_mixedStrip_2 rfl ?_
  refine z_callV (pc := 3) (rest := [zl z]) h (m_X10_fault a A S ⟨by omega, by omega⟩ (by first | assumption | omega)) dX10_mixedStrip_3 mcX10_fault miX10_fault mlX10_331 rfl rfl ⟨by decide, by decide⟩ clX10 rfl rfl rfl (Nat.le_of_ble_eq_true rfl) ?_
  rintro _ _ ⟨rfl, rfl⟩
  show zG x LX 6 [some (zr 0), some (zl z), none, some (zi a), none, none, none, none] [zi (sp_fault A a), zl z] S
  refine z_cv (b := (faultF (tA A a) (nA A a))) (by unfold sp_fault; rw [if_pos (by omega)]) ?_
  refine z_i2lw (pc := 6) h dX10_mixedStrip_6 ?_
  refine z_callS (pc := 7) (rest := ([] : List zV)) h (m_X10_mixed z (w32 (faultF (tA A a) (nA A a))) S ) dX10_mixedStrip_7 mcX10_mixed msX10_mixed mlX10_308 rfl rfl ⟨by decide, by decide⟩ rfl (Nat.le_of_ble_eq_true rfl) ?_
  rintro _ _ ⟨rfl, rfl⟩
  show zG x LX 10 [some (zr 0), some (zl z), none, some (zi a), none, none, none, none] [zl (31 * z + (w32 (faultF (tA A a) (nA A a))))] S
  refine z_lstore (pc := 10) (loc' := [some (zr 0), some (zl z), none, some (zi a), some (zl (31 * z + (w32 (faultF (tA A a) (nA A a))))), none, none, none]) h dX10_mixedStrip_10 (Nat.le_of_ble_eq_true rfl) rfl rfl ?_
  refine z_lload (pc := 12) h dX10_mixedStrip_12 rfl ?_
  refine z_aload_n (pc := 14) h dX10_mixedStrip_14 rfl ?_
  refine z_iload_n (pc := 15) h dX10_mixedStrip_15 rfl ?_
  refine z_callV (pc := 16) (rest := [zl (31 * z + (w32 (faultF (tA A a) (nA A a))))]) h (m_X10_whole a A S ⟨by omega, by omega⟩ (by first | assumption | omega)) dX10_mixedStrip_16 mcX10_whole miX10_whole mlX10_334 rfl rfl ⟨by decide, by decide⟩ clX10 rfl rfl rfl (Nat.le_of_ble_eq_true rfl) ?_
  rintro _ _ ⟨rfl, rfl⟩
  show zG x LX 19 [some (zr 0), some (zl z), none, some (zi a), some (zl (31 * z + (w32 (faultF (tA A a) (nA A a))))), none, none, none] [zi (sp_whole A a), zl (31 * z + (w32 (faultF (tA A a) (nA A a))))] S
  refine z_cv (b := (wholeF (A 5 0) (qA A a) (mA A a))) (by unfold sp_whole; rw [if_pos (by omega)]) ?_
  refine z_i2lw (pc := 19) h dX10_mixedStrip_19 ?_
  refine z_callS (pc := 20) (rest := ([] : List zV)) h (m_X10_mixed (31 * z + (w32 (faultF (tA A a) (nA A a)))) (w32 (wholeF (A 5 0) (qA A a) (mA A a))) S ) dX10_mixedStrip_20 mcX10_mixed msX10_mixed mlX10_308 rfl rfl ⟨by decide, by decide⟩ rfl (Nat.le_of_ble_eq_true rfl) ?_
  rintro _ _ ⟨rfl, rfl⟩
  show zG x LX 23 [some (zr 0), some (zl z), none, some (zi a), some (zl (31 * z + (w32 (faultF (tA A a) (nA A a))))), none, none, none] [zl (31 * (31 * z + (w32 (faultF (tA A a) (nA A a)))) + (w32 (wholeF (A 5 0) (qA A a) (mA A a))))] S
  refine z_lstore (pc := 23) (loc' := [some (zr 0), some (zl z), none, some (zi a), some (zl (31 * (31 * z + (w32 (faultF (tA A a) (nA A a)))) + (w32 (wholeF (A 5 0) (qA A a) (mA A a))))), none, none, none]) h dX10_mixedStrip_23 (Nat.le_of_ble_eq_true rfl) rfl rfl ?_
  refine z_lload (pc := 25) h dX10_mixedStrip_25 rfl ?_
  refine z_aload_n (pc := 27) h dX10_mixedStrip_27 rfl ?_
  refine z_iload_n (pc := 28) h dX10_mixedStrip_28 rfl ?_
  refine z_bipush (pc := 29) h dX10_mixedStrip_29 rfl ?_
  refine z_iconst (pc := 31) h dX10_mixedStrip_31 ?_
  refine z_callV (pc := 32) (rest := [zl (31 * (31 * z + (w32 (faultF (tA A a) (nA A a)))) + (w32 (wholeF (A 5 0) (qA A a) (mA A a))))]) h (m_X10_seen a 12 (-1) A S ⟨by omega, by omega⟩ ⟨by decide, by decide⟩ ⟨by decide, by decide⟩ (by first | assumption | omega)) dX10_mixedStrip_32 mcX10_seen miX10_seen mlX10_337 rfl rfl ⟨by decide, by decide⟩ clX10 rfl rfl rfl (Nat.le_of_ble_eq_true rfl) ?_
  rintro _ _ ⟨rfl, rfl⟩
  show zG x LX 35 [some (zr 0), some (zl z), none, some (zi a), some (zl (31 * (31 * z + (w32 (faultF (tA A a) (nA A a)))) + (w32 (wholeF (A 5 0) (qA A a) (mA A a))))), none, none, none] [zi (sp_seen A a 12 (-1)), zl (31 * (31 * z + (w32 (faultF (tA A a) (nA A a)))) + (w32 (wholeF (A 5 0) (qA A a) (mA A a))))] S
  refine z_cv (b := (seenF (mA A a) 12 (-1))) (by unfold sp_seen; rw [if_pos (by omega)]) ?_
  refine z_i2lw (pc := 35) h dX10_mixedStrip_35 ?_
  refine z_callS (pc := 36) (rest := ([] : List zV)) h (m_X10_mixed (31 * (31 * z + (w32 (faultF (tA A a) (nA A a)))) + (w32 (wholeF (A 5 0) (qA A a) (mA A a)))) (w32 (seenF (mA A a) 12 (-1))) S ) dX10_mixedStrip_36 mcX10_mixed msX10_mixed mlX10_308 rfl rfl ⟨by decide, by decide⟩ rfl (Nat.le_of_ble_eq_true rfl) ?_
  rintro _ _ ⟨rfl, rfl⟩
  show zG x LX 39 [some (zr 0), some (zl z), none, some (zi a), some (zl (31 * (31 * z + (w32 (faultF (tA A a) (nA A a)))) + (w32 (wholeF (A 5 0) (qA A a) (mA A a))))), none, none, none] [zl (31 * (31 * (31 * z + (w32 (faultF (tA A a) (nA A a)))) + (w32 (wholeF (A 5 0) (qA A a) (mA A a)))) + (w32 (seenF (mA A a) 12 (-1))))] S
  refine z_lstore (pc := 39) (loc' := [some (zr 0), some (zl z), none, some (zi a), some (zl (31 * (31 * (31 * z + (w32 (faultF (tA A a) (nA A a)))) + (w32 (wholeF (A 5 0) (qA A a) (mA A a)))) + (w32 (seenF (mA A a) 12 (-1))))), none, none, none]) h dX10_mixedStrip_39 (Nat.le_of_ble_eq_true rfl) rfl rfl ?_
  refine z_lload (pc := 41) h dX10_mixedStrip_41 rfl ?_
  refine z_aload_n (pc := 43) h dX10_mixedStrip_43 rfl ?_
  refine z_iload_n (pc := 44) h dX10_mixedStrip_44 rfl ?_
  refine z_iconst (pc := 45) h dX10_mixedStrip_45 ?_
  refine z_callV (pc := 46) (rest := [zl (31 * (31 * (31 * z + (w32 (faultF (tA A a) (nA A a)))) + (w32 (wholeF (A 5 0) (qA A a) (mA A a)))) + (w32 (seenF (mA A a) 12 (-1))))]) h (m_X10_missing a 0 A S ⟨by omega, by omega⟩ ⟨by decide, by decide⟩ (by first | assumption | omega)) dX10_mixedStrip_46 mcX10_missing miX10_missing mlX10_340 rfl rfl ⟨by decide, by decide⟩ clX10 rfl rfl rfl (Nat.le_of_ble_eq_true rfl) ?_
  rintro _ _ ⟨rfl, rfl⟩
  show zG x LX 49 [some (zr 0), some (zl z), none, some (zi a), some (zl (31 * (31 * (31 * z + (w32 (faultF (tA A a) (nA A a)))) + (w32 (wholeF (A 5 0) (qA A a) (mA A a)))) + (w32 (seenF (mA A a) 12 (-1))))), none, none, none] [zi (sp_missing A a 0), zl (31 * (31 * (31 * z + (w32 (faultF (tA A a) (nA A a)))) + (w32 (wholeF (A 5 0) (qA A a) (mA A a)))) + (w32 (seenF (mA A a) 12 (-1))))] S
  refine z_cv (b := (missV (A 5 0) (qA A a) (mA A a) 0)) (by unfold sp_missing; rw [if_pos (by omega)]) ?_
  refine z_i2lw (pc := 49) h dX10_mixedStrip_49 ?_
  refine z_callS (pc := 50) (rest := ([] : List zV)) h (m_X10_mixed (31 * (31 * (31 * z + (w32 (faultF (tA A a) (nA A a)))) + (w32 (wholeF (A 5 0) (qA A a) (mA A a)))) + (w32 (seenF (mA A a) 12 (-1)))) (w32 (missV (A 5 0) (qA A a) (mA A a) 0)) S ) dX10_mixedStrip_50 mcX10_mixed msX10_mixed mlX10_308 rfl rfl ⟨by decide, by decide⟩ rfl (Nat.le_of_ble_eq_true rfl) ?_
  rintro _ _ ⟨rfl, rfl⟩
  show zG x LX 53 [some (zr 0), some (zl z), none, some (zi a), some (zl (31 * (31 * (31 * z + (w32 (faultF (tA A a) (nA A a)))) + (w32 (wholeF (A 5 0) (qA A a) (mA A a)))) + (w32 (seenF (mA A a) 12 (-1))))), none, none, none] [zl (31 * (31 * (31 * (31 * z + (w32 (faultF (tA A a) (nA A a)))) + (w32 (wholeF (A 5 0) (qA A a) (mA A a)))) + (w32 (seenF (mA A a) 12 (-1)))) + (w32 (missV (A 5 0) (qA A a) (mA A a) 0)))] S
  refine z_lstore (pc := 53) (loc' := [some (zr 0), some (zl z), none, some (zi a), some (zl (31 * (31 * (31 * (31 * z + (w32 (faultF (tA A a) (nA A a)))) + (w32 (wholeF (A 5 0) (qA A a) (mA A a)))) + (w32 (seenF (mA A a) 12 (-1)))) + (w32 (missV (A 5 0) (qA A a) (mA A a) 0)))), none, none, none]) h dX10_mixedStrip_53 (Nat.le_of_ble_eq_true rfl) rfl rfl ?_
  refine z_lload (pc := 55) h dX10_mixedStrip_55 rfl ?_
  refine z_aload_n (pc := 57) h dX10_mixedStrip_57 rfl ?_
  refine z_iload_n (pc := 58) h dX10_mixedStrip_58 rfl ?_
  refine z_iconst (pc := 59) h dX10_mixedStrip_59 ?_
  refine z_callV (pc := 60) (rest := [zl (31 * (31 * (31 * (31 * z + (w32 (faultF (tA A a) (nA A a)))) + (w32 (wholeF (A 5 0) (qA A a) (mA A a)))) + (w32 (seenF (mA A a) 12 (-1)))) + (w32 (missV (A 5 0) (qA A a) (mA A a) 0)))]) h (m_X10_missing a 1 A S ⟨by omega, by omega⟩ ⟨by decide, by decide⟩ (by first | assumption | omega)) dX10_mixedStrip_60 mcX10_missing miX10_missing mlX10_340 rfl rfl ⟨by decide, by decide⟩ clX10 rfl rfl rfl (Nat.le_of_ble_eq_true rfl) ?_
  rintro _ _ ⟨rfl, rfl⟩
  show zG x LX 63 [some (zr 0), some (zl z), none, some (zi a), some (zl (31 * (31 * (31 * (31 * z + (w32 (faultF (tA A a) (nA A a)))) + (w32 (wholeF (A 5 0) (qA A a) (mA A a)))) + (w32 (seenF (mA A a) 12 (-1)))) + (w32 (missV (A 5 0) (qA A a) (mA A a) 0)))), none, none, none] [zi (sp_missing A a 1), zl (31 * (31 * (31 * (31 * z + (w32 (faultF (tA A a) (nA A a)))) + (w32 (wholeF (A 5 0) (qA A a) (mA A a)))) + (w32 (seenF (mA A a) 12 (-1)))) + (w32 (missV (A 5 0) (qA A a) (mA A a) 0)))] S
  refine z_cv (b := (missV (A 5 0) (qA A a) (mA A a) 1)) (by unfold sp_missing; rw [if_pos (by omega)]) ?_
  refine z_i2lw (pc := 63) h dX10_mixedStrip_63 ?_
  refine z_callS (pc := 64) (rest := ([] : List zV)) h (m_X10_mixed (31 * (31 * (31 * (31 * z + (w32 (faultF (tA A a) (nA A a)))) + (w32 (wholeF (A 5 0) (qA A a) (mA A a)))) + (w32 (seenF (mA A a) 12 (-1)))) + (w32 (missV (A 5 0) (qA A a) (mA A a) 0))) (w32 (missV (A 5 0) (qA A a) (mA A a) 1)) S ) dX10_mixedStrip_64 mcX10_mixed msX10_mixed mlX10_308 rfl rfl ⟨by decide, by decide⟩ rfl (Nat.le_of_ble_eq_true rfl) ?_
  rintro _ _ ⟨rfl, rfl⟩
  show zG x LX 67 [some (zr 0), some (zl z), none, some (zi a), some (zl (31 * (31 * (31 * (31 * z + (w32 (faultF (tA A a) (nA A a)))) + (w32 (wholeF (A 5 0) (qA A a) (mA A a)))) + (w32 (seenF (mA A a) 12 (-1)))) + (w32 (missV (A 5 0) (qA A a) (mA A a) 0)))), none, none, none] [zl (31 * (31 * (31 * (31 * (31 * z + (w32 (faultF (tA A a) (nA A a)))) + (w32 (wholeF (A 5 0) (qA A a) (mA A a)))) + (w32 (seenF (mA A a) 12 (-1)))) + (w32 (missV (A 5 0) (qA A a) (mA A a) 0))) + (w32 (missV (A 5 0) (qA A a) (mA A a) 1)))] S
  refine z_lstore (pc := 67) (loc' := [some (zr 0), some (zl z), none, some (zi a), some (zl (31 * (31 * (31 * (31 * (31 * z + (w32 (faultF (tA A a) (nA A a)))) + (w32 (wholeF (A 5 0) (qA A a) (mA A a)))) + (w32 (seenF (mA A a) 12 (-1)))) + (w32 (missV (A 5 0) (qA A a) (mA A a) 0))) + (w32 (missV (A 5 0) (qA A a) (mA A a) 1)))), none, none, none]) h dX10_mixedStrip_67 (Nat.le_of_ble_eq_true rfl) rfl rfl ?_
  refine z_lload (pc := 69) h dX10_mixedStrip_69 rfl ?_
  refine z_aload_n (pc := 71) h dX10_mixedStrip_71 rfl ?_
  refine z_iload_n (pc := 72) h dX10_mixedStrip_72 rfl ?_
  refine z_iconst (pc := 73) h dX10_mixedStrip_73 ?_
  refine z_callV (pc := 74) (rest := [zl (31 * (31 * (31 * (31 * (31 * z + (w32 (faultF (tA A a) (nA A a)))) + (w32 (wholeF (A 5 0) (qA A a) (mA A a)))) + (w32 (seenF (mA A a) 12 (-1)))) + (w32 (missV (A 5 0) (qA A a) (mA A a) 0))) + (w32 (missV (A 5 0) (qA A a) (mA A a) 1)))]) h (m_X10_few a 5 A S ⟨by omega, by omega⟩ ⟨by decide, by decide⟩ (by first | assumption | omega)) dX10_mixedStrip_74 mcX10_few miX10_few mlX10_343 rfl rfl ⟨by decide, by decide⟩ clX10 rfl rfl rfl (Nat.le_of_ble_eq_true rfl) ?_
  rintro _ S74 ⟨rfl, hr74⟩
  show zG x LX 77 [some (zr 0), some (zl z), none, some (zi a), some (zl (31 * (31 * (31 * (31 * (31 * z + (w32 (faultF (tA A a) (nA A a)))) + (w32 (wholeF (A 5 0) (qA A a) (mA A a)))) + (w32 (seenF (mA A a) 12 (-1)))) + (w32 (missV (A 5 0) (qA A a) (mA A a) 0))) + (w32 (missV (A 5 0) (qA A a) (mA A a) 1)))), none, none, none] [zi (sp_few A a 5), zl (31 * (31 * (31 * (31 * (31 * z + (w32 (faultF (tA A a) (nA A a)))) + (w32 (wholeF (A 5 0) (qA A a) (mA A a)))) + (w32 (seenF (mA A a) 12 (-1)))) + (w32 (missV (A 5 0) (qA A a) (mA A a) 0))) + (w32 (missV (A 5 0) (qA A a) (mA A a) 1)))] S74
  refine z_cv (b := (fewV (A 5 0) (qA A a) (mA A a) 5)) (by unfold sp_few; rw [if_pos (by omega)]) ?_
  refine z_i2lw (pc := 77) h dX10_mixedStrip_77 ?_
  refine z_callS (pc := 78) (rest := ([] : List zV)) h (m_X10_mixed (31 * (31 * (31 * (31 * (31 * z + (w32 (faultF (tA A a) (nA A a)))) + (w32 (wholeF (A 5 0) (qA A a) (mA A a)))) + (w32 (seenF (mA A a) 12 (-1)))) + (w32 (missV (A 5 0) (qA A a) (mA A a) 0))) + (w32 (missV (A 5 0) (qA A a) (mA A a) 1))) (w32 (fewV (A 5 0) (qA A a) (mA A a) 5)) S74 ) dX10_mixedStrip_78 mcX10_mixed msX10_mixed mlX10_308 rfl rfl ⟨by decide, by decide⟩ rfl (Nat.le_of_ble_eq_true rfl) ?_
  rintro _ _ ⟨rfl, rfl⟩
  show zG x LX 81 [some (zr 0), some (zl z), none, some (zi a), some (zl (31 * (31 * (31 * (31 * (31 * z + (w32 (faultF (tA A a) (nA A a)))) + (w32 (wholeF (A 5 0) (qA A a) (mA A a)))) + (w32 (seenF (mA A a) 12 (-1)))) + (w32 (missV (A 5 0) (qA A a) (mA A a) 0))) + (w32 (missV (A 5 0) (qA A a) (mA A a) 1)))), none, none, none] [zl (31 * (31 * (31 * (31 * (31 * (31 * z + (w32 (faultF (tA A a) (nA A a)))) + (w32 (wholeF (A 5 0) (qA A a) (mA A a)))) + (w32 (seenF (mA A a) 12 (-1)))) + (w32 (missV (A 5 0) (qA A a) (mA A a) 0))) + (w32 (missV (A 5 0) (qA A a) (mA A a) 1))) + (w32 (fewV (A 5 0) (qA A a) (mA A a) 5)))] S74
  refine z_lstore (pc := 81) (loc' := [some (zr 0), some (zl z), none, some (zi a), some (zl (31 * (31 * (31 * (31 * (31 * (31 * z + (w32 (faultF (tA A a) (nA A a)))) + (w32 (wholeF (A 5 0) (qA A a) (mA A a)))) + (w32 (seenF (mA A a) 12 (-1)))) + (w32 (missV (A 5 0) (qA A a) (mA A a) 0))) + (w32 (missV (A 5 0) (qA A a) (mA A a) 1))) + (w32 (fewV (A 5 0) (qA A a) (mA A a) 5)))), none, none, none]) h dX10_mixedStrip_81 (Nat.le_of_ble_eq_true rfl) rfl rfl ?_
  refine z_lload (pc := 83) h dX10_mixedStrip_83 rfl ?_
  refine z_aload_n (pc := 85) h dX10_mixedStrip_85 rfl ?_
  refine z_iload_n (pc := 86) h dX10_mixedStrip_86 rfl ?_
  refine z_callV (pc := 87) (rest := [zl (31 * (31 * (31 * (31 * (31 * (31 * z + (w32 (faultF (tA A a) (nA A a)))) + (w32 (wholeF (A 5 0) (qA A a) (mA A a)))) + (w32 (seenF (mA A a) 12 (-1)))) + (w32 (missV (A 5 0) (qA A a) (mA A a) 0))) + (w32 (missV (A 5 0) (qA A a) (mA A a) 1))) + (w32 (fewV (A 5 0) (qA A a) (mA A a) 5)))]) h (m_X10_orders a A S74 ⟨by omega, by omega⟩ (by first | assumption | omega)) dX10_mixedStrip_87 mcX10_orders miX10_orders mlX10_346 rfl rfl ⟨by decide, by decide⟩ clX10 rfl rfl rfl (Nat.le_of_ble_eq_true rfl) ?_
  rintro _ S87 ⟨rfl, hr87⟩
  show zG x LX 90 [some (zr 0), some (zl z), none, some (zi a), some (zl (31 * (31 * (31 * (31 * (31 * (31 * z + (w32 (faultF (tA A a) (nA A a)))) + (w32 (wholeF (A 5 0) (qA A a) (mA A a)))) + (w32 (seenF (mA A a) 12 (-1)))) + (w32 (missV (A 5 0) (qA A a) (mA A a) 0))) + (w32 (missV (A 5 0) (qA A a) (mA A a) 1))) + (w32 (fewV (A 5 0) (qA A a) (mA A a) 5)))), none, none, none] [zi (sp_orders A a), zl (31 * (31 * (31 * (31 * (31 * (31 * z + (w32 (faultF (tA A a) (nA A a)))) + (w32 (wholeF (A 5 0) (qA A a) (mA A a)))) + (w32 (seenF (mA A a) 12 (-1)))) + (w32 (missV (A 5 0) (qA A a) (mA A a) 0))) + (w32 (missV (A 5 0) (qA A a) (mA A a) 1))) + (w32 (fewV (A 5 0) (qA A a) (mA A a) 5)))] S87
  refine z_cv (b := (ordsV (A 5 0) (qA A a) (mA A a))) (by unfold sp_orders; rw [if_pos (by omega)]) ?_
  refine z_i2lw (pc := 90) h dX10_mixedStrip_90 ?_
  refine z_callS (pc := 91) (rest := ([] : List zV)) h (m_X10_mixed (31 * (31 * (31 * (31 * (31 * (31 * z + (w32 (faultF (tA A a) (nA A a)))) + (w32 (wholeF (A 5 0) (qA A a) (mA A a)))) + (w32 (seenF (mA A a) 12 (-1)))) + (w32 (missV (A 5 0) (qA A a) (mA A a) 0))) + (w32 (missV (A 5 0) (qA A a) (mA A a) 1))) + (w32 (fewV (A 5 0) (qA A a) (mA A a) 5))) (w32 (ordsV (A 5 0) (qA A a) (mA A a))) S87 ) dX10_mixedStrip_91 mcX10_mixed msX10_mixed mlX10_308 rfl rfl ⟨by decide, by decide⟩ rfl (Nat.le_of_ble_eq_true rfl) ?_
  rintro _ _ ⟨rfl, rfl⟩
  show zG x LX 94 [some (zr 0), some (zl z), none, some (zi a), some (zl (31 * (31 * (31 * (31 * (31 * (31 * z + (w32 (faultF (tA A a) (nA A a)))) + (w32 (wholeF (A 5 0) (qA A a) (mA A a)))) + (w32 (seenF (mA A a) 12 (-1)))) + (w32 (missV (A 5 0) (qA A a) (mA A a) 0))) + (w32 (missV (A 5 0) (qA A a) (mA A a) 1))) + (w32 (fewV (A 5 0) (qA A a) (mA A a) 5)))), none, none, none] [zl (31 * (31 * (31 * (31 * (31 * (31 * (31 * z + (w32 (faultF (tA A a) (nA A a)))) + (w32 (wholeF (A 5 0) (qA A a) (mA A a)))) + (w32 (seenF (mA A a) 12 (-1)))) + (w32 (missV (A 5 0) (qA A a) (mA A a) 0))) + (w32 (missV (A 5 0) (qA A a) (mA A a) 1))) + (w32 (fewV (A 5 0) (qA A a) (mA A a) 5))) + (w32 (ordsV (A 5 0) (qA A a) (mA A a))))] S87
  refine z_lstore (pc := 94) (loc' := [some (zr 0), some (zl z), none, some (zi a), some (zl (31 * (31 * (31 * (31 * (31 * (31 * (31 * z + (w32 (faultF (tA A a) (nA A a)))) + (w32 (wholeF (A 5 0) (qA A a) (mA A a)))) + (w32 (seenF (mA A a) 12 (-1)))) + (w32 (missV (A 5 0) (qA A a) (mA A a) 0))) + (w32 (missV (A 5 0) (qA A a) (mA A a) 1))) + (w32 (fewV (A 5 0) (qA A a) (mA A a) 5))) + (w32 (ordsV (A 5 0) (qA A a) (mA A a))))), none, none, none]) h dX10_mixedStrip_94 (Nat.le_of_ble_eq_true rfl) rfl rfl ?_
  refine z_iconst (pc := 96) h dX10_mixedStrip_96 ?_
  refine z_istore (pc := 97) (loc' := [some (zr 0), some (zl z), none, some (zi a), some (zl (31 * (31 * (31 * (31 * (31 * (31 * (31 * z + (w32 (faultF (tA A a) (nA A a)))) + (w32 (wholeF (A 5 0) (qA A a) (mA A a)))) + (w32 (seenF (mA A a) 12 (-1)))) + (w32 (missV (A 5 0) (qA A a) (mA A a) 0))) + (w32 (missV (A 5 0) (qA A a) (mA A a) 1))) + (w32 (fewV (A 5 0) (qA A a) (mA A a) 5))) + (w32 (ordsV (A 5 0) (qA A a) (mA A a))))), none, some (zi 0), none]) h dX10_mixedStrip_97 (Nat.le_of_ble_eq_true rfl) rfl rfl ?_
  have J99 : ∀ (N : Nat) (y p : Int) (S1 : SS) (hp : 0 ≤ p ∧ p ≤ mA A a) (hR1 : cRel S1 A) (hI : mxR (plV A a) (4 * mA A a - 4 * p).toNat (4 * p) y = dgS A a z) , (mA A a - p).toNat = N → zG x LX 99 [some (zr 0), some (zl z), none, some (zi a), some (zl y), none, some (zi p), none] ([] : List zV) S1 := by
    intro N
    induction N using Nat.strongRecOn with
    | _ N ih99 => ?_
    intro y p S1 hp hR1 hI hN99
    refine z_iload (pc := 99) h dX10_mixedStrip_99 rfl ?_
    refine z_aload_n (pc := 101) h dX10_mixedStrip_101 rfl ?_
    refine z_iload_n (pc := 102) h dX10_mixedStrip_102 rfl ?_
    refine z_callV (pc := 103) (rest := [zi p]) h (m_X10_count a A S1 ⟨by omega, by omega⟩ (by first | assumption | omega)) dX10_mixedStrip_103 mcX10_count miX10_count mlX10_305 rfl rfl ⟨by decide, by decide⟩ clX10 rfl rfl rfl (Nat.le_of_ble_eq_true rfl) ?_
    rintro _ _ ⟨rfl, rfl⟩
    show zG x LX 106 [some (zr 0), some (zl z), none, some (zi a), some (zl y), none, some (zi p), none] [zi (sp_count A a), zi p] S1
    refine z_cv (b := (mA A a)) (by exact hcv) ?_
    refine z_icmp_ge (pc := 106) (tgt := 147) h dX10_mixedStrip_106 (by decide) ⟨by omega, by omega⟩ ⟨by omega, by omega⟩ (fun hc106 => ?_) (fun hc106 => ?_)
    ·
      refine z_lload (pc := 147) h dX10_mixedStrip_147 rfl ?_
      exact z_lret (pc := 149) h dX10_mixedStrip_149 rfl (⟨ap_l (by rw [mx_0 (by omega)] at hI; exact hI), hR1⟩)
    ·
      refine z_iconst (pc := 109) h dX10_mixedStrip_109 ?_
      refine z_istore (pc := 110) (loc' := [some (zr 0), some (zl z), none, some (zi a), some (zl y), none, some (zi p), some (zi 0)]) h dX10_mixedStrip_110 (Nat.le_of_ble_eq_true rfl) rfl rfl ?_
      have J112 : ∀ (N : Nat) (y q : Int) (S2 : SS) (hq : 0 ≤ q ∧ q ≤ 4) (hR2 : cRel S2 A) (hJ : mxR (plV A a) (4 * mA A a - 4 * p - q).toNat (4 * p + q) y = dgS A a z) , (4 - q).toNat = N → zG x LX 112 [some (zr 0), some (zl z), none, some (zi a), some (zl y), none, some (zi p), some (zi q)] ([] : List zV) S2 := by
        intro N
        induction N using Nat.strongRecOn with
        | _ N ih112 => ?_
        intro y q S2 hq hR2 hJ hN112
        refine z_iload (pc := 112) h dX10_mixedStrip_112 rfl ?_
        refine z_iconst (pc := 114) h dX10_mixedStrip_114 ?_
        refine z_icmp_ge (pc := 115) (tgt := 141) h dX10_mixedStrip_115 (by decide) ⟨by omega, by omega⟩ ⟨by decide, by decide⟩ (fun hc115 => ?_) (fun hc115 => ?_)
        ·
          refine z_iinc (pc := 141) (loc' := [some (zr 0), some (zl z), none, some (zi a), some (zl y), none, some (zi (p + 1)), some (zi q)]) h dX10_mixedStrip_141 rfl (Nat.le_of_ble_eq_true rfl) rfl rfl ?_
          refine z_goto (pc := 144) (tgt := 99) h dX10_mixedStrip_144 (by decide) ?_
          refine z_forget [true, true, true, true, true, true, true, false] (loc' := [some (zr 0), some (zl z), none, some (zi a), some (zl y), none, some (zi (p + 1)), none]) rfl ?_
          exact ih99 _ (by omega) y (p + 1) S2 (by omega) (by exact hR2) (by rw [← hJ]; congr 1 <;> omega) rfl
        ·
          refine z_lload (pc := 118) h dX10_mixedStrip_118 rfl ?_
          refine z_aload_n (pc := 120) h dX10_mixedStrip_120 rfl ?_
          refine z_iload_n (pc := 121) h dX10_mixedStrip_121 rfl ?_
          refine z_iload (pc := 122) h dX10_mixedStrip_122 rfl ?_
          refine z_iload (pc := 124) h dX10_mixedStrip_124 rfl ?_
          refine z_callV (pc := 126) (rest := [zl y]) h (m_X10_place a p q A S2 ⟨by omega, by omega⟩ ⟨by omega, by omega⟩ ⟨by omega, by omega⟩ (by first | assumption | omega)) dX10_mixedStrip_126 mcX10_place miX10_place mlX10_349 rfl rfl ⟨by decide, by decide⟩ clX10 rfl rfl rfl (Nat.le_of_ble_eq_true rfl) ?_
          rintro _ _ ⟨rfl, rfl⟩
          show zG x LX 129 [some (zr 0), some (zl z), none, some (zi a), some (zl y), none, some (zi p), some (zi q)] [zi (sp_place A a p q), zl y] S2
          refine z_cv (b := (plV A a (4 * p + q))) (by unfold sp_place plV; rw [if_pos (by omega)]; congr 1 <;> omega) ?_
          refine z_i2lw (pc := 129) h dX10_mixedStrip_129 ?_
          refine z_callS (pc := 130) (rest := ([] : List zV)) h (m_X10_mixed y (w32 (plV A a (4 * p + q))) S2 ) dX10_mixedStrip_130 mcX10_mixed msX10_mixed mlX10_308 rfl rfl ⟨by decide, by decide⟩ rfl (Nat.le_of_ble_eq_true rfl) ?_
          rintro _ _ ⟨rfl, rfl⟩
          show zG x LX 133 [some (zr 0), some (zl z), none, some (zi a), some (zl y), none, some (zi p), some (zi q)] [zl (31 * y + (w32 (plV A a (4 * p + q))))] S2
          refine z_lstore (pc := 133) (loc' := [some (zr 0), some (zl z), none, some (zi a), some (zl (31 * y + (w32 (plV A a (4 * p + q))))), none, some (zi p), some (zi q)]) h dX10_mixedStrip_133 (Nat.le_of_ble_eq_true rfl) rfl rfl ?_
          refine z_iinc (pc := 135) (loc' := [some (zr 0), some (zl z), none, some (zi a), some (zl (31 * y + (w32 (plV A a (4 * p + q))))), none, some (zi p), some (zi (q + 1))]) h dX10_mixedStrip_135 rfl (Nat.le_of_ble_eq_true rfl) rfl rfl ?_
          refine z_goto (pc := 138) (tgt := 112) h dX10_mixedStrip_138 (by decide) ?_
          exact ih112 _ (by omega) (31 * y + (w32 (plV A a (4 * p + q)))) (q + 1) S2 (by omega) (by exact hR2) (by rw [mx_s (r' := (4 * mA A a - 4 * p - (q + 1)).toNat) (by omega)] at hJ; rw [show 4 * p + (q + 1) = 4 * p + q + 1 by omega]; exact hJ) rfl
      exact J112 _ y 0 S1 (by omega) (by exact hR1) (by rw [← hI]; congr 1 <;> omega) rfl
  exact J99 _ (31 * (31 * (31 * (31 * (31 * (31 * (31 * z + (w32 (faultF (tA A a) (nA A a)))) + (w32 (wholeF (A 5 0) (qA A a) (mA A a)))) + (w32 (seenF (mA A a) 12 (-1)))) + (w32 (missV (A 5 0) (qA A a) (mA A a) 0))) + (w32 (missV (A 5 0) (qA A a) (mA A a) 1))) + (w32 (fewV (A 5 0) (qA A a) (mA A a) 5))) + (w32 (ordsV (A 5 0) (qA A a) (mA A a)))) 0 S87 (by omega) (by exact hr87) (by unfold dgS dgH; congr 1; omega) rfl

set_option maxRecDepth 100000 in
set_option maxHeartbeats 4000000 in
theorem m_X10_mixedLook (z a : Int) (A S : SS) (ha : isS a) (hR : cRel S A) : zM LX yX10_mixedLook cX10_mixedLook 7 (some .long) 5 124 [zr 0, zl z, zi a] S (fun r S' => r = some (zl (dgL A a z)) ∧ cRel S' A) := by
  refine zM_of (own := RX10) rfl (by decide +kernel) [some (zr 0), some (zl z), none, some (zi a), none, none, none] (Nat.le_of_ble_eq_true rfl) rfl ?_
  intro x h
  have hm := hR.1
  have hb := dA_b hm ha
  have hcv : sp_count A (4 + a) = dA A a := by unfold sp_count; rcases (show a = 0 ∨ a = 1 by omega) with q | q; (rw [q, if_neg (by omega), if_neg (by omega), if_neg (by omega), if_neg (by omega), if_pos (by omega)]; rfl); (rw [q, if_neg (by omega), if_neg (by omega), if_neg (by omega), if_neg (by omega), if_neg (by omega), if_pos (by omega)]; rfl)
  refine z_lload_n (pc := 0) h dX10_mixedLook_0 rfl ?_
  refine z_lstore (pc := 1) (loc' := [some (zr 0), some (zl z), none, some (zi a), some (zl z), none, none]) h dX10_mixedLook_1 (Nat.le_of_ble_eq_true rfl) rfl rfl ?_
  refine z_iconst (pc := 3) h dX10_mixedLook_3 ?_
  refine z_istore (pc := 4) (loc' := [some (zr 0), some (zl z), none, some (zi a), some (zl z), none, some (zi 0)]) h dX10_mixedLook_4 (Nat.le_of_ble_eq_true rfl) rfl rfl ?_
  have J6 : ∀ (N : Nat) (y p : Int) (S1 : SS) (hp : 0 ≤ p ∧ p ≤ dA A a) (hR1 : cRel S1 A) (hI : mxR (jodV A a) (dA A a - p).toNat p y = dgL A a z) , (dA A a - p).toNat = N → zG x LX 6 [some (zr 0), some (zl z), none, some (zi a), some (zl y), none, some (zi p)] ([] : List zV) S1 := by
    intro N
    induction N using Nat.strongRecOn with
    | _ N ih6 => ?_
    intro y p S1 hp hR1 hI hN6
    refine z_iload (pc := 6) h dX10_mixedLook_6 rfl ?_
    refine z_aload_n (pc := 8) h dX10_mixedLook_8 rfl ?_
    refine z_iconst (pc := 9) h dX10_mixedLook_9 ?_
    refine z_iload_n (pc := 10) h dX10_mixedLook_10 rfl ?_
    refine z_iadd (pc := 11) h dX10_mixedLook_11 ?_
    refine z_callV (pc := 12) (rest := [zi p]) h (m_X10_count (4 + a) A S1 ⟨by omega, by omega⟩ (by first | assumption | omega)) dX10_mixedLook_12 mcX10_count miX10_count mlX10_305 rfl rfl ⟨by decide, by decide⟩ clX10 rfl rfl rfl (Nat.le_of_ble_eq_true rfl) ?_
    rintro _ _ ⟨rfl, rfl⟩
    show zG x LX 15 [some (zr 0), some (zl z), none, some (zi a), some (zl y), none, some (zi p)] [zi (sp_count A (4 + a)), zi p] S1
    refine z_cv (b := (dA A a)) (by exact hcv) ?_
    refine z_icmp_ge (pc := 15) (tgt := 39) h dX10_mixedLook_15 (by decide) ⟨by omega, by omega⟩ ⟨by omega, by omega⟩ (fun hc15 => ?_) (fun hc15 => ?_)
    ·
      refine z_lload (pc := 39) h dX10_mixedLook_39 rfl ?_
      exact z_lret (pc := 41) h dX10_mixedLook_41 rfl (⟨ap_l (by rw [mx_0 (by omega)] at hI; exact hI), hR1⟩)
    ·
      refine z_lload (pc := 18) h dX10_mixedLook_18 rfl ?_
      refine z_aload_n (pc := 20) h dX10_mixedLook_20 rfl ?_
      refine z_iload_n (pc := 21) h dX10_mixedLook_21 rfl ?_
      refine z_iload (pc := 22) h dX10_mixedLook_22 rfl ?_
      refine z_callV (pc := 24) (rest := [zl y]) h (m_X10_joined a p A S1 ⟨by omega, by omega⟩ ⟨by omega, by omega⟩ (by first | assumption | omega)) dX10_mixedLook_24 mcX10_joined miX10_joined mlX10_352 rfl rfl ⟨by decide, by decide⟩ clX10 rfl rfl rfl (Nat.le_of_ble_eq_true rfl) ?_
      rintro _ S24 ⟨rfl, hr24⟩
      show zG x LX 27 [some (zr 0), some (zl z), none, some (zi a), some (zl y), none, some (zi p)] [zi (sp_joined A a p), zl y] S24
      refine z_cv (b := (jodV A a p)) (by unfold sp_joined; rw [if_pos (by omega)]) ?_
      refine z_i2lw (pc := 27) h dX10_mixedLook_27 ?_
      refine z_callS (pc := 28) (rest := ([] : List zV)) h (m_X10_mixed y (w32 (jodV A a p)) S24 ) dX10_mixedLook_28 mcX10_mixed msX10_mixed mlX10_308 rfl rfl ⟨by decide, by decide⟩ rfl (Nat.le_of_ble_eq_true rfl) ?_
      rintro _ _ ⟨rfl, rfl⟩
      show zG x LX 31 [some (zr 0), some (zl z), none, some (zi a), some (zl y), none, some (zi p)] [zl (31 * y + (w32 (jodV A a p)))] S24
      refine z_lstore (pc := 31) (loc' := [some (zr 0), some (zl z), none, some (zi a), some (zl (31 * y + (w32 (jodV A a p)))), none, some (zi p)]) h dX10_mixedLook_31 (Nat.le_of_ble_eq_true rfl) rfl rfl ?_
      refine z_iinc (pc := 33) (loc' := [some (zr 0), some (zl z), none, some (zi a), some (zl (31 * y + (w32 (jodV A a p)))), none, some (zi (p + 1))]) h dX10_mixedLook_33 rfl (Nat.le_of_ble_eq_true rfl) rfl rfl ?_
      refine z_goto (pc := 36) (tgt := 6) h dX10_mixedLook_36 (by decide) ?_
      exact ih6 _ (by omega) (31 * y + (w32 (jodV A a p))) (p + 1) S24 (by omega) (by exact hr24) (by rw [mx_s (r' := (dA A a - (p + 1)).toNat) (by omega)] at hI; exact hI) rfl
  exact J6 _ z 0 S (by omega) (by exact hR) (by unfold dgL; congr 1 <;> omega) rfl

set_option maxRecDepth 100000 in
set_option maxHeartbeats 4000000 in
theorem m_X10_digest (A S : SS) (hR : cRel S A) : zM LX yX10_digest cX10_digest 4 (some .long) 7 171 [zr 0] S (fun r S' => r = some (zl (dgF A)) ∧ cRel S' A) := by
  refine zM_of (own := RX10) rfl (by decide +kernel) [some (zr 0), none, none, none] (Nat.le_of_ble_eq_true rfl) rfl ?_
  intro x h
  refine z_ldc2 (pc := 0) (a := 17) h kcX10_303 dX10_digest_0 (by decide) ?_
  refine z_lstore_n (pc := 3) (loc' := [some (zr 0), some (zl 17), none, none]) h dX10_digest_3 rfl (Nat.le_of_ble_eq_true rfl) rfl rfl ?_
  refine z_iconst (pc := 4) h dX10_digest_4 ?_
  refine z_istore_n (pc := 5) (loc' := [some (zr 0), some (zl 17), none, some (zi 0)]) h dX10_digest_5 rfl (Nat.le_of_ble_eq_true rfl) rfl rfl ?_
  have J6 : ∀ (N : Nat) (y w : Int) (hw : 0 ≤ w ∧ w ≤ 8) (hI : mxR (sp_count A) (8 - w).toNat w y = mxR (sp_count A) 8 0 17) , (8 - w).toNat = N → zG x LX 6 [some (zr 0), some (zl y), none, some (zi w)] ([] : List zV) S := by
    intro N
    induction N using Nat.strongRecOn with
    | _ N ih6 => ?_
    intro y w hw hI hN6
    refine z_iload_n (pc := 6) h dX10_digest_6 rfl ?_
    refine z_bipush (pc := 7) h dX10_digest_7 rfl ?_
    refine z_icmp_gt (pc := 9) (tgt := 29) h dX10_digest_9 (by decide) ⟨by omega, by omega⟩ ⟨by decide, by decide⟩ (fun hc9 => ?_) (fun hc9 => ?_)
    ·
      refine z_aload_n (pc := 29) h dX10_digest_29 rfl ?_
      refine z_lload_n (pc := 30) h dX10_digest_30 rfl ?_
      refine z_iconst (pc := 31) h dX10_digest_31 ?_
      refine z_callV (pc := 32) (rest := ([] : List zV)) h (m_X10_mixedStrip y 0 A S (by first | assumption | omega) (by first | assumption | omega)) dX10_digest_32 mcX10_mixedStrip miX10_mixedStrip mlX10_312 rfl rfl ⟨by decide, by decide⟩ clX10 rfl rfl rfl (Nat.le_of_ble_eq_true rfl) ?_
      rintro _ S32 ⟨rfl, hr32⟩
      show zG x LX 35 [some (zr 0), some (zl y), none, some (zi w)] [zl (dgS A 0 y)] S32
      refine z_lstore_n (pc := 35) (loc' := [some (zr 0), some (zl (dgS A 0 y)), none, some (zi w)]) h dX10_digest_35 rfl (Nat.le_of_ble_eq_true rfl) rfl rfl ?_
      refine z_aload_n (pc := 36) h dX10_digest_36 rfl ?_
      refine z_lload_n (pc := 37) h dX10_digest_37 rfl ?_
      refine z_iconst (pc := 38) h dX10_digest_38 ?_
      refine z_callV (pc := 39) (rest := ([] : List zV)) h (m_X10_mixedStrip (dgS A 0 y) 1 A S32 (by first | assumption | omega) (by first | assumption | omega)) dX10_digest_39 mcX10_mixedStrip miX10_mixedStrip mlX10_312 rfl rfl ⟨by decide, by decide⟩ clX10 rfl rfl rfl (Nat.le_of_ble_eq_true rfl) ?_
      rintro _ S39 ⟨rfl, hr39⟩
      show zG x LX 42 [some (zr 0), some (zl (dgS A 0 y)), none, some (zi w)] [zl (dgS A 1 (dgS A 0 y))] S39
      refine z_lstore_n (pc := 42) (loc' := [some (zr 0), some (zl (dgS A 1 (dgS A 0 y))), none, some (zi w)]) h dX10_digest_42 rfl (Nat.le_of_ble_eq_true rfl) rfl rfl ?_
      refine z_iconst (pc := 43) h dX10_digest_43 ?_
      refine z_istore_n (pc := 44) (loc' := [some (zr 0), some (zl (dgS A 1 (dgS A 0 y))), none, some (zi 0)]) h dX10_digest_44 rfl (Nat.le_of_ble_eq_true rfl) rfl rfl ?_
      have J45 : ∀ (N : Nat) (y w : Int) (S1 : SS) (hw1 : 0 ≤ w ∧ w ≤ 3) (hR1 : cRel S1 A) (hI1 : mxR (joiV A) (3 - w).toNat w y = mxR (joiV A) 3 0 (dgS A 1 (dgS A 0 (mxR (sp_count A) 8 0 17)))) , (3 - w).toNat = N → zG x LX 45 [some (zr 0), some (zl y), none, some (zi w)] ([] : List zV) S1 := by
        intro N
        induction N using Nat.strongRecOn with
        | _ N ih45 => ?_
        intro y w S1 hw1 hR1 hI1 hN45
        refine z_iload_n (pc := 45) h dX10_digest_45 rfl ?_
        refine z_iconst (pc := 46) h dX10_digest_46 ?_
        refine z_icmp_gt (pc := 47) (tgt := 67) h dX10_digest_47 (by decide) ⟨by omega, by omega⟩ ⟨by decide, by decide⟩ (fun hc47 => ?_) (fun hc47 => ?_)
        ·
          refine z_lload_n (pc := 67) h dX10_digest_67 rfl ?_
          refine z_aload_n (pc := 68) h dX10_digest_68 rfl ?_
          refine z_callV (pc := 69) (rest := [zl y]) h (m_X10_net A S1 (by first | assumption | omega)) dX10_digest_69 mcX10_net miX10_net mlX10_319 rfl rfl ⟨by decide, by decide⟩ clX10 rfl rfl rfl (Nat.le_of_ble_eq_true rfl) ?_
          rintro _ S69 ⟨rfl, hr69⟩
          show zG x LX 72 [some (zr 0), some (zl y), none, some (zi w)] [zi (netV A), zl y] S69
          refine z_i2lw (pc := 72) h dX10_digest_72 ?_
          refine z_callS (pc := 73) (rest := ([] : List zV)) h (m_X10_mixed y (w32 (netV A)) S69 ) dX10_digest_73 mcX10_mixed msX10_mixed mlX10_308 rfl rfl ⟨by decide, by decide⟩ rfl (Nat.le_of_ble_eq_true rfl) ?_
          rintro _ _ ⟨rfl, rfl⟩
          show zG x LX 76 [some (zr 0), some (zl y), none, some (zi w)] [zl (31 * y + (w32 (netV A)))] S69
          refine z_lstore_n (pc := 76) (loc' := [some (zr 0), some (zl (31 * y + (w32 (netV A)))), none, some (zi w)]) h dX10_digest_76 rfl (Nat.le_of_ble_eq_true rfl) rfl rfl ?_
          refine z_aload_n (pc := 77) h dX10_digest_77 rfl ?_
          refine z_lload_n (pc := 78) h dX10_digest_78 rfl ?_
          refine z_iconst (pc := 79) h dX10_digest_79 ?_
          refine z_callV (pc := 80) (rest := ([] : List zV)) h (m_X10_mixedLook (31 * y + (w32 (netV A))) 0 A S69 (by first | assumption | omega) (by first | assumption | omega)) dX10_digest_80 mcX10_mixedLook miX10_mixedLook mlX10_322 rfl rfl ⟨by decide, by decide⟩ clX10 rfl rfl rfl (Nat.le_of_ble_eq_true rfl) ?_
          rintro _ S80 ⟨rfl, hr80⟩
          show zG x LX 83 [some (zr 0), some (zl (31 * y + (w32 (netV A)))), none, some (zi w)] [zl (dgL A 0 (31 * y + (w32 (netV A))))] S80
          refine z_lstore_n (pc := 83) (loc' := [some (zr 0), some (zl (dgL A 0 (31 * y + (w32 (netV A))))), none, some (zi w)]) h dX10_digest_83 rfl (Nat.le_of_ble_eq_true rfl) rfl rfl ?_
          refine z_aload_n (pc := 84) h dX10_digest_84 rfl ?_
          refine z_lload_n (pc := 85) h dX10_digest_85 rfl ?_
          refine z_iconst (pc := 86) h dX10_digest_86 ?_
          refine z_callV (pc := 87) (rest := ([] : List zV)) h (m_X10_mixedLook (dgL A 0 (31 * y + (w32 (netV A)))) 1 A S80 (by first | assumption | omega) (by first | assumption | omega)) dX10_digest_87 mcX10_mixedLook miX10_mixedLook mlX10_322 rfl rfl ⟨by decide, by decide⟩ clX10 rfl rfl rfl (Nat.le_of_ble_eq_true rfl) ?_
          rintro _ S87 ⟨rfl, hr87⟩
          show zG x LX 90 [some (zr 0), some (zl (dgL A 0 (31 * y + (w32 (netV A))))), none, some (zi w)] [zl (dgL A 1 (dgL A 0 (31 * y + (w32 (netV A)))))] S87
          refine z_lstore_n (pc := 90) (loc' := [some (zr 0), some (zl (dgL A 1 (dgL A 0 (31 * y + (w32 (netV A)))))), none, some (zi w)]) h dX10_digest_90 rfl (Nat.le_of_ble_eq_true rfl) rfl rfl ?_
          refine z_lload_n (pc := 91) h dX10_digest_91 rfl ?_
          refine z_aload_n (pc := 92) h dX10_digest_92 rfl ?_
          refine z_iconst (pc := 93) h dX10_digest_93 ?_
          refine z_iconst (pc := 94) h dX10_digest_94 ?_
          refine z_iconst (pc := 95) h dX10_digest_95 ?_
          refine z_callV (pc := 96) (rest := [zl (dgL A 1 (dgL A 0 (31 * y + (w32 (netV A)))))]) h (m_X10_numbers 1 2 (-1) S87 ⟨by decide, by decide⟩ ⟨by decide, by decide⟩ ⟨by decide, by decide⟩) dX10_digest_96 mcX10_numbers miX10_numbers mlX10_325 rfl rfl ⟨by decide, by decide⟩ clX10 rfl rfl rfl (Nat.le_of_ble_eq_true rfl) ?_
          rintro _ _ ⟨rfl, rfl⟩
          show zG x LX 99 [some (zr 0), some (zl (dgL A 1 (dgL A 0 (31 * y + (w32 (netV A)))))), none, some (zi w)] [zi (sp_numbers 1 2 (-1)), zl (dgL A 1 (dgL A 0 (31 * y + (w32 (netV A)))))] S87
          refine z_cv (b := (pairsF 1 2 (-1))) (by unfold sp_numbers; rw [if_pos (by omega)]) ?_
          refine z_i2lw (pc := 99) h dX10_digest_99 ?_
          refine z_callS (pc := 100) (rest := ([] : List zV)) h (m_X10_mixed (dgL A 1 (dgL A 0 (31 * y + (w32 (netV A))))) (w32 (pairsF 1 2 (-1))) S87 ) dX10_digest_100 mcX10_mixed msX10_mixed mlX10_308 rfl rfl ⟨by decide, by decide⟩ rfl (Nat.le_of_ble_eq_true rfl) ?_
          rintro _ _ ⟨rfl, rfl⟩
          show zG x LX 103 [some (zr 0), some (zl (dgL A 1 (dgL A 0 (31 * y + (w32 (netV A)))))), none, some (zi w)] [zl (31 * (dgL A 1 (dgL A 0 (31 * y + (w32 (netV A))))) + (w32 (pairsF 1 2 (-1))))] S87
          refine z_lstore_n (pc := 103) (loc' := [some (zr 0), some (zl (31 * (dgL A 1 (dgL A 0 (31 * y + (w32 (netV A))))) + (w32 (pairsF 1 2 (-1))))), none, some (zi w)]) h dX10_digest_103 rfl (Nat.le_of_ble_eq_true rfl) rfl rfl ?_
          refine z_iconst (pc := 104) h dX10_digest_104 ?_
          refine z_istore_n (pc := 105) (loc' := [some (zr 0), some (zl (31 * (dgL A 1 (dgL A 0 (31 * y + (w32 (netV A))))) + (w32 (pairsF 1 2 (-1))))), none, some (zi 0)]) h dX10_digest_105 rfl (Nat.le_of_ble_eq_true rfl) rfl rfl ?_
          have J106 : ∀ (N : Nat) (y w : Int) (S2 : SS) (hw2 : 0 ≤ w ∧ w ≤ 3) (hR2 : cRel S2 A) (hI2 : mxR (lineF A) (3 - w).toNat w y = dgF A) , (3 - w).toNat = N → zG x LX 106 [some (zr 0), some (zl y), none, some (zi w)] ([] : List zV) S2 := by
            intro N
            induction N using Nat.strongRecOn with
            | _ N ih106 => ?_
            intro y w S2 hw2 hR2 hI2 hN106
            refine z_iload_n (pc := 106) h dX10_digest_106 rfl ?_
            refine z_iconst (pc := 107) h dX10_digest_107 ?_
            refine z_icmp_gt (pc := 108) (tgt := 128) h dX10_digest_108 (by decide) ⟨by omega, by omega⟩ ⟨by decide, by decide⟩ (fun hc108 => ?_) (fun hc108 => ?_)
            ·
              refine z_lload_n (pc := 128) h dX10_digest_128 rfl ?_
              exact z_lret (pc := 129) h dX10_digest_129 rfl (⟨ap_l (by rw [mx_0 (by omega)] at hI2; exact hI2), hR2⟩)
            ·
              refine z_lload_n (pc := 111) h dX10_digest_111 rfl ?_
              refine z_aload_n (pc := 112) h dX10_digest_112 rfl ?_
              refine z_iload_n (pc := 113) h dX10_digest_113 rfl ?_
              refine z_callV (pc := 114) (rest := [zl y]) h (m_X10_line w A S2 ⟨by omega, by omega⟩ (by first | assumption | omega)) dX10_digest_114 mcX10_line miX10_line mlX10_328 rfl rfl ⟨by decide, by decide⟩ clX10 rfl rfl rfl (Nat.le_of_ble_eq_true rfl) ?_
              rintro _ S114 ⟨rfl, hr114⟩
              show zG x LX 117 [some (zr 0), some (zl y), none, some (zi w)] [zi (sp_line A w), zl y] S114
              refine z_cv (b := (lineF A w)) (by unfold sp_line; rw [if_pos (by omega)]) ?_
              refine z_i2lw (pc := 117) h dX10_digest_117 ?_
              refine z_callS (pc := 118) (rest := ([] : List zV)) h (m_X10_mixed y (w32 (lineF A w)) S114 ) dX10_digest_118 mcX10_mixed msX10_mixed mlX10_308 rfl rfl ⟨by decide, by decide⟩ rfl (Nat.le_of_ble_eq_true rfl) ?_
              rintro _ _ ⟨rfl, rfl⟩
              show zG x LX 121 [some (zr 0), some (zl y), none, some (zi w)] [zl (31 * y + (w32 (lineF A w)))] S114
              refine z_lstore_n (pc := 121) (loc' := [some (zr 0), some (zl (31 * y + (w32 (lineF A w)))), none, some (zi w)]) h dX10_digest_121 rfl (Nat.le_of_ble_eq_true rfl) rfl rfl ?_
              refine z_iinc (pc := 122) (loc' := [some (zr 0), some (zl (31 * y + (w32 (lineF A w)))), none, some (zi (w + 1))]) h dX10_digest_122 rfl (Nat.le_of_ble_eq_true rfl) rfl rfl ?_
              refine z_goto (pc := 125) (tgt := 106) h dX10_digest_125 (by decide) ?_
              exact ih106 _ (by omega) (31 * y + (w32 (lineF A w))) (w + 1) S114 (by omega) (by exact hr114) (by rw [mx_s (r' := (3 - (w + 1)).toNat) (by omega)] at hI2; exact hI2) rfl
          exact J106 _ (31 * (dgL A 1 (dgL A 0 (31 * y + (w32 (netV A))))) + (w32 (pairsF 1 2 (-1)))) 0 S87 (by omega) (by exact hr87) (by rw [mx_0 (by omega)] at hI1; rw [hI1]; rfl) rfl
        ·
          refine z_lload_n (pc := 50) h dX10_digest_50 rfl ?_
          refine z_aload_n (pc := 51) h dX10_digest_51 rfl ?_
          refine z_iload_n (pc := 52) h dX10_digest_52 rfl ?_
          refine z_callV (pc := 53) (rest := [zl y]) h (m_X10_join w A S1 ⟨by omega, by omega⟩ (by first | assumption | omega)) dX10_digest_53 mcX10_join miX10_join mlX10_316 rfl rfl ⟨by decide, by decide⟩ clX10 rfl rfl rfl (Nat.le_of_ble_eq_true rfl) ?_
          rintro _ S53 ⟨rfl, hr53⟩
          show zG x LX 56 [some (zr 0), some (zl y), none, some (zi w)] [zi (sp_join A w), zl y] S53
          refine z_cv (b := (joiV A w)) (by unfold sp_join; rw [if_pos (by omega)]) ?_
          refine z_i2lw (pc := 56) h dX10_digest_56 ?_
          refine z_callS (pc := 57) (rest := ([] : List zV)) h (m_X10_mixed y (w32 (joiV A w)) S53 ) dX10_digest_57 mcX10_mixed msX10_mixed mlX10_308 rfl rfl ⟨by decide, by decide⟩ rfl (Nat.le_of_ble_eq_true rfl) ?_
          rintro _ _ ⟨rfl, rfl⟩
          show zG x LX 60 [some (zr 0), some (zl y), none, some (zi w)] [zl (31 * y + (w32 (joiV A w)))] S53
          refine z_lstore_n (pc := 60) (loc' := [some (zr 0), some (zl (31 * y + (w32 (joiV A w)))), none, some (zi w)]) h dX10_digest_60 rfl (Nat.le_of_ble_eq_true rfl) rfl rfl ?_
          refine z_iinc (pc := 61) (loc' := [some (zr 0), some (zl (31 * y + (w32 (joiV A w)))), none, some (zi (w + 1))]) h dX10_digest_61 rfl (Nat.le_of_ble_eq_true rfl) rfl rfl ?_
          refine z_goto (pc := 64) (tgt := 45) h dX10_digest_64 (by decide) ?_
          exact ih45 _ (by omega) (31 * y + (w32 (joiV A w))) (w + 1) S53 (by omega) (by exact hr53) (by rw [mx_s (r' := (3 - (w + 1)).toNat) (by omega)] at hI1; exact hI1) rfl
      exact J45 _ (dgS A 1 (dgS A 0 y)) 0 S39 (by omega) (by exact hr39) (by rw [mx_0 (by omega)] at hI; rw [hI]; rfl) rfl
    ·
      refine z_lload_n (pc := 12) h dX10_digest_12 rfl ?_
      refine z_aload_n (pc := 13) h dX10_digest_13 rfl ?_
      refine z_iload_n (pc := 14) h dX10_digest_14 rfl ?_
      refine z_callV (pc := 15) (rest := [zl y]) h (m_X10_count w A S ⟨by omega, by omega⟩ (by first | assumption | omega)) dX10_digest_15 mcX10_count miX10_count mlX10_305 rfl rfl ⟨by decide, by decide⟩ clX10 rfl rfl rfl (Nat.le_of_ble_eq_true rfl) ?_
      rintro _ _ ⟨rfl, rfl⟩
      show zG x LX 18 [some (zr 0), some (zl y), none, some (zi w)] [zi (sp_count A w), zl y] S
      refine z_i2lw (pc := 18) h dX10_digest_18 ?_
      refine z_callS (pc := 19) (rest := ([] : List zV)) h (m_X10_mixed y (w32 (sp_count A w)) S ) dX10_digest_19 mcX10_mixed msX10_mixed mlX10_308 rfl rfl ⟨by decide, by decide⟩ rfl (Nat.le_of_ble_eq_true rfl) ?_
      rintro _ _ ⟨rfl, rfl⟩
      show zG x LX 22 [some (zr 0), some (zl y), none, some (zi w)] [zl (31 * y + (w32 (sp_count A w)))] S
      refine z_lstore_n (pc := 22) (loc' := [some (zr 0), some (zl (31 * y + (w32 (sp_count A w)))), none, some (zi w)]) h dX10_digest_22 rfl (Nat.le_of_ble_eq_true rfl) rfl rfl ?_
      refine z_iinc (pc := 23) (loc' := [some (zr 0), some (zl (31 * y + (w32 (sp_count A w)))), none, some (zi (w + 1))]) h dX10_digest_23 rfl (Nat.le_of_ble_eq_true rfl) rfl rfl ?_
      refine z_goto (pc := 26) (tgt := 6) h dX10_digest_26 (by decide) ?_
      exact ih6 _ (by omega) (31 * y + (w32 (sp_count A w))) (w + 1) (by omega) (by rw [mx_s (r' := (8 - (w + 1)).toNat) (by omega)] at hI; exact hI) rfl
  exact J6 _ 17 0 (by omega) (rfl) rfl

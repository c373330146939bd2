/-! JOINED: weigh -/
set_option maxRecDepth 100000 in
set_option maxHeartbeats 4000000 in
theorem m_X3_weigh (t k d : Int) (xx : TS) (r : Nat) (A : SS) (m f : Nat) (S : SS) (hm : MI A) (hfm : f ≤ m ∧ m ≤ 6) (h8 : S 24 8 = (f : Int)) (h9 : S 24 9 = (m : Int)) (hC : colJ A m f S) (ht : 0 ≤ t ∧ t.toNat < 2 ^ m) (hd : 0 ≤ d ∧ d < m) (hb : t.toNat.testBit d.toNat = false) (hk : k = ((popc t.toNat : Nat) : Int)) (hr : f - popc t.toNat = r + 1) (hx : S 27 t.toNat = xx.2.1 ∧ S 28 t.toNat = xx.1 ∧ S 29 t.toNat = xx.2.2.1 ∧ S 30 t.toNat = xx.2.2.2.1) (hxb : tB 279936 720 210 xx) (hK : setJ A m f S (t.toNat ||| 2 ^ d.toNat)) : zM LX yX3_weigh cX3_weigh 9 none 1 21 [zr 24, zi t, zi k, zi d] S (fun rr S' => rr = none ∧ (∀ x y, ¬ ((27 ≤ x ∧ x ≤ 30) ∧ y = t.toNat) → S' x y = S x y) ∧ S' 27 t.toNat = (tC xx (tS (coA A (popc t.toNat) d.toNat) (wyA A (popc t.toNat) d.toNat) d.toNat (jR A m r (t.toNat ||| 2 ^ d.toNat)))).2.1 ∧ S' 28 t.toNat = (tC xx (tS (coA A (popc t.toNat) d.toNat) (wyA A (popc t.toNat) d.toNat) d.toNat (jR A m r (t.toNat ||| 2 ^ d.toNat)))).1 ∧ S' 29 t.toNat = (tC xx (tS (coA A (popc t.toNat) d.toNat) (wyA A (popc t.toNat) d.toNat) d.toNat (jR A m r (t.toNat ||| 2 ^ d.toNat)))).2.2.1 ∧ S' 30 t.toNat = (tC xx (tS (coA A (popc t.toNat) d.toNat) (wyA A (popc t.toNat) d.toNat) d.toNat (jR A m r (t.toNat ||| 2 ^ d.toNat)))).2.2.2.1) := by
  refine zM_of (own := RX3) rfl (by decide +kernel) [some (zr 24), some (zi t), some (zi k), some (zi d), none, none, none, none, none] (Nat.le_of_ble_eq_true rfl) rfl ?_
  intro x h
  have hp6 := pow6 hfm.2
  obtain ⟨p1, p2, p3⟩ := popc_set hfm.2 ht.2 (show d.toNat < m by omega) hb
  have hpw := pw_b (j := d) (by omega)
  have hK2 := hK
  unfold setJ at hK2
  rw [p1, show f - (popc t.toNat + 1) = r by omega] at hK2
  obtain ⟨q1, q2, q3, q4⟩ := hK2
  obtain ⟨x1, x2, x3, x4⟩ := hx
  have hyb := jR_b hm hfm.2 (show r ≤ 6 by omega) (t.toNat ||| 2 ^ d.toNat)
  obtain ⟨c1, c2⟩ := hC (popc t.toNat) d.toNat (by omega) (by omega)
  have hix : (k * 6 + d).toNat = popc t.toNat * 6 + d.toNat := by omega
  rw [← hix] at c1 c2
  have hpos : 0 < (jR A m r (t.toNat ||| 2 ^ d.toNat)).1 := tR_pos m (jc A) (jw A) z0 l0 r _ 0 (by rw [← popc_m p2 (by omega), p1]; omega)
  have hja := fun (_u : Unit) => joi_add (x := xx) (y := (jR A m r (t.toNat ||| 2 ^ d.toNat))) (c := coA A (popc t.toNat) d.toNat) (w := wyA A (popc t.toNat) d.toNat) (d := d.toNat) hxb.1.1 hpos
  have hcb := coA_b hm (popc t.toNat) d.toNat
  have hwb := wyA_b A (popc t.toNat) d.toNat
  obtain ⟨xb1, xb2, xb3, xb4, xb5, xb6⟩ := hxb
  obtain ⟨yb1, yb2, yb3, yb4, yb5, yb6⟩ := hyb
  generalize (jR A m r (t.toNat ||| 2 ^ d.toNat)) = y at *
  refine z_iload_n (pc := 0) h dX3_weigh_0 rfl ?_
  refine z_iconst (pc := 1) h dX3_weigh_1 ?_
  refine z_iload_n (pc := 2) h dX3_weigh_2 rfl ?_
  refine z_ishl (pc := 3) h dX3_weigh_3 ⟨by omega, by omega⟩ ?_
  refine z_ior (pc := 4) h dX3_weigh_4 ⟨by omega, by omega⟩ ⟨hpw.1, Int.le_trans hpw.2 (by decide)⟩ ?_
  refine z_cv (b := ((t.toNat ||| 2 ^ d.toNat : Nat) : Int)) (by exact or_v ht.1 (by omega)) ?_
  refine z_istore (pc := 5) (loc' := [some (zr 24), some (zi t), some (zi k), some (zi d), some (zi ((t.toNat ||| 2 ^ d.toNat : Nat) : Int)), none, none, none, none]) h dX3_weigh_5 (Nat.le_of_ble_eq_true rfl) rfl rfl ?_
  refine z_iload_n (pc := 7) h dX3_weigh_7 rfl ?_
  refine z_bipush (pc := 8) h dX3_weigh_8 rfl ?_
  refine z_imul (pc := 10) h dX3_weigh_10 ?_
  refine z_iload_n (pc := 11) h dX3_weigh_11 rfl ?_
  refine z_iadd (pc := 12) h dX3_weigh_12 ?_
  refine z_istore (pc := 13) (loc' := [some (zr 24), some (zi t), some (zi k), some (zi d), some (zi ((t.toNat ||| 2 ^ d.toNat : Nat) : Int)), some (zi ((k * 6) + d)), none, none, none]) h dX3_weigh_13 (Nat.le_of_ble_eq_true rfl) rfl rfl ?_
  refine z_aload_n (pc := 15) h dX3_weigh_15 rfl ?_
  refine z_getR (a := 26) (pc := 16) h dX3_weigh_16 clX3 lkX3_15 (by decide) rfl rfl ?_
  refine z_iload (pc := 19) h dX3_weigh_19 rfl ?_
  refine z_iald (pc := 21) h dX3_weigh_21 rfl (by decide) (by omega) (by omega) ?_
  refine z_cv (b := (coA A (popc t.toNat) d.toNat)) (by exact c2) ?_
  refine z_aload_n (pc := 22) h dX3_weigh_22 rfl ?_
  refine z_getR (a := 27) (pc := 23) h dX3_weigh_23 clX3 lkX3_18 (by decide) rfl rfl ?_
  refine z_iload (pc := 26) h dX3_weigh_26 rfl ?_
  refine z_iald (pc := 28) h dX3_weigh_28 rfl (by decide) (by omega) (by omega) ?_
  refine z_cv (b := (y.2.1)) (by rw [Int.toNat_natCast]; exact q1) ?_
  refine z_iadd (pc := 29) h dX3_weigh_29 ?_
  refine z_istore (pc := 30) (loc' := [some (zr 24), some (zi t), some (zi k), some (zi d), some (zi ((t.toNat ||| 2 ^ d.toNat : Nat) : Int)), some (zi ((k * 6) + d)), some (zi ((coA A (popc t.toNat) d.toNat) + (y.2.1))), none, none]) h dX3_weigh_30 (Nat.le_of_ble_eq_true rfl) rfl rfl ?_
  refine z_aload_n (pc := 32) h dX3_weigh_32 rfl ?_
  refine z_getR (a := 25) (pc := 33) h dX3_weigh_33 clX3 lkX3_9 (by decide) rfl rfl ?_
  refine z_iload (pc := 36) h dX3_weigh_36 rfl ?_
  refine z_iald (pc := 38) h dX3_weigh_38 rfl (by decide) (by omega) (by omega) ?_
  refine z_cv (b := (wyA A (popc t.toNat) d.toNat)) (by exact c1) ?_
  refine z_aload_n (pc := 39) h dX3_weigh_39 rfl ?_
  refine z_getR (a := 29) (pc := 40) h dX3_weigh_40 clX3 lkX3_24 (by decide) rfl rfl ?_
  refine z_iload (pc := 43) h dX3_weigh_43 rfl ?_
  refine z_iald (pc := 45) h dX3_weigh_45 rfl (by decide) (by omega) (by omega) ?_
  refine z_cv (b := (y.2.2.1)) (by rw [Int.toNat_natCast]; exact q3) ?_
  refine z_iadd (pc := 46) h dX3_weigh_46 ?_
  refine z_istore (pc := 47) (loc' := [some (zr 24), some (zi t), some (zi k), some (zi d), some (zi ((t.toNat ||| 2 ^ d.toNat : Nat) : Int)), some (zi ((k * 6) + d)), some (zi ((coA A (popc t.toNat) d.toNat) + (y.2.1))), some (zi ((wyA A (popc t.toNat) d.toNat) + (y.2.2.1))), none]) h dX3_weigh_47 (Nat.le_of_ble_eq_true rfl) rfl rfl ?_
  refine z_aload_n (pc := 49) h dX3_weigh_49 rfl ?_
  refine z_getR (a := 25) (pc := 50) h dX3_weigh_50 clX3 lkX3_9 (by decide) rfl rfl ?_
  refine z_iload (pc := 53) h dX3_weigh_53 rfl ?_
  refine z_iald (pc := 55) h dX3_weigh_55 rfl (by decide) (by omega) (by omega) ?_
  refine z_cv (b := (wyA A (popc t.toNat) d.toNat)) (by exact c1) ?_
  refine z_aload_n (pc := 56) h dX3_weigh_56 rfl ?_
  refine z_getR (a := 30) (pc := 57) h dX3_weigh_57 clX3 lkX3_27 (by decide) rfl rfl ?_
  refine z_iload (pc := 60) h dX3_weigh_60 rfl ?_
  refine z_iald (pc := 62) h dX3_weigh_62 rfl (by decide) (by omega) (by omega) ?_
  refine z_cv (b := (y.2.2.2.1)) (by rw [Int.toNat_natCast]; exact q4) ?_
  refine z_iadd (pc := 63) h dX3_weigh_63 ?_
  refine z_istore (pc := 64) (loc' := [some (zr 24), some (zi t), some (zi k), some (zi d), some (zi ((t.toNat ||| 2 ^ d.toNat : Nat) : Int)), some (zi ((k * 6) + d)), some (zi ((coA A (popc t.toNat) d.toNat) + (y.2.1))), some (zi ((wyA A (popc t.toNat) d.toNat) + (y.2.2.1))), some (zi ((wyA A (popc t.toNat) d.toNat) + (y.2.2.2.1)))]) h dX3_weigh_64 (Nat.le_of_ble_eq_true rfl) rfl rfl ?_
  refine z_aload_n (pc := 66) h dX3_weigh_66 rfl ?_
  refine z_getR (a := 28) (pc := 67) h dX3_weigh_67 clX3 lkX3_21 (by decide) rfl rfl ?_
  refine z_iload_n (pc := 70) h dX3_weigh_70 rfl ?_
  refine z_iald (pc := 71) h dX3_weigh_71 rfl (by decide) (by omega) (by omega) ?_
  refine z_cv (b := (xx.1)) (by exact x2) ?_
  refine z_if_eq (pc := 72) (tgt := 86) h dX3_weigh_72 (by decide) ⟨by omega, by omega⟩ (fun hc72 => ?_) (fun hc72 => ?_)
  ·
    refine z_aload_n (pc := 86) h dX3_weigh_86 rfl ?_
    refine z_getR (a := 27) (pc := 87) h dX3_weigh_87 clX3 lkX3_18 (by decide) rfl rfl ?_
    refine z_iload_n (pc := 90) h dX3_weigh_90 rfl ?_
    refine z_iload (pc := 91) h dX3_weigh_91 rfl ?_
    refine z_iast (pc := 93) h dX3_weigh_93 rfl (by decide) (by omega) (by omega) ?_
    refine z_aload_n (pc := 94) h dX3_weigh_94 rfl ?_
    refine z_getR (a := 28) (pc := 95) h dX3_weigh_95 clX3 lkX3_21 (by decide) rfl rfl ?_
    refine z_iload_n (pc := 98) h dX3_weigh_98 rfl ?_
    refine z_aload_n (pc := 99) h dX3_weigh_99 rfl ?_
    refine z_getR (a := 28) (pc := 100) h dX3_weigh_100 clX3 lkX3_21 (by decide) rfl rfl ?_
    refine z_iload (pc := 103) h dX3_weigh_103 rfl ?_
    refine z_iald (pc := 105) h dX3_weigh_105 rfl (by decide) (by omega) (by omega) ?_
    refine z_cv (b := (S 28 (Int.toNat ((t.toNat ||| 2 ^ d.toNat : Nat) : Int)))) (by rw [up2_k _ _ (by decide)]) ?_
    refine z_cv (b := (y.1)) (by rw [Int.toNat_natCast]; exact q2) ?_
    refine z_iast (pc := 106) h dX3_weigh_106 rfl (by decide) (by omega) (by omega) ?_
    refine z_aload_n (pc := 107) h dX3_weigh_107 rfl ?_
    refine z_getR (a := 29) (pc := 108) h dX3_weigh_108 clX3 lkX3_24 (by decide) rfl rfl ?_
    refine z_iload_n (pc := 111) h dX3_weigh_111 rfl ?_
    refine z_iload (pc := 112) h dX3_weigh_112 rfl ?_
    refine z_iast (pc := 114) h dX3_weigh_114 rfl (by decide) (by omega) (by omega) ?_
    refine z_aload_n (pc := 115) h dX3_weigh_115 rfl ?_
    refine z_getR (a := 30) (pc := 116) h dX3_weigh_116 clX3 lkX3_27 (by decide) rfl rfl ?_
    refine z_iload_n (pc := 119) h dX3_weigh_119 rfl ?_
    refine z_iload (pc := 120) h dX3_weigh_120 rfl ?_
    refine z_iast (pc := 122) h dX3_weigh_122 rfl (by decide) (by omega) (by omega) ?_
    refine z_goto (pc := 123) (tgt := 187) h dX3_weigh_123 (by decide) ?_
    refine z_vret (pc := 187) h dX3_weigh_187 rfl ?_
    refine ⟨rfl, ?_, ?_⟩
    · intro a b q
      first
      | (rw [up2_e, if_neg (by omega), up2_e, if_neg (by omega), up2_e, if_neg (by omega), up2_e, if_neg (by omega)])
      | (rw [up2_e, if_neg (by omega), up2_e, if_neg (by omega), up2_e, if_neg (by omega)])
      | rfl
    · first
      | (obtain ⟨u1, u2, u3, u4⟩ := (hja ()).1 (by omega); exact ⟨by rw [up2_k _ _ (by decide), up2_k _ _ (by decide), up2_k _ _ (by decide), up2_s, u1], by rw [up2_k _ _ (by decide), up2_k _ _ (by decide), up2_s, u2], by rw [up2_k _ _ (by decide), up2_s, u3], by rw [up2_s, u4]⟩)
      | (obtain ⟨u1, u2, u3, u4⟩ := (hja ()).2.2 (by omega) (by omega); exact ⟨by rw [up2_k _ _ (by decide), up2_k _ _ (by decide), up2_k _ _ (by decide), u1]; exact x1, by rw [up2_k _ _ (by decide), up2_k _ _ (by decide), up2_s, u2], by rw [up2_k _ _ (by decide), up2_s, u3], by rw [up2_s, u4]⟩)
      | (rw [(hja ()).2.1 (by omega) (by omega)]; exact ⟨x1, x2, x3, x4⟩)
  ·
    refine z_iload (pc := 75) h dX3_weigh_75 rfl ?_
    refine z_aload_n (pc := 77) h dX3_weigh_77 rfl ?_
    refine z_getR (a := 27) (pc := 78) h dX3_weigh_78 clX3 lkX3_18 (by decide) rfl rfl ?_
    refine z_iload_n (pc := 81) h dX3_weigh_81 rfl ?_
    refine z_iald (pc := 82) h dX3_weigh_82 rfl (by decide) (by omega) (by omega) ?_
    refine z_cv (b := (xx.2.1)) (by exact x1) ?_
    refine z_icmp_ge (pc := 83) (tgt := 126) h dX3_weigh_83 (by decide) ⟨by omega, by omega⟩ ⟨by omega, by omega⟩ (fun hc83 => ?_) (fun hc83 => ?_)
    ·
      refine z_iload (pc := 126) h dX3_weigh_126 rfl ?_
      refine z_aload_n (pc := 128) h dX3_weigh_128 rfl ?_
      refine z_getR (a := 27) (pc := 129) h dX3_weigh_129 clX3 lkX3_18 (by decide) rfl rfl ?_
      refine z_iload_n (pc := 132) h dX3_weigh_132 rfl ?_
      refine z_iald (pc := 133) h dX3_weigh_133 rfl (by decide) (by omega) (by omega) ?_
      refine z_cv (b := (xx.2.1)) (by exact x1) ?_
      refine z_icmp_ne (pc := 134) (tgt := 187) h dX3_weigh_134 (by decide) ⟨by omega, by omega⟩ ⟨by omega, by omega⟩ (fun hc134 => ?_) (fun hc134 => ?_)
      ·
        refine z_vret (pc := 187) h dX3_weigh_187 rfl ?_
        refine ⟨rfl, ?_, ?_⟩
        · intro a b q
          first
          | (rw [up2_e, if_neg (by omega), up2_e, if_neg (by omega), up2_e, if_neg (by omega), up2_e, if_neg (by omega)])
          | (rw [up2_e, if_neg (by omega), up2_e, if_neg (by omega), up2_e, if_neg (by omega)])
          | rfl
        · first
          | (obtain ⟨u1, u2, u3, u4⟩ := (hja ()).1 (by omega); exact ⟨by rw [up2_k _ _ (by decide), up2_k _ _ (by decide), up2_k _ _ (by decide), up2_s, u1], by rw [up2_k _ _ (by decide), up2_k _ _ (by decide), up2_s, u2], by rw [up2_k _ _ (by decide), up2_s, u3], by rw [up2_s, u4]⟩)
          | (obtain ⟨u1, u2, u3, u4⟩ := (hja ()).2.2 (by omega) (by omega); exact ⟨by rw [up2_k _ _ (by decide), up2_k _ _ (by decide), up2_k _ _ (by decide), u1]; exact x1, by rw [up2_k _ _ (by decide), up2_k _ _ (by decide), up2_s, u2], by rw [up2_k _ _ (by decide), up2_s, u3], by rw [up2_s, u4]⟩)
          | (rw [(hja ()).2.1 (by omega) (by omega)]; exact ⟨x1, x2, x3, x4⟩)
      ·
        refine z_aload_n (pc := 137) h dX3_weigh_137 rfl ?_
        refine z_getR (a := 28) (pc := 138) h dX3_weigh_138 clX3 lkX3_21 (by decide) rfl rfl ?_
        refine z_iload_n (pc := 141) h dX3_weigh_141 rfl ?_
        refine z_dup2 (pc := 142) h dX3_weigh_142 rfl rfl ?_
        refine z_iald (pc := 143) h dX3_weigh_143 rfl (by decide) (by omega) (by omega) ?_
        refine z_cv (b := (xx.1)) (by exact x2) ?_
        refine z_aload_n (pc := 144) h dX3_weigh_144 rfl ?_
        refine z_getR (a := 28) (pc := 145) h dX3_weigh_145 clX3 lkX3_21 (by decide) rfl rfl ?_
        refine z_iload (pc := 148) h dX3_weigh_148 rfl ?_
        refine z_iald (pc := 150) h dX3_weigh_150 rfl (by decide) (by omega) (by omega) ?_
        refine z_cv (b := (y.1)) (by rw [Int.toNat_natCast]; exact q2) ?_
        refine z_iadd (pc := 151) h dX3_weigh_151 ?_
        refine z_iast (pc := 152) h dX3_weigh_152 rfl (by decide) (by omega) (by omega) ?_
        refine z_aload_n (pc := 153) h dX3_weigh_153 rfl ?_
        refine z_getR (a := 29) (pc := 154) h dX3_weigh_154 clX3 lkX3_24 (by decide) rfl rfl ?_
        refine z_iload_n (pc := 157) h dX3_weigh_157 rfl ?_
        refine z_aload_n (pc := 158) h dX3_weigh_158 rfl ?_
        refine z_getR (a := 29) (pc := 159) h dX3_weigh_159 clX3 lkX3_24 (by decide) rfl rfl ?_
        refine z_iload_n (pc := 162) h dX3_weigh_162 rfl ?_
        refine z_iald (pc := 163) h dX3_weigh_163 rfl (by decide) (by omega) (by omega) ?_
        refine z_cv (b := (S 29 t.toNat)) (by rw [up2_k _ _ (by decide)]) ?_
        refine z_cv (b := (xx.2.2.1)) (by exact x3) ?_
        refine z_iload (pc := 164) h dX3_weigh_164 rfl ?_
        refine z_callS (pc := 166) (rest := [zi t, zr 29]) h (m_J9_min_7cf53 (xx.2.2.1) ((wyA A (popc t.toNat) d.toNat) + (y.2.2.1)) (up2 S 28 t.toNat ((xx.1) + (y.1))) ⟨by omega, by omega⟩ ⟨by omega, by omega⟩) dX3_weigh_166 mcJ9_min_7cf53 msJ9_min_7cf53 mlX3_43 rfl rfl ⟨by decide, by decide⟩ rfl (Nat.le_of_ble_eq_true rfl) ?_
        rintro _ _ ⟨rfl, rfl⟩
        show zG x LX 169 [some (zr 24), some (zi t), some (zi k), some (zi d), some (zi ((t.toNat ||| 2 ^ d.toNat : Nat) : Int)), some (zi ((k * 6) + d)), some (zi ((coA A (popc t.toNat) d.toNat) + (y.2.1))), some (zi ((wyA A (popc t.toNat) d.toNat) + (y.2.2.1))), some (zi ((wyA A (popc t.toNat) d.toNat) + (y.2.2.2.1)))] [zi (min (xx.2.2.1) ((wyA A (popc t.toNat) d.toNat) + (y.2.2.1))), zi t, zr 29] (up2 S 28 t.toNat ((xx.1) + (y.1)))
        refine z_iast (pc := 169) h dX3_weigh_169 rfl (by decide) (by omega) (by omega) ?_
        refine z_aload_n (pc := 170) h dX3_weigh_170 rfl ?_
        refine z_getR (a := 30) (pc := 171) h dX3_weigh_171 clX3 lkX3_27 (by decide) rfl rfl ?_
        refine z_iload_n (pc := 174) h dX3_weigh_174 rfl ?_
        refine z_aload_n (pc := 175) h dX3_weigh_175 rfl ?_
        refine z_getR (a := 30) (pc := 176) h dX3_weigh_176 clX3 lkX3_27 (by decide) rfl rfl ?_
        refine z_iload_n (pc := 179) h dX3_weigh_179 rfl ?_
        refine z_iald (pc := 180) h dX3_weigh_180 rfl (by decide) (by omega) (by omega) ?_
        refine z_cv (b := (S 30 t.toNat)) (by rw [up2_k _ _ (by decide), up2_k _ _ (by decide)]) ?_
        refine z_cv (b := (xx.2.2.2.1)) (by exact x4) ?_
        refine z_iload (pc := 181) h dX3_weigh_181 rfl ?_
        refine z_callS (pc := 183) (rest := [zi t, zr 30]) h (m_J9_max_7cf53 (xx.2.2.2.1) ((wyA A (popc t.toNat) d.toNat) + (y.2.2.2.1)) (up2 (up2 S 28 t.toNat ((xx.1) + (y.1))) 29 t.toNat (min (xx.2.2.1) ((wyA A (popc t.toNat) d.toNat) + (y.2.2.1)))) ⟨by omega, by omega⟩ ⟨by omega, by omega⟩) dX3_weigh_183 mcJ9_max_7cf53 msJ9_max_7cf53 mlX3_52 rfl rfl ⟨by decide, by decide⟩ rfl (Nat.le_of_ble_eq_true rfl) ?_
        rintro _ _ ⟨rfl, rfl⟩
        show zG x LX 186 [some (zr 24), some (zi t), some (zi k), some (zi d), some (zi ((t.toNat ||| 2 ^ d.toNat : Nat) : Int)), some (zi ((k * 6) + d)), some (zi ((coA A (popc t.toNat) d.toNat) + (y.2.1))), some (zi ((wyA A (popc t.toNat) d.toNat) + (y.2.2.1))), some (zi ((wyA A (popc t.toNat) d.toNat) + (y.2.2.2.1)))] [zi (max (xx.2.2.2.1) ((wyA A (popc t.toNat) d.toNat) + (y.2.2.2.1))), zi t, zr 30] (up2 (up2 S 28 t.toNat ((xx.1) + (y.1))) 29 t.toNat (min (xx.2.2.1) ((wyA A (popc t.toNat) d.toNat) + (y.2.2.1))))
        refine z_iast (pc := 186) h dX3_weigh_186 rfl (by decide) (by omega) (by omega) ?_
        refine z_vret (pc := 187) h dX3_weigh_187 rfl ?_
        refine ⟨rfl, ?_, ?_⟩
        · intro a b q
          first
          | (rw [up2_e, if_neg (by omega), up2_e, if_neg (by omega), up2_e, if_neg (by omega), up2_e, if_neg (by omega)])
          | (rw [up2_e, if_neg (by omega), up2_e, if_neg (by omega), up2_e, if_neg (by omega)])
          | rfl
        · first
          | (obtain ⟨u1, u2, u3, u4⟩ := (hja ()).1 (by omega); exact ⟨by rw [up2_k _ _ (by decide), up2_k _ _ (by decide), up2_k _ _ (by decide), up2_s, u1], by rw [up2_k _ _ (by decide), up2_k _ _ (by decide), up2_s, u2], by rw [up2_k _ _ (by decide), up2_s, u3], by rw [up2_s, u4]⟩)
          | (obtain ⟨u1, u2, u3, u4⟩ := (hja ()).2.2 (by omega) (by omega); exact ⟨by rw [up2_k _ _ (by decide), up2_k _ _ (by decide), up2_k _ _ (by decide), u1]; exact x1, by rw [up2_k _ _ (by decide), up2_k _ _ (by decide), up2_s, u2], by rw [up2_k _ _ (by decide), up2_s, u3], by rw [up2_s, u4]⟩)
          | (rw [(hja ()).2.1 (by omega) (by omega)]; exact ⟨x1, x2, x3, x4⟩)
    ·
      refine z_aload_n (pc := 86) h dX3_weigh_86 rfl ?_
      refine z_getR (a := 27) (pc := 87) h dX3_weigh_87 clX3 lkX3_18 (by decide) rfl rfl ?_
      refine z_iload_n (pc := 90) h dX3_weigh_90 rfl ?_
      refine z_iload (pc := 91) h dX3_weigh_91 rfl ?_
      refine z_iast (pc := 93) h dX3_weigh_93 rfl (by decide) (by omega) (by omega) ?_
      refine z_aload_n (pc := 94) h dX3_weigh_94 rfl ?_
      refine z_getR (a := 28) (pc := 95) h dX3_weigh_95 clX3 lkX3_21 (by decide) rfl rfl ?_
      refine z_iload_n (pc := 98) h dX3_weigh_98 rfl ?_
      refine z_aload_n (pc := 99) h dX3_weigh_99 rfl ?_
      refine z_getR (a := 28) (pc := 100) h dX3_weigh_100 clX3 lkX3_21 (by decide) rfl rfl ?_
      refine z_iload (pc := 103) h dX3_weigh_103 rfl ?_
      refine z_iald (pc := 105) h dX3_weigh_105 rfl (by decide) (by omega) (by omega) ?_
      refine z_cv (b := (S 28 (Int.toNat ((t.toNat ||| 2 ^ d.toNat : Nat) : Int)))) (by rw [up2_k _ _ (by decide)]) ?_
      refine z_cv (b := (y.1)) (by rw [Int.toNat_natCast]; exact q2) ?_
      refine z_iast (pc := 106) h dX3_weigh_106 rfl (by decide) (by omega) (by omega) ?_
      refine z_aload_n (pc := 107) h dX3_weigh_107 rfl ?_
      refine z_getR (a := 29) (pc := 108) h dX3_weigh_108 clX3 lkX3_24 (by decide) rfl rfl ?_
      refine z_iload_n (pc := 111) h dX3_weigh_111 rfl ?_
      refine z_iload (pc := 112) h dX3_weigh_112 rfl ?_
      refine z_iast (pc := 114) h dX3_weigh_114 rfl (by decide) (by omega) (by omega) ?_
      refine z_aload_n (pc := 115) h dX3_weigh_115 rfl ?_
      refine z_getR (a := 30) (pc := 116) h dX3_weigh_116 clX3 lkX3_27 (by decide) rfl rfl ?_
      refine z_iload_n (pc := 119) h dX3_weigh_119 rfl ?_
      refine z_iload (pc := 120) h dX3_weigh_120 rfl ?_
      refine z_iast (pc := 122) h dX3_weigh_122 rfl (by decide) (by omega) (by omega) ?_
      refine z_goto (pc := 123) (tgt := 187) h dX3_weigh_123 (by decide) ?_
      refine z_vret (pc := 187) h dX3_weigh_187 rfl ?_
      refine ⟨rfl, ?_, ?_⟩
      · intro a b q
        first
        | (rw [up2_e, if_neg (by omega), up2_e, if_neg (by omega), up2_e, if_neg (by omega), up2_e, if_neg (by omega)])
        | (rw [up2_e, if_neg (by omega), up2_e, if_neg (by omega), up2_e, if_neg (by omega)])
        | rfl
      · first
        | (obtain ⟨u1, u2, u3, u4⟩ := (hja ()).1 (by omega); exact ⟨by rw [up2_k _ _ (by decide), up2_k _ _ (by decide), up2_k _ _ (by decide), up2_s, u1], by rw [up2_k _ _ (by decide), up2_k _ _ (by decide), up2_s, u2], by rw [up2_k _ _ (by decide), up2_s, u3], by rw [up2_s, u4]⟩)
        | (obtain ⟨u1, u2, u3, u4⟩ := (hja ()).2.2 (by omega) (by omega); exact ⟨by rw [up2_k _ _ (by decide), up2_k _ _ (by decide), up2_k _ _ (by decide), u1]; exact x1, by rw [up2_k _ _ (by decide), up2_k _ _ (by decide), up2_s, u2], by rw [up2_k _ _ (by decide), up2_s, u3], by rw [up2_s, u4]⟩)
        | (rw [(hja ()).2.1 (by omega) (by omega)]; exact ⟨x1, x2, x3, x4⟩)

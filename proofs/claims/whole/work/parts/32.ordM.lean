/-! ORDER: the reference -/
theorem nxI_s (f : Nat → Nat) {i : Int} (hi : 0 < i) : nxI f i.toNat = if f (i + 1).toNat < f i.toNat then nxI f (i - 1).toNat else i.toNat := by
  obtain ⟨z, hz⟩ : ∃ z : Nat, i = (z : Int) + 1 := ⟨(i - 1).toNat, by omega⟩
  rw [show i.toNat = z + 1 by omega, show (i + 1).toNat = z + 2 by omega, show (i - 1).toNat = z by omega]
  show (bif Nat.blt (f (z + 2)) (f (z + 1)) then nxI f z else z + 1) = _
  by_cases h : f (z + 2) < f (z + 1)
  · rw [if_pos h, show Nat.blt (f (z + 2)) (f (z + 1)) = true from Nat.ble_eq_true_of_le h]; rfl
  · rw [if_neg h, show Nat.blt (f (z + 2)) (f (z + 1)) = false from Bool.eq_false_iff.mpr (fun q => h (Nat.le_of_ble_eq_true q))]; rfl
theorem nxJ_s (f : Nat → Nat) (v : Nat) {i : Int} (hi : 0 < i) : nxJ f v i.toNat = if f i.toNat < v then nxJ f v (i - 1).toNat else i.toNat := by
  obtain ⟨z, hz⟩ : ∃ z : Nat, i = (z : Int) + 1 := ⟨(i - 1).toNat, by omega⟩
  rw [show i.toNat = z + 1 by omega, show (i - 1).toNat = z by omega]
  show (bif Nat.blt (f (z + 1)) v then nxJ f v z else z + 1) = _
  by_cases h : f (z + 1) < v
  · rw [if_pos h, show Nat.blt (f (z + 1)) v = true from Nat.ble_eq_true_of_le h]; rfl
  · rw [if_neg h, show Nat.blt (f (z + 1)) v = false from Bool.eq_false_iff.mpr (fun q => h (Nat.le_of_ble_eq_true q))]; rfl
def zF (f : Nat → Nat) (i j : Int) (k : Nat) : Nat := if k = j.toNat then f i.toNat else f k
theorem nxF_e (f : Nat → Nat) {n i j : Int} {k : Nat} (hi : 0 ≤ i) (hj : 0 ≤ j) (hk : (k : Int) < n) : nxF n.toNat f i.toNat j.toNat k = if (k : Int) ≤ i then (if (k : Int) = i then f j.toNat else f k) else zF f i j (n + i - k).toNat := by
  unfold nxF zF
  by_cases h1 : (k : Int) ≤ i
  · rw [if_pos h1, show Nat.ble k i.toNat = true from Nat.ble_eq_true_of_le (by omega)]
    by_cases h2 : (k : Int) = i
    · rw [if_pos h2, show Nat.beq k i.toNat = true from (by rw [show k = i.toNat by omega]; exact Nat.beq_refl _)]; rfl
    · rw [if_neg h2, show Nat.beq k i.toNat = false from Bool.eq_false_iff.mpr (fun q => h2 (by have := Nat.eq_of_beq_eq_true q; omega))]; rfl
  · rw [if_neg h1, show Nat.ble k i.toNat = false from Bool.eq_false_iff.mpr (fun q => h1 (by have := Nat.le_of_ble_eq_true q; omega)), show n.toNat + i.toNat - k = (n + i - k).toNat by omega]
    by_cases h2 : (n + i - k).toNat = j.toNat
    · rw [if_pos h2, h2, show Nat.beq j.toNat j.toNat = true from Nat.beq_refl _]; rfl
    · rw [if_neg h2, show Nat.beq (n + i - k).toNat j.toNat = false from Bool.eq_false_iff.mpr (fun q => h2 (Nat.eq_of_beq_eq_true q))]; rfl
def RV (S1 : SS) (n i j lo hi : Int) (f : Nat → Nat) : Prop := ∀ k : Nat, (k : Int) < n → S1 9 k = ((if (k : Int) ≤ i then (if (k : Int) = i then f j.toNat else f k) else if (k : Int) < lo ∨ hi < (k : Int) then zF f i j (n + i - k).toNat else zF f i j k : Nat) : Int)
theorem RV_0 {S : SS} {n i j : Int} {f : Nat → Nat} (hf : ∀ k : Nat, (k : Int) < n → S 9 k = ((f k : Nat) : Int)) (hi : 0 < i) (hj : i < j ∧ j < n) : RV (up2 (up2 S 9 i.toNat (S 9 j.toNat)) 9 j.toNat (S 9 i.toNat)) n i j (i + 1) (n - 1) f := by
  intro k hk
  rw [up2_e, up2_e, hf _ (show ((i.toNat : Nat) : Int) < n by omega), hf _ (show ((j.toNat : Nat) : Int) < n by omega)]
  by_cases k1 : k = j.toNat
  · rw [if_pos ⟨rfl, k1⟩, if_neg (by omega), if_neg (by omega)]
    unfold zF
    rw [if_pos k1]
  · rw [if_neg (fun q => k1 q.2)]
    by_cases k2 : k = i.toNat
    · rw [if_pos ⟨rfl, k2⟩, if_pos (by omega), if_pos (by omega)]
    · rw [if_neg (fun q => k2 q.2), hf k hk]
      by_cases k3 : (k : Int) ≤ i
      · rw [if_pos k3, if_neg (by omega)]
      · rw [if_neg k3, if_neg (by omega)]
        unfold zF
        rw [if_neg k1]
theorem RV_s {S1 : SS} {n i j lo hi : Int} {f : Nat → Nat} (hC : RV S1 n i j lo hi f) (h0 : 0 < i) (h1 : lo + hi = n + i) (h2 : i + 1 ≤ lo) (h3 : hi ≤ n - 1) (h4 : lo < hi) : RV (up2 (up2 S1 9 lo.toNat (S1 9 hi.toNat)) 9 hi.toNat (S1 9 lo.toNat)) n i j (lo + 1) (hi - 1) f := by
  intro k hk
  have hl := hC lo.toNat (by omega)
  have hh := hC hi.toNat (by omega)
  rw [if_neg (by omega), if_neg (by omega)] at hl hh
  rw [up2_e, up2_e, hl, hh]
  by_cases k1 : k = hi.toNat
  · rw [if_pos ⟨rfl, k1⟩, if_neg (by omega), if_pos (by omega), show (n + i - k).toNat = lo.toNat by omega]
  · rw [if_neg (fun q => k1 q.2)]
    by_cases k2 : k = lo.toNat
    · rw [if_pos ⟨rfl, k2⟩, if_neg (by omega), if_pos (by omega), show (n + i - k).toNat = hi.toNat by omega]
    · rw [if_neg (fun q => k2 q.2), hC k hk]
      by_cases k3 : (k : Int) ≤ i
      · rw [if_pos k3, if_pos k3]
      · rw [if_neg k3, if_neg k3]
        by_cases k4 : (k : Int) < lo ∨ hi < (k : Int)
        · rw [if_pos k4, if_pos (by omega)]
        · rw [if_neg k4, if_neg (by omega)]
theorem RV_e {S1 : SS} {n i j lo hi : Int} {f : Nat → Nat} (hC : RV S1 n i j lo hi f) (hi0 : 0 < i) (hj : 0 ≤ j) (h1 : lo + hi = n + i) (h4 : hi ≤ lo) (k : Nat) (hk : (k : Int) < n) : S1 9 k = ((nxF n.toNat f i.toNat j.toNat k : Nat) : Int) := by
  rw [hC k hk, nxF_e f (by omega) hj hk]
  by_cases k3 : (k : Int) ≤ i
  · rw [if_pos k3, if_pos k3]
  · rw [if_neg k3, if_neg k3]
    by_cases k4 : (k : Int) < lo ∨ hi < (k : Int)
    · rw [if_pos k4]
    · rw [if_neg k4, show (n + i - k).toNat = k by omega]

set_option maxRecDepth 100000 in
set_option maxHeartbeats 4000000 in
theorem m_X11_turns (n : Int) (f : Nat → Nat) (S : SS) (hn : 1 ≤ n ∧ n ≤ 8) (hf : ∀ k : Nat, (k : Int) < n → S 9 k = ((f k : Nat) : Int)) (hb : ∀ k, f k < 8) : zM LM yX11_turns cX11_turns 7 (some .boolean) 0 0 [zr 0, zi n] S (fun r S' => (nxI f (n.toNat - 2) = 0 ∧ r = some (zi 0) ∧ S = S') ∨ (0 < nxI f (n.toNat - 2) ∧ r = some (zi 1) ∧ (∀ x y, x ≠ 9 → S' x y = S x y) ∧ ∀ k : Nat, (k : Int) < n → S' 9 k = ((nxF n.toNat f (nxI f (n.toNat - 2)) (nxJ f (f (nxI f (n.toNat - 2))) (n.toNat - 1)) k : Nat) : Int))) := by
  refine zM_of (own := RX11) rfl (by decide +kernel) [some (zr 0), some (zi n), none, none, none, none, none] (Nat.le_of_ble_eq_true rfl) rfl ?_
  intro x h
  refine z_iload_n (pc := 0) h dX11_turns_0 rfl ?_
  refine z_iconst (pc := 1) h dX11_turns_1 ?_
  refine z_isub (pc := 2) h dX11_turns_2 ?_
  refine z_istore_n (pc := 3) (loc' := [some (zr 0), some (zi n), some (zi (n - 2)), none, none, none, none]) h dX11_turns_3 rfl (Nat.le_of_ble_eq_true rfl) rfl rfl ?_
  have J4 : ∀ (N : Nat) (i : Int) (hi : -1 ≤ i ∧ i ≤ n - 2) (hI : nxI f i.toNat = nxI f (n.toNat - 2)) , (i + 1).toNat = N → zG x LM 4 [some (zr 0), some (zi n), some (zi i), none, none, none, none] ([] : List zV) S := by
    intro N
    induction N using Nat.strongRecOn with
    | _ N ih4 => ?_
    intro i hi hI hN4
    refine z_iload_n (pc := 4) h dX11_turns_4 rfl ?_
    refine z_if_le (pc := 5) (tgt := 31) h dX11_turns_5 (by decide) ⟨by omega, by omega⟩ (fun hc5 => ?_) (fun hc5 => ?_)
    ·
      refine z_iload_n (pc := 31) h dX11_turns_31 rfl ?_
      refine z_if_gt (pc := 32) (tgt := 37) h dX11_turns_32 (by decide) ⟨by omega, by omega⟩ (fun hc32 => ?_) (fun hc32 => ?_)
      ·
        have hIe : nxI f (n.toNat - 2) = i.toNat := by rw [nxI_s f (by omega), if_neg (by omega)] at hI; exact hI.symm
        refine z_iload_n (pc := 37) h dX11_turns_37 rfl ?_
        refine z_iconst (pc := 38) h dX11_turns_38 ?_
        refine z_isub (pc := 39) h dX11_turns_39 ?_
        refine z_istore_n (pc := 40) (loc' := [some (zr 0), some (zi n), some (zi i), some (zi (n - 1)), none, none, none]) h dX11_turns_40 rfl (Nat.le_of_ble_eq_true rfl) rfl rfl ?_
        have J41 : ∀ (N : Nat) (j : Int) (hj : i + 1 ≤ j ∧ j ≤ n - 1) (hJ : nxJ f (f i.toNat) j.toNat = nxJ f (f i.toNat) (n.toNat - 1)) , j.toNat = N → zG x LM 41 [some (zr 0), some (zi n), some (zi i), some (zi j), none, none, none] ([] : List zV) S := by
          intro N
          induction N using Nat.strongRecOn with
          | _ N ih41 => ?_
          intro j hj hJ hN41
          have g1 := hf i.toNat (by omega)
          have g2 := hf j.toNat (by omega)
          have v1 := hb i.toNat
          have v2 := hb j.toNat
          refine z_aload_n (pc := 41) h dX11_turns_41 rfl ?_
          refine z_getR (a := 9) (pc := 42) h dX11_turns_42 clX11 lkX11_34 (by decide) rfl rfl ?_
          refine z_iload_n (pc := 45) h dX11_turns_45 rfl ?_
          refine z_iald (pc := 46) h dX11_turns_46 rfl (by decide) (by omega) (by omega) ?_
          refine z_aload_n (pc := 47) h dX11_turns_47 rfl ?_
          refine z_getR (a := 9) (pc := 48) h dX11_turns_48 clX11 lkX11_34 (by decide) rfl rfl ?_
          refine z_iload_n (pc := 51) h dX11_turns_51 rfl ?_
          refine z_iald (pc := 52) h dX11_turns_52 rfl (by decide) (by omega) (by omega) ?_
          refine z_icmp_ge (pc := 53) (tgt := 62) h dX11_turns_53 (by decide) ⟨by omega, by omega⟩ ⟨by omega, by omega⟩ (fun hc53 => ?_) (fun hc53 => ?_)
          ·
            have hJe : nxJ f (f i.toNat) (n.toNat - 1) = j.toNat := by rw [nxJ_s f _ (by omega), if_neg (by omega)] at hJ; exact hJ.symm
            refine z_aload_n (pc := 62) h dX11_turns_62 rfl ?_
            refine z_getR (a := 9) (pc := 63) h dX11_turns_63 clX11 lkX11_34 (by decide) rfl rfl ?_
            refine z_iload_n (pc := 66) h dX11_turns_66 rfl ?_
            refine z_iald (pc := 67) h dX11_turns_67 rfl (by decide) (by omega) (by omega) ?_
            refine z_istore (pc := 68) (loc' := [some (zr 0), some (zi n), some (zi i), some (zi j), some (zi (S 9 i.toNat)), none, none]) h dX11_turns_68 (Nat.le_of_ble_eq_true rfl) rfl rfl ?_
            refine z_aload_n (pc := 70) h dX11_turns_70 rfl ?_
            refine z_getR (a := 9) (pc := 71) h dX11_turns_71 clX11 lkX11_34 (by decide) rfl rfl ?_
            refine z_iload_n (pc := 74) h dX11_turns_74 rfl ?_
            refine z_aload_n (pc := 75) h dX11_turns_75 rfl ?_
            refine z_getR (a := 9) (pc := 76) h dX11_turns_76 clX11 lkX11_34 (by decide) rfl rfl ?_
            refine z_iload_n (pc := 79) h dX11_turns_79 rfl ?_
            refine z_iald (pc := 80) h dX11_turns_80 rfl (by decide) (by omega) (by omega) ?_
            refine z_iast (pc := 81) h dX11_turns_81 rfl (by decide) (by omega) (by omega) ?_
            refine z_aload_n (pc := 82) h dX11_turns_82 rfl ?_
            refine z_getR (a := 9) (pc := 83) h dX11_turns_83 clX11 lkX11_34 (by decide) rfl rfl ?_
            refine z_iload_n (pc := 86) h dX11_turns_86 rfl ?_
            refine z_iload (pc := 87) h dX11_turns_87 rfl ?_
            refine z_iast (pc := 89) h dX11_turns_89 rfl (by decide) (by omega) (by omega) ?_
            refine z_iload_n (pc := 90) h dX11_turns_90 rfl ?_
            refine z_iconst (pc := 91) h dX11_turns_91 ?_
            refine z_iadd (pc := 92) h dX11_turns_92 ?_
            refine z_istore (pc := 93) (loc' := [some (zr 0), some (zi n), some (zi i), some (zi j), some (zi (S 9 i.toNat)), some (zi (i + 1)), none]) h dX11_turns_93 (Nat.le_of_ble_eq_true rfl) rfl rfl ?_
            refine z_iload_n (pc := 95) h dX11_turns_95 rfl ?_
            refine z_iconst (pc := 96) h dX11_turns_96 ?_
            refine z_isub (pc := 97) h dX11_turns_97 ?_
            refine z_istore (pc := 98) (loc' := [some (zr 0), some (zi n), some (zi i), some (zi j), some (zi (S 9 i.toNat)), some (zi (i + 1)), some (zi (n - 1))]) h dX11_turns_98 (Nat.le_of_ble_eq_true rfl) rfl rfl ?_
            have J100 : ∀ (N : Nat) (kp lo hi : Int) (S1 : SS) (h1 : lo + hi = n + i) (h2 : i + 1 ≤ lo) (h3 : hi ≤ n - 1) (h5 : lo ≤ n ∧ 0 ≤ hi) (hF : ∀ x y, x ≠ 9 → S1 x y = S x y) (hC : RV S1 n i j lo hi f) , (hi + 1).toNat = N → zG x LM 100 [some (zr 0), some (zi n), some (zi i), some (zi j), some (zi kp), some (zi lo), some (zi hi)] ([] : List zV) S1 := by
              intro N
              induction N using Nat.strongRecOn with
              | _ N ih100 => ?_
              intro kp lo hi S1 h1 h2 h3 h5 hF hC hN100
              refine z_iload (pc := 100) h dX11_turns_100 rfl ?_
              refine z_iload (pc := 102) h dX11_turns_102 rfl ?_
              refine z_icmp_ge (pc := 104) (tgt := 148) h dX11_turns_104 (by decide) ⟨by omega, by omega⟩ ⟨by omega, by omega⟩ (fun hc104 => ?_) (fun hc104 => ?_)
              ·
                refine z_iconst (pc := 148) h dX11_turns_148 ?_
                exact z_zret (pc := 149) h dX11_turns_149 rfl (by decide) (Or.inr ⟨by omega, rfl, hF, fun k hk => by rw [hIe, hJe]; exact RV_e hC (by omega) (by omega) h1 (by omega) k hk⟩)
              ·
                refine z_aload_n (pc := 107) h dX11_turns_107 rfl ?_
                refine z_getR (a := 9) (pc := 108) h dX11_turns_108 clX11 lkX11_34 (by decide) rfl rfl ?_
                refine z_iload (pc := 111) h dX11_turns_111 rfl ?_
                refine z_iald (pc := 113) h dX11_turns_113 rfl (by decide) (by omega) (by omega) ?_
                refine z_istore (pc := 114) (loc' := [some (zr 0), some (zi n), some (zi i), some (zi j), some (zi (S1 9 lo.toNat)), some (zi lo), some (zi hi)]) h dX11_turns_114 (Nat.le_of_ble_eq_true rfl) rfl rfl ?_
                refine z_aload_n (pc := 116) h dX11_turns_116 rfl ?_
                refine z_getR (a := 9) (pc := 117) h dX11_turns_117 clX11 lkX11_34 (by decide) rfl rfl ?_
                refine z_iload (pc := 120) h dX11_turns_120 rfl ?_
                refine z_aload_n (pc := 122) h dX11_turns_122 rfl ?_
                refine z_getR (a := 9) (pc := 123) h dX11_turns_123 clX11 lkX11_34 (by decide) rfl rfl ?_
                refine z_iload (pc := 126) h dX11_turns_126 rfl ?_
                refine z_iald (pc := 128) h dX11_turns_128 rfl (by decide) (by omega) (by omega) ?_
                refine z_iast (pc := 129) h dX11_turns_129 rfl (by decide) (by omega) (by omega) ?_
                refine z_aload_n (pc := 130) h dX11_turns_130 rfl ?_
                refine z_getR (a := 9) (pc := 131) h dX11_turns_131 clX11 lkX11_34 (by decide) rfl rfl ?_
                refine z_iload (pc := 134) h dX11_turns_134 rfl ?_
                refine z_iload (pc := 136) h dX11_turns_136 rfl ?_
                refine z_iast (pc := 138) h dX11_turns_138 rfl (by decide) (by omega) (by omega) ?_
                refine z_iinc (pc := 139) (loc' := [some (zr 0), some (zi n), some (zi i), some (zi j), some (zi (S1 9 lo.toNat)), some (zi (lo + 1)), some (zi hi)]) h dX11_turns_139 rfl (Nat.le_of_ble_eq_true rfl) rfl rfl ?_
                refine z_iinc (pc := 142) (loc' := [some (zr 0), some (zi n), some (zi i), some (zi j), some (zi (S1 9 lo.toNat)), some (zi (lo + 1)), some (zi (hi + (-1)))]) h dX11_turns_142 rfl (Nat.le_of_ble_eq_true rfl) rfl rfl ?_
                refine z_goto (pc := 145) (tgt := 100) h dX11_turns_145 (by decide) ?_
                exact ih100 _ (by omega) (S1 9 lo.toNat) (lo + 1) (hi + (-1)) (up2 (up2 S1 9 lo.toNat (S1 9 hi.toNat)) 9 hi.toNat (S1 9 lo.toNat)) (by omega) (by omega) (by omega) (by omega) (fun x y q => by rw [up2_k _ _ q, up2_k _ _ q]; exact hF x y q) (RV_s hC (by omega) h1 h2 h3 (by omega)) rfl
            exact J100 _ (S 9 i.toNat) (i + 1) (n - 1) (up2 (up2 S 9 i.toNat (S 9 j.toNat)) 9 j.toNat (S 9 i.toNat)) (by omega) (by omega) (by omega) (by omega) (fun x y q => by rw [up2_k _ _ q, up2_k _ _ q]) (RV_0 hf (by omega) (by omega)) rfl
          ·
            refine z_iinc (pc := 56) (loc' := [some (zr 0), some (zi n), some (zi i), some (zi (j + (-1))), none, none, none]) h dX11_turns_56 rfl (Nat.le_of_ble_eq_true rfl) rfl rfl ?_
            refine z_goto (pc := 59) (tgt := 41) h dX11_turns_59 (by decide) ?_
            exact ih41 _ (by omega) (j + (-1)) (by refine ⟨?_, by omega⟩; rcases (show j = i + 1 ∨ i + 2 ≤ j by omega) with q | q; (subst q; omega); omega) (by rw [nxJ_s f _ (by omega), if_pos (by omega)] at hJ; exact hJ) rfl
        exact J41 _ (n - 1) (by omega) (by congr 1; omega) rfl
      ·
        refine z_iconst (pc := 35) h dX11_turns_35 ?_
        refine z_zret (pc := 36) h dX11_turns_36 rfl (by decide) ?_
        first
          | exact Or.inl ⟨by rw [← hI, show i.toNat = 0 by omega]; rfl, rfl, rfl⟩
          | omega
    ·
      have f1 := hf i.toNat (by omega)
      have f2 := hf (i + 1).toNat (by omega)
      have u1 := hb i.toNat
      have u2 := hb (i + 1).toNat
      refine z_aload_n (pc := 8) h dX11_turns_8 rfl ?_
      refine z_getR (a := 9) (pc := 9) h dX11_turns_9 clX11 lkX11_34 (by decide) rfl rfl ?_
      refine z_iload_n (pc := 12) h dX11_turns_12 rfl ?_
      refine z_iald (pc := 13) h dX11_turns_13 rfl (by decide) (by omega) (by omega) ?_
      refine z_aload_n (pc := 14) h dX11_turns_14 rfl ?_
      refine z_getR (a := 9) (pc := 15) h dX11_turns_15 clX11 lkX11_34 (by decide) rfl rfl ?_
      refine z_iload_n (pc := 18) h dX11_turns_18 rfl ?_
      refine z_iconst (pc := 19) h dX11_turns_19 ?_
      refine z_iadd (pc := 20) h dX11_turns_20 ?_
      refine z_iald (pc := 21) h dX11_turns_21 rfl (by decide) (by omega) (by omega) ?_
      refine z_icmp_le (pc := 22) (tgt := 31) h dX11_turns_22 (by decide) ⟨by omega, by omega⟩ ⟨by omega, by omega⟩ (fun hc22 => ?_) (fun hc22 => ?_)
      ·
        refine z_iload_n (pc := 31) h dX11_turns_31 rfl ?_
        refine z_if_gt (pc := 32) (tgt := 37) h dX11_turns_32 (by decide) ⟨by omega, by omega⟩ (fun hc32 => ?_) (fun hc32 => ?_)
        ·
          have hIe : nxI f (n.toNat - 2) = i.toNat := by rw [nxI_s f (by omega), if_neg (by omega)] at hI; exact hI.symm
          refine z_iload_n (pc := 37) h dX11_turns_37 rfl ?_
          refine z_iconst (pc := 38) h dX11_turns_38 ?_
          refine z_isub (pc := 39) h dX11_turns_39 ?_
          refine z_istore_n (pc := 40) (loc' := [some (zr 0), some (zi n), some (zi i), some (zi (n - 1)), none, none, none]) h dX11_turns_40 rfl (Nat.le_of_ble_eq_true rfl) rfl rfl ?_
          have J41 : ∀ (N : Nat) (j : Int) (hj : i + 1 ≤ j ∧ j ≤ n - 1) (hJ : nxJ f (f i.toNat) j.toNat = nxJ f (f i.toNat) (n.toNat - 1)) , j.toNat = N → zG x LM 41 [some (zr 0), some (zi n), some (zi i), some (zi j), none, none, none] ([] : List zV) S := by
            intro N
            induction N using Nat.strongRecOn with
            | _ N ih41 => ?_
            intro j hj hJ hN41
            have g1 := hf i.toNat (by omega)
            have g2 := hf j.toNat (by omega)
            have v1 := hb i.toNat
            have v2 := hb j.toNat
            refine z_aload_n (pc := 41) h dX11_turns_41 rfl ?_
            refine z_getR (a := 9) (pc := 42) h dX11_turns_42 clX11 lkX11_34 (by decide) rfl rfl ?_
            refine z_iload_n (pc := 45) h dX11_turns_45 rfl ?_
            refine z_iald (pc := 46) h dX11_turns_46 rfl (by decide) (by omega) (by omega) ?_
            refine z_aload_n (pc := 47) h dX11_turns_47 rfl ?_
            refine z_getR (a := 9) (pc := 48) h dX11_turns_48 clX11 lkX11_34 (by decide) rfl rfl ?_
            refine z_iload_n (pc := 51) h dX11_turns_51 rfl ?_
            refine z_iald (pc := 52) h dX11_turns_52 rfl (by decide) (by omega) (by omega) ?_
            refine z_icmp_ge (pc := 53) (tgt := 62) h dX11_turns_53 (by decide) ⟨by omega, by omega⟩ ⟨by omega, by omega⟩ (fun hc53 => ?_) (fun hc53 => ?_)
            ·
              have hJe : nxJ f (f i.toNat) (n.toNat - 1) = j.toNat := by rw [nxJ_s f _ (by omega), if_neg (by omega)] at hJ; exact hJ.symm
              refine z_aload_n (pc := 62) h dX11_turns_62 rfl ?_
              refine z_getR (a := 9) (pc := 63) h dX11_turns_63 clX11 lkX11_34 (by decide) rfl rfl ?_
              refine z_iload_n (pc := 66) h dX11_turns_66 rfl ?_
              refine z_iald (pc := 67) h dX11_turns_67 rfl (by decide) (by omega) (by omega) ?_
              refine z_istore (pc := 68) (loc' := [some (zr 0), some (zi n), some (zi i), some (zi j), some (zi (S 9 i.toNat)), none, none]) h dX11_turns_68 (Nat.le_of_ble_eq_true rfl) rfl rfl ?_
              refine z_aload_n (pc := 70) h dX11_turns_70 rfl ?_
              refine z_getR (a := 9) (pc := 71) h dX11_turns_71 clX11 lkX11_34 (by decide) rfl rfl ?_
              refine z_iload_n (pc := 74) h dX11_turns_74 rfl ?_
              refine z_aload_n (pc := 75) h dX11_turns_75 rfl ?_
              refine z_getR (a := 9) (pc := 76) h dX11_turns_76 clX11 lkX11_34 (by decide) rfl rfl ?_
              refine z_iload_n (pc := 79) h dX11_turns_79 rfl ?_
              refine z_iald (pc := 80) h dX11_turns_80 rfl (by decide) (by omega) (by omega) ?_
              refine z_iast (pc := 81) h dX11_turns_81 rfl (by decide) (by omega) (by omega) ?_
              refine z_aload_n (pc := 82) h dX11_turns_82 rfl ?_
              refine z_getR (a := 9) (pc := 83) h dX11_turns_83 clX11 lkX11_34 (by decide) rfl rfl ?_
              refine z_iload_n (pc := 86) h dX11_turns_86 rfl ?_
              refine z_iload (pc := 87) h dX11_turns_87 rfl ?_
              refine z_iast (pc := 89) h dX11_turns_89 rfl (by decide) (by omega) (by omega) ?_
              refine z_iload_n (pc := 90) h dX11_turns_90 rfl ?_
              refine z_iconst (pc := 91) h dX11_turns_91 ?_
              refine z_iadd (pc := 92) h dX11_turns_92 ?_
              refine z_istore (pc := 93) (loc' := [some (zr 0), some (zi n), some (zi i), some (zi j), some (zi (S 9 i.toNat)), some (zi (i + 1)), none]) h dX11_turns_93 (Nat.le_of_ble_eq_true rfl) rfl rfl ?_
              refine z_iload_n (pc := 95) h dX11_turns_95 rfl ?_
              refine z_iconst (pc := 96) h dX11_turns_96 ?_
              refine z_isub (pc := 97) h dX11_turns_97 ?_
              refine z_istore (pc := 98) (loc' := [some (zr 0), some (zi n), some (zi i), some (zi j), some (zi (S 9 i.toNat)), some (zi (i + 1)), some (zi (n - 1))]) h dX11_turns_98 (Nat.le_of_ble_eq_true rfl) rfl rfl ?_
              have J100 : ∀ (N : Nat) (kp lo hi : Int) (S1 : SS) (h1 : lo + hi = n + i) (h2 : i + 1 ≤ lo) (h3 : hi ≤ n - 1) (h5 : lo ≤ n ∧ 0 ≤ hi) (hF : ∀ x y, x ≠ 9 → S1 x y = S x y) (hC : RV S1 n i j lo hi f) , (hi + 1).toNat = N → zG x LM 100 [some (zr 0), some (zi n), some (zi i), some (zi j), some (zi kp), some (zi lo), some (zi hi)] ([] : List zV) S1 := by
                intro N
                induction N using Nat.strongRecOn with
                | _ N ih100 => ?_
                intro kp lo hi S1 h1 h2 h3 h5 hF hC hN100
                refine z_iload (pc := 100) h dX11_turns_100 rfl ?_
                refine z_iload (pc := 102) h dX11_turns_102 rfl ?_
                refine z_icmp_ge (pc := 104) (tgt := 148) h dX11_turns_104 (by decide) ⟨by omega, by omega⟩ ⟨by omega, by omega⟩ (fun hc104 => ?_) (fun hc104 => ?_)
                ·
                  refine z_iconst (pc := 148) h dX11_turns_148 ?_
                  exact z_zret (pc := 149) h dX11_turns_149 rfl (by decide) (Or.inr ⟨by omega, rfl, hF, fun k hk => by rw [hIe, hJe]; exact RV_e hC (by omega) (by omega) h1 (by omega) k hk⟩)
                ·
                  refine z_aload_n (pc := 107) h dX11_turns_107 rfl ?_
                  refine z_getR (a := 9) (pc := 108) h dX11_turns_108 clX11 lkX11_34 (by decide) rfl rfl ?_
                  refine z_iload (pc := 111) h dX11_turns_111 rfl ?_
                  refine z_iald (pc := 113) h dX11_turns_113 rfl (by decide) (by omega) (by omega) ?_
                  refine z_istore (pc := 114) (loc' := [some (zr 0), some (zi n), some (zi i), some (zi j), some (zi (S1 9 lo.toNat)), some (zi lo), some (zi hi)]) h dX11_turns_114 (Nat.le_of_ble_eq_true rfl) rfl rfl ?_
                  refine z_aload_n (pc := 116) h dX11_turns_116 rfl ?_
                  refine z_getR (a := 9) (pc := 117) h dX11_turns_117 clX11 lkX11_34 (by decide) rfl rfl ?_
                  refine z_iload (pc := 120) h dX11_turns_120 rfl ?_
                  refine z_aload_n (pc := 122) h dX11_turns_122 rfl ?_
                  refine z_getR (a := 9) (pc := 123) h dX11_turns_123 clX11 lkX11_34 (by decide) rfl rfl ?_
                  refine z_iload (pc := 126) h dX11_turns_126 rfl ?_
                  refine z_iald (pc := 128) h dX11_turns_128 rfl (by decide) (by omega) (by omega) ?_
                  refine z_iast (pc := 129) h dX11_turns_129 rfl (by decide) (by omega) (by omega) ?_
                  refine z_aload_n (pc := 130) h dX11_turns_130 rfl ?_
                  refine z_getR (a := 9) (pc := 131) h dX11_turns_131 clX11 lkX11_34 (by decide) rfl rfl ?_
                  refine z_iload (pc := 134) h dX11_turns_134 rfl ?_
                  refine z_iload (pc := 136) h dX11_turns_136 rfl ?_
                  refine z_iast (pc := 138) h dX11_turns_138 rfl (by decide) (by omega) (by omega) ?_
                  refine z_iinc (pc := 139) (loc' := [some (zr 0), some (zi n), some (zi i), some (zi j), some (zi (S1 9 lo.toNat)), some (zi (lo + 1)), some (zi hi)]) h dX11_turns_139 rfl (Nat.le_of_ble_eq_true rfl) rfl rfl ?_
                  refine z_iinc (pc := 142) (loc' := [some (zr 0), some (zi n), some (zi i), some (zi j), some (zi (S1 9 lo.toNat)), some (zi (lo + 1)), some (zi (hi + (-1)))]) h dX11_turns_142 rfl (Nat.le_of_ble_eq_true rfl) rfl rfl ?_
                  refine z_goto (pc := 145) (tgt := 100) h dX11_turns_145 (by decide) ?_
                  exact ih100 _ (by omega) (S1 9 lo.toNat) (lo + 1) (hi + (-1)) (up2 (up2 S1 9 lo.toNat (S1 9 hi.toNat)) 9 hi.toNat (S1 9 lo.toNat)) (by omega) (by omega) (by omega) (by omega) (fun x y q => by rw [up2_k _ _ q, up2_k _ _ q]; exact hF x y q) (RV_s hC (by omega) h1 h2 h3 (by omega)) rfl
              exact J100 _ (S 9 i.toNat) (i + 1) (n - 1) (up2 (up2 S 9 i.toNat (S 9 j.toNat)) 9 j.toNat (S 9 i.toNat)) (by omega) (by omega) (by omega) (by omega) (fun x y q => by rw [up2_k _ _ q, up2_k _ _ q]) (RV_0 hf (by omega) (by omega)) rfl
            ·
              refine z_iinc (pc := 56) (loc' := [some (zr 0), some (zi n), some (zi i), some (zi (j + (-1))), none, none, none]) h dX11_turns_56 rfl (Nat.le_of_ble_eq_true rfl) rfl rfl ?_
              refine z_goto (pc := 59) (tgt := 41) h dX11_turns_59 (by decide) ?_
              exact ih41 _ (by omega) (j + (-1)) (by refine ⟨?_, by omega⟩; rcases (show j = i + 1 ∨ i + 2 ≤ j by omega) with q | q; (subst q; omega); omega) (by rw [nxJ_s f _ (by omega), if_pos (by omega)] at hJ; exact hJ) rfl
          exact J41 _ (n - 1) (by omega) (by congr 1; omega) rfl
        ·
          refine z_iconst (pc := 35) h dX11_turns_35 ?_
          refine z_zret (pc := 36) h dX11_turns_36 rfl (by decide) ?_
          first
            | exact Or.inl ⟨by rw [← hI, show i.toNat = 0 by omega]; rfl, rfl, rfl⟩
            | omega
      ·
        refine z_iinc (pc := 25) (loc' := [some (zr 0), some (zi n), some (zi (i + (-1))), none, none, none, none]) h dX11_turns_25 rfl (Nat.le_of_ble_eq_true rfl) rfl rfl ?_
        refine z_goto (pc := 28) (tgt := 4) h dX11_turns_28 (by decide) ?_
        exact ih4 _ (by omega) (i + (-1)) (by omega) (by rw [nxI_s f (by omega), if_pos (by omega)] at hI; exact hI) rfl
  exact J4 _ (n - 2) (by omega) (by congr 1; omega) rfl

def pcF (g : Int) (Q : PL) : Nat → List Nat → Int
  | la, [] => oe g Q la
  | la, d :: ds => stepF g Q la d + pcF g Q d ds
theorem gv_lx (g : Int) (Q : PL) (m : Nat) : ∀ (r tk la : Nat) (x : List Nat), x ∈ lx m r tk → gv (oc g Q) ow (oe g Q) (fun d => d) x tk la = (1, pcF g Q la x, 0, 0, 0, x)
  | 0, tk, la, x, h => by
    have : x = [] := by simpa [lx] using h
    subst this
    rfl
  | r + 1, tk, la, x, h => by
    unfold lx at h
    rw [List.mem_flatMap] at h
    obtain ⟨d, hd, hx⟩ := h
    split at hx
    · cases hx
    · next hb =>
      rw [List.mem_map] at hx
      obtain ⟨y, hy, rfl⟩ := hx
      unfold gv
      rw [if_neg hb, gv_lx g Q m r (tk ||| 2 ^ d) d y hy, tS_1 (show (1 : Int) ≠ 0 by decide)]
      rfl
/-- steps along a row -/
def sR (g : Int) (Q : PL) (f : Nat → Nat) : Nat → Int
  | 0 => 0
  | k + 1 => sR g Q f k + stepF g Q (f k) (f (k + 1))
theorem sR_f (g : Int) (Q : PL) (f : Nat → Nat) : ∀ k : Nat, sR g Q f (k + 1) = stepF g Q (f 0) (f 1) + sR g Q (fun i => f (i + 1)) k
  | 0 => by show 0 + stepF g Q (f 0) (f 1) = stepF g Q (f 0) (f 1) + 0; omega
  | k + 1 => by
    have h := sR_f g Q f k
    show sR g Q f (k + 1) + stepF g Q (f (k + 1)) (f (k + 2)) = stepF g Q (f 0) (f 1) + (sR g Q (fun i => f (i + 1)) k + stepF g Q (f (k + 1)) (f (k + 2)))
    omega
theorem sR_pc (g : Int) (Q : PL) : ∀ (x : List Nat) (la : Nat), sR g Q (fun k => (la :: x).getD k 0) x.length + stepF g Q (((la :: x).getD x.length 0 : Nat) : Int) 0 = pcF g Q la x
  | [], la => by
    show 0 + stepF g Q (la : Int) 0 = oe g Q la
    rw [Int.zero_add]
    rfl
  | d :: ds, la => by
    have h := sR_pc g Q ds d
    rw [List.length_cons, sR_f]
    show stepF g Q (la : Int) (d : Int) + sR g Q (fun i => (d :: ds).getD i 0) ds.length + stepF g Q (((d :: ds).getD ds.length 0 : Nat) : Int) 0 = stepF g Q (la : Int) (d : Int) + pcF g Q d ds
    omega
/-- after k steps round -/
def rdS (g : Int) (Q : PL) (x : List Nat) (n k : Nat) : Int := if k < n then sR g Q (fx x) k else pcF g Q 0 x
theorem rdS_s {g : Int} {Q : PL} {x : List Nat} {n : Nat} {k : Int} (hx : x.length + 1 = n) (hk : 0 ≤ k ∧ k < n) : rdS g Q x n (k + 1).toNat = rdS g Q x n k.toNat + stepF g Q (fx x k.toNat : Nat) (fx x ((k + 1) % n).toNat : Nat) := by
  unfold rdS
  rw [if_pos (show k.toNat < n by omega)]
  by_cases h : (k + 1).toNat < n
  · rw [if_pos h, show (k + 1).toNat = k.toNat + 1 by omega, show ((k + 1) % (n : Int)).toNat = k.toNat + 1 by rw [Int.emod_eq_of_lt (by omega) (by omega)]; omega]
    rfl
  · rw [if_neg h, show ((k + 1) % (n : Int)) = 0 by rw [show k + 1 = (n : Int) by omega, Int.emod_self], ← sR_pc g Q x 0, show k.toNat = x.length by omega]
    rfl
theorem rdS_b {g : Int} {Q : PL} (hg : 0 ≤ g ∧ g ≤ 9) (hQ : okP Q) (x : List Nat) : 0 ≤ pcF g Q 0 x ∧ pcF g Q 0 x ≤ 36 * (x.length + 1) := by
  have h1 : ∀ k : Nat, 0 ≤ sR g Q (fx x) k ∧ sR g Q (fx x) k ≤ 36 * k := fun k => by
    induction k with
    | zero => exact ⟨Int.le_refl _, Int.le_refl _⟩
    | succ k ih =>
      have h2 := stepF_b hg hQ (fx x k : Nat) (fx x (k + 1) : Nat)
      unfold sR
      omega
  have h2 := h1 x.length
  have h3 := stepF_b hg hQ (((0 :: x).getD x.length 0 : Nat) : Int) 0
  have h4 := sR_pc g Q x 0
  have h5 : sR g Q (fun k => (0 :: x).getD k 0) x.length = sR g Q (fx x) x.length := rfl
  omega
theorem okL_0 {n : Nat} {x : List Nat} {xs : List (List Nat)} (h : okL n (x :: xs) = true) (h0 : nxI (fx x) (n - 2) = 0) : xs = [] := by
  cases xs with
  | nil => rfl
  | cons y r =>
    unfold okL at h
    rw [Bool.and_eq_true] at h
    have h1 := h.1
    unfold okN at h1
    rw [Bool.and_eq_true, h0] at h1
    exact absurd h1.1 (by decide)
theorem okL_1 {n : Nat} {x : List Nat} {xs : List (List Nat)} (h : okL n (x :: xs) = true) (h0 : 0 < nxI (fx x) (n - 2)) : ∃ y r, xs = y :: r ∧ okL n xs = true ∧ ∀ k, k < n → nxF n (fx x) (nxI (fx x) (n - 2)) (nxJ (fx x) (fx x (nxI (fx x) (n - 2))) (n - 1)) k = fx y k := by
  cases xs with
  | nil =>
    unfold okL at h
    have := Nat.eq_of_beq_eq_true h
    omega
  | cons y r =>
    unfold okL at h
    rw [Bool.and_eq_true] at h
    have h1 := h.1
    unfold okN at h1
    rw [Bool.and_eq_true, List.all_eq_true] at h1
    exact ⟨y, r, rfl, h.2, fun k hk => Nat.eq_of_beq_eq_true (h1.2 k (List.mem_range.mpr hk))⟩
theorem okH_0 {n : Nat} {l : List (List Nat)} (h : okH n l = true) : ∃ x xs, l = x :: xs ∧ ∀ k, k < n → fx x k = k := by
  cases l with
  | nil => cases h
  | cons x xs =>
    unfold okH at h
    rw [List.all_eq_true] at h
    exact ⟨x, xs, rfl, fun k hk => Nat.eq_of_beq_eq_true (h k (List.mem_range.mpr hk))⟩
theorem tC_2 (x y : TS) : (tC x y).2.1 = x.2.1 ∨ (tC x y).2.1 = y.2.1 := by
  by_cases h1 : y.1 = 0
  · rw [tC_0 h1]; exact Or.inl rfl
  · by_cases h2 : x.1 = 0
    · rw [tC_1 h1 h2]; exact Or.inr rfl
    · rcases tC_c h2 h1 with ⟨-, h⟩ | ⟨-, h⟩ | ⟨-, h⟩ <;> rw [h]
      · exact Or.inr rfl
      · exact Or.inl rfl
      · exact Or.inl rfl
def accP (n : Int) (S1 : SS) (x : TS) : Prop := (x.1 = 0 ∧ S1 0 10 = 1000000 ∧ S1 0 11 = 0) ∨ (0 < x.1 ∧ S1 0 10 = x.2.1 ∧ S1 0 11 = x.1 ∧ ∀ k : Nat, (k : Int) < n → S1 10 k = ((fx x.2.2.2.2.2 k : Nat) : Int))
theorem accP_lt {n s : Int} {S1 S2 : SS} {x : TS} {ds : List Nat} (h : accP n S1 x) (hs : s < S1 0 10) (h1 : S2 0 10 = s) (h2 : S2 0 11 = 1) (h3 : ∀ k : Nat, (k : Int) < n → S2 10 k = ((fx ds k : Nat) : Int)) : accP n S2 (tC x (1, s, 0, 0, 0, ds)) := by
  have e : tC x (1, s, 0, 0, 0, ds) = (1, s, 0, 0, 0, ds) := by
    rcases h with ⟨q, -⟩ | ⟨q, q1, -⟩
    · exact tC_1 (show (1 : Int) ≠ 0 by decide) q
    · exact tC_lt (show (1 : Int) ≠ 0 by decide) (show s < x.2.1 by omega)
  rw [e]
  exact Or.inr ⟨by show (0 : Int) < 1; decide, h1, h2, h3⟩
theorem accP_eq {n s : Int} {S1 S2 : SS} {x : TS} {ds : List Nat} (h : accP n S1 x) (hf : s < 1000000) (hs : s = S1 0 10) (h1 : S2 0 10 = S1 0 10) (h2 : S2 0 11 = S1 0 11 + 1) (h3 : ∀ k : Nat, S2 10 k = S1 10 k) : accP n S2 (tC x (1, s, 0, 0, 0, ds)) := by
  rcases h with ⟨q, q1, -⟩ | ⟨q, q1, q2, q3⟩
  · omega
  · rw [tC_eq (show x.1 ≠ 0 by omega) (show (1 : Int) ≠ 0 by decide) (show s = x.2.1 by omega)]
    exact Or.inr ⟨by show 0 < x.1 + 1; omega, by rw [h1]; exact q1, by show S2 0 11 = x.1 + 1; omega, fun k hk => by rw [h3]; exact q3 k hk⟩
theorem accP_gt {n s : Int} {S1 S2 : SS} {x : TS} {ds : List Nat} (h : accP n S1 x) (hf : s < 1000000) (hs : S1 0 10 < s) (h1 : S2 0 10 = S1 0 10) (h2 : S2 0 11 = S1 0 11) (h3 : ∀ k : Nat, S2 10 k = S1 10 k) : accP n S2 (tC x (1, s, 0, 0, 0, ds)) := by
  rcases h with ⟨q, q1, -⟩ | ⟨q, q1, q2, q3⟩
  · omega
  · rw [tC_gt (show x.1 ≠ 0 by omega) (show x.2.1 < s by omega)]
    exact Or.inr ⟨q, by rw [h1]; exact q1, by omega, fun k hk => by rw [h3]; exact q3 k hk⟩
theorem accP_n {n : Int} {S1 : SS} {x : TS} (h : accP n S1 x) (hb : 0 ≤ x.2.1 ∧ x.2.1 ≤ 1000) : 0 ≤ S1 0 10 ∧ S1 0 10 ≤ 1000000 := by
  rcases h with ⟨q, q1, -⟩ | ⟨q, q1, q2, q3⟩ <;> omega

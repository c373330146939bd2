/-! ORDER: the reference -/
theorem nxI_s (f : Nat → Nat) {i : Int} (hi : 0 < i) : nxI f i.toNat = if f (i + 1).toNat < f i.toNat then nxI f (i - 1).toNat else i.toNat := by
  obtain ⟨z, hz⟩ : ∃ z : Nat, i = (z : Int) + 1 := ⟨(i - 1).toNat, by omega⟩
  rw [show i.toNat = z + 1 by omega, show (i + 1).toNat = z + 2 by omega, show (i - 1).toNat = z by omega]
  unfold nxI
  by_cases h : f (z + 2) < f (z + 1)
  · rw [if_pos h, show Nat.blt (f (z + 2)) (f (z + 1)) = true from Nat.ble_eq_true_of_le h]; rfl
  · rw [if_neg h, show Nat.blt (f (z + 2)) (f (z + 1)) = false from Bool.eq_false_iff.mpr (fun q => h (Nat.le_of_ble_eq_true q))]; rfl
theorem nxJ_s (f : Nat → Nat) (v : Nat) {i : Int} (hi : 0 < i) : nxJ f v i.toNat = if f i.toNat < v then nxJ f v (i - 1).toNat else i.toNat := by
  obtain ⟨z, hz⟩ : ∃ z : Nat, i = (z : Int) + 1 := ⟨(i - 1).toNat, by omega⟩
  rw [show i.toNat = z + 1 by omega, show (i - 1).toNat = z by omega]
  unfold nxJ
  by_cases h : f (z + 1) < v
  · rw [if_pos h, show Nat.blt (f (z + 1)) v = true from Nat.ble_eq_true_of_le h]; rfl
  · rw [if_neg h, show Nat.blt (f (z + 1)) v = false from Bool.eq_false_iff.mpr (fun q => h (Nat.le_of_ble_eq_true q))]; rfl
def zF (f : Nat → Nat) (i j : Int) (k : Nat) : Nat := if k = j.toNat then f i.toNat else f k
theorem nxF_e (f : Nat → Nat) {n i j : Int} {k : Nat} (hi : 0 ≤ i) (hj : 0 ≤ j) (hk : (k : Int) < n) : nxF n.toNat f i.toNat j.toNat k = if (k : Int) ≤ i then (if (k : Int) = i then f j.toNat else f k) else zF f i j (n + i - k).toNat := by
  unfold nxF zF
  by_cases h1 : (k : Int) ≤ i
  · rw [if_pos h1, show Nat.ble k i.toNat = true from Nat.ble_eq_true_of_le (by omega)]
    by_cases h2 : (k : Int) = i
    · rw [if_pos h2, show Nat.beq k i.toNat = true from Nat.beq_eq_true_eq _ _ ▸ (show k = i.toNat by omega)]; rfl
    · rw [if_neg h2, show Nat.beq k i.toNat = false from Bool.eq_false_iff.mpr (fun q => h2 (by have := Nat.eq_of_beq_eq_true q; omega))]; rfl
  · rw [if_neg h1, show Nat.ble k i.toNat = false from Bool.eq_false_iff.mpr (fun q => h1 (by have := Nat.le_of_ble_eq_true q; omega)), show n.toNat + i.toNat - k = (n + i - k).toNat by omega]
    by_cases h2 : (n + i - k).toNat = j.toNat
    · rw [if_pos h2, h2, show Nat.beq j.toNat j.toNat = true from Nat.beq_refl _]; rfl
    · rw [if_neg h2, show Nat.beq (n + i - k).toNat j.toNat = false from Bool.eq_false_iff.mpr (fun q => h2 (Nat.eq_of_beq_eq_true q))]; rfl
def RV (S1 : SS) (n i j lo hi : Int) (f : Nat → Nat) : Prop := ∀ k : Nat, (k : Int) < n → S1 9 k = ((if (k : Int) ≤ i then (if (k : Int) = i then f j.toNat else f k) else if (k : Int) < lo ∨ hi < (k : Int) then zF f i j (n + i - k).toNat else zF f i j k : Nat) : Int)
theorem RV_0 {S : SS} {n i j : Int} {f : Nat → Nat} (hf : ∀ k : Nat, (k : Int) < n → S 9 k = ((f k : Nat) : Int)) (hi : 0 < i) (hj : i < j ∧ j < n) : RV (up2 (up2 S 9 i.toNat (S 9 j.toNat)) 9 j.toNat (S 9 i.toNat)) n i j (i + 1) (n - 1) f := by
  intro k hk
  rw [up2_e, up2_e, hf _ (show ((i.toNat : Nat) : Int) < n by omega), hf _ (show ((j.toNat : Nat) : Int) < n by omega)]
  by_cases k1 : k = j.toNat
  · rw [if_pos ⟨rfl, k1⟩, if_neg (by omega), if_neg (by omega)]
    unfold zF
    rw [if_pos k1]
  · rw [if_neg (fun q => k1 q.2)]
    by_cases k2 : k = i.toNat
    · rw [if_pos ⟨rfl, k2⟩, if_pos (by omega), if_pos (by omega)]
    · rw [if_neg (fun q => k2 q.2), hf k hk]
      by_cases k3 : (k : Int) ≤ i
      · rw [if_pos k3, if_neg (by omega)]
      · rw [if_neg k3, if_neg (by omega)]
        unfold zF
        rw [if_neg k1]
theorem RV_s {S1 : SS} {n i j lo hi : Int} {f : Nat → Nat} (hC : RV S1 n i j lo hi f) (h0 : 0 < i) (h1 : lo + hi = n + i) (h2 : i + 1 ≤ lo) (h3 : hi ≤ n - 1) (h4 : lo < hi) : RV (up2 (up2 S1 9 lo.toNat (S1 9 hi.toNat)) 9 hi.toNat (S1 9 lo.toNat)) n i j (lo + 1) (hi - 1) f := by
  intro k hk
  have hl := hC lo.toNat (by omega)
  have hh := hC hi.toNat (by omega)
  rw [if_neg (by omega), if_neg (by omega)] at hl hh
  rw [up2_e, up2_e, hl, hh]
  by_cases k1 : k = hi.toNat
  · rw [if_pos ⟨rfl, k1⟩, if_neg (by omega), if_pos (by omega), show (n + i - k).toNat = lo.toNat by omega]
  · rw [if_neg (fun q => k1 q.2)]
    by_cases k2 : k = lo.toNat
    · rw [if_pos ⟨rfl, k2⟩, if_neg (by omega), if_pos (by omega), show (n + i - k).toNat = hi.toNat by omega]
    · rw [if_neg (fun q => k2 q.2), hC k hk]
      by_cases k3 : (k : Int) ≤ i
      · rw [if_pos k3, if_pos k3]
      · rw [if_neg k3, if_neg k3]
        by_cases k4 : (k : Int) < lo ∨ hi < (k : Int)
        · rw [if_pos k4, if_pos (by omega)]
        · rw [if_neg k4, if_neg (by omega)]
theorem RV_e {S1 : SS} {n i j lo hi : Int} {f : Nat → Nat} (hC : RV S1 n i j lo hi f) (hi0 : 0 < i) (hj : 0 ≤ j) (h1 : lo + hi = n + i) (h4 : hi ≤ lo) (k : Nat) (hk : (k : Int) < n) : S1 9 k = ((nxF n.toNat f i.toNat j.toNat k : Nat) : Int) := by
  rw [hC k hk, nxF_e f (by omega) hj hk]
  by_cases k3 : (k : Int) ≤ i
  · rw [if_pos k3, if_pos k3]
  · rw [if_neg k3, if_neg k3]
    by_cases k4 : (k : Int) < lo ∨ hi < (k : Int)
    · rw [if_pos k4]
    · rw [if_neg k4, show (n + i - k).toNat = k by omega]

set_option maxRecDepth 100000 in
set_option maxHeartbeats 4000000 in
theorem m_X11_turns (n : Int) (f : Nat → Nat) (S : SS) (hn : 1 ≤ n ∧ n ≤ 8) (hf : ∀ k : Nat, (k : Int) < n → S 9 k = ((f k : Nat) : Int)) (hb : ∀ k, f k < 8) : zM LM yX11_turns cX11_turns 7 (some .boolean) 0 0 [zr 0, zi n] S (fun r S' => (nxI f (n.toNat - 2) = 0 ∧ r = some (zi 0) ∧ S = S') ∨ (0 < nxI f (n.toNat - 2) ∧ r = some (zi 1) ∧ (∀ x y, x ≠ 9 → S' x y = S x y) ∧ ∀ k : Nat, (k : Int) < n → S' 9 k = ((nxF n.toNat f (nxI f (n.toNat - 2)) (nxJ f (f (nxI f (n.toNat - 2))) (n.toNat - 1)) k : Nat) : Int))) := by
  refine zM_of (own := RX11) rfl (by decide +kernel) [some (zr 0), some (zi n), none, none, none, none, none] (Nat.le_of_ble_eq_true rfl) rfl ?_
  intro x h
  refine z_iload_n (pc := 0) h dX11_turns_0 rfl ?_
  refine z_iconst (pc := 1) h dX11_turns_1 ?_
  refine z_isub (pc := 2) h dX11_turns_2 ?_
  refine z_istore_n (pc := 3) (loc' := [some (zr 0), some (zi n), some (zi (n - 2)), none, none, none, none]) h dX11_turns_3 rfl (Nat.le_of_ble_eq_true rfl) rfl rfl ?_
  have J4 : ∀ (N : Nat) (i : Int) (hi : -1 ≤ i ∧ i ≤ n - 2) (hI : nxI f i.toNat = nxI f (n.toNat - 2)) , (i + 1).toNat = N → zG x LM 4 [some (zr 0), some (zi n), some (zi i), none, none, none, none] ([] : List zV) S := by
    intro N
    induction N using Nat.strongRecOn with
    | _ N ih4 => ?_
    intro i hi hI hN4
    refine z_iload_n (pc := 4) h dX11_turns_4 rfl ?_
    refine z_if_le (pc := 5) (tgt := 31) h dX11_turns_5 (by decide) ⟨by omega, by omega⟩ (fun hc5 => ?_) (fun hc5 => ?_)
    ·
      refine z_iload_n (pc := 31) h dX11_turns_31 rfl ?_
      refine z_if_gt (pc := 32) (tgt := 37) h dX11_turns_32 (by decide) ⟨by omega, by omega⟩ (fun hc32 => ?_) (fun hc32 => ?_)
      ·
        have hIe : nxI f (n.toNat - 2) = i.toNat := by rw [nxI_s f (by omega), if_neg (by omega)] at hI; exact hI.symm
        refine z_iload_n (pc := 37) h dX11_turns_37 rfl ?_
        refine z_iconst (pc := 38) h dX11_turns_38 ?_
        refine z_isub (pc := 39) h dX11_turns_39 ?_
        refine z_istore_n (pc := 40) (loc' := [some (zr 0), some (zi n), some (zi i), some (zi (n - 1)), none, none, none]) h dX11_turns_40 rfl (Nat.le_of_ble_eq_true rfl) rfl rfl ?_
        have J41 : ∀ (N : Nat) (j : Int) (hj : i + 1 ≤ j ∧ j ≤ n - 1) (hJ : nxJ f (f i.toNat) j.toNat = nxJ f (f i.toNat) (n.toNat - 1)) , j.toNat = N → zG x LM 41 [some (zr 0), some (zi n), some (zi i), some (zi j), none, none, none] ([] : List zV) S := by
          intro N
          induction N using Nat.strongRecOn with
          | _ N ih41 => ?_
          intro j hj hJ hN41
          have g1 := hf i.toNat (by omega)
          have g2 := hf j.toNat (by omega)
          have v1 := hb i.toNat
          have v2 := hb j.toNat
          refine z_aload_n (pc := 41) h dX11_turns_41 rfl ?_
          refine z_getR (a := 9) (pc := 42) h dX11_turns_42 clX11 lkX11_34 (by decide) rfl rfl ?_
          refine z_iload_n (pc := 45) h dX11_turns_45 rfl ?_
          refine z_iald (pc := 46) h dX11_turns_46 rfl (by decide) (by omega) (by omega) ?_
          refine z_aload_n (pc := 47) h dX11_turns_47 rfl ?_
          refine z_getR (a := 9) (pc := 48) h dX11_turns_48 clX11 lkX11_34 (by decide) rfl rfl ?_
          refine z_iload_n (pc := 51) h dX11_turns_51 rfl ?_
          refine z_iald (pc := 52) h dX11_turns_52 rfl (by decide) (by omega) (by omega) ?_
          refine z_icmp_ge (pc := 53) (tgt := 62) h dX11_turns_53 (by decide) ⟨by omega, by omega⟩ ⟨by omega, by omega⟩ (fun hc53 => ?_) (fun hc53 => ?_)
          ·
            have hJe : nxJ f (f i.toNat) (n.toNat - 1) = j.toNat := by rw [nxJ_s f _ (by omega), if_neg (by omega)] at hJ; exact hJ.symm
            refine z_aload_n (pc := 62) h dX11_turns_62 rfl ?_
            refine z_getR (a := 9) (pc := 63) h dX11_turns_63 clX11 lkX11_34 (by decide) rfl rfl ?_
            refine z_iload_n (pc := 66) h dX11_turns_66 rfl ?_
            refine z_iald (pc := 67) h dX11_turns_67 rfl (by decide) (by omega) (by omega) ?_
            refine z_istore (pc := 68) (loc' := [some (zr 0), some (zi n), some (zi i), some (zi j), some (zi (S 9 i.toNat)), none, none]) h dX11_turns_68 (Nat.le_of_ble_eq_true rfl) rfl rfl ?_
            refine z_aload_n (pc := 70) h dX11_turns_70 rfl ?_
            refine z_getR (a := 9) (pc := 71) h dX11_turns_71 clX11 lkX11_34 (by decide) rfl rfl ?_
            refine z_iload_n (pc := 74) h dX11_turns_74 rfl ?_
            refine z_aload_n (pc := 75) h dX11_turns_75 rfl ?_
            refine z_getR (a := 9) (pc := 76) h dX11_turns_76 clX11 lkX11_34 (by decide) rfl rfl ?_
            refine z_iload_n (pc := 79) h dX11_turns_79 rfl ?_
            refine z_iald (pc := 80) h dX11_turns_80 rfl (by decide) (by omega) (by omega) ?_
            refine z_iast (pc := 81) h dX11_turns_81 rfl (by decide) (by omega) (by omega) ?_
            refine z_aload_n (pc := 82) h dX11_turns_82 rfl ?_
            refine z_getR (a := 9) (pc := 83) h dX11_turns_83 clX11 lkX11_34 (by decide) rfl rfl ?_
            refine z_iload_n (pc := 86) h dX11_turns_86 rfl ?_
            refine z_iload (pc := 87) h dX11_turns_87 rfl ?_
            refine z_iast (pc := 89) h dX11_turns_89 rfl (by decide) (by omega) (by omega) ?_
            refine z_iload_n (pc := 90) h dX11_turns_90 rfl ?_
            refine z_iconst (pc := 91) h dX11_turns_91 ?_
            refine z_iadd (pc := 92) h dX11_turns_92 ?_
            refine z_istore (pc := 93) (loc' := [some (zr 0), some (zi n), some (zi i), some (zi j), some (zi (S 9 i.toNat)), some (zi (i + 1)), none]) h dX11_turns_93 (Nat.le_of_ble_eq_true rfl) rfl rfl ?_
            refine z_iload_n (pc := 95) h dX11_turns_95 rfl ?_
            refine z_iconst (pc := 96) h dX11_turns_96 ?_
            refine z_isub (pc := 97) h dX11_turns_97 ?_
            refine z_istore (pc := 98) (loc' := [some (zr 0), some (zi n), some (zi i), some (zi j), some (zi (S 9 i.toNat)), some (zi (i + 1)), some (zi (n - 1))]) h dX11_turns_98 (Nat.le_of_ble_eq_true rfl) rfl rfl ?_
            have J100 : ∀ (N : Nat) (kp lo hi : Int) (S1 : SS) (h1 : lo + hi = n + i) (h2 : i + 1 ≤ lo) (h3 : hi ≤ n - 1) (hF : ∀ x y, x ≠ 9 → S1 x y = S x y) (hC : RV S1 n i j lo hi f) , (hi + 1).toNat = N → zG x LM 100 [some (zr 0), some (zi n), some (zi i), some (zi j), some (zi kp), some (zi lo), some (zi hi)] ([] : List zV) S1 := by
              intro N
              induction N using Nat.strongRecOn with
              | _ N ih100 => ?_
              intro kp lo hi S1 h1 h2 h3 hF hC hN100
              refine z_iload (pc := 100) h dX11_turns_100 rfl ?_
              refine z_iload (pc := 102) h dX11_turns_102 rfl ?_
              refine z_icmp_ge (pc := 104) (tgt := 148) h dX11_turns_104 (by decide) ⟨by omega, by omega⟩ ⟨by omega, by omega⟩ (fun hc104 => ?_) (fun hc104 => ?_)
              ·
                refine z_iconst (pc := 148) h dX11_turns_148 ?_
                exact z_zret (pc := 149) h dX11_turns_149 rfl (by decide) (Or.inr ⟨by omega, rfl, hF, fun k hk => by rw [hIe, hJe]; exact RV_e hC (by omega) (by omega) h1 (by omega) k hk⟩)
              ·
                refine z_aload_n (pc := 107) h dX11_turns_107 rfl ?_
                refine z_getR (a := 9) (pc := 108) h dX11_turns_108 clX11 lkX11_34 (by decide) rfl rfl ?_
                refine z_iload (pc := 111) h dX11_turns_111 rfl ?_
                refine z_iald (pc := 113) h dX11_turns_113 rfl (by decide) (by omega) (by omega) ?_
                refine z_istore (pc := 114) (loc' := [some (zr 0), some (zi n), some (zi i), some (zi j), some (zi (S1 9 lo.toNat)), some (zi lo), some (zi hi)]) h dX11_turns_114 (Nat.le_of_ble_eq_true rfl) rfl rfl ?_
                refine z_aload_n (pc := 116) h dX11_turns_116 rfl ?_
                refine z_getR (a := 9) (pc := 117) h dX11_turns_117 clX11 lkX11_34 (by decide) rfl rfl ?_
                refine z_iload (pc := 120) h dX11_turns_120 rfl ?_
                refine z_aload_n (pc := 122) h dX11_turns_122 rfl ?_
                refine z_getR (a := 9) (pc := 123) h dX11_turns_123 clX11 lkX11_34 (by decide) rfl rfl ?_
                refine z_iload (pc := 126) h dX11_turns_126 rfl ?_
                refine z_iald (pc := 128) h dX11_turns_128 rfl (by decide) (by omega) (by omega) ?_
                refine z_iast (pc := 129) h dX11_turns_129 rfl (by decide) (by omega) (by omega) ?_
                refine z_aload_n (pc := 130) h dX11_turns_130 rfl ?_
                refine z_getR (a := 9) (pc := 131) h dX11_turns_131 clX11 lkX11_34 (by decide) rfl rfl ?_
                refine z_iload (pc := 134) h dX11_turns_134 rfl ?_
                refine z_iload (pc := 136) h dX11_turns_136 rfl ?_
                refine z_iast (pc := 138) h dX11_turns_138 rfl (by decide) (by omega) (by omega) ?_
                refine z_iinc (pc := 139) (loc' := [some (zr 0), some (zi n), some (zi i), some (zi j), some (zi (S1 9 lo.toNat)), some (zi (lo + 1)), some (zi hi)]) h dX11_turns_139 rfl (Nat.le_of_ble_eq_true rfl) rfl rfl ?_
                refine z_iinc (pc := 142) (loc' := [some (zr 0), some (zi n), some (zi i), some (zi j), some (zi (S1 9 lo.toNat)), some (zi (lo + 1)), some (zi (hi + (-1)))]) h dX11_turns_142 rfl (Nat.le_of_ble_eq_true rfl) rfl rfl ?_
                refine z_goto (pc := 145) (tgt := 100) h dX11_turns_145 (by decide) ?_
                exact ih100 _ (by omega) (S1 9 lo.toNat) (lo + 1) (hi + (-1)) (up2 (up2 S1 9 lo.toNat (S1 9 hi.toNat)) 9 hi.toNat (S1 9 lo.toNat)) (by omega) (by omega) (by omega) (fun x y q => by rw [up2_k _ _ q, up2_k _ _ q]; exact hF x y q) (RV_s hC (by omega) h1 h2 h3 (by omega)) rfl
            exact J100 _ (S 9 i.toNat) (i + 1) (n - 1) (up2 (up2 S 9 i.toNat (S 9 j.toNat)) 9 j.toNat (S 9 i.toNat)) (by omega) (by omega) (by omega) (fun x y q => by rw [up2_k _ _ q, up2_k _ _ q]) (RV_0 hf (by omega) (by omega)) rfl
          ·
            refine z_iinc (pc := 56) (loc' := [some (zr 0), some (zi n), some (zi i), some (zi (j + (-1))), none, none, none]) h dX11_turns_56 rfl (Nat.le_of_ble_eq_true rfl) rfl rfl ?_
            refine z_goto (pc := 59) (tgt := 41) h dX11_turns_59 (by decide) ?_
            exact ih41 _ (by omega) (j + (-1)) (by refine ⟨?_, by omega⟩; rcases (show j = i + 1 ∨ i + 2 ≤ j by omega) with q | q; (subst q; omega); omega) (by rw [nxJ_s f _ (by omega), if_pos (by omega)] at hJ; exact hJ) rfl
        exact J41 _ (n - 1) (by omega) (by congr 1; omega) rfl
      ·
        refine z_iconst (pc := 35) h dX11_turns_35 ?_
        refine z_zret (pc := 36) h dX11_turns_36 rfl (by decide) ?_
        first
          | exact Or.inl ⟨by rw [← hI, show i.toNat = 0 by omega]; rfl, rfl, rfl⟩
          | omega
    ·
      have f1 := hf i.toNat (by omega)
      have f2 := hf (i + 1).toNat (by omega)
      have u1 := hb i.toNat
      have u2 := hb (i + 1).toNat
      refine z_aload_n (pc := 8) h dX11_turns_8 rfl ?_
      refine z_getR (a := 9) (pc := 9) h dX11_turns_9 clX11 lkX11_34 (by decide) rfl rfl ?_
      refine z_iload_n (pc := 12) h dX11_turns_12 rfl ?_
      refine z_iald (pc := 13) h dX11_turns_13 rfl (by decide) (by omega) (by omega) ?_
      refine z_aload_n (pc := 14) h dX11_turns_14 rfl ?_
      refine z_getR (a := 9) (pc := 15) h dX11_turns_15 clX11 lkX11_34 (by decide) rfl rfl ?_
      refine z_iload_n (pc := 18) h dX11_turns_18 rfl ?_
      refine z_iconst (pc := 19) h dX11_turns_19 ?_
      refine z_iadd (pc := 20) h dX11_turns_20 ?_
      refine z_iald (pc := 21) h dX11_turns_21 rfl (by decide) (by omega) (by omega) ?_
      refine z_icmp_le (pc := 22) (tgt := 31) h dX11_turns_22 (by decide) ⟨by omega, by omega⟩ ⟨by omega, by omega⟩ (fun hc22 => ?_) (fun hc22 => ?_)
      ·
        refine z_iload_n (pc := 31) h dX11_turns_31 rfl ?_
        refine z_if_gt (pc := 32) (tgt := 37) h dX11_turns_32 (by decide) ⟨by omega, by omega⟩ (fun hc32 => ?_) (fun hc32 => ?_)
        ·
          have hIe : nxI f (n.toNat - 2) = i.toNat := by rw [nxI_s f (by omega), if_neg (by omega)] at hI; exact hI.symm
          refine z_iload_n (pc := 37) h dX11_turns_37 rfl ?_
          refine z_iconst (pc := 38) h dX11_turns_38 ?_
          refine z_isub (pc := 39) h dX11_turns_39 ?_
          refine z_istore_n (pc := 40) (loc' := [some (zr 0), some (zi n), some (zi i), some (zi (n - 1)), none, none, none]) h dX11_turns_40 rfl (Nat.le_of_ble_eq_true rfl) rfl rfl ?_
          have J41 : ∀ (N : Nat) (j : Int) (hj : i + 1 ≤ j ∧ j ≤ n - 1) (hJ : nxJ f (f i.toNat) j.toNat = nxJ f (f i.toNat) (n.toNat - 1)) , j.toNat = N → zG x LM 41 [some (zr 0), some (zi n), some (zi i), some (zi j), none, none, none] ([] : List zV) S := by
            intro N
            induction N using Nat.strongRecOn with
            | _ N ih41 => ?_
            intro j hj hJ hN41
            have g1 := hf i.toNat (by omega)
            have g2 := hf j.toNat (by omega)
            have v1 := hb i.toNat
            have v2 := hb j.toNat
            refine z_aload_n (pc := 41) h dX11_turns_41 rfl ?_
            refine z_getR (a := 9) (pc := 42) h dX11_turns_42 clX11 lkX11_34 (by decide) rfl rfl ?_
            refine z_iload_n (pc := 45) h dX11_turns_45 rfl ?_
            refine z_iald (pc := 46) h dX11_turns_46 rfl (by decide) (by omega) (by omega) ?_
            refine z_aload_n (pc := 47) h dX11_turns_47 rfl ?_
            refine z_getR (a := 9) (pc := 48) h dX11_turns_48 clX11 lkX11_34 (by decide) rfl rfl ?_
            refine z_iload_n (pc := 51) h dX11_turns_51 rfl ?_
            refine z_iald (pc := 52) h dX11_turns_52 rfl (by decide) (by omega) (by omega) ?_
            refine z_icmp_ge (pc := 53) (tgt := 62) h dX11_turns_53 (by decide) ⟨by omega, by omega⟩ ⟨by omega, by omega⟩ (fun hc53 => ?_) (fun hc53 => ?_)
            ·
              have hJe : nxJ f (f i.toNat) (n.toNat - 1) = j.toNat := by rw [nxJ_s f _ (by omega), if_neg (by omega)] at hJ; exact hJ.symm
              refine z_aload_n (pc := 62) h dX11_turns_62 rfl ?_
              refine z_getR (a := 9) (pc := 63) h dX11_turns_63 clX11 lkX11_34 (by decide) rfl rfl ?_
              refine z_iload_n (pc := 66) h dX11_turns_66 rfl ?_
              refine z_iald (pc := 67) h dX11_turns_67 rfl (by decide) (by omega) (by omega) ?_
              refine z_istore (pc := 68) (loc' := [some (zr 0), some (zi n), some (zi i), some (zi j), some (zi (S 9 i.toNat)), none, none]) h dX11_turns_68 (Nat.le_of_ble_eq_true rfl) rfl rfl ?_
              refine z_aload_n (pc := 70) h dX11_turns_70 rfl ?_
              refine z_getR (a := 9) (pc := 71) h dX11_turns_71 clX11 lkX11_34 (by decide) rfl rfl ?_
              refine z_iload_n (pc := 74) h dX11_turns_74 rfl ?_
              refine z_aload_n (pc := 75) h dX11_turns_75 rfl ?_
              refine z_getR (a := 9) (pc := 76) h dX11_turns_76 clX11 lkX11_34 (by decide) rfl rfl ?_
              refine z_iload_n (pc := 79) h dX11_turns_79 rfl ?_
              refine z_iald (pc := 80) h dX11_turns_80 rfl (by decide) (by omega) (by omega) ?_
              refine z_iast (pc := 81) h dX11_turns_81 rfl (by decide) (by omega) (by omega) ?_
              refine z_aload_n (pc := 82) h dX11_turns_82 rfl ?_
              refine z_getR (a := 9) (pc := 83) h dX11_turns_83 clX11 lkX11_34 (by decide) rfl rfl ?_
              refine z_iload_n (pc := 86) h dX11_turns_86 rfl ?_
              refine z_iload (pc := 87) h dX11_turns_87 rfl ?_
              refine z_iast (pc := 89) h dX11_turns_89 rfl (by decide) (by omega) (by omega) ?_
              refine z_iload_n (pc := 90) h dX11_turns_90 rfl ?_
              refine z_iconst (pc := 91) h dX11_turns_91 ?_
              refine z_iadd (pc := 92) h dX11_turns_92 ?_
              refine z_istore (pc := 93) (loc' := [some (zr 0), some (zi n), some (zi i), some (zi j), some (zi (S 9 i.toNat)), some (zi (i + 1)), none]) h dX11_turns_93 (Nat.le_of_ble_eq_true rfl) rfl rfl ?_
              refine z_iload_n (pc := 95) h dX11_turns_95 rfl ?_
              refine z_iconst (pc := 96) h dX11_turns_96 ?_
              refine z_isub (pc := 97) h dX11_turns_97 ?_
              refine z_istore (pc := 98) (loc' := [some (zr 0), some (zi n), some (zi i), some (zi j), some (zi (S 9 i.toNat)), some (zi (i + 1)), some (zi (n - 1))]) h dX11_turns_98 (Nat.le_of_ble_eq_true rfl) rfl rfl ?_
              have J100 : ∀ (N : Nat) (kp lo hi : Int) (S1 : SS) (h1 : lo + hi = n + i) (h2 : i + 1 ≤ lo) (h3 : hi ≤ n - 1) (hF : ∀ x y, x ≠ 9 → S1 x y = S x y) (hC : RV S1 n i j lo hi f) , (hi + 1).toNat = N → zG x LM 100 [some (zr 0), some (zi n), some (zi i), some (zi j), some (zi kp), some (zi lo), some (zi hi)] ([] : List zV) S1 := by
                intro N
                induction N using Nat.strongRecOn with
                | _ N ih100 => ?_
                intro kp lo hi S1 h1 h2 h3 hF hC hN100
                refine z_iload (pc := 100) h dX11_turns_100 rfl ?_
                refine z_iload (pc := 102) h dX11_turns_102 rfl ?_
                refine z_icmp_ge (pc := 104) (tgt := 148) h dX11_turns_104 (by decide) ⟨by omega, by omega⟩ ⟨by omega, by omega⟩ (fun hc104 => ?_) (fun hc104 => ?_)
                ·
                  refine z_iconst (pc := 148) h dX11_turns_148 ?_
                  exact z_zret (pc := 149) h dX11_turns_149 rfl (by decide) (Or.inr ⟨by omega, rfl, hF, fun k hk => by rw [hIe, hJe]; exact RV_e hC (by omega) (by omega) h1 (by omega) k hk⟩)
                ·
                  refine z_aload_n (pc := 107) h dX11_turns_107 rfl ?_
                  refine z_getR (a := 9) (pc := 108) h dX11_turns_108 clX11 lkX11_34 (by decide) rfl rfl ?_
                  refine z_iload (pc := 111) h dX11_turns_111 rfl ?_
                  refine z_iald (pc := 113) h dX11_turns_113 rfl (by decide) (by omega) (by omega) ?_
                  refine z_istore (pc := 114) (loc' := [some (zr 0), some (zi n), some (zi i), some (zi j), some (zi (S1 9 lo.toNat)), some (zi lo), some (zi hi)]) h dX11_turns_114 (Nat.le_of_ble_eq_true rfl) rfl rfl ?_
                  refine z_aload_n (pc := 116) h dX11_turns_116 rfl ?_
                  refine z_getR (a := 9) (pc := 117) h dX11_turns_117 clX11 lkX11_34 (by decide) rfl rfl ?_
                  refine z_iload (pc := 120) h dX11_turns_120 rfl ?_
                  refine z_aload_n (pc := 122) h dX11_turns_122 rfl ?_
                  refine z_getR (a := 9) (pc := 123) h dX11_turns_123 clX11 lkX11_34 (by decide) rfl rfl ?_
                  refine z_iload (pc := 126) h dX11_turns_126 rfl ?_
                  refine z_iald (pc := 128) h dX11_turns_128 rfl (by decide) (by omega) (by omega) ?_
                  refine z_iast (pc := 129) h dX11_turns_129 rfl (by decide) (by omega) (by omega) ?_
                  refine z_aload_n (pc := 130) h dX11_turns_130 rfl ?_
                  refine z_getR (a := 9) (pc := 131) h dX11_turns_131 clX11 lkX11_34 (by decide) rfl rfl ?_
                  refine z_iload (pc := 134) h dX11_turns_134 rfl ?_
                  refine z_iload (pc := 136) h dX11_turns_136 rfl ?_
                  refine z_iast (pc := 138) h dX11_turns_138 rfl (by decide) (by omega) (by omega) ?_
                  refine z_iinc (pc := 139) (loc' := [some (zr 0), some (zi n), some (zi i), some (zi j), some (zi (S1 9 lo.toNat)), some (zi (lo + 1)), some (zi hi)]) h dX11_turns_139 rfl (Nat.le_of_ble_eq_true rfl) rfl rfl ?_
                  refine z_iinc (pc := 142) (loc' := [some (zr 0), some (zi n), some (zi i), some (zi j), some (zi (S1 9 lo.toNat)), some (zi (lo + 1)), some (zi (hi + (-1)))]) h dX11_turns_142 rfl (Nat.le_of_ble_eq_true rfl) rfl rfl ?_
                  refine z_goto (pc := 145) (tgt := 100) h dX11_turns_145 (by decide) ?_
                  exact ih100 _ (by omega) (S1 9 lo.toNat) (lo + 1) (hi + (-1)) (up2 (up2 S1 9 lo.toNat (S1 9 hi.toNat)) 9 hi.toNat (S1 9 lo.toNat)) (by omega) (by omega) (by omega) (fun x y q => by rw [up2_k _ _ q, up2_k _ _ q]; exact hF x y q) (RV_s hC (by omega) h1 h2 h3 (by omega)) rfl
              exact J100 _ (S 9 i.toNat) (i + 1) (n - 1) (up2 (up2 S 9 i.toNat (S 9 j.toNat)) 9 j.toNat (S 9 i.toNat)) (by omega) (by omega) (by omega) (fun x y q => by rw [up2_k _ _ q, up2_k _ _ q]) (RV_0 hf (by omega) (by omega)) rfl
            ·
              refine z_iinc (pc := 56) (loc' := [some (zr 0), some (zi n), some (zi i), some (zi (j + (-1))), none, none, none]) h dX11_turns_56 rfl (Nat.le_of_ble_eq_true rfl) rfl rfl ?_
              refine z_goto (pc := 59) (tgt := 41) h dX11_turns_59 (by decide) ?_
              exact ih41 _ (by omega) (j + (-1)) (by refine ⟨?_, by omega⟩; rcases (show j = i + 1 ∨ i + 2 ≤ j by omega) with q | q; (subst q; omega); omega) (by rw [nxJ_s f _ (by omega), if_pos (by omega)] at hJ; exact hJ) rfl
          exact J41 _ (n - 1) (by omega) (by congr 1; omega) rfl
        ·
          refine z_iconst (pc := 35) h dX11_turns_35 ?_
          refine z_zret (pc := 36) h dX11_turns_36 rfl (by decide) ?_
          first
            | exact Or.inl ⟨by rw [← hI, show i.toNat = 0 by omega]; rfl, rfl, rfl⟩
            | omega
      ·
        refine z_iinc (pc := 25) (loc' := [some (zr 0), some (zi n), some (zi (i + (-1))), none, none, none, none]) h dX11_turns_25 rfl (Nat.le_of_ble_eq_true rfl) rfl rfl ?_
        refine z_goto (pc := 28) (tgt := 4) h dX11_turns_28 (by decide) ?_
        exact ih4 _ (by omega) (i + (-1)) (by omega) (by rw [nxI_s f (by omega), if_pos (by omega)] at hI; exact hI) rfl
  exact J4 _ (n - 2) (by omega) (by congr 1; omega) rfl

def pcF (g : Int) (Q : PL) : Nat → List Nat → Int
  | la, [] => oe g Q la
  | la, d :: ds => stepF g Q la d + pcF g Q d ds
theorem gv_lx (g : Int) (Q : PL) (m : Nat) : ∀ (r tk la : Nat) (x : List Nat), x ∈ lx m r tk → gv (oc g Q) ow (oe g Q) (fun d => d) x tk la = (1, pcF g Q la x, 0, 0, 0, x)
  | 0, tk, la, x, h => by
    have : x = [] := by simpa [lx] using h
    subst this
    rfl
  | r + 1, tk, la, x, h => by
    unfold lx at h
    rw [List.mem_flatMap] at h
    obtain ⟨d, hd, hx⟩ := h
    split at hx
    · cases hx
    · next hb =>
      rw [List.mem_map] at hx
      obtain ⟨y, hy, rfl⟩ := hx
      unfold gv
      rw [if_neg hb, gv_lx g Q m r (tk ||| 2 ^ d) d y hy, tS_1 (show (1 : Int) ≠ 0 by decide)]
      rfl
/-- steps along a row -/
def sR (g : Int) (Q : PL) (f : Nat → Nat) : Nat → Int
  | 0 => 0
  | k + 1 => sR g Q f k + stepF g Q (f k) (f (k + 1))
theorem sR_f (g : Int) (Q : PL) (f : Nat → Nat) : ∀ k : Nat, sR g Q f (k + 1) = stepF g Q (f 0) (f 1) + sR g Q (fun i => f (i + 1)) k
  | 0 => by unfold sR sR; omega
  | k + 1 => by
    have h := sR_f g Q f k
    show sR g Q f (k + 1) + stepF g Q (f (k + 1)) (f (k + 2)) = stepF g Q (f 0) (f 1) + (sR g Q (fun i => f (i + 1)) k + stepF g Q (f (k + 1)) (f (k + 1 + 1)))
    omega
theorem sR_pc (g : Int) (Q : PL) : ∀ (x : List Nat) (la : Nat), sR g Q (fun k => (la :: x).getD k 0) x.length + stepF g Q (((la :: x).getD x.length 0 : Nat) : Int) 0 = pcF g Q la x
  | [], la => by
    show 0 + stepF g Q (la : Int) 0 = oe g Q la
    rw [Int.zero_add]
    rfl
  | d :: ds, la => by
    have h := sR_pc g Q ds d
    rw [List.length_cons, sR_f]
    show stepF g Q (la : Int) (d : Int) + sR g Q (fun i => (d :: ds).getD i 0) ds.length + stepF g Q (((d :: ds).getD ds.length 0 : Nat) : Int) 0 = stepF g Q (la : Int) (d : Int) + pcF g Q d ds
    omega
/-- after k steps round -/
def rdS (g : Int) (Q : PL) (x : List Nat) (n k : Nat) : Int := if k < n then sR g Q (fx x) k else pcF g Q 0 x
theorem rdS_s {g : Int} {Q : PL} {x : List Nat} {n : Nat} {k : Int} (hx : x.length + 1 = n) (hk : 0 ≤ k ∧ k < n) : rdS g Q x n (k + 1).toNat = rdS g Q x n k.toNat + stepF g Q (fx x k.toNat : Nat) (fx x ((k + 1) % n).toNat : Nat) := by
  unfold rdS
  rw [if_pos (show k.toNat < n by omega)]
  by_cases h : (k + 1).toNat < n
  · rw [if_pos h, show (k + 1).toNat = k.toNat + 1 by omega, show ((k + 1) % (n : Int)).toNat = k.toNat + 1 by rw [Int.emod_eq_of_lt (by omega) (by omega)]; omega]
    rfl
  · rw [if_neg h, show ((k + 1) % (n : Int)) = 0 by rw [show k + 1 = (n : Int) by omega, Int.emod_self], ← sR_pc g Q x 0, show k.toNat = x.length by omega]
    rfl
theorem rdS_b {g : Int} {Q : PL} (hg : 0 ≤ g ∧ g ≤ 9) (hQ : okP Q) (x : List Nat) : 0 ≤ pcF g Q 0 x ∧ pcF g Q 0 x ≤ 36 * (x.length + 1) := by
  have h1 : ∀ k : Nat, 0 ≤ sR g Q (fx x) k ∧ sR g Q (fx x) k ≤ 36 * k := fun k => by
    induction k with
    | zero => exact ⟨Int.le_refl _, Int.le_refl _⟩
    | succ k ih =>
      have h2 := stepF_b hg hQ (fx x k : Nat) (fx x (k + 1) : Nat)
      unfold sR
      omega
  have h2 := h1 x.length
  have h3 := stepF_b hg hQ (((0 :: x).getD x.length 0 : Nat) : Int) 0
  have h4 := sR_pc g Q x 0
  have h5 : sR g Q (fun k => (0 :: x).getD k 0) x.length = sR g Q (fx x) x.length := rfl
  omega
theorem okL_0 {n : Nat} {x : List Nat} {xs : List (List Nat)} (h : okL n (x :: xs) = true) (h0 : nxI (fx x) (n - 2) = 0) : xs = [] := by
  cases xs with
  | nil => rfl
  | cons y r =>
    unfold okL at h
    rw [Bool.and_eq_true] at h
    have h1 := h.1
    unfold okN at h1
    rw [Bool.and_eq_true, h0] at h1
    exact absurd h1.1 (by decide)
theorem okL_1 {n : Nat} {x : List Nat} {xs : List (List Nat)} (h : okL n (x :: xs) = true) (h0 : 0 < nxI (fx x) (n - 2)) : ∃ y r, xs = y :: r ∧ okL n xs = true ∧ ∀ k, k < n → nxF n (fx x) (nxI (fx x) (n - 2)) (nxJ (fx x) (fx x (nxI (fx x) (n - 2))) (n - 1)) k = fx y k := by
  cases xs with
  | nil =>
    unfold okL at h
    have := Nat.eq_of_beq_eq_true h
    omega
  | cons y r =>
    unfold okL at h
    rw [Bool.and_eq_true] at h
    have h1 := h.1
    unfold okN at h1
    rw [Bool.and_eq_true, List.all_eq_true] at h1
    exact ⟨y, r, rfl, h.2, fun k hk => Nat.eq_of_beq_eq_true (h1.2 k (List.mem_range.mpr hk))⟩
theorem okH_0 {n : Nat} {l : List (List Nat)} (h : okH n l = true) : ∃ x xs, l = x :: xs ∧ ∀ k, k < n → fx x k = k := by
  cases l with
  | nil => cases h
  | cons x xs =>
    unfold okH at h
    rw [List.all_eq_true] at h
    exact ⟨x, xs, rfl, fun k hk => Nat.eq_of_beq_eq_true (h k (List.mem_range.mpr hk))⟩
theorem tC_2 (x y : TS) : (tC x y).2.1 = x.2.1 ∨ (tC x y).2.1 = y.2.1 := by
  by_cases h1 : y.1 = 0
  · rw [tC_0 h1]; exact Or.inl rfl
  · by_cases h2 : x.1 = 0
    · rw [tC_1 h1 h2]; exact Or.inr rfl
    · rcases tC_c h2 h1 with ⟨-, h⟩ | ⟨-, h⟩ | ⟨-, h⟩ <;> rw [h]
      · exact Or.inr rfl
      · exact Or.inl rfl
      · exact Or.inl rfl
def accP (n : Int) (S1 : SS) (x : TS) : Prop := (x.1 = 0 ∧ S1 0 10 = 1000000 ∧ S1 0 11 = 0) ∨ (0 < x.1 ∧ S1 0 10 = x.2.1 ∧ S1 0 11 = x.1 ∧ ∀ k : Nat, (k : Int) < n → S1 10 k = ((fx x.2.2.2.2.2 k : Nat) : Int))
theorem accP_lt {n s : Int} {S1 S2 : SS} {x : TS} {ds : List Nat} (h : accP n S1 x) (hs : s < S1 0 10) (h1 : S2 0 10 = s) (h2 : S2 0 11 = 1) (h3 : ∀ k : Nat, (k : Int) < n → S2 10 k = ((fx ds k : Nat) : Int)) : accP n S2 (tC x (1, s, 0, 0, 0, ds)) := by
  have e : tC x (1, s, 0, 0, 0, ds) = (1, s, 0, 0, 0, ds) := by
    rcases h with ⟨q, -⟩ | ⟨q, q1, -⟩
    · exact tC_1 (show (1 : Int) ≠ 0 by decide) q
    · exact tC_lt (show (1 : Int) ≠ 0 by decide) (show s < x.2.1 by omega)
  rw [e]
  exact Or.inr ⟨by show (0 : Int) < 1; decide, h1, h2, h3⟩
theorem accP_eq {n s : Int} {S1 S2 : SS} {x : TS} {ds : List Nat} (h : accP n S1 x) (hf : s < 1000000) (hs : s = S1 0 10) (h1 : S2 0 10 = S1 0 10) (h2 : S2 0 11 = S1 0 11 + 1) (h3 : ∀ k : Nat, S2 10 k = S1 10 k) : accP n S2 (tC x (1, s, 0, 0, 0, ds)) := by
  rcases h with ⟨q, q1, -⟩ | ⟨q, q1, q2, q3⟩
  · omega
  · rw [tC_eq (show x.1 ≠ 0 by omega) (show (1 : Int) ≠ 0 by decide) (show s = x.2.1 by omega)]
    exact Or.inr ⟨by show 0 < x.1 + 1; omega, by rw [h1]; exact q1, by show S2 0 11 = x.1 + 1; omega, fun k hk => by rw [h3]; exact q3 k hk⟩
theorem accP_gt {n s : Int} {S1 S2 : SS} {x : TS} {ds : List Nat} (h : accP n S1 x) (hf : s < 1000000) (hs : S1 0 10 < s) (h1 : S2 0 10 = S1 0 10) (h2 : S2 0 11 = S1 0 11) (h3 : ∀ k : Nat, S2 10 k = S1 10 k) : accP n S2 (tC x (1, s, 0, 0, 0, ds)) := by
  rcases h with ⟨q, q1, -⟩ | ⟨q, q1, q2, q3⟩
  · omega
  · rw [tC_gt (show x.1 ≠ 0 by omega) (show x.2.1 < s by omega)]
    exact Or.inr ⟨q, by rw [h1]; exact q1, by omega, fun k hk => by rw [h3]; exact q3 k hk⟩
theorem accP_n {n : Int} {S1 : SS} {x : TS} (h : accP n S1 x) (hb : 0 ≤ x.2.1 ∧ x.2.1 ≤ 1000) : 0 ≤ S1 0 10 ∧ S1 0 10 ≤ 1000000 := by
  rcases h with ⟨q, q1, -⟩ | ⟨q, q1, q2, q3⟩ <;> omega

set_option maxRecDepth 100000 in
set_option maxHeartbeats 4000000 in
theorem m_X11_puts (a : Int) (A S : SS) (ha : isS a) (hR : mRel S A) (hm : MI A) : zM LM yX11_puts cX11_puts 6 (some .int) 3 69 [zr 0, zi a] S (fun r S' => r = some (zi (if (mA A a) = 0 then -3 else if 8 < (mA A a) then -4 else 0)) ∧ mRel S' A ∧ prsM S' A a ∧ (1 ≤ (mA A a) → (mA A a) ≤ 8 → accP (mA A a) S' (oT (A 5 0) (qA A a) (mA A a).toNat) ∧ 0 < (oT (A 5 0) (qA A a) (mA A a).toNat).1)) := by
  refine zM_of (own := RX11) rfl (by decide +kernel) [some (zr 0), some (zi a), none, none, none, none] (Nat.le_of_ble_eq_true rfl) rfl ?_
  intro x h
  have hb := mA_b hm ha
  have hg := mi_g hm
  have hQ := qA_b hm ha
  refine z_aload_n (pc := 0) h dX11_puts_0 rfl ?_
  refine z_iload_n (pc := 1) h dX11_puts_1 rfl ?_
  refine z_callV (pc := 2) (rest := ([] : List zV)) h (m_X11_pictures a _ S (by first | assumption | omega) (by first | assumption | omega) (by first | assumption | omega)) dX11_puts_2 mcX11_pictures miX11_pictures mlX11_89 rfl rfl ⟨by decide, by decide⟩ clX11 rfl rfl rfl (Nat.le_of_ble_eq_true rfl) ?_
  rintro _ S2 ⟨rfl, hr2E, hr2R, hr2P⟩
  show zG x LM 5 [some (zr 0), some (zi a), none, none, none, none] [zi (mA A a)] S2
  refine z_istore_n (pc := 5) (loc' := [some (zr 0), some (zi a), some (zi (mA A a)), none, none, none]) h dX11_puts_5 rfl (Nat.le_of_ble_eq_true rfl) rfl rfl ?_
  refine z_iload_n (pc := 6) h dX11_puts_6 rfl ?_
  refine z_if_ne (pc := 7) (tgt := 13) h dX11_puts_7 (by decide) ⟨by omega, by omega⟩ (fun hc7 => ?_) (fun hc7 => ?_)
  ·
    refine z_iload_n (pc := 13) h dX11_puts_13 rfl ?_
    refine z_bipush (pc := 14) h dX11_puts_14 rfl ?_
    refine z_icmp_le (pc := 16) (tgt := 22) h dX11_puts_16 (by decide) ⟨by omega, by omega⟩ ⟨by decide, by decide⟩ (fun hc16 => ?_) (fun hc16 => ?_)
    ·
      obtain ⟨n, hnn⟩ : ∃ n : Nat, (mA A a) = (n : Int) := ⟨(mA A a).toNat, by omega⟩
      have hnt : (mA A a).toNat = n := by omega
      have hn8 : 1 ≤ n ∧ n ≤ 8 := by omega
      obtain ⟨hk1, hk2⟩ := ok_all hn8
      obtain ⟨x0, xs0, hx0, hxi⟩ := okH_0 hk2
      have hmem := lx_mem n (n - 1) 1
      have hTT : tK (fun x => gv (oc (A 5 0) (qA A a)) ow (oe (A 5 0) (qA A a)) (fun d => d) x 1 0) (lx n (n - 1) 1) tE = oT (A 5 0) (qA A a) n := lx_R n (oc (A 5 0) (qA A a)) ow (oe (A 5 0) (qA A a)) (fun d => d) (n - 1) 1 0
      refine z_iconst (pc := 22) h dX11_puts_22 ?_
      refine z_istore_n (pc := 23) (loc' := [some (zr 0), some (zi a), some (zi (mA A a)), some (zi 0), none, none]) h dX11_puts_23 rfl (Nat.le_of_ble_eq_true rfl) rfl rfl ?_
      have J24 : ∀ (N : Nat) (k : Int) (S1 : SS) (hk : 0 ≤ k ∧ k ≤ n) (hE : ∀ x y, x ≠ 9 → S1 x y = S2 x y) (h9 : ∀ j : Nat, (j : Int) < k → S1 9 j = j) , ((n : Int) - k).toNat = N → zG x LM 24 [some (zr 0), some (zi a), some (zi (mA A a)), some (zi k), none, none] ([] : List zV) S1 := by
        intro N
        induction N using Nat.strongRecOn with
        | _ N ih24 => ?_
        intro k S1 hk hE h9 hN24
        refine z_iload_n (pc := 24) h dX11_puts_24 rfl ?_
        refine z_iload_n (pc := 25) h dX11_puts_25 rfl ?_
        refine z_icmp_ge (pc := 26) (tgt := 42) h dX11_puts_26 (by decide) ⟨by omega, by omega⟩ ⟨by omega, by omega⟩ (fun hc26 => ?_) (fun hc26 => ?_)
        ·
          refine z_aload_n (pc := 42) h dX11_puts_42 rfl ?_
          refine z_ldc (pc := 43) (a := 1000000) h kcX11_141 dX11_puts_43 (by decide) ?_
          refine z_putI (pc := 45) h dX11_puts_45 clX11 lkX11_142 (by decide) rfl rfl rfl rfl ?_
          refine z_aload_n (pc := 48) h dX11_puts_48 rfl ?_
          refine z_iconst (pc := 49) h dX11_puts_49 ?_
          refine z_putI (pc := 50) h dX11_puts_50 clX11 lkX11_146 (by decide) rfl rfl rfl rfl ?_
          refine z_iconst (pc := 53) h dX11_puts_53 ?_
          refine z_istore_n (pc := 54) (loc' := [some (zr 0), some (zi a), some (zi (mA A a)), some (zi 1), none, none]) h dX11_puts_54 rfl (Nat.le_of_ble_eq_true rfl) rfl rfl ?_
          have J55 : ∀ (N : Nat) (b : Int) (ls : List (List Nat)) (acc : TS) (S1 : SS) (hb1 : (b = 0 ∧ ls = []) ∨ (b = 1 ∧ ls ≠ [])) (hlk : ls ≠ [] → okL n ls = true) (hsub : ∀ y ∈ ls, y ∈ lx n (n - 1) 1) (hrw : ls ≠ [] → ∀ k : Nat, (k : Int) < n → S1 9 k = ((fx (ls.headD []) k : Nat) : Int)) (hT : tK (fun x => gv (oc (A 5 0) (qA A a)) ow (oe (A 5 0) (qA A a)) (fun d => d) x 1 0) ls acc = oT (A 5 0) (qA A a) n) (hacc : accP n S1 acc) (hab : 0 ≤ acc.2.1 ∧ acc.2.1 ≤ 1000) (hE : ∀ x y, x ≠ 9 → x ≠ 10 → ¬ (x = 0 ∧ (y = 10 ∨ y = 11)) → S1 x y = S2 x y) , ls.length = N → zG x LM 55 [some (zr 0), some (zi a), some (zi (mA A a)), some (zi b), none, none] ([] : List zV) S1 := by
            intro N
            induction N using Nat.strongRecOn with
            | _ N ih55 => ?_
            intro b ls acc S1 hb1 hlk hsub hrw hT hacc hab hE hN55
            refine z_iload_n (pc := 55) h dX11_puts_55 rfl ?_
            refine z_if_eq (pc := 56) (tgt := 186) h dX11_puts_56 (by decide) ⟨by omega, by omega⟩ (fun hc56 => ?_) (fun hc56 => ?_)
            ·
              refine z_iconst (pc := 186) h dX11_puts_186 ?_
              refine z_iret (pc := 187) h dX11_puts_187 rfl ?_
              have hl0 : ls = [] := by rcases hb1 with ⟨-, q⟩ | ⟨q, -⟩; exact q; omega
              rw [hl0] at hT
              have hTe : acc = oT (A 5 0) (qA A a) n := hT
              rw [hTe] at hacc
              exact ⟨ap_some (by rw [if_neg (by omega), if_neg (by omega)]), mr_e hr2R (fun k j a1 a2 a3 a4 a5 a6 => hE k j a3 a4 (by omega)) (fun j => by rw [hE _ _ (by decide) (by decide) (by decide)]; exact hr2R.2 j), ⟨by rw [hE _ _ (by decide) (by decide) (by decide)]; exact hr2P.1, fun p q x1 x2 y1 y2 => by rw [hE _ _ (by decide) (by decide) (by decide)]; exact hr2P.2 p q x1 x2 y1 y2⟩, fun _ _ => by rw [hnt, hnn]; exact ⟨hacc, tR_pos n (oc (A 5 0) (qA A a)) ow (oe (A 5 0) (qA A a)) (fun d => d) (n - 1) 1 0 (by rw [popk_one hn8.1]; omega)⟩⟩
            ·
              obtain ⟨x, xs, hls⟩ : ∃ x xs, ls = x :: xs := by rcases hb1 with ⟨q, -⟩ | ⟨-, q⟩; omega; exact List.exists_cons_of_ne_nil q
              have hxm : x ∈ lx n (n - 1) 1 := hsub x (by rw [hls]; exact List.mem_cons_self)
              have hxl := hmem x hxm
              have hxn : x.length + 1 = n := by omega
              have hfl := fx_lt (n := n) (x := x) ⟨hxn, hxl.2⟩
              have hrow : ∀ k : Nat, (k : Int) < n → S1 9 k = ((fx x k : Nat) : Int) := fun k hk => by have h9 := hrw (by rw [hls]; exact List.cons_ne_nil _ _) k hk; rw [hls] at h9; exact h9
              have hlx : okL n (x :: xs) = true := by rw [← hls]; exact hlk (by rw [hls]; exact List.cons_ne_nil _ _)
              have hgx : (fun x => gv (oc (A 5 0) (qA A a)) ow (oe (A 5 0) (qA A a)) (fun d => d) x 1 0) x = (1, (pcF (A 5 0) (qA A a) 0 x), 0, 0, 0, x) := gv_lx (A 5 0) (qA A a) n (n - 1) 1 0 x hxm
              have hpb := rdS_b hg hQ x
              have hRm : mRel S1 A := mr_e hr2R (fun k j a1 a2 a3 a4 a5 a6 => hE k j a3 a4 (by omega)) (fun j => by rw [hE _ _ (by decide) (by decide) (by decide)]; exact hr2R.2 j)
              have hRP : prsM S1 A a := ⟨by rw [hE _ _ (by decide) (by decide) (by decide)]; exact hr2P.1, fun p q x1 x2 y1 y2 => by rw [hE _ _ (by decide) (by decide) (by decide)]; exact hr2P.2 p q x1 x2 y1 y2⟩
              have haccb := accP_n hacc hab
              have hf5 : ∀ k, fx x k < 8 := fun k => by have := hfl k; omega
              have htc := tC_2 acc (1, (pcF (A 5 0) (qA A a) 0 x), 0, 0, 0, x)
              have htd : ((1, (pcF (A 5 0) (qA A a) 0 x), 0, 0, 0, x) : TS).2.1 = (pcF (A 5 0) (qA A a) 0 x) := rfl
              refine z_iconst (pc := 59) h dX11_puts_59 ?_
              refine z_istore (pc := 60) (loc' := [some (zr 0), some (zi a), some (zi (mA A a)), some (zi b), some (zi 0), none]) h dX11_puts_60 (Nat.le_of_ble_eq_true rfl) rfl rfl ?_
              refine z_iconst (pc := 62) h dX11_puts_62 ?_
              refine z_istore (pc := 63) (loc' := [some (zr 0), some (zi a), some (zi (mA A a)), some (zi b), some (zi 0), some (zi 0)]) h dX11_puts_63 (Nat.le_of_ble_eq_true rfl) rfl rfl ?_
              have J65 : ∀ (N : Nat) (sm z : Int) (hz : 0 ≤ z ∧ z ≤ n) (hsum : sm = rdS (A 5 0) (qA A a) x n z.toNat) , ((n : Int) - z).toNat = N → zG x LM 65 [some (zr 0), some (zi a), some (zi (mA A a)), some (zi b), some (zi sm), some (zi z)] ([] : List zV) S1 := by
                intro N
                induction N using Nat.strongRecOn with
                | _ N ih65 => ?_
                intro sm z hz hsum hN65
                refine z_iload (pc := 65) h dX11_puts_65 rfl ?_
                refine z_iload_n (pc := 67) h dX11_puts_67 rfl ?_
                refine z_icmp_ge (pc := 68) (tgt := 105) h dX11_puts_68 (by decide) ⟨by omega, by omega⟩ ⟨by omega, by omega⟩ (fun hc68 => ?_) (fun hc68 => ?_)
                ·
                  have J177 : ∀ (S5 : SS) (hA5 : accP n S5 (tC acc (1, (pcF (A 5 0) (qA A a) 0 x), 0, 0, 0, x))) (hr5 : ∀ k : Nat, (k : Int) < n → S5 9 k = ((fx x k : Nat) : Int)) (hE5 : ∀ x y, x ≠ 9 → x ≠ 10 → ¬ (x = 0 ∧ (y = 10 ∨ y = 11)) → S5 x y = S2 x y) , zG x LM 177 [some (zr 0), some (zi a), some (zi (mA A a)), some (zi b), some (zi sm), none] ([] : List zV) S5 := by
                    intro S5 hA5 hr5 hE5
                    refine z_aload_n (pc := 177) h dX11_puts_177 rfl ?_
                    refine z_iload_n (pc := 178) h dX11_puts_178 rfl ?_
                    refine z_callV (pc := 179) (rest := ([] : List zV)) h (m_X11_turns (mA A a) (fx x) S5 (by first | assumption | omega) (fun k hk => hr5 k (by omega)) hf5) dX11_puts_179 mcX11_turns miX11_turns mlX11_178 rfl rfl ⟨by decide, by decide⟩ clX11 rfl rfl rfl (Nat.le_of_ble_eq_true rfl) ?_
                    rintro _ S179 (⟨hr179, rfl, rfl⟩ | ⟨hr179, rfl, hr179f, hr179r⟩)
                    ·
                      show zG x LM 182 [some (zr 0), some (zi a), some (zi (mA A a)), some (zi b), some (zi sm), none] [zi 0] S5
                      refine z_istore_n (pc := 182) (loc' := [some (zr 0), some (zi a), some (zi (mA A a)), some (zi 0), some (zi sm), none]) h dX11_puts_182 rfl (Nat.le_of_ble_eq_true rfl) rfl rfl ?_
                      refine z_goto (pc := 183) (tgt := 55) h dX11_puts_183 (by decide) ?_
                      refine z_forget [true, true, true, true, false, true] (loc' := [some (zr 0), some (zi a), some (zi (mA A a)), some (zi 0), none, none]) rfl ?_
                      exact ih55 _ (by rw [← hN55, hls]; exact Nat.lt_succ_self _) 0 xs (tC acc (1, (pcF (A 5 0) (qA A a) 0 x), 0, 0, 0, x)) S5 (by first | exact Or.inl ⟨rfl, okL_0 hlx (by rw [← hnt]; exact hr179)⟩ | (right; refine ⟨rfl, ?_⟩; obtain ⟨y, r, hy, -⟩ := okL_1 hlx (by rw [← hnt]; exact hr179); rw [hy]; exact List.cons_ne_nil _ _)) (by intro hne; first | exact absurd (okL_0 hlx (by rw [← hnt]; exact hr179)) hne | (obtain ⟨y, r, hy, h2, -⟩ := okL_1 hlx (by rw [← hnt]; exact hr179); exact h2)) (fun y hy => hsub y (by rw [hls]; exact List.mem_cons_of_mem _ hy)) (by intro hne k hk; first | exact absurd (okL_0 hlx (by rw [← hnt]; exact hr179)) hne | (obtain ⟨y, r, hy, -, h3⟩ := okL_1 hlx (by rw [← hnt]; exact hr179); rw [hr179r k (by omega), hy, hnt]; exact congrArg (fun z : Nat => (z : Int)) (h3 k (by omega)))) (by rw [hls] at hT; rw [← hgx]; exact hT) (by first | exact hA5 | (unfold accP at hA5 ⊢; rw [hr179f _ _ (by decide), hr179f _ _ (by decide)]; rcases hA5 with q | ⟨q1, q2, q3, q4⟩; exact Or.inl q; exact Or.inr ⟨q1, q2, q3, fun k hk => by rw [hr179f _ _ (by decide)]; exact q4 k hk⟩)) (by rcases htc with q | q; (rw [q]; exact hab); (rw [q, htd]; omega)) (by first | exact hE5 | (intro x y q1 q2 q3; rw [hr179f x y q1]; exact hE5 x y q1 q2 q3)) rfl
                    ·
                      show zG x LM 182 [some (zr 0), some (zi a), some (zi (mA A a)), some (zi b), some (zi sm), none] [zi 1] S179
                      refine z_istore_n (pc := 182) (loc' := [some (zr 0), some (zi a), some (zi (mA A a)), some (zi 1), some (zi sm), none]) h dX11_puts_182 rfl (Nat.le_of_ble_eq_true rfl) rfl rfl ?_
                      refine z_goto (pc := 183) (tgt := 55) h dX11_puts_183 (by decide) ?_
                      refine z_forget [true, true, true, true, false, true] (loc' := [some (zr 0), some (zi a), some (zi (mA A a)), some (zi 1), none, none]) rfl ?_
                      exact ih55 _ (by rw [← hN55, hls]; exact Nat.lt_succ_self _) 1 xs (tC acc (1, (pcF (A 5 0) (qA A a) 0 x), 0, 0, 0, x)) S179 (by first | exact Or.inl ⟨rfl, okL_0 hlx (by rw [← hnt]; exact hr179)⟩ | (right; refine ⟨rfl, ?_⟩; obtain ⟨y, r, hy, -⟩ := okL_1 hlx (by rw [← hnt]; exact hr179); rw [hy]; exact List.cons_ne_nil _ _)) (by intro hne; first | exact absurd (okL_0 hlx (by rw [← hnt]; exact hr179)) hne | (obtain ⟨y, r, hy, h2, -⟩ := okL_1 hlx (by rw [← hnt]; exact hr179); exact h2)) (fun y hy => hsub y (by rw [hls]; exact List.mem_cons_of_mem _ hy)) (by intro hne k hk; first | exact absurd (okL_0 hlx (by rw [← hnt]; exact hr179)) hne | (obtain ⟨y, r, hy, -, h3⟩ := okL_1 hlx (by rw [← hnt]; exact hr179); rw [hr179r k (by omega), hy, hnt]; exact congrArg (fun z : Nat => (z : Int)) (h3 k (by omega)))) (by rw [hls] at hT; rw [← hgx]; exact hT) (by first | exact hA5 | (unfold accP at hA5 ⊢; rw [hr179f _ _ (by decide), hr179f _ _ (by decide)]; rcases hA5 with q | ⟨q1, q2, q3, q4⟩; exact Or.inl q; exact Or.inr ⟨q1, q2, q3, fun k hk => by rw [hr179f _ _ (by decide)]; exact q4 k hk⟩)) (by rcases htc with q | q; (rw [q]; exact hab); (rw [q, htd]; omega)) (by first | exact hE5 | (intro x y q1 q2 q3; rw [hr179f x y q1]; exact hE5 x y q1 q2 q3)) rfl
                  have hsm : sm = (pcF (A 5 0) (qA A a) 0 x) := by rw [hsum]; unfold rdS; rw [if_neg (by omega)]
                  refine z_iload (pc := 105) h dX11_puts_105 rfl ?_
                  refine z_aload_n (pc := 107) h dX11_puts_107 rfl ?_
                  refine z_getI (pc := 108) h dX11_puts_108 clX11 lkX11_142 (by decide) rfl rfl ?_
                  refine z_icmp_ge (pc := 111) (tgt := 154) h dX11_puts_111 (by decide) ⟨by omega, by omega⟩ ⟨by omega, by omega⟩ (fun hc111 => ?_) (fun hc111 => ?_)
                  ·
                    refine z_aload_n (pc := 154) h dX11_puts_154 rfl ?_
                    refine z_dup (pc := 155) h dX11_puts_155 rfl ?_
                    refine z_getI (pc := 156) h dX11_puts_156 clX11 lkX11_146 (by decide) rfl rfl ?_
                    refine z_iload (pc := 159) h dX11_puts_159 rfl ?_
                    refine z_aload_n (pc := 161) h dX11_puts_161 rfl ?_
                    refine z_getI (pc := 162) h dX11_puts_162 clX11 lkX11_142 (by decide) rfl rfl ?_
                    refine z_icmp_ne (pc := 165) (tgt := 172) h dX11_puts_165 (by decide) ⟨by omega, by omega⟩ ⟨by omega, by omega⟩ (fun hc165 => ?_) (fun hc165 => ?_)
                    ·
                      refine z_iconst (pc := 172) h dX11_puts_172 ?_
                      refine z_iadd (pc := 173) h dX11_puts_173 ?_
                      refine z_putI (pc := 174) h dX11_puts_174 clX11 lkX11_146 (by decide) rfl rfl rfl rfl ?_
                      refine z_forget [true, true, true, true, true, false] (loc' := [some (zr 0), some (zi a), some (zi (mA A a)), some (zi b), some (zi sm), none]) rfl ?_
                      exact J177 (up2 S1 0 11 ((S1 0 11) + 0)) (by first | omega | exact accP_lt hacc (by omega) (by rw [up2_j _ _ (by decide)]; omega) (by rw [up2_s]; omega) (fun k hk => by rw [up2_k _ _ (by decide)]; exact hc3 k (by omega)) | exact accP_eq hacc (by omega) (by omega) (up2_j _ _ (by decide)) (up2_s _ _ _ _) (fun k => up2_k _ _ (by decide)) | exact accP_gt hacc (by omega) (by omega) (up2_j _ _ (by decide)) (by rw [up2_s]; omega) (fun k => up2_k _ _ (by decide))) (by first | omega | exact (fun k hk => by rw [up2_k _ _ (by decide)]; exact hr3 k hk) | exact (fun k hk => by rw [up2_k _ _ (by decide)]; exact hrow k hk)) (by first | omega | exact (fun x y q1 q2 q3 => by rw [up2_e, if_neg (by omega)]; exact hE3 x y q1 q2 q3) | exact (fun x y q1 q2 q3 => by rw [up2_e, if_neg (by omega)]; exact hE x y q1 q2 q3))
                    ·
                      refine z_iconst (pc := 168) h dX11_puts_168 ?_
                      refine z_goto (pc := 169) (tgt := 173) h dX11_puts_169 (by decide) ?_
                      refine z_iadd (pc := 173) h dX11_puts_173 ?_
                      refine z_putI (pc := 174) h dX11_puts_174 clX11 lkX11_146 (by decide) rfl rfl rfl rfl ?_
                      refine z_forget [true, true, true, true, true, false] (loc' := [some (zr 0), some (zi a), some (zi (mA A a)), some (zi b), some (zi sm), none]) rfl ?_
                      exact J177 (up2 S1 0 11 ((S1 0 11) + 1)) (by first | omega | exact accP_lt hacc (by omega) (by rw [up2_j _ _ (by decide)]; omega) (by rw [up2_s]; omega) (fun k hk => by rw [up2_k _ _ (by decide)]; exact hc3 k (by omega)) | exact accP_eq hacc (by omega) (by omega) (up2_j _ _ (by decide)) (up2_s _ _ _ _) (fun k => up2_k _ _ (by decide)) | exact accP_gt hacc (by omega) (by omega) (up2_j _ _ (by decide)) (by rw [up2_s]; omega) (fun k => up2_k _ _ (by decide))) (by first | omega | exact (fun k hk => by rw [up2_k _ _ (by decide)]; exact hr3 k hk) | exact (fun k hk => by rw [up2_k _ _ (by decide)]; exact hrow k hk)) (by first | omega | exact (fun x y q1 q2 q3 => by rw [up2_e, if_neg (by omega)]; exact hE3 x y q1 q2 q3) | exact (fun x y q1 q2 q3 => by rw [up2_e, if_neg (by omega)]; exact hE x y q1 q2 q3))
                  ·
                    refine z_aload_n (pc := 114) h dX11_puts_114 rfl ?_
                    refine z_iload (pc := 115) h dX11_puts_115 rfl ?_
                    refine z_putI (pc := 117) h dX11_puts_117 clX11 lkX11_142 (by decide) rfl rfl rfl rfl ?_
                    refine z_aload_n (pc := 120) h dX11_puts_120 rfl ?_
                    refine z_iconst (pc := 121) h dX11_puts_121 ?_
                    refine z_putI (pc := 122) h dX11_puts_122 clX11 lkX11_146 (by decide) rfl rfl rfl rfl ?_
                    refine z_iconst (pc := 125) h dX11_puts_125 ?_
                    refine z_istore (pc := 126) (loc' := [some (zr 0), some (zi a), some (zi (mA A a)), some (zi b), some (zi sm), some (zi 0)]) h dX11_puts_126 (Nat.le_of_ble_eq_true rfl) rfl rfl ?_
                    have J128 : ∀ (N : Nat) (k2 : Int) (S3 : SS) (hk2b : 0 ≤ k2 ∧ k2 ≤ n) (h310 : S3 0 10 = sm) (h311 : S3 0 11 = 0) (hr3 : ∀ k : Nat, (k : Int) < n → S3 9 k = ((fx x k : Nat) : Int)) (hE3 : ∀ x y, x ≠ 9 → x ≠ 10 → ¬ (x = 0 ∧ (y = 10 ∨ y = 11)) → S3 x y = S2 x y) (hc3 : ∀ k : Nat, (k : Int) < k2 → S3 10 k = ((fx x k : Nat) : Int)) , ((n : Int) - k2).toNat = N → zG x LM 128 [some (zr 0), some (zi a), some (zi (mA A a)), some (zi b), some (zi sm), some (zi k2)] ([] : List zV) S3 := by
                      intro N
                      induction N using Nat.strongRecOn with
                      | _ N ih128 => ?_
                      intro k2 S3 hk2b h310 h311 hr3 hE3 hc3 hN128
                      refine z_iload (pc := 128) h dX11_puts_128 rfl ?_
                      refine z_iload_n (pc := 130) h dX11_puts_130 rfl ?_
                      refine z_icmp_ge (pc := 131) (tgt := 154) h dX11_puts_131 (by decide) ⟨by omega, by omega⟩ ⟨by omega, by omega⟩ (fun hc131 => ?_) (fun hc131 => ?_)
                      ·
                        refine z_aload_n (pc := 154) h dX11_puts_154 rfl ?_
                        refine z_dup (pc := 155) h dX11_puts_155 rfl ?_
                        refine z_getI (pc := 156) h dX11_puts_156 clX11 lkX11_146 (by decide) rfl rfl ?_
                        refine z_iload (pc := 159) h dX11_puts_159 rfl ?_
                        refine z_aload_n (pc := 161) h dX11_puts_161 rfl ?_
                        refine z_getI (pc := 162) h dX11_puts_162 clX11 lkX11_142 (by decide) rfl rfl ?_
                        refine z_icmp_ne (pc := 165) (tgt := 172) h dX11_puts_165 (by decide) ⟨by omega, by omega⟩ ⟨by omega, by omega⟩ (fun hc165 => ?_) (fun hc165 => ?_)
                        ·
                          refine z_iconst (pc := 172) h dX11_puts_172 ?_
                          refine z_iadd (pc := 173) h dX11_puts_173 ?_
                          refine z_putI (pc := 174) h dX11_puts_174 clX11 lkX11_146 (by decide) rfl rfl rfl rfl ?_
                          refine z_forget [true, true, true, true, true, false] (loc' := [some (zr 0), some (zi a), some (zi (mA A a)), some (zi b), some (zi sm), none]) rfl ?_
                          exact J177 (up2 S3 0 11 ((S3 0 11) + 0)) (by first | omega | exact accP_lt hacc (by omega) (by rw [up2_j _ _ (by decide)]; omega) (by rw [up2_s]; omega) (fun k hk => by rw [up2_k _ _ (by decide)]; exact hc3 k (by omega)) | exact accP_eq hacc (by omega) (by omega) (up2_j _ _ (by decide)) (up2_s _ _ _ _) (fun k => up2_k _ _ (by decide)) | exact accP_gt hacc (by omega) (by omega) (up2_j _ _ (by decide)) (by rw [up2_s]; omega) (fun k => up2_k _ _ (by decide))) (by first | omega | exact (fun k hk => by rw [up2_k _ _ (by decide)]; exact hr3 k hk) | exact (fun k hk => by rw [up2_k _ _ (by decide)]; exact hrow k hk)) (by first | omega | exact (fun x y q1 q2 q3 => by rw [up2_e, if_neg (by omega)]; exact hE3 x y q1 q2 q3) | exact (fun x y q1 q2 q3 => by rw [up2_e, if_neg (by omega)]; exact hE x y q1 q2 q3))
                        ·
                          refine z_iconst (pc := 168) h dX11_puts_168 ?_
                          refine z_goto (pc := 169) (tgt := 173) h dX11_puts_169 (by decide) ?_
                          refine z_iadd (pc := 173) h dX11_puts_173 ?_
                          refine z_putI (pc := 174) h dX11_puts_174 clX11 lkX11_146 (by decide) rfl rfl rfl rfl ?_
                          refine z_forget [true, true, true, true, true, false] (loc' := [some (zr 0), some (zi a), some (zi (mA A a)), some (zi b), some (zi sm), none]) rfl ?_
                          exact J177 (up2 S3 0 11 ((S3 0 11) + 1)) (by first | omega | exact accP_lt hacc (by omega) (by rw [up2_j _ _ (by decide)]; omega) (by rw [up2_s]; omega) (fun k hk => by rw [up2_k _ _ (by decide)]; exact hc3 k (by omega)) | exact accP_eq hacc (by omega) (by omega) (up2_j _ _ (by decide)) (up2_s _ _ _ _) (fun k => up2_k _ _ (by decide)) | exact accP_gt hacc (by omega) (by omega) (up2_j _ _ (by decide)) (by rw [up2_s]; omega) (fun k => up2_k _ _ (by decide))) (by first | omega | exact (fun k hk => by rw [up2_k _ _ (by decide)]; exact hr3 k hk) | exact (fun k hk => by rw [up2_k _ _ (by decide)]; exact hrow k hk)) (by first | omega | exact (fun x y q1 q2 q3 => by rw [up2_e, if_neg (by omega)]; exact hE3 x y q1 q2 q3) | exact (fun x y q1 q2 q3 => by rw [up2_e, if_neg (by omega)]; exact hE x y q1 q2 q3))
                      ·
                        refine z_aload_n (pc := 134) h dX11_puts_134 rfl ?_
                        refine z_getR (a := 10) (pc := 135) h dX11_puts_135 clX11 lkX11_37 (by decide) rfl rfl ?_
                        refine z_iload (pc := 138) h dX11_puts_138 rfl ?_
                        refine z_aload_n (pc := 140) h dX11_puts_140 rfl ?_
                        refine z_getR (a := 9) (pc := 141) h dX11_puts_141 clX11 lkX11_34 (by decide) rfl rfl ?_
                        refine z_iload (pc := 144) h dX11_puts_144 rfl ?_
                        refine z_iald (pc := 146) h dX11_puts_146 rfl (by decide) (by omega) (by omega) ?_
                        refine z_iast (pc := 147) h dX11_puts_147 rfl (by decide) (by omega) (by omega) ?_
                        refine z_iinc (pc := 148) (loc' := [some (zr 0), some (zi a), some (zi (mA A a)), some (zi b), some (zi sm), some (zi (k2 + 1))]) h dX11_puts_148 rfl (Nat.le_of_ble_eq_true rfl) rfl rfl ?_
                        refine z_goto (pc := 151) (tgt := 128) h dX11_puts_151 (by decide) ?_
                        exact ih128 _ (by omega) (k2 + 1) (up2 S3 10 k2.toNat (S3 9 k2.toNat)) (by omega) (by rw [up2_k _ _ (by decide)]; exact h310) (by rw [up2_k _ _ (by decide)]; exact h311) (fun k hk => by rw [up2_k _ _ (by decide)]; exact hr3 k hk) (fun x y q1 q2 q3 => by rw [up2_k _ _ q2]; exact hE3 x y q1 q2 q3) (by intro k hk; by_cases hkk : k = k2.toNat; (subst hkk; rw [up2_s]; exact hr3 _ (by omega)); (rw [up2_j _ _ hkk]; exact hc3 k (by omega))) rfl
                    exact J128 _ 0 (up2 (up2 S1 0 10 sm) 0 11 0) (by omega) (by rw [up2_j _ _ (by decide), up2_s]) (up2_s _ _ _ _) (fun k hk => by rw [up2_k _ _ (by decide), up2_k _ _ (by decide)]; exact hrow k hk) (fun x y q1 q2 q3 => by rw [up2_e, if_neg (by omega), up2_e, if_neg (by omega)]; exact hE x y q1 q2 q3) (fun k hk => by omega) rfl
                ·
                  have w1 := hfl z.toNat
                  have w2 := hfl ((z + 1) % n).toNat
                  have ez := hrow z.toNat (by omega)
                  have hmz := Int.emod_nonneg (z + 1) (show (n : Int) ≠ 0 by omega)
                  have hmy := Int.emod_lt_of_pos (z + 1) (show 0 < (n : Int) by omega)
                  have ez2 := hrow ((z + 1) % n).toNat (by omega)
                  have hstb := stepF_b hg hQ (fx x z.toNat : Nat) (fx x ((z + 1) % n).toNat : Nat)
                  refine z_iload (pc := 71) h dX11_puts_71 rfl ?_
                  refine z_aload_n (pc := 73) h dX11_puts_73 rfl ?_
                  refine z_iload_n (pc := 74) h dX11_puts_74 rfl ?_
                  refine z_aload_n (pc := 75) h dX11_puts_75 rfl ?_
                  refine z_getR (a := 9) (pc := 76) h dX11_puts_76 clX11 lkX11_34 (by decide) rfl rfl ?_
                  refine z_iload (pc := 79) h dX11_puts_79 rfl ?_
                  refine z_iald (pc := 81) h dX11_puts_81 rfl (by decide) (by omega) (by omega) ?_
                  refine z_cv (b := ((fx x z.toNat : Nat) : Int)) (by exact ez) ?_
                  refine z_aload_n (pc := 82) h dX11_puts_82 rfl ?_
                  refine z_getR (a := 9) (pc := 83) h dX11_puts_83 clX11 lkX11_34 (by decide) rfl rfl ?_
                  refine z_iload (pc := 86) h dX11_puts_86 rfl ?_
                  refine z_iconst (pc := 88) h dX11_puts_88 ?_
                  refine z_iadd (pc := 89) h dX11_puts_89 ?_
                  refine z_iload_n (pc := 90) h dX11_puts_90 rfl ?_
                  refine z_iremN (pc := 91) h dX11_puts_91 ⟨by omega, by omega⟩ ⟨by omega, by omega⟩ ?_
                  refine z_cv (b := ((z + 1) % (n : Int))) (by rw [hnn]) ?_
                  refine z_iald (pc := 92) h dX11_puts_92 rfl (by decide) (by omega) (by omega) ?_
                  refine z_cv (b := ((fx x ((z + 1) % (n : Int)).toNat : Nat) : Int)) (by exact ez2) ?_
                  refine z_callV (pc := 93) (rest := [zi sm]) h (m_X11_stepOf a ((fx x z.toNat : Nat) : Int) ((fx x ((z + 1) % (n : Int)).toNat : Nat) : Int) A S1 (by first | assumption | omega) hRm (by first | assumption | omega) hRP (by first | assumption | omega) (by first | assumption | omega)) dX11_puts_93 mcX11_stepOf miX11_stepOf mlX11_95 rfl rfl ⟨by decide, by decide⟩ clX11 rfl rfl rfl (Nat.le_of_ble_eq_true rfl) ?_
                  rintro _ _ ⟨rfl, rfl⟩
                  show zG x LM 96 [some (zr 0), some (zi a), some (zi (mA A a)), some (zi b), some (zi sm), some (zi z)] [zi (stepF (A 5 0) (qA A a) ((fx x z.toNat : Nat) : Int) ((fx x ((z + 1) % (n : Int)).toNat : Nat) : Int)), zi sm] S1
                  refine z_iadd (pc := 96) h dX11_puts_96 ?_
                  refine z_istore (pc := 97) (loc' := [some (zr 0), some (zi a), some (zi (mA A a)), some (zi b), some (zi (sm + (stepF (A 5 0) (qA A a) ((fx x z.toNat : Nat) : Int) ((fx x ((z + 1) % (n : Int)).toNat : Nat) : Int)))), some (zi z)]) h dX11_puts_97 (Nat.le_of_ble_eq_true rfl) rfl rfl ?_
                  refine z_iinc (pc := 99) (loc' := [some (zr 0), some (zi a), some (zi (mA A a)), some (zi b), some (zi (sm + (stepF (A 5 0) (qA A a) ((fx x z.toNat : Nat) : Int) ((fx x ((z + 1) % (n : Int)).toNat : Nat) : Int)))), some (zi (z + 1))]) h dX11_puts_99 rfl (Nat.le_of_ble_eq_true rfl) rfl rfl ?_
                  refine z_goto (pc := 102) (tgt := 65) h dX11_puts_102 (by decide) ?_
                  exact ih65 _ (by omega) (sm + (stepF (A 5 0) (qA A a) ((fx x z.toNat : Nat) : Int) ((fx x ((z + 1) % (n : Int)).toNat : Nat) : Int))) (z + 1) (by omega) (by rw [rdS_s hxn (by omega), ← hsum]) rfl
              exact J65 _ 0 0 (by omega) (by unfold rdS; rw [if_pos (show (0 : Int).toNat < n by omega)]; rfl) rfl
          exact J55 _ 1 (lx n (n - 1) 1) tE (up2 (up2 S1 0 10 1000000) 0 11 0) (by right; exact ⟨rfl, by rw [hx0]; exact List.cons_ne_nil _ _⟩) (fun _ => hk1) (fun y hy => hy) (fun _ k hk => by rw [hx0, up2_k _ _ (by decide), up2_k _ _ (by decide), h9 k (by omega)]; show _ = ((fx x0 k : Nat) : Int); rw [hxi k (by omega)]) (by exact hTT) (Or.inl ⟨rfl, by rw [up2_j _ _ (by decide), up2_s], up2_s _ _ _ _⟩) (⟨by decide, by decide⟩) (fun x y q1 q2 q3 => by rw [up2_e, if_neg (by omega), up2_e, if_neg (by omega)]; exact hE x y q1) rfl
        ·
          refine z_aload_n (pc := 29) h dX11_puts_29 rfl ?_
          refine z_getR (a := 9) (pc := 30) h dX11_puts_30 clX11 lkX11_34 (by decide) rfl rfl ?_
          refine z_iload_n (pc := 33) h dX11_puts_33 rfl ?_
          refine z_iload_n (pc := 34) h dX11_puts_34 rfl ?_
          refine z_iast (pc := 35) h dX11_puts_35 rfl (by decide) (by omega) (by omega) ?_
          refine z_iinc (pc := 36) (loc' := [some (zr 0), some (zi a), some (zi (mA A a)), some (zi (k + 1)), none, none]) h dX11_puts_36 rfl (Nat.le_of_ble_eq_true rfl) rfl rfl ?_
          refine z_goto (pc := 39) (tgt := 24) h dX11_puts_39 (by decide) ?_
          exact ih24 _ (by omega) (k + 1) (up2 S1 9 k.toNat k) (by omega) (fun x y q => by rw [up2_k _ _ q]; exact hE x y q) (by intro j hj; rw [up2_e]; split; omega; exact h9 j (by omega)) rfl
      exact J24 _ 0 S2 (by omega) (fun _ _ _ => rfl) (fun j hj => by omega) rfl
    ·
      refine z_bipush (pc := 19) h dX11_puts_19 rfl ?_
      refine z_iret (pc := 21) h dX11_puts_21 rfl ?_
      exact ⟨ap_some (by rw [if_neg (by omega), if_pos (by omega)]), hr2R, hr2P, fun q q2 => by omega⟩
  ·
    refine z_bipush (pc := 10) h dX11_puts_10 rfl ?_
    refine z_iret (pc := 12) h dX11_puts_12 rfl ?_
    exact ⟨ap_some (by rw [if_pos (by omega)]), hr2R, hr2P, fun q => by omega⟩

set_option maxRecDepth 100000 in
set_option maxHeartbeats 4000000 in
theorem m_X11_order (a b : Int) (A S : SS) (ha : r32 a) (hb : r32 b) (hR : mRel S A) (hm : MI A) : zM LM yX11_order cX11_order 4 (some .int) 4 94 [zr 0, zi a, zi b] S (fun r S' => r = some (zi (sp_order A a b)) ∧ mRel S' A) := by
  refine zM_of (own := RX11) rfl (by decide +kernel) [some (zr 0), some (zi a), some (zi b), none] (Nat.le_of_ble_eq_true rfl) rfl ?_
  intro x h
  refine z_iload_n (pc := 0) h dX11_order_0 rfl ?_
  refine z_callS (pc := 1) (rest := ([] : List zV)) h (m_X11_isStrip a S ⟨by omega, by omega⟩) dX11_order_1 mcX11_isStrip msX11_isStrip mlX11_79 rfl rfl ⟨by decide, by decide⟩ rfl (Nat.le_of_ble_eq_true rfl) ?_
  rintro _ _ ⟨rfl, ⟨hr1, rfl⟩ | ⟨hr1, rfl⟩⟩
  ·
    show zG x LM 4 [some (zr 0), some (zi a), some (zi b), none] [zi 1] S
    refine z_if_eq (pc := 4) (tgt := 12) h dX11_order_4 (by decide) ⟨by decide, by decide⟩ (fun hc4 => absurd hc4 (by decide)) (fun hc4 => ?_)
    refine z_iload_n (pc := 7) h dX11_order_7 rfl ?_
    refine z_iconst (pc := 8) h dX11_order_8 ?_
    refine z_icmp_ge (pc := 9) (tgt := 15) h dX11_order_9 (by decide) ⟨by omega, by omega⟩ ⟨by decide, by decide⟩ (fun hc9 => ?_) (fun hc9 => ?_)
    ·
      refine z_aload_n (pc := 15) h dX11_order_15 rfl ?_
      refine z_iload_n (pc := 16) h dX11_order_16 rfl ?_
      refine z_callV (pc := 17) (rest := ([] : List zV)) h (m_X11_puts a _ S (by first | assumption | omega) (by first | assumption | omega) (by first | assumption | omega)) dX11_order_17 mcX11_puts miX11_puts mlX11_181 rfl rfl ⟨by decide, by decide⟩ clX11 rfl rfl rfl (Nat.le_of_ble_eq_true rfl) ?_
      rintro _ S17 ⟨rfl, hr17R, hr17P, hr17T⟩
      show zG x LM 20 [some (zr 0), some (zi a), some (zi b), none] [zi (if (mA A a) = 0 then -3 else if 8 < (mA A a) then -4 else 0)] S17
      refine z_nm (b := (if (mA A a) = 0 then -3 else if 8 < (mA A a) then -4 else 0)) (fun rf h_rf => ?_)
      refine z_istore_n (pc := 20) (loc' := [some (zr 0), some (zi a), some (zi b), some (zi rf)]) h dX11_order_20 rfl (Nat.le_of_ble_eq_true rfl) rfl rfl ?_
      refine z_iload_n (pc := 21) h dX11_order_21 rfl ?_
      have hrf2 : -4 ≤ rf ∧ rf ≤ 0 := by rw [h_rf]; (repeat' split) <;> omega
      have hb9 := mA_b hm hr1
      refine z_if_eq (pc := 22) (tgt := 27) h dX11_order_22 (by decide) ⟨by omega, by omega⟩ (fun hc22 => ?_) (fun hc22 => ?_)
      ·
        have hx9 : ∀ z : Int, (if z = 0 then (-3 : Int) else if 8 < z then -4 else 0) = 0 → z ≠ 0 ∧ z ≤ 8 := fun z hz => by (repeat' split at hz) <;> omega
        have hx8 := hx9 _ (show _ = 0 by rw [← h_rf]; omega)
        obtain ⟨hac, hcp⟩ := hr17T (by omega) hx8.2
        have hbx : 0 ≤ S17 0 10 ∧ S17 0 10 ≤ 1000000 := by rcases hac with ⟨q, -⟩ | ⟨-, q, -, -⟩; omega; (have := oR_b (mi_g hm) (qA_b hm hr1) (n := (mA A a).toNat) (r := (mA A a).toNat - 1) (by omega) (by omega) 1 0; unfold oT at q; omega)
        refine z_iload_n (pc := 27) h dX11_order_27 rfl ?_
        refine z_iconst (pc := 28) h dX11_order_28 ?_
        refine z_icmp_ne (pc := 29) (tgt := 39) h dX11_order_29 (by decide) ⟨by omega, by omega⟩ ⟨by decide, by decide⟩ (fun hc29 => ?_) (fun hc29 => ?_)
        ·
          have e3 := hr17P.1
          refine z_iload_n (pc := 39) h dX11_order_39 rfl ?_
          refine z_aload_n (pc := 40) h dX11_order_40 rfl ?_
          refine z_getR (a := 3) (pc := 41) h dX11_order_41 clX11 lkX11_16 (by decide) rfl rfl ?_
          refine z_iload_n (pc := 44) h dX11_order_44 rfl ?_
          refine z_iald (pc := 45) h dX11_order_45 rfl (by decide) (by omega) (by omega) ?_
          refine z_icmp_ge (pc := 46) (tgt := 58) h dX11_order_46 (by decide) ⟨by omega, by omega⟩ ⟨by omega, by omega⟩ (fun hc46 => ?_) (fun hc46 => ?_)
          ·
            refine z_bipush (pc := 58) h dX11_order_58 rfl ?_
            refine z_iret (pc := 60) h dX11_order_60 rfl ?_
            refine ⟨ap_some ?_, hr17R⟩
            unfold sp_order
            rw [if_pos (by omega)]
            unfold ordV
            rw [if_neg (by omega), if_neg (by omega)]
            rcases hac with ⟨q, -⟩ | ⟨-, q1, q2, q3⟩
            · omega
            · first
              | (rw [if_pos (by omega)]; exact q1)
              | (rw [if_neg (by omega), if_pos (by omega)]; exact q3 _ (by omega))
              | (rw [if_neg (by omega), if_neg (by omega)])
          ·
            refine z_aload_n (pc := 49) h dX11_order_49 rfl ?_
            refine z_getR (a := 10) (pc := 50) h dX11_order_50 clX11 lkX11_37 (by decide) rfl rfl ?_
            refine z_iload_n (pc := 53) h dX11_order_53 rfl ?_
            refine z_iald (pc := 54) h dX11_order_54 rfl (by decide) (by omega) (by omega) ?_
            refine z_goto (pc := 55) (tgt := 60) h dX11_order_55 (by decide) ?_
            refine z_iret (pc := 60) h dX11_order_60 rfl ?_
            refine ⟨ap_some ?_, hr17R⟩
            unfold sp_order
            rw [if_pos (by omega)]
            unfold ordV
            rw [if_neg (by omega), if_neg (by omega)]
            rcases hac with ⟨q, -⟩ | ⟨-, q1, q2, q3⟩
            · omega
            · first
              | (rw [if_pos (by omega)]; exact q1)
              | (rw [if_neg (by omega), if_pos (by omega)]; exact q3 _ (by omega))
              | (rw [if_neg (by omega), if_neg (by omega)])
        ·
          refine z_aload_n (pc := 32) h dX11_order_32 rfl ?_
          refine z_getI (pc := 33) h dX11_order_33 clX11 lkX11_142 (by decide) rfl rfl ?_
          refine z_goto (pc := 36) (tgt := 60) h dX11_order_36 (by decide) ?_
          refine z_iret (pc := 60) h dX11_order_60 rfl ?_
          refine ⟨ap_some ?_, hr17R⟩
          unfold sp_order
          rw [if_pos (by omega)]
          unfold ordV
          rw [if_neg (by omega), if_neg (by omega)]
          rcases hac with ⟨q, -⟩ | ⟨-, q1, q2, q3⟩
          · omega
          · first
            | (rw [if_pos (by omega)]; exact q1)
            | (rw [if_neg (by omega), if_pos (by omega)]; exact q3 _ (by omega))
            | (rw [if_neg (by omega), if_neg (by omega)])
      ·
        refine z_iload_n (pc := 25) h dX11_order_25 rfl ?_
        refine z_iret (pc := 26) h dX11_order_26 rfl ?_
        refine ⟨ap_some ?_, hr17R⟩
        unfold sp_order
        rw [if_pos (by omega)]
        unfold ordV
        rw [h_rf] at hc22 ⊢
        (repeat' split at hc22) <;> (repeat' split) <;> omega
    ·
      refine z_bipush (pc := 12) h dX11_order_12 rfl ?_
      refine z_iret (pc := 14) h dX11_order_14 rfl ?_
      exact ⟨ap_some (by unfold sp_order; rw [if_neg (by omega)]), hR⟩
  ·
    show zG x LM 4 [some (zr 0), some (zi a), some (zi b), none] [zi 0] S
    refine z_if_eq (pc := 4) (tgt := 12) h dX11_order_4 (by decide) ⟨by decide, by decide⟩ (fun hc4 => ?_) (fun hc4 => absurd hc4 (by decide))
    refine z_bipush (pc := 12) h dX11_order_12 rfl ?_
    refine z_iret (pc := 14) h dX11_order_14 rfl ?_
    exact ⟨ap_some (by unfold sp_order; rw [if_neg (by omega)]), hR⟩

set_option maxRecDepth 100000 in
set_option maxHeartbeats 4000000 in
theorem m_X11_ordersNow (a : Int) (A S : SS) (ha : isS a) (hR : mRel S A) (hm : MI A) : zM LM yX11_ordersNow cX11_ordersNow 3 (some .int) 4 94 [zr 0, zi a] S (fun r S' => r = some (zi (ordsV (A 5 0) (qA A a) (mA A a))) ∧ mRel S' A ∧ prsM S' A a) := by
  refine zM_of (own := RX11) rfl (by decide +kernel) [some (zr 0), some (zi a), none] (Nat.le_of_ble_eq_true rfl) rfl ?_
  intro x h
  refine z_aload_n (pc := 0) h dX11_ordersNow_0 rfl ?_
  refine z_iload_n (pc := 1) h dX11_ordersNow_1 rfl ?_
  refine z_callV (pc := 2) (rest := ([] : List zV)) h (m_X11_puts a _ S (by first | assumption | omega) (by first | assumption | omega) (by first | assumption | omega)) dX11_ordersNow_2 mcX11_puts miX11_puts mlX11_181 rfl rfl ⟨by decide, by decide⟩ clX11 rfl rfl rfl (Nat.le_of_ble_eq_true rfl) ?_
  rintro _ S2 ⟨rfl, hr2R, hr2P, hr2T⟩
  show zG x LM 5 [some (zr 0), some (zi a), none] [zi (if (mA A a) = 0 then -3 else if 8 < (mA A a) then -4 else 0)] S2
  refine z_nm (b := (if (mA A a) = 0 then -3 else if 8 < (mA A a) then -4 else 0)) (fun rf h_rf => ?_)
  refine z_istore_n (pc := 5) (loc' := [some (zr 0), some (zi a), some (zi rf)]) h dX11_ordersNow_5 rfl (Nat.le_of_ble_eq_true rfl) rfl rfl ?_
  refine z_iload_n (pc := 6) h dX11_ordersNow_6 rfl ?_
  have hrf2 : -4 ≤ rf ∧ rf ≤ 0 := by rw [h_rf]; (repeat' split) <;> omega
  have hb9 := mA_b hm ha
  refine z_if_eq (pc := 7) (tgt := 14) h dX11_ordersNow_7 (by decide) ⟨by omega, by omega⟩ (fun hc7 => ?_) (fun hc7 => ?_)
  ·
    have hx9 : ∀ z : Int, (if z = 0 then (-3 : Int) else if 8 < z then -4 else 0) = 0 → z ≠ 0 ∧ z ≤ 8 := fun z hz => by (repeat' split at hz) <;> omega
    have hx8 := hx9 _ (show _ = 0 by rw [← h_rf]; omega)
    obtain ⟨hac, hcp⟩ := hr2T (by omega) hx8.2
    refine z_aload_n (pc := 14) h dX11_ordersNow_14 rfl ?_
    refine z_getI (pc := 15) h dX11_ordersNow_15 clX11 lkX11_146 (by decide) rfl rfl ?_
    refine z_iret (pc := 18) h dX11_ordersNow_18 rfl ?_
    refine ⟨ap_some ?_, hr2R, hr2P⟩
    unfold ordsV
    first
      | (rw [if_neg (by omega), if_neg (by omega)]; rcases hac with ⟨q, -⟩ | ⟨-, q1, q2, q3⟩; omega; exact q2)
      | (rw [h_rf] at hc7 ⊢; (repeat' split at hc7) <;> (repeat' split) <;> omega)
  ·
    refine z_iload_n (pc := 10) h dX11_ordersNow_10 rfl ?_
    refine z_goto (pc := 11) (tgt := 18) h dX11_ordersNow_11 (by decide) ?_
    refine z_iret (pc := 18) h dX11_ordersNow_18 rfl ?_
    refine ⟨ap_some ?_, hr2R, hr2P⟩
    unfold ordsV
    first
      | (rw [if_neg (by omega), if_neg (by omega)]; rcases hac with ⟨q, -⟩ | ⟨-, q1, q2, q3⟩; omega; exact q2)
      | (rw [h_rf] at hc7 ⊢; (repeat' split at hc7) <;> (repeat' split) <;> omega)

set_option maxRecDepth 100000 in
set_option maxHeartbeats 4000000 in
theorem m_X11_orders (a : Int) (A S : SS) (ha : r32 a) (hR : mRel S A) (hm : MI A) : zM LM yX11_orders cX11_orders 2 (some .int) 5 116 [zr 0, zi a] S (fun r S' => r = some (zi (sp_orders A a)) ∧ mRel S' A) := by
  refine zM_of (own := RX11) rfl (by decide +kernel) [some (zr 0), some (zi a)] (Nat.le_of_ble_eq_true rfl) rfl ?_
  intro x h
  refine z_iload_n (pc := 0) h dX11_orders_0 rfl ?_
  refine z_callS (pc := 1) (rest := ([] : List zV)) h (m_X11_isStrip a S ⟨by omega, by omega⟩) dX11_orders_1 mcX11_isStrip msX11_isStrip mlX11_79 rfl rfl ⟨by decide, by decide⟩ rfl (Nat.le_of_ble_eq_true rfl) ?_
  rintro _ _ ⟨rfl, ⟨hr1, rfl⟩ | ⟨hr1, rfl⟩⟩
  ·
    show zG x LM 4 [some (zr 0), some (zi a)] [zi 1] S
    refine z_if_eq (pc := 4) (tgt := 15) h dX11_orders_4 (by decide) ⟨by decide, by decide⟩ (fun hc4 => absurd hc4 (by decide)) (fun hc4 => ?_)
    refine z_aload_n (pc := 7) h dX11_orders_7 rfl ?_
    refine z_iload_n (pc := 8) h dX11_orders_8 rfl ?_
    refine z_callV (pc := 9) (rest := ([] : List zV)) h (m_X11_ordersNow a _ S (by first | assumption | omega) (by first | assumption | omega) (by first | assumption | omega)) dX11_orders_9 mcX11_ordersNow miX11_ordersNow mlX11_184 rfl rfl ⟨by decide, by decide⟩ clX11 rfl rfl rfl (Nat.le_of_ble_eq_true rfl) ?_
    rintro _ S9 ⟨rfl, hr9R, hr9P⟩
    show zG x LM 12 [some (zr 0), some (zi a)] [zi (ordsV (A 5 0) (qA A a) (mA A a))] S9
    refine z_goto (pc := 12) (tgt := 17) h dX11_orders_12 (by decide) ?_
    refine z_iret (pc := 17) h dX11_orders_17 rfl ?_
    first
      | exact ⟨ap_some (by unfold sp_orders; rw [if_pos (by omega)]), hr9R⟩
      | exact ⟨ap_some (by unfold sp_orders; rw [if_neg (by omega)]), hR⟩
  ·
    show zG x LM 4 [some (zr 0), some (zi a)] [zi 0] S
    refine z_if_eq (pc := 4) (tgt := 15) h dX11_orders_4 (by decide) ⟨by decide, by decide⟩ (fun hc4 => ?_) (fun hc4 => absurd hc4 (by decide))
    refine z_bipush (pc := 15) h dX11_orders_15 rfl ?_
    refine z_iret (pc := 17) h dX11_orders_17 rfl ?_
    first
      | exact ⟨ap_some (by unfold sp_orders; rw [if_pos (by omega)]), hr9R⟩
      | exact ⟨ap_some (by unfold sp_orders; rw [if_neg (by omega)]), hR⟩

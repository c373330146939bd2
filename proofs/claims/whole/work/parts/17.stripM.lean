/-! the reference's strips -/
def prsM (S A : SS) (a : Int) : Prop := S 3 a.toNat = mA A a ∧ ∀ p q : Int, 0 ≤ p → p < mA A a → 0 ≤ q → q < 4 → S 4 (48 * a + 4 * p + q).toNat = qA A a p q
def btF (t : Nat → Int) (n k : Int) : Int := if k < n then t k.toNat else -1
theorem txt_at {A : SS} {a k : Int} (ha : isS a) (hk : 0 ≤ k) : tA A a k.toNat = A 1 (80 * a + k).toNat := by
  unfold tA txt
  congr 1
  omega
theorem mA_b {A : SS} (hm : MI A) {a : Int} (ha : isS a) : 0 ≤ nA A a ∧ nA A a ≤ 80 ∧ 0 ≤ mA A a ∧ mA A a ≤ 12 := by
  have h1 := mi_n hm (s := a.toNat) (by omega)
  have h2 := picsF_b (tA A a) (n := nA A a) h1.1
  unfold mA nA at *
  omega
theorem qA_b {A : SS} (hm : MI A) {a : Int} (ha : isS a) : okP (qA A a) := fun p q => plF_b (tA A a) (mA_b hm ha).1 p q
theorem qA_at {A : SS} {a p q : Int} (hp : 0 ≤ p ∧ p < mA A a) (hq : 0 ≤ q ∧ q < 4) : qA A a p q = placeF (tA A a) (4 * p + q) := by
  unfold qA plF mA at *
  rw [if_pos ⟨hp, hq⟩, Int.mul_comm p 4]
def stM (S : SS) (x y : Int) : Int := 0 + partF (S 5 0) (S 4 (x + 0).toNat) (S 4 (y + 0).toNat) + partF (S 5 0) (S 4 (x + 1).toNat) (S 4 (y + 1).toNat) + partF (S 5 0) (S 4 (x + 2).toNat) (S 4 (y + 2).toNat) + partF (S 5 0) (S 4 (x + 3).toNat) (S 4 (y + 3).toNat)
def stN (S : SS) (x y : Int) : Nat → Int
  | 0 => 0
  | n + 1 => stN S x y n + partF (S 5 0) (S 4 (x + n).toNat) (S 4 (y + n).toNat)
theorem stN_s (S : SS) (x y : Int) {p : Int} (hp : 0 ≤ p) : stN S x y (p + 1).toNat = stN S x y p.toNat + partF (S 5 0) (S 4 (x + p).toNat) (S 4 (y + p).toNat) := by
  obtain ⟨n, rfl⟩ := Int.eq_ofNat_of_zero_le hp
  rfl
theorem stN_b {S : SS} {x y : Int} (hg : 0 ≤ S 5 0 ∧ S 5 0 ≤ 9) (h4 : ∀ j, -1 ≤ S 4 j ∧ S 4 j ≤ 9) : ∀ n : Nat, 0 ≤ stN S x y n ∧ stN S x y n ≤ 9 * n
  | 0 => by unfold stN; omega
  | n + 1 => by
    have h1 := stN_b (x := x) (y := y) hg h4 n
    have h2 := partF_b hg (h4 (x + n).toNat) (h4 (y + n).toNat)
    unfold stN
    omega
theorem stM_q {S A : SS} {a p q : Int} (hp : prsM S A a) (hg : S 5 0 = A 5 0) (h1 : 0 ≤ p ∧ p < mA A a) (h2 : 0 ≤ q ∧ q < mA A a) : stM S (48 * a + 4 * p) (48 * a + 4 * q) = stepF (A 5 0) (qA A a) p q := by
  unfold stM stepF
  rw [hp.2 p 0 h1.1 h1.2 (by omega) (by omega), hp.2 p 1 h1.1 h1.2 (by omega) (by omega), hp.2 p 2 h1.1 h1.2 (by omega) (by omega), hp.2 p 3 h1.1 h1.2 (by omega) (by omega), hp.2 q 0 h2.1 h2.2 (by omega) (by omega), hp.2 q 1 h2.1 h2.2 (by omega) (by omega), hp.2 q 2 h2.1 h2.2 (by omega) (by omega), hp.2 q 3 h2.1 h2.2 (by omega) (by omega), hg]

set_option maxRecDepth 100000 in
set_option maxHeartbeats 4000000 in
theorem m_X11_isStrip (a : Int) (S : SS) (ha : r32 a) : zM LM yX11_isStrip cX11_isStrip 1 (some .boolean) 1 22 [zi a] S (fun r S' => S = S' ∧ ((isS a) ∧ r = some (zi 1) ∨ ¬ (isS a) ∧ r = some (zi 0))) := by
  refine zM_of (own := RX11) rfl (by decide +kernel) [some (zi a)] (Nat.le_of_ble_eq_true rfl) rfl ?_
  intro x h
  refine z_iload_n (pc := 0) h dX11_isStrip_0 rfl ?_
  refine z_iconst (pc := 1) h dX11_isStrip_1 ?_
  refine z_iconst (pc := 2) h dX11_isStrip_2 ?_
  refine z_callS (pc := 3) (rest := ([] : List zV)) h (m_X11_in a 0 1 S ⟨by omega, by omega⟩ ⟨by decide, by decide⟩ ⟨by decide, by decide⟩) dX11_isStrip_3 mcX11_in msX11_in mlX11_75 rfl rfl ⟨by decide, by decide⟩ rfl (Nat.le_of_ble_eq_true rfl) ?_
  rintro _ _ ⟨rfl, ⟨hr3, rfl⟩ | ⟨hr3, rfl⟩⟩
  ·
    show zG x LM 6 [some (zi a)] [zi 1] S
    exact z_zret (pc := 6) h dX11_isStrip_6 rfl (by decide) ⟨rfl, Or.inl ⟨by omega, rfl⟩⟩
  ·
    show zG x LM 6 [some (zi a)] [zi 0] S
    exact z_zret (pc := 6) h dX11_isStrip_6 rfl (by decide) ⟨rfl, Or.inr ⟨by omega, rfl⟩⟩

set_option maxRecDepth 100000 in
set_option maxHeartbeats 4000000 in
theorem m_X11_byteAt (a k : Int) (A S : SS) (ha : isS a) (hk : 0 ≤ k ∧ k ≤ 80) (hR : mRel S A) (hm : MI A) : zM LM yX11_byteAt cX11_byteAt 3 (some .int) 0 0 [zr 0, zi a, zi k] S (fun r S' => S = S' ∧ r = some (zi (btF (tA A a) (nA A a) k))) := by
  refine zM_of (own := RX11) rfl (by decide +kernel) [some (zr 0), some (zi a), some (zi k)] (Nat.le_of_ble_eq_true rfl) rfl ?_
  intro x h
  have hb := mA_b hm ha
  have e2 : S 2 a.toNat = nA A a := mr_at hR _ (by decide)
  have e1 : S 1 (80 * a + k).toNat = tA A a k.toNat := by rw [txt_at ha hk.1]; exact mr_at hR _ (by decide)
  refine z_iload_n (pc := 0) h dX11_byteAt_0 rfl ?_
  refine z_aload_n (pc := 1) h dX11_byteAt_1 rfl ?_
  refine z_getR (a := 2) (pc := 2) h dX11_byteAt_2 clX11 lkX11_13 (by decide) rfl rfl ?_
  refine z_iload_n (pc := 5) h dX11_byteAt_5 rfl ?_
  refine z_iald (pc := 6) h dX11_byteAt_6 rfl (by decide) (by omega) (by omega) ?_
  refine z_icmp_ge (pc := 7) (tgt := 24) h dX11_byteAt_7 (by decide) ⟨by omega, by omega⟩ ⟨by omega, by omega⟩ (fun hc7 => ?_) (fun hc7 => ?_)
  ·
    refine z_iconst (pc := 24) h dX11_byteAt_24 ?_
    exact z_iret (pc := 25) h dX11_byteAt_25 rfl ⟨rfl, congrArg (fun z => some (zi z)) (by unfold btF; first | (rw [if_pos (by omega)]; exact e1) | (rw [if_neg (by omega)]))⟩
  ·
    refine z_aload_n (pc := 10) h dX11_byteAt_10 rfl ?_
    refine z_getR (a := 1) (pc := 11) h dX11_byteAt_11 clX11 lkX11_7 (by decide) rfl rfl ?_
    refine z_bipush (pc := 14) h dX11_byteAt_14 rfl ?_
    refine z_iload_n (pc := 16) h dX11_byteAt_16 rfl ?_
    refine z_imul (pc := 17) h dX11_byteAt_17 ?_
    refine z_iload_n (pc := 18) h dX11_byteAt_18 rfl ?_
    refine z_iadd (pc := 19) h dX11_byteAt_19 ?_
    refine z_iald (pc := 20) h dX11_byteAt_20 rfl (by decide) (by omega) (by omega) ?_
    refine z_goto (pc := 21) (tgt := 25) h dX11_byteAt_21 (by decide) ?_
    exact z_iret (pc := 25) h dX11_byteAt_25 rfl ⟨rfl, congrArg (fun z => some (zi z)) (by unfold btF; first | (rw [if_pos (by omega)]; exact e1) | (rw [if_neg (by omega)]))⟩

theorem mA_z {A : SS} {a : Int} (h : faultF (tA A a) (nA A a) ≠ -1) : mA A a = 0 := by unfold mA picsF; rw [if_neg h]
theorem prs_z {S A : SS} {a : Int} (h3 : S 3 a.toNat = 0) (h : mA A a = 0) : prsM S A a := ⟨by rw [h]; exact h3, fun p q h1 h2 _ _ => by omega⟩
theorem prs_m {S A : SS} {a n : Int} (ha : isS a) (hn : 0 ≤ n) (h3 : S 3 a.toNat = n) (h : mA A a = n) (hp : ∀ j : Nat, (j : Int) < 4 * n → S 4 (48 * a + j).toNat = placeF (tA A a) j) : prsM S A a := by
  refine ⟨by rw [h]; exact h3, fun p q h1 h2 h5 h6 => ?_⟩
  rw [qA_at ⟨h1, h2⟩ ⟨h5, h6⟩]
  have := hp (4 * p + q).toNat (by omega)
  rw [show (((4 * p + q).toNat : Nat) : Int) = 4 * p + q by omega] at this
  rw [← this]
  congr 2
  omega

set_option maxRecDepth 100000 in
set_option maxHeartbeats 4000000 in
theorem m_X11_faultNow (a : Int) (A S : SS) (ha : isS a) (hR : mRel S A) (hm : MI A) : zM LM yX11_faultNow cX11_faultNow 6 (some .int) 1 22 [zr 0, zi a] S (fun r S' => r = some (zi (faultF (tA A a) (nA A a))) ∧ (∀ k j, k ≠ 3 → k ≠ 4 → S' k j = S k j) ∧ mRel S' A ∧ prsM S' A a) := by
  refine zM_of (own := RX11) rfl (by decide +kernel) [some (zr 0), some (zi a), none, none, none, none] (Nat.le_of_ble_eq_true rfl) rfl ?_
  intro x h
  have hb := mA_b hm ha
  have e2 : S 2 a.toNat = nA A a := mr_at hR _ (by decide)
  refine z_aload_n (pc := 0) h dX11_faultNow_0 rfl ?_
  refine z_getR (a := 3) (pc := 1) h dX11_faultNow_1 clX11 lkX11_16 (by decide) rfl rfl ?_
  refine z_iload_n (pc := 4) h dX11_faultNow_4 rfl ?_
  refine z_iconst (pc := 5) h dX11_faultNow_5 ?_
  refine z_iast (pc := 6) h dX11_faultNow_6 rfl (by decide) (by omega) (by omega) ?_
  refine z_iconst (pc := 7) h dX11_faultNow_7 ?_
  refine z_istore_n (pc := 8) (loc' := [some (zr 0), some (zi a), some (zi 0), none, none, none]) h dX11_faultNow_8 rfl (Nat.le_of_ble_eq_true rfl) rfl rfl ?_
  refine z_iconst (pc := 9) h dX11_faultNow_9 ?_
  refine z_istore_n (pc := 10) (loc' := [some (zr 0), some (zi a), some (zi 0), some (zi 0), none, none]) h dX11_faultNow_10 rfl (Nat.le_of_ble_eq_true rfl) rfl rfl ?_
  have J11 : ∀ (N : Nat) (n t : Int) (S1 : SS) (hn : 0 ≤ n ∧ n ≤ 12) (ht : t = 5 * n ∧ t ≤ (nA A a)) (hI : faultR (tA A a) (nA A a) ((nA A a) - t).toNat t = faultF (tA A a) (nA A a)) (hE : ∀ k j, k ≠ 3 → k ≠ 4 → S1 k j = S k j) (h3 : S1 3 a.toNat = 0) (h4 : ∀ j, -1 ≤ S1 4 j ∧ S1 4 j ≤ 9) (hp : ∀ j : Nat, (j : Int) < 4 * n → S1 4 (48 * a + j).toNat = placeF (tA A a) j) , (12 - n).toNat = N → zG x LM 11 [some (zr 0), some (zi a), some (zi n), some (zi t), none, none] ([] : List zV) S1 := by
    intro N
    induction N using Nat.strongRecOn with
    | _ N ih11 => ?_
    intro n t S1 hn ht hI hE h3 h4 hp hN11
    have e21 : S1 2 a.toNat = nA A a := by rw [hE _ _ (by decide) (by decide)]; exact e2
    refine z_iload_n (pc := 11) h dX11_faultNow_11 rfl ?_
    refine z_aload_n (pc := 12) h dX11_faultNow_12 rfl ?_
    refine z_getR (a := 2) (pc := 13) h dX11_faultNow_13 clX11 lkX11_13 (by decide) rfl rfl ?_
    refine z_iload_n (pc := 16) h dX11_faultNow_16 rfl ?_
    refine z_iald (pc := 17) h dX11_faultNow_17 rfl (by decide) (by omega) (by omega) ?_
    refine z_icmp_lt (pc := 18) (tgt := 25) h dX11_faultNow_18 (by decide) ⟨by omega, by omega⟩ ⟨by omega, by omega⟩ (fun hc18 => ?_) (fun hc18 => ?_)
    ·
      refine z_iload_n (pc := 25) h dX11_faultNow_25 rfl ?_
      refine z_bipush (pc := 26) h dX11_faultNow_26 rfl ?_
      refine z_icmp_ne (pc := 28) (tgt := 33) h dX11_faultNow_28 (by decide) ⟨by omega, by omega⟩ ⟨by decide, by decide⟩ (fun hc28 => ?_) (fun hc28 => ?_)
      ·
        refine z_iconst (pc := 33) h dX11_faultNow_33 ?_
        refine z_istore (pc := 34) (loc' := [some (zr 0), some (zi a), some (zi n), some (zi t), some (zi 0), none]) h dX11_faultNow_34 (Nat.le_of_ble_eq_true rfl) rfl rfl ?_
        have J36 : ∀ (N : Nat) (p t2 : Int) (S2 : SS) (hp4 : 0 ≤ p ∧ p ≤ 4) (ht2 : t2 = 5 * n + p ∧ t2 ≤ (nA A a) ∧ 0 < (nA A a) ∧ n ≤ 11) (hI2 : faultR (tA A a) (nA A a) ((nA A a) - t2).toNat t2 = faultF (tA A a) (nA A a)) (hE2 : ∀ k j, k ≠ 3 → k ≠ 4 → S2 k j = S k j) (h32 : S2 3 a.toNat = 0) (h42 : ∀ j, -1 ≤ S2 4 j ∧ S2 4 j ≤ 9) (hp2 : ∀ j : Nat, (j : Int) < 4 * n + p → S2 4 (48 * a + j).toNat = placeF (tA A a) j) , (4 - p).toNat = N → zG x LM 36 [some (zr 0), some (zi a), some (zi n), some (zi t2), some (zi p), none] ([] : List zV) S2 := by
          intro N
          induction N using Nat.strongRecOn with
          | _ N ih36 => ?_
          intro p t2 S2 hp4 ht2 hI2 hE2 h32 h42 hp2 hN36
          have e22 : S2 2 a.toNat = nA A a := by rw [hE2 _ _ (by decide) (by decide)]; exact e2
          have hR2 : mRel S2 A := mr_e hR (fun k j a1 a2 _ _ _ _ => hE2 k j a1 a2) h42
          refine z_iload (pc := 36) h dX11_faultNow_36 rfl ?_
          refine z_iconst (pc := 38) h dX11_faultNow_38 ?_
          refine z_icmp_ge (pc := 39) (tgt := 112) h dX11_faultNow_39 (by decide) ⟨by omega, by omega⟩ ⟨by decide, by decide⟩ (fun hc39 => ?_) (fun hc39 => ?_)
          ·
            refine z_iinc (pc := 112) (loc' := [some (zr 0), some (zi a), some (zi (n + 1)), some (zi t2), some (zi p), none]) h dX11_faultNow_112 rfl (Nat.le_of_ble_eq_true rfl) rfl rfl ?_
            refine z_iload_n (pc := 115) h dX11_faultNow_115 rfl ?_
            refine z_aload_n (pc := 116) h dX11_faultNow_116 rfl ?_
            refine z_getR (a := 2) (pc := 117) h dX11_faultNow_117 clX11 lkX11_13 (by decide) rfl rfl ?_
            refine z_iload_n (pc := 120) h dX11_faultNow_120 rfl ?_
            refine z_iald (pc := 121) h dX11_faultNow_121 rfl (by decide) (by omega) (by omega) ?_
            refine z_icmp_ne (pc := 122) (tgt := 134) h dX11_faultNow_122 (by decide) ⟨by omega, by omega⟩ ⟨by omega, by omega⟩ (fun hc122 => ?_) (fun hc122 => ?_)
            ·
              refine z_aload_n (pc := 134) h dX11_faultNow_134 rfl ?_
              refine z_iload_n (pc := 135) h dX11_faultNow_135 rfl ?_
              refine z_iload_n (pc := 136) h dX11_faultNow_136 rfl ?_
              refine z_callV (pc := 137) (rest := ([] : List zV)) h (m_X11_byteAt a t2 _ S2 (by first | assumption | omega) (by first | assumption | omega) (by first | assumption | omega) (by first | assumption | omega)) dX11_faultNow_137 mcX11_byteAt miX11_byteAt mlX11_83 rfl rfl ⟨by decide, by decide⟩ clX11 rfl rfl rfl (Nat.le_of_ble_eq_true rfl) ?_
              rintro _ _ ⟨rfl, rfl⟩
              show zG x LM 140 [some (zr 0), some (zi a), some (zi (n + 1)), some (zi t2), some (zi p), none] [zi (btF (tA A a) (nA A a) t2)] S2
              have hbx : -1 ≤ btF (tA A a) (nA A a) t2 ∧ btF (tA A a) (nA A a) t2 ≤ 255 ∧ (t2 < (nA A a) → btF (tA A a) (nA A a) t2 = (tA A a) t2.toNat) ∧ ((nA A a) ≤ t2 → btF (tA A a) (nA A a) t2 = -1) := by
                have h1 := mi_t hm (80 * a.toNat + t2.toNat)
                have h2 : (tA A a) t2.toNat = A 1 (80 * a.toNat + t2.toNat) := rfl
                unfold btF
                split <;> omega
              refine z_bipush (pc := 140) h dX11_faultNow_140 rfl ?_
              refine z_icmp_eq (pc := 142) (tgt := 147) h dX11_faultNow_142 (by decide) ⟨by omega, by omega⟩ ⟨by decide, by decide⟩ (fun hc142 => ?_) (fun hc142 => ?_)
              ·
                have hI3 : faultR (tA A a) (nA A a) ((nA A a) - (t2 + 1)).toNat (t2 + 1) = faultF (tA A a) (nA A a) := by rw [fault_s (r' := ((nA A a) - (t2 + 1)).toNat) (by omega), if_neg (by omega), if_pos (by omega)] at hI2; exact hI2
                refine z_iinc (pc := 147) (loc' := [some (zr 0), some (zi a), some (zi (n + 1)), some (zi (t2 + 1)), some (zi p), none]) h dX11_faultNow_147 rfl (Nat.le_of_ble_eq_true rfl) rfl rfl ?_
                refine z_goto (pc := 150) (tgt := 11) h dX11_faultNow_150 (by decide) ?_
                refine z_forget [true, true, true, true, false, true] (loc' := [some (zr 0), some (zi a), some (zi (n + 1)), some (zi (t2 + 1)), none, none]) rfl ?_
                exact ih11 _ (by omega) (n + 1) (t2 + 1) S2 (by omega) (by omega) (by exact hI3) (by exact hE2) (by exact h32) (by exact h42) (fun j hj => hp2 j (by omega)) rfl
              ·
                refine z_iload_n (pc := 145) h dX11_faultNow_145 rfl ?_
                refine z_iret (pc := 146) h dX11_faultNow_146 rfl ?_
                have hv : t2 = faultF (tA A a) (nA A a) := by rw [fault_s (r' := ((nA A a) - (t2 + 1)).toNat) (by omega), if_neg (by omega), if_neg (by omega)] at hI2; exact hI2
                exact ⟨congrArg (fun z => some (zi z)) hv, hE2, mr_e hR (fun k j a1 a2 _ _ _ _ => hE2 k j a1 a2) h42, prs_z h32 (mA_z (by omega))⟩
            ·
              refine z_aload_n (pc := 125) h dX11_faultNow_125 rfl ?_
              refine z_getR (a := 3) (pc := 126) h dX11_faultNow_126 clX11 lkX11_16 (by decide) rfl rfl ?_
              refine z_iload_n (pc := 129) h dX11_faultNow_129 rfl ?_
              refine z_iload_n (pc := 130) h dX11_faultNow_130 rfl ?_
              refine z_iast (pc := 131) h dX11_faultNow_131 rfl (by decide) (by omega) (by omega) ?_
              refine z_iconst (pc := 132) h dX11_faultNow_132 ?_
              refine z_iret (pc := 133) h dX11_faultNow_133 rfl ?_
              have hv : -1 = faultF (tA A a) (nA A a) := by rw [fault_0 (by omega), if_pos (by omega)] at hI2; exact hI2
              refine ⟨congrArg (fun z => some (zi z)) hv, fun k j k3 k4 => by rw [up2_k _ _ k3]; exact hE2 k j k3 k4, mr_e hR (fun k j a1 a2 _ _ _ _ => by rw [up2_k _ _ a1]; exact hE2 k j a1 a2) (fun j => by rw [up2_k _ _ (by decide)]; exact h42 j), prs_m (n := n + 1) ha (by omega) (up2_s _ _ _ _) (by unfold mA picsF; rw [if_pos hv.symm]; omega) (fun j hj => by rw [up2_k _ _ (by decide)]; exact hp2 j (by omega))⟩
          ·
            have J71 : ∀ (b : Int) (hbT : b = (tA A a) t2.toNat) (hbG : t2 < (nA A a) ∧ (b = 45 ∨ (48 ≤ b ∧ b ≤ 57))) , zG x LM 71 [some (zr 0), some (zi a), some (zi n), some (zi t2), some (zi p), some (zi b)] ([] : List zV) S2 := by
              intro b hbT hbG
              have hI4 : faultR (tA A a) (nA A a) ((nA A a) - (t2 + 1)).toNat (t2 + 1) = faultF (tA A a) (nA A a) := by rw [fault_s (r' := ((nA A a) - (t2 + 1)).toNat) (by omega), if_neg (by omega), if_pos (by rw [← hbT]; omega)] at hI2; exact hI2
              refine z_aload_n (pc := 71) h dX11_faultNow_71 rfl ?_
              refine z_getR (a := 4) (pc := 72) h dX11_faultNow_72 clX11 lkX11_19 (by decide) rfl rfl ?_
              refine z_bipush (pc := 75) h dX11_faultNow_75 rfl ?_
              refine z_iload_n (pc := 77) h dX11_faultNow_77 rfl ?_
              refine z_imul (pc := 78) h dX11_faultNow_78 ?_
              refine z_iconst (pc := 79) h dX11_faultNow_79 ?_
              refine z_iload_n (pc := 80) h dX11_faultNow_80 rfl ?_
              refine z_imul (pc := 81) h dX11_faultNow_81 ?_
              refine z_iadd (pc := 82) h dX11_faultNow_82 ?_
              refine z_iload (pc := 83) h dX11_faultNow_83 rfl ?_
              refine z_iadd (pc := 85) h dX11_faultNow_85 ?_
              refine z_iload (pc := 86) h dX11_faultNow_86 rfl ?_
              refine z_bipush (pc := 88) h dX11_faultNow_88 rfl ?_
              refine z_icmp_ne (pc := 90) (tgt := 97) h dX11_faultNow_90 (by decide) ⟨by omega, by omega⟩ ⟨by decide, by decide⟩ (fun hc90 => ?_) (fun hc90 => ?_)
              ·
                refine z_iload (pc := 97) h dX11_faultNow_97 rfl ?_
                refine z_bipush (pc := 99) h dX11_faultNow_99 rfl ?_
                refine z_isub (pc := 101) h dX11_faultNow_101 ?_
                refine z_iast (pc := 102) h dX11_faultNow_102 rfl (by decide) (by omega) (by omega) ?_
                refine z_iinc (pc := 103) (loc' := [some (zr 0), some (zi a), some (zi n), some (zi (t2 + 1)), some (zi p), some (zi b)]) h dX11_faultNow_103 rfl (Nat.le_of_ble_eq_true rfl) rfl rfl ?_
                refine z_iinc (pc := 106) (loc' := [some (zr 0), some (zi a), some (zi n), some (zi (t2 + 1)), some (zi (p + 1)), some (zi b)]) h dX11_faultNow_106 rfl (Nat.le_of_ble_eq_true rfl) rfl rfl ?_
                refine z_goto (pc := 109) (tgt := 36) h dX11_faultNow_109 (by decide) ?_
                refine z_forget [true, true, true, true, true, false] (loc' := [some (zr 0), some (zi a), some (zi n), some (zi (t2 + 1)), some (zi (p + 1)), none]) rfl ?_
                exact ih36 _ (by omega) (p + 1) (t2 + 1) (up2 S2 4 (Int.toNat (((48 * a) + (4 * n)) + p)) (b - 48)) (by omega) (by omega) (by exact hI4) (fun k j k3 k4 => by rw [up2_k _ _ k4]; exact hE2 k j k3 k4) (by rw [up2_k _ _ (by decide)]; exact h32) (by intro j; rw [up2_e]; split; omega; exact h42 j) (by intro j hj; by_cases hj2 : (j : Int) = 4 * n + p; (rw [show (48 * a + (j : Int)).toNat = (48 * a + 4 * n + p).toNat by omega, up2_s, hj2]; unfold placeF; rw [show (4 * n + p) / 4 * 5 + (4 * n + p) % 4 = t2 by omega, ← hbT]; first | exact (if_neg hc90).symm | exact (if_pos hc90).symm); (rw [up2_j _ _ (by omega)]; exact hp2 j (by omega))) rfl
              ·
                refine z_iconst (pc := 93) h dX11_faultNow_93 ?_
                refine z_goto (pc := 94) (tgt := 102) h dX11_faultNow_94 (by decide) ?_
                refine z_iast (pc := 102) h dX11_faultNow_102 rfl (by decide) (by omega) (by omega) ?_
                refine z_iinc (pc := 103) (loc' := [some (zr 0), some (zi a), some (zi n), some (zi (t2 + 1)), some (zi p), some (zi b)]) h dX11_faultNow_103 rfl (Nat.le_of_ble_eq_true rfl) rfl rfl ?_
                refine z_iinc (pc := 106) (loc' := [some (zr 0), some (zi a), some (zi n), some (zi (t2 + 1)), some (zi (p + 1)), some (zi b)]) h dX11_faultNow_106 rfl (Nat.le_of_ble_eq_true rfl) rfl rfl ?_
                refine z_goto (pc := 109) (tgt := 36) h dX11_faultNow_109 (by decide) ?_
                refine z_forget [true, true, true, true, true, false] (loc' := [some (zr 0), some (zi a), some (zi n), some (zi (t2 + 1)), some (zi (p + 1)), none]) rfl ?_
                exact ih36 _ (by omega) (p + 1) (t2 + 1) (up2 S2 4 (Int.toNat (((48 * a) + (4 * n)) + p)) (-1)) (by omega) (by omega) (by exact hI4) (fun k j k3 k4 => by rw [up2_k _ _ k4]; exact hE2 k j k3 k4) (by rw [up2_k _ _ (by decide)]; exact h32) (by intro j; rw [up2_e]; split; omega; exact h42 j) (by intro j hj; by_cases hj2 : (j : Int) = 4 * n + p; (rw [show (48 * a + (j : Int)).toNat = (48 * a + 4 * n + p).toNat by omega, up2_s, hj2]; unfold placeF; rw [show (4 * n + p) / 4 * 5 + (4 * n + p) % 4 = t2 by omega, ← hbT]; first | exact (if_neg hc90).symm | exact (if_pos hc90).symm); (rw [up2_j _ _ (by omega)]; exact hp2 j (by omega))) rfl
            refine z_aload_n (pc := 42) h dX11_faultNow_42 rfl ?_
            refine z_iload_n (pc := 43) h dX11_faultNow_43 rfl ?_
            refine z_iload_n (pc := 44) h dX11_faultNow_44 rfl ?_
            refine z_callV (pc := 45) (rest := ([] : List zV)) h (m_X11_byteAt a t2 _ S2 (by first | assumption | omega) (by first | assumption | omega) (by first | assumption | omega) (by first | assumption | omega)) dX11_faultNow_45 mcX11_byteAt miX11_byteAt mlX11_83 rfl rfl ⟨by decide, by decide⟩ clX11 rfl rfl rfl (Nat.le_of_ble_eq_true rfl) ?_
            rintro _ _ ⟨rfl, rfl⟩
            show zG x LM 48 [some (zr 0), some (zi a), some (zi n), some (zi t2), some (zi p), none] [zi (btF (tA A a) (nA A a) t2)] S2
            refine z_istore (pc := 48) (loc' := [some (zr 0), some (zi a), some (zi n), some (zi t2), some (zi p), some (zi (btF (tA A a) (nA A a) t2))]) h dX11_faultNow_48 (Nat.le_of_ble_eq_true rfl) rfl rfl ?_
            have hbx : -1 ≤ btF (tA A a) (nA A a) t2 ∧ btF (tA A a) (nA A a) t2 ≤ 255 ∧ (t2 < (nA A a) → btF (tA A a) (nA A a) t2 = (tA A a) t2.toNat) ∧ ((nA A a) ≤ t2 → btF (tA A a) (nA A a) t2 = -1) := by
              have h1 := mi_t hm (80 * a.toNat + t2.toNat)
              have h2 : (tA A a) t2.toNat = A 1 (80 * a.toNat + t2.toNat) := rfl
              unfold btF
              split <;> omega
            refine z_iload (pc := 50) h dX11_faultNow_50 rfl ?_
            refine z_bipush (pc := 52) h dX11_faultNow_52 rfl ?_
            refine z_icmp_eq (pc := 54) (tgt := 71) h dX11_faultNow_54 (by decide) ⟨by omega, by omega⟩ ⟨by decide, by decide⟩ (fun hc54 => ?_) (fun hc54 => ?_)
            ·
              exact J71 (btF (tA A a) (nA A a) t2) (by unfold btF at *; rw [if_pos (by omega)]) (by unfold btF at *; split at hbx <;> omega)
            ·
              refine z_iload (pc := 57) h dX11_faultNow_57 rfl ?_
              refine z_bipush (pc := 59) h dX11_faultNow_59 rfl ?_
              refine z_bipush (pc := 61) h dX11_faultNow_61 rfl ?_
              refine z_callS (pc := 63) (rest := ([] : List zV)) h (m_X11_in (btF (tA A a) (nA A a) t2) 48 57 S2 ⟨by omega, by omega⟩ ⟨by decide, by decide⟩ ⟨by decide, by decide⟩) dX11_faultNow_63 mcX11_in msX11_in mlX11_75 rfl rfl ⟨by decide, by decide⟩ rfl (Nat.le_of_ble_eq_true rfl) ?_
              rintro _ _ ⟨rfl, ⟨hr63, rfl⟩ | ⟨hr63, rfl⟩⟩
              ·
                show zG x LM 66 [some (zr 0), some (zi a), some (zi n), some (zi t2), some (zi p), some (zi (btF (tA A a) (nA A a) t2))] [zi 1] S2
                refine z_if_ne (pc := 66) (tgt := 71) h dX11_faultNow_66 (by decide) ⟨by decide, by decide⟩ (fun hc66 => ?_) (fun hc66 => absurd hc66 (by decide))
                exact J71 (btF (tA A a) (nA A a) t2) (by unfold btF at *; rw [if_pos (by omega)]) (by unfold btF at *; split at hbx <;> omega)
              ·
                show zG x LM 66 [some (zr 0), some (zi a), some (zi n), some (zi t2), some (zi p), some (zi (btF (tA A a) (nA A a) t2))] [zi 0] S2
                refine z_if_ne (pc := 66) (tgt := 71) h dX11_faultNow_66 (by decide) ⟨by decide, by decide⟩ (fun hc66 => absurd hc66 (by decide)) (fun hc66 => ?_)
                refine z_iload_n (pc := 69) h dX11_faultNow_69 rfl ?_
                refine z_iret (pc := 70) h dX11_faultNow_70 rfl ?_
                have hv : t2 = faultF (tA A a) (nA A a) := by
                  by_cases hq : (nA A a) = t2
                  · rw [fault_0 (by omega), if_neg (by omega)] at hI2; omega
                  · rw [fault_s (r' := ((nA A a) - (t2 + 1)).toNat) (by omega), if_neg (by omega), if_neg (by omega)] at hI2; exact hI2
                exact ⟨congrArg (fun z => some (zi z)) hv, hE2, mr_e hR (fun k j a1 a2 _ _ _ _ => hE2 k j a1 a2) h42, prs_z h32 (mA_z (by omega))⟩
        exact J36 _ 0 t S1 (by omega) (by omega) (by exact hI) (by exact hE) (by exact h3) (by exact h4) (fun j hj => hp j (by omega)) rfl
      ·
        refine z_iload_n (pc := 31) h dX11_faultNow_31 rfl ?_
        refine z_iret (pc := 32) h dX11_faultNow_32 rfl ?_
        have hv : t = faultF (tA A a) (nA A a) := by
          by_cases hq : (nA A a) = t
          · rw [fault_0 (by omega), if_neg (by omega)] at hI; omega
          · rw [fault_s (r' := ((nA A a) - (t + 1)).toNat) (by omega), if_pos (by omega)] at hI; exact hI
        exact ⟨congrArg (fun z => some (zi z)) hv, hE, mr_e hR (fun k j a1 a2 _ _ _ _ => hE k j a1 a2) h4, prs_z h3 (mA_z (by omega))⟩
    ·
      refine z_iload_n (pc := 21) h dX11_faultNow_21 rfl ?_
      refine z_if_le (pc := 22) (tgt := 153) h dX11_faultNow_22 (by decide) ⟨by omega, by omega⟩ (fun hc22 => ?_) (fun hc22 => ?_)
      ·
        refine z_iconst (pc := 153) h dX11_faultNow_153 ?_
        refine z_iret (pc := 154) h dX11_faultNow_154 rfl ?_
        have hv : -1 = faultF (tA A a) (nA A a) := by rw [fault_0 (by omega), if_pos (by omega)] at hI; exact hI
        exact ⟨congrArg (fun z => some (zi z)) hv, hE, mr_e hR (fun k j a1 a2 _ _ _ _ => hE k j a1 a2) h4, prs_z h3 (by unfold mA picsF; rw [if_pos hv.symm]; omega)⟩
      ·
        refine z_iload_n (pc := 25) h dX11_faultNow_25 rfl ?_
        refine z_bipush (pc := 26) h dX11_faultNow_26 rfl ?_
        refine z_icmp_ne (pc := 28) (tgt := 33) h dX11_faultNow_28 (by decide) ⟨by omega, by omega⟩ ⟨by decide, by decide⟩ (fun hc28 => ?_) (fun hc28 => ?_)
        ·
          refine z_iconst (pc := 33) h dX11_faultNow_33 ?_
          refine z_istore (pc := 34) (loc' := [some (zr 0), some (zi a), some (zi n), some (zi t), some (zi 0), none]) h dX11_faultNow_34 (Nat.le_of_ble_eq_true rfl) rfl rfl ?_
          have J36 : ∀ (N : Nat) (p t2 : Int) (S2 : SS) (hp4 : 0 ≤ p ∧ p ≤ 4) (ht2 : t2 = 5 * n + p ∧ t2 ≤ (nA A a) ∧ 0 < (nA A a) ∧ n ≤ 11) (hI2 : faultR (tA A a) (nA A a) ((nA A a) - t2).toNat t2 = faultF (tA A a) (nA A a)) (hE2 : ∀ k j, k ≠ 3 → k ≠ 4 → S2 k j = S k j) (h32 : S2 3 a.toNat = 0) (h42 : ∀ j, -1 ≤ S2 4 j ∧ S2 4 j ≤ 9) (hp2 : ∀ j : Nat, (j : Int) < 4 * n + p → S2 4 (48 * a + j).toNat = placeF (tA A a) j) , (4 - p).toNat = N → zG x LM 36 [some (zr 0), some (zi a), some (zi n), some (zi t2), some (zi p), none] ([] : List zV) S2 := by
            intro N
            induction N using Nat.strongRecOn with
            | _ N ih36 => ?_
            intro p t2 S2 hp4 ht2 hI2 hE2 h32 h42 hp2 hN36
            have e22 : S2 2 a.toNat = nA A a := by rw [hE2 _ _ (by decide) (by decide)]; exact e2
            have hR2 : mRel S2 A := mr_e hR (fun k j a1 a2 _ _ _ _ => hE2 k j a1 a2) h42
            refine z_iload (pc := 36) h dX11_faultNow_36 rfl ?_
            refine z_iconst (pc := 38) h dX11_faultNow_38 ?_
            refine z_icmp_ge (pc := 39) (tgt := 112) h dX11_faultNow_39 (by decide) ⟨by omega, by omega⟩ ⟨by decide, by decide⟩ (fun hc39 => ?_) (fun hc39 => ?_)
            ·
              refine z_iinc (pc := 112) (loc' := [some (zr 0), some (zi a), some (zi (n + 1)), some (zi t2), some (zi p), none]) h dX11_faultNow_112 rfl (Nat.le_of_ble_eq_true rfl) rfl rfl ?_
              refine z_iload_n (pc := 115) h dX11_faultNow_115 rfl ?_
              refine z_aload_n (pc := 116) h dX11_faultNow_116 rfl ?_
              refine z_getR (a := 2) (pc := 117) h dX11_faultNow_117 clX11 lkX11_13 (by decide) rfl rfl ?_
              refine z_iload_n (pc := 120) h dX11_faultNow_120 rfl ?_
              refine z_iald (pc := 121) h dX11_faultNow_121 rfl (by decide) (by omega) (by omega) ?_
              refine z_icmp_ne (pc := 122) (tgt := 134) h dX11_faultNow_122 (by decide) ⟨by omega, by omega⟩ ⟨by omega, by omega⟩ (fun hc122 => ?_) (fun hc122 => ?_)
              ·
                refine z_aload_n (pc := 134) h dX11_faultNow_134 rfl ?_
                refine z_iload_n (pc := 135) h dX11_faultNow_135 rfl ?_
                refine z_iload_n (pc := 136) h dX11_faultNow_136 rfl ?_
                refine z_callV (pc := 137) (rest := ([] : List zV)) h (m_X11_byteAt a t2 _ S2 (by first | assumption | omega) (by first | assumption | omega) (by first | assumption | omega) (by first | assumption | omega)) dX11_faultNow_137 mcX11_byteAt miX11_byteAt mlX11_83 rfl rfl ⟨by decide, by decide⟩ clX11 rfl rfl rfl (Nat.le_of_ble_eq_true rfl) ?_
                rintro _ _ ⟨rfl, rfl⟩
                show zG x LM 140 [some (zr 0), some (zi a), some (zi (n + 1)), some (zi t2), some (zi p), none] [zi (btF (tA A a) (nA A a) t2)] S2
                have hbx : -1 ≤ btF (tA A a) (nA A a) t2 ∧ btF (tA A a) (nA A a) t2 ≤ 255 ∧ (t2 < (nA A a) → btF (tA A a) (nA A a) t2 = (tA A a) t2.toNat) ∧ ((nA A a) ≤ t2 → btF (tA A a) (nA A a) t2 = -1) := by
                  have h1 := mi_t hm (80 * a.toNat + t2.toNat)
                  have h2 : (tA A a) t2.toNat = A 1 (80 * a.toNat + t2.toNat) := rfl
                  unfold btF
                  split <;> omega
                refine z_bipush (pc := 140) h dX11_faultNow_140 rfl ?_
                refine z_icmp_eq (pc := 142) (tgt := 147) h dX11_faultNow_142 (by decide) ⟨by omega, by omega⟩ ⟨by decide, by decide⟩ (fun hc142 => ?_) (fun hc142 => ?_)
                ·
                  have hI3 : faultR (tA A a) (nA A a) ((nA A a) - (t2 + 1)).toNat (t2 + 1) = faultF (tA A a) (nA A a) := by rw [fault_s (r' := ((nA A a) - (t2 + 1)).toNat) (by omega), if_neg (by omega), if_pos (by omega)] at hI2; exact hI2
                  refine z_iinc (pc := 147) (loc' := [some (zr 0), some (zi a), some (zi (n + 1)), some (zi (t2 + 1)), some (zi p), none]) h dX11_faultNow_147 rfl (Nat.le_of_ble_eq_true rfl) rfl rfl ?_
                  refine z_goto (pc := 150) (tgt := 11) h dX11_faultNow_150 (by decide) ?_
                  refine z_forget [true, true, true, true, false, true] (loc' := [some (zr 0), some (zi a), some (zi (n + 1)), some (zi (t2 + 1)), none, none]) rfl ?_
                  exact ih11 _ (by omega) (n + 1) (t2 + 1) S2 (by omega) (by omega) (by exact hI3) (by exact hE2) (by exact h32) (by exact h42) (fun j hj => hp2 j (by omega)) rfl
                ·
                  refine z_iload_n (pc := 145) h dX11_faultNow_145 rfl ?_
                  refine z_iret (pc := 146) h dX11_faultNow_146 rfl ?_
                  have hv : t2 = faultF (tA A a) (nA A a) := by rw [fault_s (r' := ((nA A a) - (t2 + 1)).toNat) (by omega), if_neg (by omega), if_neg (by omega)] at hI2; exact hI2
                  exact ⟨congrArg (fun z => some (zi z)) hv, hE2, mr_e hR (fun k j a1 a2 _ _ _ _ => hE2 k j a1 a2) h42, prs_z h32 (mA_z (by omega))⟩
              ·
                refine z_aload_n (pc := 125) h dX11_faultNow_125 rfl ?_
                refine z_getR (a := 3) (pc := 126) h dX11_faultNow_126 clX11 lkX11_16 (by decide) rfl rfl ?_
                refine z_iload_n (pc := 129) h dX11_faultNow_129 rfl ?_
                refine z_iload_n (pc := 130) h dX11_faultNow_130 rfl ?_
                refine z_iast (pc := 131) h dX11_faultNow_131 rfl (by decide) (by omega) (by omega) ?_
                refine z_iconst (pc := 132) h dX11_faultNow_132 ?_
                refine z_iret (pc := 133) h dX11_faultNow_133 rfl ?_
                have hv : -1 = faultF (tA A a) (nA A a) := by rw [fault_0 (by omega), if_pos (by omega)] at hI2; exact hI2
                refine ⟨congrArg (fun z => some (zi z)) hv, fun k j k3 k4 => by rw [up2_k _ _ k3]; exact hE2 k j k3 k4, mr_e hR (fun k j a1 a2 _ _ _ _ => by rw [up2_k _ _ a1]; exact hE2 k j a1 a2) (fun j => by rw [up2_k _ _ (by decide)]; exact h42 j), prs_m (n := n + 1) ha (by omega) (up2_s _ _ _ _) (by unfold mA picsF; rw [if_pos hv.symm]; omega) (fun j hj => by rw [up2_k _ _ (by decide)]; exact hp2 j (by omega))⟩
            ·
              have J71 : ∀ (b : Int) (hbT : b = (tA A a) t2.toNat) (hbG : t2 < (nA A a) ∧ (b = 45 ∨ (48 ≤ b ∧ b ≤ 57))) , zG x LM 71 [some (zr 0), some (zi a), some (zi n), some (zi t2), some (zi p), some (zi b)] ([] : List zV) S2 := by
                intro b hbT hbG
                have hI4 : faultR (tA A a) (nA A a) ((nA A a) - (t2 + 1)).toNat (t2 + 1) = faultF (tA A a) (nA A a) := by rw [fault_s (r' := ((nA A a) - (t2 + 1)).toNat) (by omega), if_neg (by omega), if_pos (by rw [← hbT]; omega)] at hI2; exact hI2
                refine z_aload_n (pc := 71) h dX11_faultNow_71 rfl ?_
                refine z_getR (a := 4) (pc := 72) h dX11_faultNow_72 clX11 lkX11_19 (by decide) rfl rfl ?_
                refine z_bipush (pc := 75) h dX11_faultNow_75 rfl ?_
                refine z_iload_n (pc := 77) h dX11_faultNow_77 rfl ?_
                refine z_imul (pc := 78) h dX11_faultNow_78 ?_
                refine z_iconst (pc := 79) h dX11_faultNow_79 ?_
                refine z_iload_n (pc := 80) h dX11_faultNow_80 rfl ?_
                refine z_imul (pc := 81) h dX11_faultNow_81 ?_
                refine z_iadd (pc := 82) h dX11_faultNow_82 ?_
                refine z_iload (pc := 83) h dX11_faultNow_83 rfl ?_
                refine z_iadd (pc := 85) h dX11_faultNow_85 ?_
                refine z_iload (pc := 86) h dX11_faultNow_86 rfl ?_
                refine z_bipush (pc := 88) h dX11_faultNow_88 rfl ?_
                refine z_icmp_ne (pc := 90) (tgt := 97) h dX11_faultNow_90 (by decide) ⟨by omega, by omega⟩ ⟨by decide, by decide⟩ (fun hc90 => ?_) (fun hc90 => ?_)
                ·
                  refine z_iload (pc := 97) h dX11_faultNow_97 rfl ?_
                  refine z_bipush (pc := 99) h dX11_faultNow_99 rfl ?_
                  refine z_isub (pc := 101) h dX11_faultNow_101 ?_
                  refine z_iast (pc := 102) h dX11_faultNow_102 rfl (by decide) (by omega) (by omega) ?_
                  refine z_iinc (pc := 103) (loc' := [some (zr 0), some (zi a), some (zi n), some (zi (t2 + 1)), some (zi p), some (zi b)]) h dX11_faultNow_103 rfl (Nat.le_of_ble_eq_true rfl) rfl rfl ?_
                  refine z_iinc (pc := 106) (loc' := [some (zr 0), some (zi a), some (zi n), some (zi (t2 + 1)), some (zi (p + 1)), some (zi b)]) h dX11_faultNow_106 rfl (Nat.le_of_ble_eq_true rfl) rfl rfl ?_
                  refine z_goto (pc := 109) (tgt := 36) h dX11_faultNow_109 (by decide) ?_
                  refine z_forget [true, true, true, true, true, false] (loc' := [some (zr 0), some (zi a), some (zi n), some (zi (t2 + 1)), some (zi (p + 1)), none]) rfl ?_
                  exact ih36 _ (by omega) (p + 1) (t2 + 1) (up2 S2 4 (Int.toNat (((48 * a) + (4 * n)) + p)) (b - 48)) (by omega) (by omega) (by exact hI4) (fun k j k3 k4 => by rw [up2_k _ _ k4]; exact hE2 k j k3 k4) (by rw [up2_k _ _ (by decide)]; exact h32) (by intro j; rw [up2_e]; split; omega; exact h42 j) (by intro j hj; by_cases hj2 : (j : Int) = 4 * n + p; (rw [show (48 * a + (j : Int)).toNat = (48 * a + 4 * n + p).toNat by omega, up2_s, hj2]; unfold placeF; rw [show (4 * n + p) / 4 * 5 + (4 * n + p) % 4 = t2 by omega, ← hbT]; first | exact (if_neg hc90).symm | exact (if_pos hc90).symm); (rw [up2_j _ _ (by omega)]; exact hp2 j (by omega))) rfl
                ·
                  refine z_iconst (pc := 93) h dX11_faultNow_93 ?_
                  refine z_goto (pc := 94) (tgt := 102) h dX11_faultNow_94 (by decide) ?_
                  refine z_iast (pc := 102) h dX11_faultNow_102 rfl (by decide) (by omega) (by omega) ?_
                  refine z_iinc (pc := 103) (loc' := [some (zr 0), some (zi a), some (zi n), some (zi (t2 + 1)), some (zi p), some (zi b)]) h dX11_faultNow_103 rfl (Nat.le_of_ble_eq_true rfl) rfl rfl ?_
                  refine z_iinc (pc := 106) (loc' := [some (zr 0), some (zi a), some (zi n), some (zi (t2 + 1)), some (zi (p + 1)), some (zi b)]) h dX11_faultNow_106 rfl (Nat.le_of_ble_eq_true rfl) rfl rfl ?_
                  refine z_goto (pc := 109) (tgt := 36) h dX11_faultNow_109 (by decide) ?_
                  refine z_forget [true, true, true, true, true, false] (loc' := [some (zr 0), some (zi a), some (zi n), some (zi (t2 + 1)), some (zi (p + 1)), none]) rfl ?_
                  exact ih36 _ (by omega) (p + 1) (t2 + 1) (up2 S2 4 (Int.toNat (((48 * a) + (4 * n)) + p)) (-1)) (by omega) (by omega) (by exact hI4) (fun k j k3 k4 => by rw [up2_k _ _ k4]; exact hE2 k j k3 k4) (by rw [up2_k _ _ (by decide)]; exact h32) (by intro j; rw [up2_e]; split; omega; exact h42 j) (by intro j hj; by_cases hj2 : (j : Int) = 4 * n + p; (rw [show (48 * a + (j : Int)).toNat = (48 * a + 4 * n + p).toNat by omega, up2_s, hj2]; unfold placeF; rw [show (4 * n + p) / 4 * 5 + (4 * n + p) % 4 = t2 by omega, ← hbT]; first | exact (if_neg hc90).symm | exact (if_pos hc90).symm); (rw [up2_j _ _ (by omega)]; exact hp2 j (by omega))) rfl
              refine z_aload_n (pc := 42) h dX11_faultNow_42 rfl ?_
              refine z_iload_n (pc := 43) h dX11_faultNow_43 rfl ?_
              refine z_iload_n (pc := 44) h dX11_faultNow_44 rfl ?_
              refine z_callV (pc := 45) (rest := ([] : List zV)) h (m_X11_byteAt a t2 _ S2 (by first | assumption | omega) (by first | assumption | omega) (by first | assumption | omega) (by first | assumption | omega)) dX11_faultNow_45 mcX11_byteAt miX11_byteAt mlX11_83 rfl rfl ⟨by decide, by decide⟩ clX11 rfl rfl rfl (Nat.le_of_ble_eq_true rfl) ?_
              rintro _ _ ⟨rfl, rfl⟩
              show zG x LM 48 [some (zr 0), some (zi a), some (zi n), some (zi t2), some (zi p), none] [zi (btF (tA A a) (nA A a) t2)] S2
              refine z_istore (pc := 48) (loc' := [some (zr 0), some (zi a), some (zi n), some (zi t2), some (zi p), some (zi (btF (tA A a) (nA A a) t2))]) h dX11_faultNow_48 (Nat.le_of_ble_eq_true rfl) rfl rfl ?_
              have hbx : -1 ≤ btF (tA A a) (nA A a) t2 ∧ btF (tA A a) (nA A a) t2 ≤ 255 ∧ (t2 < (nA A a) → btF (tA A a) (nA A a) t2 = (tA A a) t2.toNat) ∧ ((nA A a) ≤ t2 → btF (tA A a) (nA A a) t2 = -1) := by
                have h1 := mi_t hm (80 * a.toNat + t2.toNat)
                have h2 : (tA A a) t2.toNat = A 1 (80 * a.toNat + t2.toNat) := rfl
                unfold btF
                split <;> omega
              refine z_iload (pc := 50) h dX11_faultNow_50 rfl ?_
              refine z_bipush (pc := 52) h dX11_faultNow_52 rfl ?_
              refine z_icmp_eq (pc := 54) (tgt := 71) h dX11_faultNow_54 (by decide) ⟨by omega, by omega⟩ ⟨by decide, by decide⟩ (fun hc54 => ?_) (fun hc54 => ?_)
              ·
                exact J71 (btF (tA A a) (nA A a) t2) (by unfold btF at *; rw [if_pos (by omega)]) (by unfold btF at *; split at hbx <;> omega)
              ·
                refine z_iload (pc := 57) h dX11_faultNow_57 rfl ?_
                refine z_bipush (pc := 59) h dX11_faultNow_59 rfl ?_
                refine z_bipush (pc := 61) h dX11_faultNow_61 rfl ?_
                refine z_callS (pc := 63) (rest := ([] : List zV)) h (m_X11_in (btF (tA A a) (nA A a) t2) 48 57 S2 ⟨by omega, by omega⟩ ⟨by decide, by decide⟩ ⟨by decide, by decide⟩) dX11_faultNow_63 mcX11_in msX11_in mlX11_75 rfl rfl ⟨by decide, by decide⟩ rfl (Nat.le_of_ble_eq_true rfl) ?_
                rintro _ _ ⟨rfl, ⟨hr63, rfl⟩ | ⟨hr63, rfl⟩⟩
                ·
                  show zG x LM 66 [some (zr 0), some (zi a), some (zi n), some (zi t2), some (zi p), some (zi (btF (tA A a) (nA A a) t2))] [zi 1] S2
                  refine z_if_ne (pc := 66) (tgt := 71) h dX11_faultNow_66 (by decide) ⟨by decide, by decide⟩ (fun hc66 => ?_) (fun hc66 => absurd hc66 (by decide))
                  exact J71 (btF (tA A a) (nA A a) t2) (by unfold btF at *; rw [if_pos (by omega)]) (by unfold btF at *; split at hbx <;> omega)
                ·
                  show zG x LM 66 [some (zr 0), some (zi a), some (zi n), some (zi t2), some (zi p), some (zi (btF (tA A a) (nA A a) t2))] [zi 0] S2
                  refine z_if_ne (pc := 66) (tgt := 71) h dX11_faultNow_66 (by decide) ⟨by decide, by decide⟩ (fun hc66 => absurd hc66 (by decide)) (fun hc66 => ?_)
                  refine z_iload_n (pc := 69) h dX11_faultNow_69 rfl ?_
                  refine z_iret (pc := 70) h dX11_faultNow_70 rfl ?_
                  have hv : t2 = faultF (tA A a) (nA A a) := by
                    by_cases hq : (nA A a) = t2
                    · rw [fault_0 (by omega), if_neg (by omega)] at hI2; omega
                    · rw [fault_s (r' := ((nA A a) - (t2 + 1)).toNat) (by omega), if_neg (by omega), if_neg (by omega)] at hI2; exact hI2
                  exact ⟨congrArg (fun z => some (zi z)) hv, hE2, mr_e hR (fun k j a1 a2 _ _ _ _ => hE2 k j a1 a2) h42, prs_z h32 (mA_z (by omega))⟩
          exact J36 _ 0 t S1 (by omega) (by omega) (by exact hI) (by exact hE) (by exact h3) (by exact h4) (fun j hj => hp j (by omega)) rfl
        ·
          refine z_iload_n (pc := 31) h dX11_faultNow_31 rfl ?_
          refine z_iret (pc := 32) h dX11_faultNow_32 rfl ?_
          have hv : t = faultF (tA A a) (nA A a) := by
            by_cases hq : (nA A a) = t
            · rw [fault_0 (by omega), if_neg (by omega)] at hI; omega
            · rw [fault_s (r' := ((nA A a) - (t + 1)).toNat) (by omega), if_pos (by omega)] at hI; exact hI
          exact ⟨congrArg (fun z => some (zi z)) hv, hE, mr_e hR (fun k j a1 a2 _ _ _ _ => hE k j a1 a2) h4, prs_z h3 (mA_z (by omega))⟩
  exact J11 _ 0 0 (up2 S 3 a.toNat 0) (by omega) (by omega) (by unfold faultF; congr 1; omega) (fun k j k3 k4 => up2_k _ _ k3) (up2_s _ _ _ _) (fun j => by rw [up2_k _ _ (by decide)]; exact hR.2 j) (fun j hj => by omega) rfl

set_option maxRecDepth 100000 in
set_option maxHeartbeats 4000000 in
theorem m_X11_pictures (a : Int) (A S : SS) (ha : isS a) (hR : mRel S A) (hm : MI A) : zM LM yX11_pictures cX11_pictures 3 (some .int) 2 47 [zr 0, zi a] S (fun r S' => r = some (zi (mA A a)) ∧ (∀ k j, k ≠ 3 → k ≠ 4 → S' k j = S k j) ∧ mRel S' A ∧ prsM S' A a) := by
  refine zM_of (own := RX11) rfl (by decide +kernel) [some (zr 0), some (zi a), none] (Nat.le_of_ble_eq_true rfl) rfl ?_
  intro x h
  refine z_aload_n (pc := 0) h dX11_pictures_0 rfl ?_
  refine z_iload_n (pc := 1) h dX11_pictures_1 rfl ?_
  refine z_callV (pc := 2) (rest := ([] : List zV)) h (m_X11_faultNow a _ S (by first | assumption | omega) (by first | assumption | omega) (by first | assumption | omega)) dX11_pictures_2 mcX11_faultNow miX11_faultNow mlX11_86 rfl rfl ⟨by decide, by decide⟩ clX11 rfl rfl rfl (Nat.le_of_ble_eq_true rfl) ?_
  rintro _ S2 ⟨rfl, hr2E, hr2R, hr2P⟩
  show zG x LM 5 [some (zr 0), some (zi a), none] [zi (faultF (tA A a) (nA A a))] S2
  refine z_istore_n (pc := 5) (loc' := [some (zr 0), some (zi a), some (zi (faultF (tA A a) (nA A a)))]) h dX11_pictures_5 rfl (Nat.le_of_ble_eq_true rfl) rfl rfl ?_
  refine z_aload_n (pc := 6) h dX11_pictures_6 rfl ?_
  refine z_getR (a := 3) (pc := 7) h dX11_pictures_7 clX11 lkX11_16 (by decide) rfl rfl ?_
  refine z_iload_n (pc := 10) h dX11_pictures_10 rfl ?_
  refine z_iald (pc := 11) h dX11_pictures_11 rfl (by decide) (by omega) (by omega) ?_
  exact z_iret (pc := 12) h dX11_pictures_12 rfl (⟨congrArg (fun z => some (zi z)) hr2P.1, hr2E, hr2R, hr2P⟩)

set_option maxRecDepth 100000 in
set_option maxHeartbeats 4000000 in
theorem m_X11_stepBy (a b : Int) (S : SS) (ha : 0 ≤ a ∧ a ≤ 96) (hb : 0 ≤ b ∧ b ≤ 96) (hg : 0 ≤ S 5 0 ∧ S 5 0 ≤ 9) (h4 : ∀ j, -1 ≤ S 4 j ∧ S 4 j ≤ 9) : zM LM yX11_stepBy cX11_stepBy 7 (some .int) 1 20 [zr 0, zi a, zi b] S (fun r S' => S = S' ∧ r = some (zi (stM S a b))) := by
  refine zM_of (own := RX11) rfl (by decide +kernel) [some (zr 0), some (zi a), some (zi b), none, none, none, none] (Nat.le_of_ble_eq_true rfl) rfl ?_
  intro x h
  refine z_iconst (pc := 0) h dX11_stepBy_0 ?_
  refine z_istore_n (pc := 1) (loc' := [some (zr 0), some (zi a), some (zi b), some (zi 0), none, none, none]) h dX11_stepBy_1 rfl (Nat.le_of_ble_eq_true rfl) rfl rfl ?_
  refine z_iconst (pc := 2) h dX11_stepBy_2 ?_
  refine z_istore (pc := 3) (loc' := [some (zr 0), some (zi a), some (zi b), some (zi 0), some (zi 0), none, none]) h dX11_stepBy_3 (Nat.le_of_ble_eq_true rfl) rfl rfl ?_
  have J5 : ∀ (N : Nat) (z p : Int) (hp : 0 ≤ p ∧ p ≤ 4) (hz : z = stN S a b p.toNat) , (4 - p).toNat = N → zG x LM 5 [some (zr 0), some (zi a), some (zi b), some (zi z), some (zi p), none, none] ([] : List zV) S := by
    intro N
    induction N using Nat.strongRecOn with
    | _ N ih5 => ?_
    intro z p hp hz hN5
    have hsb := stN_b (S := S) (x := a) (y := b) hg h4 p.toNat
    have u1 := h4 (a + p).toNat
    have u2 := h4 (b + p).toNat
    refine z_iload (pc := 5) h dX11_stepBy_5 rfl ?_
    refine z_iconst (pc := 7) h dX11_stepBy_7 ?_
    refine z_icmp_ge (pc := 8) (tgt := 115) h dX11_stepBy_8 (by decide) ⟨by omega, by omega⟩ ⟨by decide, by decide⟩ (fun hc8 => ?_) (fun hc8 => ?_)
    ·
      refine z_iload_n (pc := 115) h dX11_stepBy_115 rfl ?_
      exact z_iret (pc := 116) h dX11_stepBy_116 rfl ⟨rfl, congrArg (fun z => some (zi z)) (by rw [hz, show p = 4 by omega]; rfl)⟩
    ·
      have J107 : ∀ (v : Int) (hv : v = partF (S 5 0) (S 4 (a + p).toNat) (S 4 (b + p).toNat)) , zG x LM 107 [some (zr 0), some (zi a), some (zi b), some (zi z), some (zi p), none, none] [zi v, zi z] S := by
        intro v hv
        refine z_iadd (pc := 107) h dX11_stepBy_107 ?_
        refine z_istore_n (pc := 108) (loc' := [some (zr 0), some (zi a), some (zi b), some (zi (z + v)), some (zi p), none, none]) h dX11_stepBy_108 rfl (Nat.le_of_ble_eq_true rfl) rfl rfl ?_
        refine z_iinc (pc := 109) (loc' := [some (zr 0), some (zi a), some (zi b), some (zi (z + v)), some (zi (p + 1)), none, none]) h dX11_stepBy_109 rfl (Nat.le_of_ble_eq_true rfl) rfl rfl ?_
        refine z_goto (pc := 112) (tgt := 5) h dX11_stepBy_112 (by decide) ?_
        exact ih5 _ (by omega) (z + v) (p + 1) (by omega) (by rw [stN_s S a b hp.1, ← hz, hv]) rfl
      refine z_aload_n (pc := 11) h dX11_stepBy_11 rfl ?_
      refine z_getR (a := 4) (pc := 12) h dX11_stepBy_12 clX11 lkX11_19 (by decide) rfl rfl ?_
      refine z_iload_n (pc := 15) h dX11_stepBy_15 rfl ?_
      refine z_iload (pc := 16) h dX11_stepBy_16 rfl ?_
      refine z_iadd (pc := 18) h dX11_stepBy_18 ?_
      refine z_iald (pc := 19) h dX11_stepBy_19 rfl (by decide) (by omega) (by omega) ?_
      refine z_iconst (pc := 20) h dX11_stepBy_20 ?_
      refine z_icmp_eq (pc := 21) (tgt := 28) h dX11_stepBy_21 (by decide) ⟨by omega, by omega⟩ ⟨by decide, by decide⟩ (fun hc21 => ?_) (fun hc21 => ?_)
      ·
        refine z_iconst (pc := 28) h dX11_stepBy_28 ?_
        refine z_istore (pc := 29) (loc' := [some (zr 0), some (zi a), some (zi b), some (zi z), some (zi p), some (zi 0), none]) h dX11_stepBy_29 (Nat.le_of_ble_eq_true rfl) rfl rfl ?_
        refine z_aload_n (pc := 31) h dX11_stepBy_31 rfl ?_
        refine z_getR (a := 4) (pc := 32) h dX11_stepBy_32 clX11 lkX11_19 (by decide) rfl rfl ?_
        refine z_iload_n (pc := 35) h dX11_stepBy_35 rfl ?_
        refine z_iload (pc := 36) h dX11_stepBy_36 rfl ?_
        refine z_iadd (pc := 38) h dX11_stepBy_38 ?_
        refine z_iald (pc := 39) h dX11_stepBy_39 rfl (by decide) (by omega) (by omega) ?_
        refine z_iconst (pc := 40) h dX11_stepBy_40 ?_
        refine z_icmp_eq (pc := 41) (tgt := 48) h dX11_stepBy_41 (by decide) ⟨by omega, by omega⟩ ⟨by decide, by decide⟩ (fun hc41 => ?_) (fun hc41 => ?_)
        ·
          refine z_iconst (pc := 48) h dX11_stepBy_48 ?_
          refine z_istore (pc := 49) (loc' := [some (zr 0), some (zi a), some (zi b), some (zi z), some (zi p), some (zi 0), some (zi 0)]) h dX11_stepBy_49 (Nat.le_of_ble_eq_true rfl) rfl rfl ?_
          refine z_iload_n (pc := 51) h dX11_stepBy_51 rfl ?_
          refine z_iload (pc := 52) h dX11_stepBy_52 rfl ?_
          refine z_if_eq (pc := 54) (tgt := 87) h dX11_stepBy_54 (by decide) ⟨by decide, by decide⟩ (fun hc54 => ?_) (fun hc54 => absurd hc54 (by decide))
          refine z_iload (pc := 87) h dX11_stepBy_87 rfl ?_
          refine z_if_ne (pc := 89) (tgt := 97) h dX11_stepBy_89 (by decide) ⟨by decide, by decide⟩ (fun hc89 => absurd hc89 (by decide)) (fun hc89 => ?_)
          refine z_iload (pc := 92) h dX11_stepBy_92 rfl ?_
          refine z_if_eq (pc := 94) (tgt := 106) h dX11_stepBy_94 (by decide) ⟨by decide, by decide⟩ (fun hc94 => ?_) (fun hc94 => absurd hc94 (by decide))
          refine z_iconst (pc := 106) h dX11_stepBy_106 ?_
          refine z_forget [true, true, true, true, true, false, false] (loc' := [some (zr 0), some (zi a), some (zi b), some (zi z), some (zi p), none, none]) rfl ?_
          exact J107 0 (by unfold partF; (repeat' split) <;> first | rfl | omega)
        ·
          refine z_iconst (pc := 44) h dX11_stepBy_44 ?_
          refine z_goto (pc := 45) (tgt := 49) h dX11_stepBy_45 (by decide) ?_
          refine z_istore (pc := 49) (loc' := [some (zr 0), some (zi a), some (zi b), some (zi z), some (zi p), some (zi 0), some (zi 1)]) h dX11_stepBy_49 (Nat.le_of_ble_eq_true rfl) rfl rfl ?_
          refine z_iload_n (pc := 51) h dX11_stepBy_51 rfl ?_
          refine z_iload (pc := 52) h dX11_stepBy_52 rfl ?_
          refine z_if_eq (pc := 54) (tgt := 87) h dX11_stepBy_54 (by decide) ⟨by decide, by decide⟩ (fun hc54 => ?_) (fun hc54 => absurd hc54 (by decide))
          refine z_iload (pc := 87) h dX11_stepBy_87 rfl ?_
          refine z_if_ne (pc := 89) (tgt := 97) h dX11_stepBy_89 (by decide) ⟨by decide, by decide⟩ (fun hc89 => absurd hc89 (by decide)) (fun hc89 => ?_)
          refine z_iload (pc := 92) h dX11_stepBy_92 rfl ?_
          refine z_if_eq (pc := 94) (tgt := 106) h dX11_stepBy_94 (by decide) ⟨by decide, by decide⟩ (fun hc94 => absurd hc94 (by decide)) (fun hc94 => ?_)
          refine z_aload_n (pc := 97) h dX11_stepBy_97 rfl ?_
          refine z_getR (a := 5) (pc := 98) h dX11_stepBy_98 clX11 lkX11_22 (by decide) rfl rfl ?_
          refine z_iconst (pc := 101) h dX11_stepBy_101 ?_
          refine z_iald (pc := 102) h dX11_stepBy_102 rfl (by decide) (by decide) (by decide) ?_
          refine z_goto (pc := 103) (tgt := 107) h dX11_stepBy_103 (by decide) ?_
          refine z_forget [true, true, true, true, true, false, false] (loc' := [some (zr 0), some (zi a), some (zi b), some (zi z), some (zi p), none, none]) rfl ?_
          exact J107 (S 5 0) (by unfold partF; (repeat' split) <;> first | rfl | omega)
      ·
        refine z_iconst (pc := 24) h dX11_stepBy_24 ?_
        refine z_goto (pc := 25) (tgt := 29) h dX11_stepBy_25 (by decide) ?_
        refine z_istore (pc := 29) (loc' := [some (zr 0), some (zi a), some (zi b), some (zi z), some (zi p), some (zi 1), none]) h dX11_stepBy_29 (Nat.le_of_ble_eq_true rfl) rfl rfl ?_
        refine z_aload_n (pc := 31) h dX11_stepBy_31 rfl ?_
        refine z_getR (a := 4) (pc := 32) h dX11_stepBy_32 clX11 lkX11_19 (by decide) rfl rfl ?_
        refine z_iload_n (pc := 35) h dX11_stepBy_35 rfl ?_
        refine z_iload (pc := 36) h dX11_stepBy_36 rfl ?_
        refine z_iadd (pc := 38) h dX11_stepBy_38 ?_
        refine z_iald (pc := 39) h dX11_stepBy_39 rfl (by decide) (by omega) (by omega) ?_
        refine z_iconst (pc := 40) h dX11_stepBy_40 ?_
        refine z_icmp_eq (pc := 41) (tgt := 48) h dX11_stepBy_41 (by decide) ⟨by omega, by omega⟩ ⟨by decide, by decide⟩ (fun hc41 => ?_) (fun hc41 => ?_)
        ·
          refine z_iconst (pc := 48) h dX11_stepBy_48 ?_
          refine z_istore (pc := 49) (loc' := [some (zr 0), some (zi a), some (zi b), some (zi z), some (zi p), some (zi 1), some (zi 0)]) h dX11_stepBy_49 (Nat.le_of_ble_eq_true rfl) rfl rfl ?_
          refine z_iload_n (pc := 51) h dX11_stepBy_51 rfl ?_
          refine z_iload (pc := 52) h dX11_stepBy_52 rfl ?_
          refine z_if_eq (pc := 54) (tgt := 87) h dX11_stepBy_54 (by decide) ⟨by decide, by decide⟩ (fun hc54 => absurd hc54 (by decide)) (fun hc54 => ?_)
          refine z_iload (pc := 57) h dX11_stepBy_57 rfl ?_
          refine z_if_eq (pc := 59) (tgt := 87) h dX11_stepBy_59 (by decide) ⟨by decide, by decide⟩ (fun hc59 => ?_) (fun hc59 => absurd hc59 (by decide))
          refine z_iload (pc := 87) h dX11_stepBy_87 rfl ?_
          refine z_if_ne (pc := 89) (tgt := 97) h dX11_stepBy_89 (by decide) ⟨by decide, by decide⟩ (fun hc89 => ?_) (fun hc89 => absurd hc89 (by decide))
          refine z_aload_n (pc := 97) h dX11_stepBy_97 rfl ?_
          refine z_getR (a := 5) (pc := 98) h dX11_stepBy_98 clX11 lkX11_22 (by decide) rfl rfl ?_
          refine z_iconst (pc := 101) h dX11_stepBy_101 ?_
          refine z_iald (pc := 102) h dX11_stepBy_102 rfl (by decide) (by decide) (by decide) ?_
          refine z_goto (pc := 103) (tgt := 107) h dX11_stepBy_103 (by decide) ?_
          refine z_forget [true, true, true, true, true, false, false] (loc' := [some (zr 0), some (zi a), some (zi b), some (zi z), some (zi p), none, none]) rfl ?_
          exact J107 (S 5 0) (by unfold partF; (repeat' split) <;> first | rfl | omega)
        ·
          refine z_iconst (pc := 44) h dX11_stepBy_44 ?_
          refine z_goto (pc := 45) (tgt := 49) h dX11_stepBy_45 (by decide) ?_
          refine z_istore (pc := 49) (loc' := [some (zr 0), some (zi a), some (zi b), some (zi z), some (zi p), some (zi 1), some (zi 1)]) h dX11_stepBy_49 (Nat.le_of_ble_eq_true rfl) rfl rfl ?_
          refine z_iload_n (pc := 51) h dX11_stepBy_51 rfl ?_
          refine z_iload (pc := 52) h dX11_stepBy_52 rfl ?_
          refine z_if_eq (pc := 54) (tgt := 87) h dX11_stepBy_54 (by decide) ⟨by decide, by decide⟩ (fun hc54 => absurd hc54 (by decide)) (fun hc54 => ?_)
          refine z_iload (pc := 57) h dX11_stepBy_57 rfl ?_
          refine z_if_eq (pc := 59) (tgt := 87) h dX11_stepBy_59 (by decide) ⟨by decide, by decide⟩ (fun hc59 => absurd hc59 (by decide)) (fun hc59 => ?_)
          refine z_aload_n (pc := 62) h dX11_stepBy_62 rfl ?_
          refine z_getR (a := 4) (pc := 63) h dX11_stepBy_63 clX11 lkX11_19 (by decide) rfl rfl ?_
          refine z_iload_n (pc := 66) h dX11_stepBy_66 rfl ?_
          refine z_iload (pc := 67) h dX11_stepBy_67 rfl ?_
          refine z_iadd (pc := 69) h dX11_stepBy_69 ?_
          refine z_iald (pc := 70) h dX11_stepBy_70 rfl (by decide) (by omega) (by omega) ?_
          refine z_aload_n (pc := 71) h dX11_stepBy_71 rfl ?_
          refine z_getR (a := 4) (pc := 72) h dX11_stepBy_72 clX11 lkX11_19 (by decide) rfl rfl ?_
          refine z_iload_n (pc := 75) h dX11_stepBy_75 rfl ?_
          refine z_iload (pc := 76) h dX11_stepBy_76 rfl ?_
          refine z_iadd (pc := 78) h dX11_stepBy_78 ?_
          refine z_iald (pc := 79) h dX11_stepBy_79 rfl (by decide) (by omega) (by omega) ?_
          refine z_isub (pc := 80) h dX11_stepBy_80 ?_
          refine z_callS (pc := 81) (rest := [zi z]) h (m_X11_amount ((S 4 (Int.toNat (a + p))) - (S 4 (Int.toNat (b + p)))) S ⟨by omega, by omega⟩) dX11_stepBy_81 mcX11_amount msX11_amount mlX11_67 rfl rfl ⟨by decide, by decide⟩ rfl (Nat.le_of_ble_eq_true rfl) ?_
          rintro _ _ ⟨rfl, rfl⟩
          show zG x LM 84 [some (zr 0), some (zi a), some (zi b), some (zi z), some (zi p), some (zi 1), some (zi 1)] [zi (absI ((S 4 (Int.toNat (a + p))) - (S 4 (Int.toNat (b + p))))), zi z] S
          refine z_goto (pc := 84) (tgt := 107) h dX11_stepBy_84 (by decide) ?_
          refine z_forget [true, true, true, true, true, false, false] (loc' := [some (zr 0), some (zi a), some (zi b), some (zi z), some (zi p), none, none]) rfl ?_
          exact J107 (absI ((S 4 (Int.toNat (a + p))) - (S 4 (Int.toNat (b + p))))) (by unfold partF; (repeat' split) <;> first | rfl | omega)
  exact J5 _ 0 0 (by omega) (rfl) rfl

set_option maxRecDepth 100000 in
set_option maxHeartbeats 4000000 in
theorem m_X11_stepOf (a p q : Int) (A S : SS) (ha : isS a) (hR : mRel S A) (hm : MI A) (hP : prsM S A a) (hp : 0 ≤ p ∧ p < mA A a) (hq : 0 ≤ q ∧ q < mA A a) : zM LM yX11_stepOf cX11_stepOf 4 (some .int) 2 46 [zr 0, zi a, zi p, zi q] S (fun r S' => S = S' ∧ r = some (zi (stepF (A 5 0) (qA A a) p q))) := by
  refine zM_of (own := RX11) rfl (by decide +kernel) [some (zr 0), some (zi a), some (zi p), some (zi q)] (Nat.le_of_ble_eq_true rfl) rfl ?_
  intro x h
  have hb := mA_b hm ha
  have hg := mi_g hm
  have e5 : S 5 0 = A 5 0 := mr_at hR _ (by decide)
  have h4 := hR.2
  refine z_aload_n (pc := 0) h dX11_stepOf_0 rfl ?_
  refine z_bipush (pc := 1) h dX11_stepOf_1 rfl ?_
  refine z_iload_n (pc := 3) h dX11_stepOf_3 rfl ?_
  refine z_imul (pc := 4) h dX11_stepOf_4 ?_
  refine z_iconst (pc := 5) h dX11_stepOf_5 ?_
  refine z_iload_n (pc := 6) h dX11_stepOf_6 rfl ?_
  refine z_imul (pc := 7) h dX11_stepOf_7 ?_
  refine z_iadd (pc := 8) h dX11_stepOf_8 ?_
  refine z_bipush (pc := 9) h dX11_stepOf_9 rfl ?_
  refine z_iload_n (pc := 11) h dX11_stepOf_11 rfl ?_
  refine z_imul (pc := 12) h dX11_stepOf_12 ?_
  refine z_iconst (pc := 13) h dX11_stepOf_13 ?_
  refine z_iload_n (pc := 14) h dX11_stepOf_14 rfl ?_
  refine z_imul (pc := 15) h dX11_stepOf_15 ?_
  refine z_iadd (pc := 16) h dX11_stepOf_16 ?_
  refine z_callV (pc := 17) (rest := ([] : List zV)) h (m_X11_stepBy ((48 * a) + (4 * p)) ((48 * a) + (4 * q)) S (by first | assumption | omega) (by first | assumption | omega) (by first | assumption | omega) (by first | assumption | omega)) dX11_stepOf_17 mcX11_stepBy miX11_stepBy mlX11_92 rfl rfl ⟨by decide, by decide⟩ clX11 rfl rfl rfl (Nat.le_of_ble_eq_true rfl) ?_
  rintro _ _ ⟨rfl, rfl⟩
  show zG x LM 20 [some (zr 0), some (zi a), some (zi p), some (zi q)] [zi (stM S ((48 * a) + (4 * p)) ((48 * a) + (4 * q)))] S
  exact z_iret (pc := 20) h dX11_stepOf_20 rfl ⟨rfl, congrArg (fun z => some (zi z)) (by exact stM_q hP e5 hp hq)⟩

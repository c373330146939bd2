/-! the reference's calls on strips -/
theorem bit_k {a : Int} (ha : 0 ≤ a) (k : Nat) : ((Int.toNat (a / 2 ^ k) &&& 1 : Nat) : Int) = ((a.toNat / 2 ^ k % 2 : Nat) : Int) := by
  obtain ⟨n, rfl⟩ := Int.eq_ofNat_of_zero_le ha
  rw [Nat.and_one_is_mod, show ((2 : Int) ^ k) = ((2 ^ k : Nat) : Int) from (Int.natCast_pow 2 k).symm, ← Int.natCast_ediv, Int.toNat_natCast, Int.toNat_natCast]
theorem div_b {a : Int} (ha : 0 ≤ a ∧ a ≤ 4095) (k : Nat) : 0 ≤ a / 2 ^ k ∧ a / 2 ^ k ≤ 4095 := by
  have h1 : (0 : Int) < 2 ^ k := Int.pow_pos (by decide)
  exact ⟨Int.ediv_nonneg ha.1 (by omega), Int.le_trans (Int.ediv_le_self _ ha.1) ha.2⟩
theorem pow_e {n : Int} (hn : 0 ≤ n ∧ n ≤ 12) : ∃ w : Int, w = ((2 ^ n.toNat - 1 : Nat) : Int) ∧ (1 * 2 ^ n.toNat : Int) = w + 1 ∧ w ≤ 4095 ∧ 0 ≤ w ∧ (1 ≤ n → 1 ≤ w) := by
  refine ⟨_, rfl, ?_⟩
  rw [Int.one_mul, show ((2 : Int) ^ n.toNat) = ((2 ^ n.toNat : Nat) : Int) from (Int.natCast_pow 2 n.toNat).symm]
  have h : 2 ^ n.toNat ≤ 2 ^ 12 := Nat.pow_le_pow_right (by decide) (by omega)
  have h1 : 0 < 2 ^ n.toNat := Nat.two_pow_pos _
  have h2 : 1 ≤ n → 2 ^ 1 ≤ 2 ^ n.toNat := fun q => Nat.pow_le_pow_right (by decide) (by omega)
  generalize 2 ^ n.toNat = z at h h1 h2 ⊢
  omega

def popk (n : Nat) : Nat → Nat
  | 0 => 0
  | k + 1 => popk n k + n / 2 ^ k % 2
theorem popk_12 (n : Nat) : popk n 12 = popc n := by
  simp only [popk, popc, Nat.reducePow, Nat.div_one]
  omega
theorem popk_s (n : Nat) {k : Int} (hk : 0 ≤ k) : popk n (k + 1).toNat = popk n k.toNat + n / 2 ^ k.toNat % 2 := by
  rw [show (k + 1).toNat = k.toNat + 1 by omega]
  rfl
theorem popk_b (n : Nat) : ∀ k : Nat, popk n k ≤ k
  | 0 => Nat.le_refl _
  | k + 1 => by
    have := popk_b n k
    unfold popk
    omega

set_option maxRecDepth 100000 in
set_option maxHeartbeats 4000000 in
theorem m_X11_ones (a : Int) (S : SS) (ha : 0 ≤ a ∧ a ≤ 4095) : zM LM yX11_ones cX11_ones 3 (some .int) 0 0 [zi a] S (fun r S' => S = S' ∧ r = some (zi (((popc a.toNat : Nat) : Int)))) := by
  refine zM_of (own := RX11) rfl (by decide +kernel) [some (zi a), none, none] (Nat.le_of_ble_eq_true rfl) rfl ?_
  intro x h
  refine z_iconst (pc := 0) h dX11_ones_0 ?_
  refine z_istore_n (pc := 1) (loc' := [some (zi a), some (zi 0), none]) h dX11_ones_1 rfl (Nat.le_of_ble_eq_true rfl) rfl rfl ?_
  refine z_iconst (pc := 2) h dX11_ones_2 ?_
  refine z_istore_n (pc := 3) (loc' := [some (zi a), some (zi 0), some (zi 0)]) h dX11_ones_3 rfl (Nat.le_of_ble_eq_true rfl) rfl rfl ?_
  have J4 : ∀ (N : Nat) (z k : Int) (hk : 0 ≤ k ∧ k ≤ 12) (hz : z = ((popk a.toNat k.toNat : Nat) : Int)) , (12 - k).toNat = N → zG x LM 4 [some (zi a), some (zi z), some (zi k)] ([] : List zV) S := by
    intro N
    induction N using Nat.strongRecOn with
    | _ N ih4 => ?_
    intro z k hk hz hN4
    refine z_iload_n (pc := 4) h dX11_ones_4 rfl ?_
    refine z_bipush (pc := 5) h dX11_ones_5 rfl ?_
    refine z_icmp_ge (pc := 7) (tgt := 24) h dX11_ones_7 (by decide) ⟨by omega, by omega⟩ ⟨by decide, by decide⟩ (fun hc7 => ?_) (fun hc7 => ?_)
    ·
      refine z_iload_n (pc := 24) h dX11_ones_24 rfl ?_
      exact z_iret (pc := 25) h dX11_ones_25 rfl ⟨rfl, congrArg (fun z => some (zi z)) (by rw [hz, show k.toNat = 12 by omega, popk_12])⟩
    ·
      refine z_iload_n (pc := 10) h dX11_ones_10 rfl ?_
      refine z_iload_n (pc := 11) h dX11_ones_11 rfl ?_
      refine z_iload_n (pc := 12) h dX11_ones_12 rfl ?_
      refine z_ishr (pc := 13) h dX11_ones_13 ⟨by omega, by omega⟩ ⟨by omega, by omega⟩ ?_
      refine z_iconst (pc := 14) h dX11_ones_14 ?_
      refine z_iand (pc := 15) h dX11_ones_15 ⟨(div_b ha _).1, Int.le_trans (div_b ha _).2 (by decide)⟩ ⟨by decide, by decide⟩ ?_
      refine z_cv (b := ((a.toNat / 2 ^ k.toNat % 2 : Nat) : Int)) (by exact bit_k ha.1 _) ?_
      refine z_iadd (pc := 16) h dX11_ones_16 ?_
      refine z_istore_n (pc := 17) (loc' := [some (zi a), some (zi (z + ((a.toNat / 2 ^ k.toNat % 2 : Nat) : Int))), some (zi k)]) h dX11_ones_17 rfl (Nat.le_of_ble_eq_true rfl) rfl rfl ?_
      refine z_iinc (pc := 18) (loc' := [some (zi a), some (zi (z + ((a.toNat / 2 ^ k.toNat % 2 : Nat) : Int))), some (zi (k + 1))]) h dX11_ones_18 rfl (Nat.le_of_ble_eq_true rfl) rfl rfl ?_
      refine z_goto (pc := 21) (tgt := 4) h dX11_ones_21 (by decide) ?_
      exact ih4 _ (by omega) (z + ((a.toNat / 2 ^ k.toNat % 2 : Nat) : Int)) (k + 1) (by omega) (by rw [popk_s _ hk.1, hz]; exact (Int.natCast_add _ _).symm) rfl
  exact J4 _ 0 0 (by omega) (rfl) rfl

set_option maxRecDepth 100000 in
set_option maxHeartbeats 4000000 in
theorem m_X11_isIn (a k : Int) (S : SS) (ha : 0 ≤ a ∧ a ≤ 4095) (hk : 0 ≤ k ∧ k ≤ 31) : zM LM yX11_isIn cX11_isIn 2 (some .boolean) 0 0 [zi a, zi k] S (fun r S' => S = S' ∧ ((a.toNat.testBit k.toNat = true) ∧ r = some (zi 1) ∨ ¬ (a.toNat.testBit k.toNat = true) ∧ r = some (zi 0))) := by
  refine zM_of (own := RX11) rfl (by decide +kernel) [some (zi a), some (zi k)] (Nat.le_of_ble_eq_true rfl) rfl ?_
  intro x h
  refine z_iload_n (pc := 0) h dX11_isIn_0 rfl ?_
  refine z_iload_n (pc := 1) h dX11_isIn_1 rfl ?_
  refine z_ishr (pc := 2) h dX11_isIn_2 ⟨by omega, by omega⟩ ⟨by omega, by omega⟩ ?_
  refine z_iconst (pc := 3) h dX11_isIn_3 ?_
  refine z_iand (pc := 4) h dX11_isIn_4 ⟨(div_b ha _).1, Int.le_trans (div_b ha _).2 (by decide)⟩ ⟨by decide, by decide⟩ ?_
  refine z_cv (b := ((a.toNat / 2 ^ k.toNat % 2 : Nat) : Int)) (by exact bit_k ha.1 _) ?_
  refine z_iconst (pc := 5) h dX11_isIn_5 ?_
  refine z_icmp_ne (pc := 6) (tgt := 13) h dX11_isIn_6 (by decide) ⟨by omega, by omega⟩ ⟨by decide, by decide⟩ (fun hc6 => ?_) (fun hc6 => ?_)
  ·
    refine z_iconst (pc := 13) h dX11_isIn_13 ?_
    exact z_zret (pc := 14) h dX11_isIn_14 rfl (by decide) ⟨rfl, Or.inr ⟨by rw [Nat.testBit_eq_decide_div_mod_eq, decide_eq_true_iff]; omega, rfl⟩⟩
  ·
    refine z_iconst (pc := 9) h dX11_isIn_9 ?_
    refine z_goto (pc := 10) (tgt := 14) h dX11_isIn_10 (by decide) ?_
    exact z_zret (pc := 14) h dX11_isIn_14 rfl (by decide) ⟨rfl, Or.inl ⟨by rw [Nat.testBit_eq_decide_div_mod_eq, decide_eq_true_iff]; omega, rfl⟩⟩

set_option maxRecDepth 100000 in
set_option maxHeartbeats 4000000 in
theorem m_X11_wholeNow (a : Int) (A S : SS) (ha : isS a) (hR : mRel S A) (hm : MI A) : zM LM yX11_wholeNow cX11_wholeNow 5 (some .int) 3 69 [zr 0, zi a] S (fun r S' => r = some (zi (wholeF (A 5 0) (qA A a) (mA A a))) ∧ (∀ k j, k ≠ 3 → k ≠ 4 → S' k j = S k j) ∧ mRel S' A ∧ prsM S' A a) := by
  refine zM_of (own := RX11) rfl (by decide +kernel) [some (zr 0), some (zi a), none, none, none] (Nat.le_of_ble_eq_true rfl) rfl ?_
  intro x h
  have hb := mA_b hm ha
  have hg := mi_g hm
  have hQ := qA_b hm ha
  refine z_aload_n (pc := 0) h dX11_wholeNow_0 rfl ?_
  refine z_iload_n (pc := 1) h dX11_wholeNow_1 rfl ?_
  refine z_callV (pc := 2) (rest := ([] : List zV)) h (m_X11_pictures a _ S (by first | assumption | omega) (by first | assumption | omega) (by first | assumption | omega)) dX11_wholeNow_2 mcX11_pictures miX11_pictures mlX11_89 rfl rfl ⟨by decide, by decide⟩ clX11 rfl rfl rfl (Nat.le_of_ble_eq_true rfl) ?_
  rintro _ S2 ⟨rfl, hr2E, hr2R, hr2P⟩
  show zG x LM 5 [some (zr 0), some (zi a), none, none, none] [zi (mA A a)] S2
  refine z_istore_n (pc := 5) (loc' := [some (zr 0), some (zi a), some (zi (mA A a)), none, none]) h dX11_wholeNow_5 rfl (Nat.le_of_ble_eq_true rfl) rfl rfl ?_
  refine z_iconst (pc := 6) h dX11_wholeNow_6 ?_
  refine z_istore_n (pc := 7) (loc' := [some (zr 0), some (zi a), some (zi (mA A a)), some (zi 0), none]) h dX11_wholeNow_7 rfl (Nat.le_of_ble_eq_true rfl) rfl rfl ?_
  refine z_iconst (pc := 8) h dX11_wholeNow_8 ?_
  refine z_istore (pc := 9) (loc' := [some (zr 0), some (zi a), some (zi (mA A a)), some (zi 0), some (zi 0)]) h dX11_wholeNow_9 (Nat.le_of_ble_eq_true rfl) rfl rfl ?_
  have J11 : ∀ (N : Nat) (z p : Int) (hp : 0 ≤ p ∧ p ≤ (mA A a)) (hz : 0 ≤ z ∧ z ≤ 36 * p) (hI : wholeR (A 5 0) (qA A a) (mA A a) ((mA A a) - p).toNat p z = wholeF (A 5 0) (qA A a) (mA A a)) , ((mA A a) - p).toNat = N → zG x LM 11 [some (zr 0), some (zi a), some (zi (mA A a)), some (zi z), some (zi p)] ([] : List zV) S2 := by
    intro N
    induction N using Nat.strongRecOn with
    | _ N ih11 => ?_
    intro z p hp hz hI hN11
    refine z_iload (pc := 11) h dX11_wholeNow_11 rfl ?_
    refine z_iload_n (pc := 13) h dX11_wholeNow_13 rfl ?_
    refine z_icmp_ge (pc := 14) (tgt := 39) h dX11_wholeNow_14 (by decide) ⟨by omega, by omega⟩ ⟨by omega, by omega⟩ (fun hc14 => ?_) (fun hc14 => ?_)
    ·
      refine z_iload_n (pc := 39) h dX11_wholeNow_39 rfl ?_
      exact z_iret (pc := 40) h dX11_wholeNow_40 rfl (⟨congrArg (fun z => some (zi z)) (by rw [whole_0 (by omega)] at hI; exact hI), hr2E, hr2R, hr2P⟩)
    ·
      rw [whole_s (r' := ((mA A a) - (p + 1)).toNat) (by omega)] at hI
      have hs := stepF_b hg hQ p (behF (mA A a) p)
      have hB : 0 ≤ behF (mA A a) p ∧ behF (mA A a) p < (mA A a) := by unfold behF; split <;> omega
      refine z_iload_n (pc := 17) h dX11_wholeNow_17 rfl ?_
      refine z_aload_n (pc := 18) h dX11_wholeNow_18 rfl ?_
      refine z_iload_n (pc := 19) h dX11_wholeNow_19 rfl ?_
      refine z_iload (pc := 20) h dX11_wholeNow_20 rfl ?_
      refine z_iload (pc := 22) h dX11_wholeNow_22 rfl ?_
      refine z_iconst (pc := 24) h dX11_wholeNow_24 ?_
      refine z_iadd (pc := 25) h dX11_wholeNow_25 ?_
      refine z_iload_n (pc := 26) h dX11_wholeNow_26 rfl ?_
      refine z_iremN (pc := 27) h dX11_wholeNow_27 ⟨by omega, by omega⟩ ⟨by omega, by omega⟩ ?_
      refine z_cv (b := (behF (mA A a) p)) (by exact behF_m (by omega) (by omega)) ?_
      refine z_callV (pc := 28) (rest := [zi z]) h (m_X11_stepOf a p (behF (mA A a) p) _ S2 (by first | assumption | omega) (by first | assumption | omega) (by first | assumption | omega) (by first | assumption | omega) (by first | assumption | omega) (by first | assumption | omega)) dX11_wholeNow_28 mcX11_stepOf miX11_stepOf mlX11_95 rfl rfl ⟨by decide, by decide⟩ clX11 rfl rfl rfl (Nat.le_of_ble_eq_true rfl) ?_
      rintro _ _ ⟨rfl, rfl⟩
      show zG x LM 31 [some (zr 0), some (zi a), some (zi (mA A a)), some (zi z), some (zi p)] [zi (stepF (A 5 0) (qA A a) p (behF (mA A a) p)), zi z] S2
      refine z_iadd (pc := 31) h dX11_wholeNow_31 ?_
      refine z_istore_n (pc := 32) (loc' := [some (zr 0), some (zi a), some (zi (mA A a)), some (zi (z + (stepF (A 5 0) (qA A a) p (behF (mA A a) p)))), some (zi p)]) h dX11_wholeNow_32 rfl (Nat.le_of_ble_eq_true rfl) rfl rfl ?_
      refine z_iinc (pc := 33) (loc' := [some (zr 0), some (zi a), some (zi (mA A a)), some (zi (z + (stepF (A 5 0) (qA A a) p (behF (mA A a) p)))), some (zi (p + 1))]) h dX11_wholeNow_33 rfl (Nat.le_of_ble_eq_true rfl) rfl rfl ?_
      refine z_goto (pc := 36) (tgt := 11) h dX11_wholeNow_36 (by decide) ?_
      exact ih11 _ (by omega) (z + (stepF (A 5 0) (qA A a) p (behF (mA A a) p))) (p + 1) (by omega) (by omega) (by exact hI) rfl
  exact J11 _ 0 0 (by omega) (by omega) (by unfold wholeF; congr 1; omega) rfl

set_option maxRecDepth 100000 in
set_option maxHeartbeats 4000000 in
theorem m_X11_seenNow (a l k : Int) (A S : SS) (ha : isS a) (hR : mRel S A) (hm : MI A) (hl : 1 ≤ l ∧ l ≤ 24) (hk : -1 ≤ k ∧ k ≤ 999) : zM LM yX11_seenNow cX11_seenNow 6 (some .int) 3 69 [zr 0, zi a, zi l, zi k] S (fun r S' => r = some (zi (seenF (mA A a) l k)) ∧ (∀ k j, k ≠ 3 → k ≠ 4 → S' k j = S k j) ∧ mRel S' A ∧ prsM S' A a) := by
  refine zM_of (own := RX11) rfl (by decide +kernel) [some (zr 0), some (zi a), some (zi l), some (zi k), none, none] (Nat.le_of_ble_eq_true rfl) rfl ?_
  intro x h
  have hb := mA_b hm ha
  have hg := mi_g hm
  have hQ := qA_b hm ha
  refine z_aload_n (pc := 0) h dX11_seenNow_0 rfl ?_
  refine z_iload_n (pc := 1) h dX11_seenNow_1 rfl ?_
  refine z_callV (pc := 2) (rest := ([] : List zV)) h (m_X11_pictures a _ S (by first | assumption | omega) (by first | assumption | omega) (by first | assumption | omega)) dX11_seenNow_2 mcX11_pictures miX11_pictures mlX11_89 rfl rfl ⟨by decide, by decide⟩ clX11 rfl rfl rfl (Nat.le_of_ble_eq_true rfl) ?_
  rintro _ S2 ⟨rfl, hr2E, hr2R, hr2P⟩
  show zG x LM 5 [some (zr 0), some (zi a), some (zi l), some (zi k), none, none] [zi (mA A a)] S2
  refine z_istore (pc := 5) (loc' := [some (zr 0), some (zi a), some (zi l), some (zi k), some (zi (mA A a)), none]) h dX11_seenNow_5 (Nat.le_of_ble_eq_true rfl) rfl rfl ?_
  refine z_iload (pc := 7) h dX11_seenNow_7 rfl ?_
  refine z_if_ne (pc := 9) (tgt := 15) h dX11_seenNow_9 (by decide) ⟨by omega, by omega⟩ (fun hc9 => ?_) (fun hc9 => ?_)
  ·
    have hN := near_0 (a := (mA A a)) (b := l) (by omega) (by omega)
    have hG := gcdI_b1 (a := (mA A a)) (b := nearF (mA A a) l) (by omega)
    refine z_iload (pc := 15) h dX11_seenNow_15 rfl ?_
    refine z_iload_n (pc := 17) h dX11_seenNow_17 rfl ?_
    refine z_callS (pc := 18) (rest := ([] : List zV)) h (m_X11_nearest (mA A a) l S2 (by first | assumption | omega) (by first | assumption | omega)) dX11_seenNow_18 mcX11_nearest msX11_nearest mlX11_102 rfl rfl ⟨by decide, by decide⟩ rfl (Nat.le_of_ble_eq_true rfl) ?_
    rintro _ _ ⟨rfl, rfl⟩
    show zG x LM 21 [some (zr 0), some (zi a), some (zi l), some (zi k), some (zi (mA A a)), none] [zi (nearF (mA A a) l)] S2
    refine z_istore (pc := 21) (loc' := [some (zr 0), some (zi a), some (zi l), some (zi k), some (zi (mA A a)), some (zi (nearF (mA A a) l))]) h dX11_seenNow_21 (Nat.le_of_ble_eq_true rfl) rfl rfl ?_
    refine z_iload_n (pc := 23) h dX11_seenNow_23 rfl ?_
    refine z_iconst (pc := 24) h dX11_seenNow_24 ?_
    refine z_icmp_ne (pc := 25) (tgt := 41) h dX11_seenNow_25 (by decide) ⟨by omega, by omega⟩ ⟨by decide, by decide⟩ (fun hc25 => ?_) (fun hc25 => ?_)
    ·
      have hM := mul_bd (a := k) (A := 999) (by omega) (b := nearF (mA A a) l) (B := 12) ⟨hN.1, by omega⟩
      refine z_iload_n (pc := 41) h dX11_seenNow_41 rfl ?_
      refine z_iload (pc := 42) h dX11_seenNow_42 rfl ?_
      refine z_imul (pc := 44) h dX11_seenNow_44 ?_
      refine z_iload (pc := 45) h dX11_seenNow_45 rfl ?_
      refine z_iremN (pc := 47) h dX11_seenNow_47 ⟨by omega, by omega⟩ ⟨by omega, by omega⟩ ?_
      exact z_iret (pc := 48) h dX11_seenNow_48 rfl (⟨congrArg (fun z => some (zi z)) (by unfold seenF; (repeat' split) <;> first | rfl | omega), hr2E, hr2R, hr2P⟩)
    ·
      refine z_iload (pc := 28) h dX11_seenNow_28 rfl ?_
      refine z_iload (pc := 30) h dX11_seenNow_30 rfl ?_
      refine z_iload (pc := 32) h dX11_seenNow_32 rfl ?_
      refine z_callS (pc := 34) (rest := [zi (mA A a)]) h (m_X11_common (mA A a) (nearF (mA A a) l) S2 (by first | assumption | omega) (by first | assumption | omega)) dX11_seenNow_34 mcX11_common msX11_common mlX11_71 rfl rfl ⟨by decide, by decide⟩ rfl (Nat.le_of_ble_eq_true rfl) ?_
      rintro _ _ ⟨rfl, rfl⟩
      show zG x LM 37 [some (zr 0), some (zi a), some (zi l), some (zi k), some (zi (mA A a)), some (zi (nearF (mA A a) l))] [zi (gcdI (mA A a) (nearF (mA A a) l)), zi (mA A a)] S2
      refine z_idivN (pc := 37) h dX11_seenNow_37 ⟨by omega, by omega⟩ ⟨by omega, by omega⟩ ?_
      refine z_goto (pc := 38) (tgt := 48) h dX11_seenNow_38 (by decide) ?_
      exact z_iret (pc := 48) h dX11_seenNow_48 rfl (⟨congrArg (fun z => some (zi z)) (by unfold seenF; (repeat' split) <;> first | rfl | omega), hr2E, hr2R, hr2P⟩)
  ·
    refine z_bipush (pc := 12) h dX11_seenNow_12 rfl ?_
    exact z_iret (pc := 14) h dX11_seenNow_14 rfl (⟨congrArg (fun z => some (zi z)) (by unfold seenF; (repeat' split) <;> first | rfl | omega), hr2E, hr2R, hr2P⟩)

set_option maxRecDepth 100000 in
set_option maxHeartbeats 4000000 in
theorem m_X11_halves (a p : Int) (A S : SS) (ha : isS a) (hR : mRel S A) (hm : MI A) (hP : prsM S A a) (hp : 0 ≤ p ∧ p < mA A a) : zM LM yX11_halves cX11_halves 8 none 0 0 [zr 0, zi a, zi p] S (fun r S' => r = none ∧ (∀ k j, ¬ (k = 4 ∧ 96 ≤ j) → S' k j = S k j) ∧ (∀ q : Int, 0 ≤ q → q < 4 → S' 4 (96 + q).toNat = halfF (qA A a) (mA A a) p q) ∧ mRel S' A ∧ prsM S' A a) := by
  refine zM_of (own := RX11) rfl (by decide +kernel) [some (zr 0), some (zi a), some (zi p), none, none, none, none, none] (Nat.le_of_ble_eq_true rfl) rfl ?_
  intro x h
  have hb := mA_b hm ha
  have hQ := qA_b hm ha
  have h3 := hP.1
  have hB : 0 ≤ behF (mA A a) p ∧ behF (mA A a) p < (mA A a) := by unfold behF; split <;> omega
  refine z_bipush (pc := 0) h dX11_halves_0 rfl ?_
  refine z_iload_n (pc := 2) h dX11_halves_2 rfl ?_
  refine z_imul (pc := 3) h dX11_halves_3 ?_
  refine z_iconst (pc := 4) h dX11_halves_4 ?_
  refine z_iload_n (pc := 5) h dX11_halves_5 rfl ?_
  refine z_imul (pc := 6) h dX11_halves_6 ?_
  refine z_iadd (pc := 7) h dX11_halves_7 ?_
  refine z_istore_n (pc := 8) (loc' := [some (zr 0), some (zi a), some (zi p), some (zi ((48 * a) + (4 * p))), none, none, none, none]) h dX11_halves_8 rfl (Nat.le_of_ble_eq_true rfl) rfl rfl ?_
  refine z_bipush (pc := 9) h dX11_halves_9 rfl ?_
  refine z_iload_n (pc := 11) h dX11_halves_11 rfl ?_
  refine z_imul (pc := 12) h dX11_halves_12 ?_
  refine z_iconst (pc := 13) h dX11_halves_13 ?_
  refine z_iload_n (pc := 14) h dX11_halves_14 rfl ?_
  refine z_iconst (pc := 15) h dX11_halves_15 ?_
  refine z_iadd (pc := 16) h dX11_halves_16 ?_
  refine z_aload_n (pc := 17) h dX11_halves_17 rfl ?_
  refine z_getR (a := 3) (pc := 18) h dX11_halves_18 clX11 lkX11_16 (by decide) rfl rfl ?_
  refine z_iload_n (pc := 21) h dX11_halves_21 rfl ?_
  refine z_iald (pc := 22) h dX11_halves_22 rfl (by decide) (by omega) (by omega) ?_
  refine z_iremN (pc := 23) h dX11_halves_23 ⟨by omega, by omega⟩ ⟨by omega, by omega⟩ ?_
  refine z_cv (b := (behF (mA A a) p)) (by rw [h3]; exact behF_m (by omega) (by omega)) ?_
  refine z_imul (pc := 24) h dX11_halves_24 ?_
  refine z_iadd (pc := 25) h dX11_halves_25 ?_
  refine z_istore (pc := 26) (loc' := [some (zr 0), some (zi a), some (zi p), some (zi ((48 * a) + (4 * p))), some (zi ((48 * a) + (4 * (behF (mA A a) p)))), none, none, none]) h dX11_halves_26 (Nat.le_of_ble_eq_true rfl) rfl rfl ?_
  refine z_iconst (pc := 28) h dX11_halves_28 ?_
  refine z_istore (pc := 29) (loc' := [some (zr 0), some (zi a), some (zi p), some (zi ((48 * a) + (4 * p))), some (zi ((48 * a) + (4 * (behF (mA A a) p)))), some (zi 0), none, none]) h dX11_halves_29 (Nat.le_of_ble_eq_true rfl) rfl rfl ?_
  have J31 : ∀ (N : Nat) (q : Int) (S1 : SS) (hq : 0 ≤ q ∧ q ≤ 4) (hE : ∀ k j, ¬ (k = 4 ∧ 96 ≤ j) → S1 k j = S k j) (hH : ∀ z : Int, 0 ≤ z → z < q → S1 4 (96 + z).toNat = halfF (qA A a) (mA A a) p z) (h4 : ∀ j, -1 ≤ S1 4 j ∧ S1 4 j ≤ 9) , (4 - q).toNat = N → zG x LM 31 [some (zr 0), some (zi a), some (zi p), some (zi ((48 * a) + (4 * p))), some (zi ((48 * a) + (4 * (behF (mA A a) p)))), some (zi q), none, none] ([] : List zV) S1 := by
    intro N
    induction N using Nat.strongRecOn with
    | _ N ih31 => ?_
    intro q S1 hq hE hH h4 hN31
    refine z_iload (pc := 31) h dX11_halves_31 rfl ?_
    refine z_iconst (pc := 33) h dX11_halves_33 ?_
    refine z_icmp_ge (pc := 34) (tgt := 105) h dX11_halves_34 (by decide) ⟨by omega, by omega⟩ ⟨by decide, by decide⟩ (fun hc34 => ?_) (fun hc34 => ?_)
    ·
      exact z_vret (pc := 105) h dX11_halves_105 rfl (⟨rfl, hE, fun z h1 h2 => hH z h1 (by omega), mr_e hR (fun k j a1 a2 _ _ _ _ => hE k j (by omega)) h4, ⟨by rw [hE _ _ (by omega)]; exact h3, fun x y x1 x2 y1 y2 => by rw [hE _ _ (by omega)]; exact hP.2 x y x1 x2 y1 y2⟩⟩)
    ·
      have J98 : ∀ (v : Int) (hv : v = halfF (qA A a) (mA A a) p q) , zG x LM 98 [some (zr 0), some (zi a), some (zi p), some (zi ((48 * a) + (4 * p))), some (zi ((48 * a) + (4 * (behF (mA A a) p)))), some (zi q), none, none] [zi v, zi (96 + q), zr 4] S1 := by
        intro v hv
        refine z_iast (pc := 98) h dX11_halves_98 rfl (by decide) (by omega) (by omega) ?_
        refine z_iinc (pc := 99) (loc' := [some (zr 0), some (zi a), some (zi p), some (zi ((48 * a) + (4 * p))), some (zi ((48 * a) + (4 * (behF (mA A a) p)))), some (zi (q + 1)), none, none]) h dX11_halves_99 rfl (Nat.le_of_ble_eq_true rfl) rfl rfl ?_
        refine z_goto (pc := 102) (tgt := 31) h dX11_halves_102 (by decide) ?_
        exact ih31 _ (by omega) (q + 1) (up2 S1 4 (Int.toNat (96 + q)) v) (by omega) (fun k j h9 => by rw [up2_e, if_neg (by omega)]; exact hE k j h9) (by intro z h1 h2; by_cases hz : z = q; (subst hz; rw [up2_s]; exact hv); (rw [up2_j _ _ (by omega)]; exact hH z h1 (by omega))) (by intro j; rw [up2_e]; split; (rw [hv]; exact halfF_b hQ _ _ _); exact h4 j) rfl
      refine z_aload_n (pc := 37) h dX11_halves_37 rfl ?_
      refine z_getR (a := 4) (pc := 38) h dX11_halves_38 clX11 lkX11_19 (by decide) rfl rfl ?_
      refine z_iload_n (pc := 41) h dX11_halves_41 rfl ?_
      refine z_iload (pc := 42) h dX11_halves_42 rfl ?_
      refine z_iadd (pc := 44) h dX11_halves_44 ?_
      refine z_iald (pc := 45) h dX11_halves_45 rfl (by decide) (by omega) (by omega) ?_
      refine z_istore (pc := 46) (loc' := [some (zr 0), some (zi a), some (zi p), some (zi ((48 * a) + (4 * p))), some (zi ((48 * a) + (4 * (behF (mA A a) p)))), some (zi q), some (zi (S1 4 (Int.toNat (((48 * a) + (4 * p)) + q)))), none]) h dX11_halves_46 (Nat.le_of_ble_eq_true rfl) rfl rfl ?_
      refine z_aload_n (pc := 48) h dX11_halves_48 rfl ?_
      refine z_getR (a := 4) (pc := 49) h dX11_halves_49 clX11 lkX11_19 (by decide) rfl rfl ?_
      refine z_iload (pc := 52) h dX11_halves_52 rfl ?_
      refine z_iload (pc := 54) h dX11_halves_54 rfl ?_
      refine z_iadd (pc := 56) h dX11_halves_56 ?_
      refine z_iald (pc := 57) h dX11_halves_57 rfl (by decide) (by omega) (by omega) ?_
      refine z_istore (pc := 58) (loc' := [some (zr 0), some (zi a), some (zi p), some (zi ((48 * a) + (4 * p))), some (zi ((48 * a) + (4 * (behF (mA A a) p)))), some (zi q), some (zi (S1 4 (Int.toNat (((48 * a) + (4 * p)) + q)))), some (zi (S1 4 (Int.toNat (((48 * a) + (4 * (behF (mA A a) p))) + q))))]) h dX11_halves_58 (Nat.le_of_ble_eq_true rfl) rfl rfl ?_
      have e1 : S1 4 (48 * a + 4 * p + q).toNat = (qA A a) p q := by rw [hE _ _ (by omega)]; exact hP.2 p q hp.1 hp.2 hq.1 (by omega)
      have e2 : S1 4 (48 * a + 4 * behF (mA A a) p + q).toNat = (qA A a) (behF (mA A a) p) q := by rw [hE _ _ (by omega)]; exact hP.2 _ q hB.1 hB.2 hq.1 (by omega)
      have u1 := hQ p q
      have u2 := hQ (behF (mA A a) p) q
      refine z_aload_n (pc := 60) h dX11_halves_60 rfl ?_
      refine z_getR (a := 4) (pc := 61) h dX11_halves_61 clX11 lkX11_19 (by decide) rfl rfl ?_
      refine z_bipush (pc := 64) h dX11_halves_64 rfl ?_
      refine z_iload (pc := 66) h dX11_halves_66 rfl ?_
      refine z_iadd (pc := 68) h dX11_halves_68 ?_
      refine z_iload (pc := 69) h dX11_halves_69 rfl ?_
      refine z_iconst (pc := 71) h dX11_halves_71 ?_
      refine z_icmp_ne (pc := 72) (tgt := 80) h dX11_halves_72 (by decide) ⟨by omega, by omega⟩ ⟨by decide, by decide⟩ (fun hc72 => ?_) (fun hc72 => ?_)
      ·
        refine z_iload (pc := 80) h dX11_halves_80 rfl ?_
        refine z_iconst (pc := 82) h dX11_halves_82 ?_
        refine z_icmp_ne (pc := 83) (tgt := 91) h dX11_halves_83 (by decide) ⟨by omega, by omega⟩ ⟨by decide, by decide⟩ (fun hc83 => ?_) (fun hc83 => ?_)
        ·
          refine z_iload (pc := 91) h dX11_halves_91 rfl ?_
          refine z_iload (pc := 93) h dX11_halves_93 rfl ?_
          refine z_iadd (pc := 95) h dX11_halves_95 ?_
          refine z_iconst (pc := 96) h dX11_halves_96 ?_
          refine z_idivN (pc := 97) h dX11_halves_97 ⟨by omega, by omega⟩ ⟨by decide, by decide⟩ ?_
          refine z_forget [true, true, true, true, true, true, false, false] (loc' := [some (zr 0), some (zi a), some (zi p), some (zi ((48 * a) + (4 * p))), some (zi ((48 * a) + (4 * (behF (mA A a) p)))), some (zi q), none, none]) rfl ?_
          exact J98 (((S1 4 (Int.toNat (((48 * a) + (4 * p)) + q))) + (S1 4 (Int.toNat (((48 * a) + (4 * (behF (mA A a) p))) + q)))) / 2) (by unfold halfF halfV; rw [← e1, ← e2]; (repeat' split) <;> first | rfl | omega)
        ·
          refine z_iload (pc := 86) h dX11_halves_86 rfl ?_
          refine z_goto (pc := 88) (tgt := 98) h dX11_halves_88 (by decide) ?_
          refine z_forget [true, true, true, true, true, true, false, false] (loc' := [some (zr 0), some (zi a), some (zi p), some (zi ((48 * a) + (4 * p))), some (zi ((48 * a) + (4 * (behF (mA A a) p)))), some (zi q), none, none]) rfl ?_
          exact J98 (S1 4 (Int.toNat (((48 * a) + (4 * p)) + q))) (by unfold halfF halfV; rw [← e1, ← e2]; (repeat' split) <;> first | rfl | omega)
      ·
        refine z_iload (pc := 75) h dX11_halves_75 rfl ?_
        refine z_goto (pc := 77) (tgt := 98) h dX11_halves_77 (by decide) ?_
        refine z_forget [true, true, true, true, true, true, false, false] (loc' := [some (zr 0), some (zi a), some (zi p), some (zi ((48 * a) + (4 * p))), some (zi ((48 * a) + (4 * (behF (mA A a) p)))), some (zi q), none, none]) rfl ?_
        exact J98 (S1 4 (Int.toNat (((48 * a) + (4 * (behF (mA A a) p))) + q))) (by unfold halfF halfV; rw [← e1, ← e2]; (repeat' split) <;> first | rfl | omega)
  exact J31 _ 0 S (by omega) (fun k j _ => rfl) (fun z h1 h2 => by omega) (hR.2) rfl

theorem st_there {S A : SS} {a p : Int} (hP : prsM S A a) (hg : S 5 0 = A 5 0) (hp : 0 ≤ p ∧ p < mA A a) (hH : ∀ q : Int, 0 ≤ q → q < 4 → S 4 (96 + q).toNat = halfF (qA A a) (mA A a) p q) : stM S (48 * a + 4 * p) 96 = thereF (A 5 0) (qA A a) (mA A a) p := by
  unfold stM thereF
  rw [hP.2 p 0 hp.1 hp.2 (by omega) (by omega), hP.2 p 1 hp.1 hp.2 (by omega) (by omega), hP.2 p 2 hp.1 hp.2 (by omega) (by omega), hP.2 p 3 hp.1 hp.2 (by omega) (by omega), hH 0 (by omega) (by omega), hH 1 (by omega) (by omega), hH 2 (by omega) (by omega), hH 3 (by omega) (by omega), hg]
theorem st_onw {S A : SS} {a p : Int} (hP : prsM S A a) (hg : S 5 0 = A 5 0) (hp : 0 ≤ p ∧ p < mA A a) (hH : ∀ q : Int, 0 ≤ q → q < 4 → S 4 (96 + q).toNat = halfF (qA A a) (mA A a) p q) : stM S 96 (48 * a + 4 * behF (mA A a) p) = onwF (A 5 0) (qA A a) (mA A a) p := by
  have hB : 0 ≤ behF (mA A a) p ∧ behF (mA A a) p < mA A a := by unfold behF; split <;> omega
  unfold stM onwF
  rw [hP.2 _ 0 hB.1 hB.2 (by omega) (by omega), hP.2 _ 1 hB.1 hB.2 (by omega) (by omega), hP.2 _ 2 hB.1 hB.2 (by omega) (by omega), hP.2 _ 3 hB.1 hB.2 (by omega) (by omega), hH 0 (by omega) (by omega), hH 1 (by omega) (by omega), hH 2 (by omega) (by omega), hH 3 (by omega) (by omega), hg]
theorem st_low {S A : SS} {a p : Int} (hP : prsM S A a) (hg : S 5 0 = A 5 0) (hp : 0 ≤ p ∧ p < mA A a) (hH : ∀ q : Int, 0 ≤ q → q < 4 → S 4 (96 + q).toNat = halfF (qA A a) (mA A a) p q) : stM S (48 * a + 4 * p) (48 * a + 4 * behF (mA A a) p) * stM S (48 * a + 4 * p) (48 * a + 4 * behF (mA A a) p) - stM S (48 * a + 4 * p) 96 * stM S (48 * a + 4 * p) 96 - stM S 96 (48 * a + 4 * behF (mA A a) p) * stM S 96 (48 * a + 4 * behF (mA A a) p) = lowF (A 5 0) (qA A a) (mA A a) p := by
  have hB : 0 ≤ behF (mA A a) p ∧ behF (mA A a) p < mA A a := by unfold behF; split <;> omega
  rw [stM_q hP hg hp hB, st_there hP hg hp hH, st_onw hP hg hp hH]
  rfl

set_option maxRecDepth 100000 in
set_option maxHeartbeats 4000000 in
theorem m_X11_missingNow (a w : Int) (A S : SS) (ha : isS a) (hR : mRel S A) (hm : MI A) (hw : r32 w) : zM LM yX11_missingNow cX11_missingNow 10 (some .int) 3 69 [zr 0, zi a, zi w] S (fun r S' => r = some (zi (missV (A 5 0) (qA A a) (mA A a) w)) ∧ (∀ k j, k ≠ 3 → k ≠ 4 → S' k j = S k j) ∧ mRel S' A ∧ prsM S' A a) := by
  refine zM_of (own := RX11) rfl (by decide +kernel) [some (zr 0), some (zi a), some (zi w), none, none, none, none, none, none, none] (Nat.le_of_ble_eq_true rfl) rfl ?_
  intro x h
  have hb := mA_b hm ha
  have hg := mi_g hm
  have hQ := qA_b hm ha
  refine z_aload_n (pc := 0) h dX11_missingNow_0 rfl ?_
  refine z_iload_n (pc := 1) h dX11_missingNow_1 rfl ?_
  refine z_callV (pc := 2) (rest := ([] : List zV)) h (m_X11_pictures a _ S (by first | assumption | omega) (by first | assumption | omega) (by first | assumption | omega)) dX11_missingNow_2 mcX11_pictures miX11_pictures mlX11_89 rfl rfl ⟨by decide, by decide⟩ clX11 rfl rfl rfl (Nat.le_of_ble_eq_true rfl) ?_
  rintro _ S2 ⟨rfl, hr2E, hr2R, hr2P⟩
  show zG x LM 5 [some (zr 0), some (zi a), some (zi w), none, none, none, none, none, none, none] [zi (mA A a)] S2
  refine z_istore_n (pc := 5) (loc' := [some (zr 0), some (zi a), some (zi w), some (zi (mA A a)), none, none, none, none, none, none]) h dX11_missingNow_5 rfl (Nat.le_of_ble_eq_true rfl) rfl rfl ?_
  refine z_iload_n (pc := 6) h dX11_missingNow_6 rfl ?_
  refine z_if_ne (pc := 7) (tgt := 13) h dX11_missingNow_7 (by decide) ⟨by omega, by omega⟩ (fun hc7 => ?_) (fun hc7 => ?_)
  ·
    refine z_iconst (pc := 13) h dX11_missingNow_13 ?_
    refine z_istore (pc := 14) (loc' := [some (zr 0), some (zi a), some (zi w), some (zi (mA A a)), some (zi (-1)), none, none, none, none, none]) h dX11_missingNow_14 (Nat.le_of_ble_eq_true rfl) rfl rfl ?_
    refine z_iconst (pc := 16) h dX11_missingNow_16 ?_
    refine z_istore (pc := 17) (loc' := [some (zr 0), some (zi a), some (zi w), some (zi (mA A a)), some (zi (-1)), some (zi 0), none, none, none, none]) h dX11_missingNow_17 (Nat.le_of_ble_eq_true rfl) rfl rfl ?_
    refine z_iconst (pc := 19) h dX11_missingNow_19 ?_
    refine z_istore (pc := 20) (loc' := [some (zr 0), some (zi a), some (zi w), some (zi (mA A a)), some (zi (-1)), some (zi 0), some (zi 0), none, none, none]) h dX11_missingNow_20 (Nat.le_of_ble_eq_true rfl) rfl rfl ?_
    have J22 : ∀ (N : Nat) (z y p : Int) (S1 : SS) (hp : 0 ≤ p ∧ p ≤ (mA A a)) (hz : -1 ≤ z ∧ z ≤ 12) (hy : 0 ≤ y ∧ y ≤ 5000) (hI : missR (A 5 0) (qA A a) (mA A a) ((mA A a) - p).toNat p (z, y) = missF (A 5 0) (qA A a) (mA A a)) (hE : ∀ k j, k ≠ 3 → k ≠ 4 → S1 k j = S k j) (hR1 : mRel S1 A) (hP1 : prsM S1 A a) , ((mA A a) - p).toNat = N → zG x LM 22 [some (zr 0), some (zi a), some (zi w), some (zi (mA A a)), some (zi z), some (zi y), some (zi p), none, none, none] ([] : List zV) S1 := by
      intro N
      induction N using Nat.strongRecOn with
      | _ N ih22 => ?_
      intro z y p S1 hp hz hy hI hE hR1 hP1 hN22
      refine z_iload (pc := 22) h dX11_missingNow_22 rfl ?_
      refine z_iload_n (pc := 24) h dX11_missingNow_24 rfl ?_
      refine z_icmp_ge (pc := 25) (tgt := 154) h dX11_missingNow_25 (by decide) ⟨by omega, by omega⟩ ⟨by omega, by omega⟩ (fun hc25 => ?_) (fun hc25 => ?_)
      ·
        refine z_iload_n (pc := 154) h dX11_missingNow_154 rfl ?_
        refine z_if_ne (pc := 155) (tgt := 163) h dX11_missingNow_155 (by decide) ⟨by omega, by omega⟩ (fun hc155 => ?_) (fun hc155 => ?_)
        ·
          refine z_iload (pc := 163) h dX11_missingNow_163 rfl ?_
          exact z_iret (pc := 165) h dX11_missingNow_165 rfl (⟨congrArg (fun z => some (zi z)) (by rw [miss_0 (by omega)] at hI; unfold missV; rw [if_neg (by omega), ← hI]; first | (rw [if_pos (by omega)]) | (rw [if_neg (by omega)])), hE, hR1, hP1⟩)
        ·
          refine z_iload (pc := 158) h dX11_missingNow_158 rfl ?_
          refine z_goto (pc := 160) (tgt := 165) h dX11_missingNow_160 (by decide) ?_
          exact z_iret (pc := 165) h dX11_missingNow_165 rfl (⟨congrArg (fun z => some (zi z)) (by rw [miss_0 (by omega)] at hI; unfold missV; rw [if_neg (by omega), ← hI]; first | (rw [if_pos (by omega)]) | (rw [if_neg (by omega)])), hE, hR1, hP1⟩)
      ·
        rw [miss_s (r' := ((mA A a) - (p + 1)).toNat) (by omega)] at hI
        have hl := lowF_b hg hQ (mA A a) p
        have hB : 0 ≤ behF (mA A a) p ∧ behF (mA A a) p < (mA A a) := by unfold behF; split <;> omega
        refine z_aload_n (pc := 28) h dX11_missingNow_28 rfl ?_
        refine z_iload_n (pc := 29) h dX11_missingNow_29 rfl ?_
        refine z_iload (pc := 30) h dX11_missingNow_30 rfl ?_
        refine z_callV (pc := 32) (rest := ([] : List zV)) h (m_X11_halves a p _ S1 (by first | assumption | omega) (by first | assumption | omega) (by first | assumption | omega) (by first | assumption | omega) (by first | assumption | omega)) dX11_missingNow_32 mcX11_halves miX11_halves mlX11_187 rfl rfl ⟨by decide, by decide⟩ clX11 rfl rfl rfl (Nat.le_of_ble_eq_true rfl) ?_
        rintro _ S32 ⟨rfl, hr32E, hr32H, hr32R, hr32P⟩
        show zG x LM 35 [some (zr 0), some (zi a), some (zi w), some (zi (mA A a)), some (zi z), some (zi y), some (zi p), none, none, none] ([] : List zV) S32
        have e5 : S32 5 0 = A 5 0 := mr_at hr32R _ (by decide)
        have h4 := hr32R.2
        have hg5 : 0 ≤ S32 5 0 ∧ S32 5 0 ≤ 9 := by rw [e5]; exact hg
        refine z_bipush (pc := 35) h dX11_missingNow_35 rfl ?_
        refine z_iload_n (pc := 37) h dX11_missingNow_37 rfl ?_
        refine z_imul (pc := 38) h dX11_missingNow_38 ?_
        refine z_iconst (pc := 39) h dX11_missingNow_39 ?_
        refine z_iload (pc := 40) h dX11_missingNow_40 rfl ?_
        refine z_imul (pc := 42) h dX11_missingNow_42 ?_
        refine z_iadd (pc := 43) h dX11_missingNow_43 ?_
        refine z_istore (pc := 44) (loc' := [some (zr 0), some (zi a), some (zi w), some (zi (mA A a)), some (zi z), some (zi y), some (zi p), some (zi ((48 * a) + (4 * p))), none, none]) h dX11_missingNow_44 (Nat.le_of_ble_eq_true rfl) rfl rfl ?_
        refine z_bipush (pc := 46) h dX11_missingNow_46 rfl ?_
        refine z_iload_n (pc := 48) h dX11_missingNow_48 rfl ?_
        refine z_imul (pc := 49) h dX11_missingNow_49 ?_
        refine z_iconst (pc := 50) h dX11_missingNow_50 ?_
        refine z_iload (pc := 51) h dX11_missingNow_51 rfl ?_
        refine z_iconst (pc := 53) h dX11_missingNow_53 ?_
        refine z_iadd (pc := 54) h dX11_missingNow_54 ?_
        refine z_iload_n (pc := 55) h dX11_missingNow_55 rfl ?_
        refine z_iremN (pc := 56) h dX11_missingNow_56 ⟨by omega, by omega⟩ ⟨by omega, by omega⟩ ?_
        refine z_cv (b := (behF (mA A a) p)) (by exact behF_m (by omega) (by omega)) ?_
        refine z_imul (pc := 57) h dX11_missingNow_57 ?_
        refine z_iadd (pc := 58) h dX11_missingNow_58 ?_
        refine z_istore (pc := 59) (loc' := [some (zr 0), some (zi a), some (zi w), some (zi (mA A a)), some (zi z), some (zi y), some (zi p), some (zi ((48 * a) + (4 * p))), some (zi ((48 * a) + (4 * (behF (mA A a) p)))), none]) h dX11_missingNow_59 (Nat.le_of_ble_eq_true rfl) rfl rfl ?_
        refine z_aload_n (pc := 61) h dX11_missingNow_61 rfl ?_
        refine z_iload (pc := 62) h dX11_missingNow_62 rfl ?_
        refine z_iload (pc := 64) h dX11_missingNow_64 rfl ?_
        refine z_callV (pc := 66) (rest := ([] : List zV)) h (m_X11_stepBy ((48 * a) + (4 * p)) ((48 * a) + (4 * (behF (mA A a) p))) S32 (by first | assumption | omega) (by first | assumption | omega) (by first | assumption | omega) (by first | assumption | omega)) dX11_missingNow_66 mcX11_stepBy miX11_stepBy mlX11_92 rfl rfl ⟨by decide, by decide⟩ clX11 rfl rfl rfl (Nat.le_of_ble_eq_true rfl) ?_
        rintro _ _ ⟨rfl, rfl⟩
        show zG x LM 69 [some (zr 0), some (zi a), some (zi w), some (zi (mA A a)), some (zi z), some (zi y), some (zi p), some (zi ((48 * a) + (4 * p))), some (zi ((48 * a) + (4 * (behF (mA A a) p)))), none] [zi (stM S32 ((48 * a) + (4 * p)) ((48 * a) + (4 * (behF (mA A a) p))))] S32
        refine z_aload_n (pc := 69) h dX11_missingNow_69 rfl ?_
        refine z_iload (pc := 70) h dX11_missingNow_70 rfl ?_
        refine z_iload (pc := 72) h dX11_missingNow_72 rfl ?_
        refine z_callV (pc := 74) (rest := [zi (stM S32 ((48 * a) + (4 * p)) ((48 * a) + (4 * (behF (mA A a) p))))]) h (m_X11_stepBy ((48 * a) + (4 * p)) ((48 * a) + (4 * (behF (mA A a) p))) S32 (by first | assumption | omega) (by first | assumption | omega) (by first | assumption | omega) (by first | assumption | omega)) dX11_missingNow_74 mcX11_stepBy miX11_stepBy mlX11_92 rfl rfl ⟨by decide, by decide⟩ clX11 rfl rfl rfl (Nat.le_of_ble_eq_true rfl) ?_
        rintro _ _ ⟨rfl, rfl⟩
        show zG x LM 77 [some (zr 0), some (zi a), some (zi w), some (zi (mA A a)), some (zi z), some (zi y), some (zi p), some (zi ((48 * a) + (4 * p))), some (zi ((48 * a) + (4 * (behF (mA A a) p)))), none] [zi (stM S32 ((48 * a) + (4 * p)) ((48 * a) + (4 * (behF (mA A a) p)))), zi (stM S32 ((48 * a) + (4 * p)) ((48 * a) + (4 * (behF (mA A a) p))))] S32
        refine z_imul (pc := 77) h dX11_missingNow_77 ?_
        refine z_aload_n (pc := 78) h dX11_missingNow_78 rfl ?_
        refine z_iload (pc := 79) h dX11_missingNow_79 rfl ?_
        refine z_bipush (pc := 81) h dX11_missingNow_81 rfl ?_
        refine z_callV (pc := 83) (rest := [zi ((stM S32 ((48 * a) + (4 * p)) ((48 * a) + (4 * (behF (mA A a) p)))) * (stM S32 ((48 * a) + (4 * p)) ((48 * a) + (4 * (behF (mA A a) p)))))]) h (m_X11_stepBy ((48 * a) + (4 * p)) 96 S32 (by first | assumption | omega) (by first | assumption | omega) (by first | assumption | omega) (by first | assumption | omega)) dX11_missingNow_83 mcX11_stepBy miX11_stepBy mlX11_92 rfl rfl ⟨by decide, by decide⟩ clX11 rfl rfl rfl (Nat.le_of_ble_eq_true rfl) ?_
        rintro _ _ ⟨rfl, rfl⟩
        show zG x LM 86 [some (zr 0), some (zi a), some (zi w), some (zi (mA A a)), some (zi z), some (zi y), some (zi p), some (zi ((48 * a) + (4 * p))), some (zi ((48 * a) + (4 * (behF (mA A a) p)))), none] [zi (stM S32 ((48 * a) + (4 * p)) 96), zi ((stM S32 ((48 * a) + (4 * p)) ((48 * a) + (4 * (behF (mA A a) p)))) * (stM S32 ((48 * a) + (4 * p)) ((48 * a) + (4 * (behF (mA A a) p)))))] S32
        refine z_aload_n (pc := 86) h dX11_missingNow_86 rfl ?_
        refine z_iload (pc := 87) h dX11_missingNow_87 rfl ?_
        refine z_bipush (pc := 89) h dX11_missingNow_89 rfl ?_
        refine z_callV (pc := 91) (rest := [zi (stM S32 ((48 * a) + (4 * p)) 96), zi ((stM S32 ((48 * a) + (4 * p)) ((48 * a) + (4 * (behF (mA A a) p)))) * (stM S32 ((48 * a) + (4 * p)) ((48 * a) + (4 * (behF (mA A a) p)))))]) h (m_X11_stepBy ((48 * a) + (4 * p)) 96 S32 (by first | assumption | omega) (by first | assumption | omega) (by first | assumption | omega) (by first | assumption | omega)) dX11_missingNow_91 mcX11_stepBy miX11_stepBy mlX11_92 rfl rfl ⟨by decide, by decide⟩ clX11 rfl rfl rfl (Nat.le_of_ble_eq_true rfl) ?_
        rintro _ _ ⟨rfl, rfl⟩
        show zG x LM 94 [some (zr 0), some (zi a), some (zi w), some (zi (mA A a)), some (zi z), some (zi y), some (zi p), some (zi ((48 * a) + (4 * p))), some (zi ((48 * a) + (4 * (behF (mA A a) p)))), none] [zi (stM S32 ((48 * a) + (4 * p)) 96), zi (stM S32 ((48 * a) + (4 * p)) 96), zi ((stM S32 ((48 * a) + (4 * p)) ((48 * a) + (4 * (behF (mA A a) p)))) * (stM S32 ((48 * a) + (4 * p)) ((48 * a) + (4 * (behF (mA A a) p)))))] S32
        refine z_imul (pc := 94) h dX11_missingNow_94 ?_
        refine z_isub (pc := 95) h dX11_missingNow_95 ?_
        refine z_aload_n (pc := 96) h dX11_missingNow_96 rfl ?_
        refine z_bipush (pc := 97) h dX11_missingNow_97 rfl ?_
        refine z_iload (pc := 99) h dX11_missingNow_99 rfl ?_
        refine z_callV (pc := 101) (rest := [zi (((stM S32 ((48 * a) + (4 * p)) ((48 * a) + (4 * (behF (mA A a) p)))) * (stM S32 ((48 * a) + (4 * p)) ((48 * a) + (4 * (behF (mA A a) p))))) - ((stM S32 ((48 * a) + (4 * p)) 96) * (stM S32 ((48 * a) + (4 * p)) 96)))]) h (m_X11_stepBy 96 ((48 * a) + (4 * (behF (mA A a) p))) S32 (by first | assumption | omega) (by first | assumption | omega) (by first | assumption | omega) (by first | assumption | omega)) dX11_missingNow_101 mcX11_stepBy miX11_stepBy mlX11_92 rfl rfl ⟨by decide, by decide⟩ clX11 rfl rfl rfl (Nat.le_of_ble_eq_true rfl) ?_
        rintro _ _ ⟨rfl, rfl⟩
        show zG x LM 104 [some (zr 0), some (zi a), some (zi w), some (zi (mA A a)), some (zi z), some (zi y), some (zi p), some (zi ((48 * a) + (4 * p))), some (zi ((48 * a) + (4 * (behF (mA A a) p)))), none] [zi (stM S32 96 ((48 * a) + (4 * (behF (mA A a) p)))), zi (((stM S32 ((48 * a) + (4 * p)) ((48 * a) + (4 * (behF (mA A a) p)))) * (stM S32 ((48 * a) + (4 * p)) ((48 * a) + (4 * (behF (mA A a) p))))) - ((stM S32 ((48 * a) + (4 * p)) 96) * (stM S32 ((48 * a) + (4 * p)) 96)))] S32
        refine z_aload_n (pc := 104) h dX11_missingNow_104 rfl ?_
        refine z_bipush (pc := 105) h dX11_missingNow_105 rfl ?_
        refine z_iload (pc := 107) h dX11_missingNow_107 rfl ?_
        refine z_callV (pc := 109) (rest := [zi (stM S32 96 ((48 * a) + (4 * (behF (mA A a) p)))), zi (((stM S32 ((48 * a) + (4 * p)) ((48 * a) + (4 * (behF (mA A a) p)))) * (stM S32 ((48 * a) + (4 * p)) ((48 * a) + (4 * (behF (mA A a) p))))) - ((stM S32 ((48 * a) + (4 * p)) 96) * (stM S32 ((48 * a) + (4 * p)) 96)))]) h (m_X11_stepBy 96 ((48 * a) + (4 * (behF (mA A a) p))) S32 (by first | assumption | omega) (by first | assumption | omega) (by first | assumption | omega) (by first | assumption | omega)) dX11_missingNow_109 mcX11_stepBy miX11_stepBy mlX11_92 rfl rfl ⟨by decide, by decide⟩ clX11 rfl rfl rfl (Nat.le_of_ble_eq_true rfl) ?_
        rintro _ _ ⟨rfl, rfl⟩
        show zG x LM 112 [some (zr 0), some (zi a), some (zi w), some (zi (mA A a)), some (zi z), some (zi y), some (zi p), some (zi ((48 * a) + (4 * p))), some (zi ((48 * a) + (4 * (behF (mA A a) p)))), none] [zi (stM S32 96 ((48 * a) + (4 * (behF (mA A a) p)))), zi (stM S32 96 ((48 * a) + (4 * (behF (mA A a) p)))), zi (((stM S32 ((48 * a) + (4 * p)) ((48 * a) + (4 * (behF (mA A a) p)))) * (stM S32 ((48 * a) + (4 * p)) ((48 * a) + (4 * (behF (mA A a) p))))) - ((stM S32 ((48 * a) + (4 * p)) 96) * (stM S32 ((48 * a) + (4 * p)) 96)))] S32
        refine z_imul (pc := 112) h dX11_missingNow_112 ?_
        refine z_isub (pc := 113) h dX11_missingNow_113 ?_
        refine z_cv (b := (lowF (A 5 0) (qA A a) (mA A a) p)) (by exact st_low hr32P e5 (by omega) hr32H) ?_
        refine z_istore (pc := 114) (loc' := [some (zr 0), some (zi a), some (zi w), some (zi (mA A a)), some (zi z), some (zi y), some (zi p), some (zi ((48 * a) + (4 * p))), some (zi ((48 * a) + (4 * (behF (mA A a) p)))), some (zi (lowF (A 5 0) (qA A a) (mA A a) p))]) h dX11_missingNow_114 (Nat.le_of_ble_eq_true rfl) rfl rfl ?_
        have J130 : ∀ (z2 : Int) (hz2 : z2 = if y < lowF (A 5 0) (qA A a) (mA A a) p then p else z) , zG x LM 130 [some (zr 0), some (zi a), some (zi w), some (zi (mA A a)), some (zi z), some (zi y), some (zi p), none, none, some (zi (lowF (A 5 0) (qA A a) (mA A a) p))] [zi z2] S32 := by
          intro z2 hz2
          refine z_istore (pc := 130) (loc' := [some (zr 0), some (zi a), some (zi w), some (zi (mA A a)), some (zi z2), some (zi y), some (zi p), none, none, some (zi (lowF (A 5 0) (qA A a) (mA A a) p))]) h dX11_missingNow_130 (Nat.le_of_ble_eq_true rfl) rfl rfl ?_
          refine z_iload (pc := 132) h dX11_missingNow_132 rfl ?_
          refine z_iload (pc := 134) h dX11_missingNow_134 rfl ?_
          refine z_icmp_le (pc := 136) (tgt := 144) h dX11_missingNow_136 (by decide) ⟨by omega, by omega⟩ ⟨by omega, by omega⟩ (fun hc136 => ?_) (fun hc136 => ?_)
          ·
            refine z_iload (pc := 144) h dX11_missingNow_144 rfl ?_
            refine z_istore (pc := 146) (loc' := [some (zr 0), some (zi a), some (zi w), some (zi (mA A a)), some (zi z2), some (zi y), some (zi p), none, none, some (zi (lowF (A 5 0) (qA A a) (mA A a) p))]) h dX11_missingNow_146 (Nat.le_of_ble_eq_true rfl) rfl rfl ?_
            refine z_iinc (pc := 148) (loc' := [some (zr 0), some (zi a), some (zi w), some (zi (mA A a)), some (zi z2), some (zi y), some (zi (p + 1)), none, none, some (zi (lowF (A 5 0) (qA A a) (mA A a) p))]) h dX11_missingNow_148 rfl (Nat.le_of_ble_eq_true rfl) rfl rfl ?_
            refine z_goto (pc := 151) (tgt := 22) h dX11_missingNow_151 (by decide) ?_
            refine z_forget [true, true, true, true, true, true, true, true, true, false] (loc' := [some (zr 0), some (zi a), some (zi w), some (zi (mA A a)), some (zi z2), some (zi y), some (zi (p + 1)), none, none, none]) rfl ?_
            exact ih22 _ (by omega) z2 y (p + 1) S32 (by omega) (by rw [hz2]; split <;> omega) (by omega) (by rw [hz2]; first | (rw [if_pos (by assumption)] at hI ⊢; exact hI) | (rw [if_neg (by show ¬ (y < _); omega)] at hI; rw [if_neg (by omega)]; exact hI)) (fun k j k3 k4 => by rw [hr32E k j (by omega)]; exact hE k j k3 k4) (by exact hr32R) (by exact hr32P) rfl
          ·
            refine z_iload (pc := 139) h dX11_missingNow_139 rfl ?_
            refine z_goto (pc := 141) (tgt := 146) h dX11_missingNow_141 (by decide) ?_
            refine z_istore (pc := 146) (loc' := [some (zr 0), some (zi a), some (zi w), some (zi (mA A a)), some (zi z2), some (zi (lowF (A 5 0) (qA A a) (mA A a) p)), some (zi p), none, none, some (zi (lowF (A 5 0) (qA A a) (mA A a) p))]) h dX11_missingNow_146 (Nat.le_of_ble_eq_true rfl) rfl rfl ?_
            refine z_iinc (pc := 148) (loc' := [some (zr 0), some (zi a), some (zi w), some (zi (mA A a)), some (zi z2), some (zi (lowF (A 5 0) (qA A a) (mA A a) p)), some (zi (p + 1)), none, none, some (zi (lowF (A 5 0) (qA A a) (mA A a) p))]) h dX11_missingNow_148 rfl (Nat.le_of_ble_eq_true rfl) rfl rfl ?_
            refine z_goto (pc := 151) (tgt := 22) h dX11_missingNow_151 (by decide) ?_
            refine z_forget [true, true, true, true, true, true, true, true, true, false] (loc' := [some (zr 0), some (zi a), some (zi w), some (zi (mA A a)), some (zi z2), some (zi (lowF (A 5 0) (qA A a) (mA A a) p)), some (zi (p + 1)), none, none, none]) rfl ?_
            exact ih22 _ (by omega) z2 (lowF (A 5 0) (qA A a) (mA A a) p) (p + 1) S32 (by omega) (by rw [hz2]; split <;> omega) (by omega) (by rw [hz2]; first | (rw [if_pos (by assumption)] at hI ⊢; exact hI) | (rw [if_neg (by show ¬ (y < _); omega)] at hI; rw [if_neg (by omega)]; exact hI)) (fun k j k3 k4 => by rw [hr32E k j (by omega)]; exact hE k j k3 k4) (by exact hr32R) (by exact hr32P) rfl
        refine z_iload (pc := 116) h dX11_missingNow_116 rfl ?_
        refine z_iload (pc := 118) h dX11_missingNow_118 rfl ?_
        refine z_icmp_le (pc := 120) (tgt := 128) h dX11_missingNow_120 (by decide) ⟨by omega, by omega⟩ ⟨by omega, by omega⟩ (fun hc120 => ?_) (fun hc120 => ?_)
        ·
          refine z_iload (pc := 128) h dX11_missingNow_128 rfl ?_
          refine z_forget [true, true, true, true, true, true, true, false, false, true] (loc' := [some (zr 0), some (zi a), some (zi w), some (zi (mA A a)), some (zi z), some (zi y), some (zi p), none, none, some (zi (lowF (A 5 0) (qA A a) (mA A a) p))]) rfl ?_
          exact J130 z (by first | (rw [if_pos (by omega)]) | (rw [if_neg (by omega)]))
        ·
          refine z_iload (pc := 123) h dX11_missingNow_123 rfl ?_
          refine z_goto (pc := 125) (tgt := 130) h dX11_missingNow_125 (by decide) ?_
          refine z_forget [true, true, true, true, true, true, true, false, false, true] (loc' := [some (zr 0), some (zi a), some (zi w), some (zi (mA A a)), some (zi z), some (zi y), some (zi p), none, none, some (zi (lowF (A 5 0) (qA A a) (mA A a) p))]) rfl ?_
          exact J130 p (by first | (rw [if_pos (by omega)]) | (rw [if_neg (by omega)]))
    exact J22 _ (-1) 0 0 S2 (by omega) (by omega) (by omega) (by unfold missF; congr 1; omega) (by exact hr2E) (by exact hr2R) (by exact hr2P) rfl
  ·
    refine z_bipush (pc := 10) h dX11_missingNow_10 rfl ?_
    exact z_iret (pc := 12) h dX11_missingNow_12 rfl (⟨congrArg (fun z => some (zi z)) (by unfold missV; rw [if_pos (by omega)]), hr2E, hr2R, hr2P⟩)

theorem few_j1 {v : Int} {E A B : Prop} (h : (v = 1 ∧ E) ∨ (v = 0 ∧ A)) (hv : ¬ v = 0) : ((1 : Int) = 1 ∧ E) ∨ ((1 : Int) = 0 ∧ B) := by
  rcases h with h | h
  · exact Or.inl ⟨rfl, h.2⟩
  · exact absurd h.1 hv
theorem few_j2 {g t n k j : Int} {Q : PL} {c : Nat} {B : Prop} (hj : 0 ≤ j ∧ j < n) (hb : c.testBit j.toNat = true) (hs : stepF g Q k j ≤ t) : ((1 : Int) = 1 ∧ ∃ i : Nat, (i : Int) < n ∧ c.testBit i = true ∧ stepF g Q k i ≤ t) ∨ ((1 : Int) = 0 ∧ B) :=
  Or.inl ⟨rfl, j.toNat, by omega, hb, by rw [show ((j.toNat : Nat) : Int) = j by omega]; exact hs⟩
theorem few_j3 {g t k j v : Int} {Q : PL} {c : Nat} {E F : Prop} (h : (v = 1 ∧ E) ∨ (v = 0 ∧ ∀ q : Nat, (q : Int) < j → ¬ (c.testBit q = true ∧ stepF g Q k q ≤ t))) (hv : v = 0) (hj : 0 ≤ j) (hb : ¬ (c.testBit j.toNat = true ∧ stepF g Q k j ≤ t)) : ((0 : Int) = 1 ∧ F) ∨ ((0 : Int) = 0 ∧ ∀ q : Nat, (q : Int) < j + 1 → ¬ (c.testBit q = true ∧ stepF g Q k q ≤ t)) := by
  right
  refine ⟨rfl, fun q hq => ?_⟩
  rcases h with h | h
  · omega
  · by_cases hqj : q = j.toNat
    · subst hqj
      rw [show ((j.toNat : Nat) : Int) = j by omega]
      exact hb
    · exact h.2 q (by omega)
theorem few_kk {g t n k y v j : Int} {Q : PL} {c : Nat} {C Z : Prop} (hk : 0 ≤ k) (hkn : k < n) (hK : (y = 1 ∧ C ∧ ∀ q : Nat, (q : Int) < k → ∃ i : Nat, (i : Int) < n ∧ c.testBit i = true ∧ stepF g Q q i ≤ t) ∨ (y = 0 ∧ Z)) (hy : y = 1) (hJ : (v = 1 ∧ ∃ i : Nat, (i : Int) < n ∧ c.testBit i = true ∧ stepF g Q k i ≤ t) ∨ (v = 0 ∧ ∀ q : Nat, (q : Int) < j → ¬ (c.testBit q = true ∧ stepF g Q k q ≤ t))) (hj : n ≤ j) :
    (v = 1 ∧ C ∧ ∀ q : Nat, (q : Int) < k + 1 → ∃ i : Nat, (i : Int) < n ∧ c.testBit i = true ∧ stepF g Q q i ≤ t) ∨ (v = 0 ∧ ¬ (C ∧ reachB g Q n t c = true)) := by
  rcases hK with ⟨-, h1, h2⟩ | ⟨h1, -⟩
  · rcases hJ with ⟨h3, h4⟩ | ⟨h3, h4⟩
    · left
      refine ⟨h3, h1, fun q hq => ?_⟩
      by_cases hqk : q = k.toNat
      · subst hqk
        rw [show ((k.toNat : Nat) : Int) = k by omega]
        exact h4
      · exact h2 q (by omega)
    · right
      refine ⟨h3, fun h5 => ?_⟩
      obtain ⟨i, i1, i2, i3⟩ := reachB_t.mp h5.2 k.toNat (by omega)
      rw [show ((k.toNat : Nat) : Int) = k by omega] at i3
      exact h4 i (by omega) ⟨i2, i3⟩
  · omega
theorem few_k {g t n k y : Int} {Q : PL} {c : Nat} {C : Prop} (hK : (y = 1 ∧ C ∧ ∀ q : Nat, (q : Int) < k → ∃ i : Nat, (i : Int) < n ∧ c.testBit i = true ∧ stepF g Q q i ≤ t) ∨ (y = 0 ∧ ¬ (C ∧ reachB g Q n t c = true))) (hk : n ≤ k ∨ y = 0) : (y = 1 ∧ C ∧ reachB g Q n t c = true) ∨ (y = 0 ∧ ¬ (C ∧ reachB g Q n t c = true)) := by
  rcases hK with ⟨h0, h1, h2⟩ | h
  · left
    refine ⟨h0, h1, reachB_t.mpr fun q hq => ?_⟩
    exact h2 q (by omega)
  · exact Or.inr h
theorem few_b {b c w b2 : Int} {N : Nat} {R : Nat → Bool} (hN : N < 13) (hw : w = ((2 ^ N - 1 : Nat) : Int)) (hc : 1 ≤ c ∧ c < w) (hb : b = -1 ∨ (1 ≤ b ∧ b ≤ w)) (h : ((b = -1 ∨ popc c.toNat < popc b.toNat) ∧ R c.toNat = true ∧ b2 = c) ∨ (¬ ((b = -1 ∨ popc c.toNat < popc b.toNat) ∧ R c.toNat = true) ∧ b2 = b)) :
    (if popc c.toNat < popc (if b = -1 then w else b).toNat ∧ R c.toNat = true then c.toNat else (if b = -1 then w else b).toNat) = (if b2 = -1 then w else b2).toNat := by
  have h1 := pop_full hN
  have h2 := pop_less (c := c.toNat) hN (by omega)
  have h3 : w.toNat = 2 ^ N - 1 := by omega
  by_cases hb1 : b = -1
  · rw [if_pos hb1, h3, h1]
    rcases h with ⟨-, h4, h5⟩ | ⟨h4, h5⟩
    · rw [if_pos ⟨h2, h4⟩, if_neg (by omega), h5]
    · rw [if_neg (fun q => h4 ⟨Or.inl hb1, q.2⟩), if_pos (by omega)]
      omega
  · rw [if_neg hb1]
    rcases h with ⟨h6, h4, h5⟩ | ⟨h4, h5⟩
    · rw [if_pos ⟨h6.resolve_left hb1, h4⟩, if_neg (by omega), h5]
    · rw [if_neg (fun q => h4 ⟨Or.inr q.1, q.2⟩), if_neg (by omega), h5]
theorem few_e {b c w b2 : Int} {N : Nat} {R : Nat → Bool} {F : Nat} (hN : N < 13) (hw : w = ((2 ^ N - 1 : Nat) : Int)) (hc : 1 ≤ c ∧ c = w) (hb : (b = -1 ∨ (1 ≤ b ∧ b ≤ w)) ∧ b < c) (hR : R (2 ^ N - 1) = true) (h : ((b = -1 ∨ popc c.toNat < popc b.toNat) ∧ R c.toNat = true ∧ b2 = c) ∨ (¬ ((b = -1 ∨ popc c.toNat < popc b.toNat) ∧ R c.toNat = true) ∧ b2 = b)) (hF : (if b = -1 then w else b).toNat = F) : b2 = (F : Int) := by
  have h1 := pop_full hN
  have h3 : c.toNat = 2 ^ N - 1 := by omega
  rw [h3] at h
  by_cases hb1 : b = -1
  · rw [if_pos hb1] at hF
    rcases h with ⟨-, h4, h5⟩ | ⟨h4, h5⟩
    · omega
    · exact absurd ⟨Or.inl hb1, hR⟩ h4
  · rw [if_neg hb1] at hF
    have h2 := pop_less (c := b.toNat) hN (by omega)
    rcases h with ⟨h6, h4, h5⟩ | ⟨h4, h5⟩
    · rcases h6 with h6 | h6
      · exact absurd h6 hb1
      · omega
    · omega

set_option maxRecDepth 100000 in
set_option maxHeartbeats 4000000 in
theorem m_X11_fewNow (a t : Int) (A S : SS) (ha : isS a) (hR : mRel S A) (hm : MI A) (ht : 0 ≤ t ∧ t ≤ 60) : zM LM yX11_fewNow cX11_fewNow 10 (some .int) 3 69 [zr 0, zi a, zi t] S (fun r S' => r = some (zi (fewV (A 5 0) (qA A a) (mA A a) t)) ∧ (∀ k j, k ≠ 3 → k ≠ 4 → S' k j = S k j) ∧ mRel S' A ∧ prsM S' A a) := by
  refine zM_of (own := RX11) rfl (by decide +kernel) [some (zr 0), some (zi a), some (zi t), none, none, none, none, none, none, none] (Nat.le_of_ble_eq_true rfl) rfl ?_
  intro x h
  have hb := mA_b hm ha
  have hg := mi_g hm
  have hQ := qA_b hm ha
  obtain ⟨w, hw1, hw2, hw3, hw4, hw5⟩ := pow_e (n := (mA A a)) (by omega)
  have hRA := reach_all (g := (A 5 0)) (Q := (qA A a)) (n := (mA A a)) (t := t) (by omega) ht.1
  have hPF := pop_full (n := (mA A a).toNat) (by omega)
  have hPL := fun (c : Nat) (h : c < 2 ^ (mA A a).toNat - 1) => pop_less (n := (mA A a).toNat) (c := c) (by omega) h
  refine z_aload_n (pc := 0) h dX11_fewNow_0 rfl ?_
  refine z_iload_n (pc := 1) h dX11_fewNow_1 rfl ?_
  refine z_callV (pc := 2) (rest := ([] : List zV)) h (m_X11_pictures a _ S (by first | assumption | omega) (by first | assumption | omega) (by first | assumption | omega)) dX11_fewNow_2 mcX11_pictures miX11_pictures mlX11_89 rfl rfl ⟨by decide, by decide⟩ clX11 rfl rfl rfl (Nat.le_of_ble_eq_true rfl) ?_
  rintro _ S2 ⟨rfl, hr2E, hr2R, hr2P⟩
  show zG x LM 5 [some (zr 0), some (zi a), some (zi t), none, none, none, none, none, none, none] [zi (mA A a)] S2
  refine z_istore_n (pc := 5) (loc' := [some (zr 0), some (zi a), some (zi t), some (zi (mA A a)), none, none, none, none, none, none]) h dX11_fewNow_5 rfl (Nat.le_of_ble_eq_true rfl) rfl rfl ?_
  refine z_iload_n (pc := 6) h dX11_fewNow_6 rfl ?_
  refine z_if_ne (pc := 7) (tgt := 13) h dX11_fewNow_7 (by decide) ⟨by omega, by omega⟩ (fun hc7 => ?_) (fun hc7 => ?_)
  ·
    have J19 : ∀ (N : Nat) (b c : Int) (hc : 1 ≤ c ∧ c ≤ w + 1) (hb : (b = -1 ∨ (1 ≤ b ∧ b ≤ w)) ∧ b < c) (hI : c ≤ w → fewR (reachB (A 5 0) (qA A a) (mA A a) t) (w - c).toNat (c).toNat (if b = -1 then w else b).toNat = fewF (A 5 0) (qA A a) (mA A a) t) (hL : c = w + 1 → b = (fewF (A 5 0) (qA A a) (mA A a) t : Nat)) , (w + 1 - c).toNat = N → zG x LM 19 [some (zr 0), some (zi a), some (zi t), some (zi (mA A a)), some (zi b), some (zi c), none, none, none, none] ([] : List zV) S2 := by
      intro N
      induction N using Nat.strongRecOn with
      | _ N ih19 => ?_
      intro b c hc hb hI hL hN19
      refine z_iload (pc := 19) h dX11_fewNow_19 rfl ?_
      refine z_iconst (pc := 21) h dX11_fewNow_21 ?_
      refine z_iload_n (pc := 22) h dX11_fewNow_22 rfl ?_
      refine z_ishl (pc := 23) h dX11_fewNow_23 ⟨by omega, by omega⟩ ?_
      refine z_cv (b := (w + 1)) (by exact hw2) ?_
      refine z_icmp_ge (pc := 24) (tgt := 150) h dX11_fewNow_24 (by decide) ⟨by omega, by omega⟩ ⟨by omega, by omega⟩ (fun hc24 => ?_) (fun hc24 => ?_)
      ·
        refine z_iload (pc := 150) h dX11_fewNow_150 rfl ?_
        exact z_iret (pc := 152) h dX11_fewNow_152 rfl (⟨congrArg (fun z => some (zi z)) (by unfold fewV; rw [if_neg (by omega)]; exact hL (by omega)), hr2E, hr2R, hr2P⟩)
      ·
        have J142 : ∀ (b2 : Int) (hB2 : ((b = -1 ∨ popc c.toNat < popc b.toNat) ∧ reachB (A 5 0) (qA A a) (mA A a) t c.toNat = true ∧ b2 = c) ∨ (¬ ((b = -1 ∨ popc c.toNat < popc b.toNat) ∧ reachB (A 5 0) (qA A a) (mA A a) t c.toNat = true) ∧ b2 = b)) , zG x LM 142 [some (zr 0), some (zi a), some (zi t), some (zi (mA A a)), some (zi b), some (zi c), none, none, none, none] [zi b2] S2 := by
          intro b2 hB2
          have hI2 : c + 1 ≤ w → fewR (reachB (A 5 0) (qA A a) (mA A a) t) (w - (c + 1)).toNat ((c + 1)).toNat (if b2 = -1 then w else b2).toNat = fewF (A 5 0) (qA A a) (mA A a) t := fun h9 => by
            have h8 := hI (by omega)
            rw [few_s (r' := (w - (c + 1)).toNat) (by omega), few_b (N := (mA A a).toNat) (by omega) hw1 (by omega) hb.1 hB2] at h8
            rw [show (c + 1).toNat = c.toNat + 1 by omega]
            exact h8
          have hL2 : c + 1 = w + 1 → b2 = (fewF (A 5 0) (qA A a) (mA A a) t : Nat) := fun h9 => by
            have h8 := hI (by omega)
            rw [few_0 (by omega)] at h8
            exact few_e (N := (mA A a).toNat) (by omega) hw1 (by omega) hb hRA hB2 h8
          refine z_istore (pc := 142) (loc' := [some (zr 0), some (zi a), some (zi t), some (zi (mA A a)), some (zi b2), some (zi c), none, none, none, none]) h dX11_fewNow_142 (Nat.le_of_ble_eq_true rfl) rfl rfl ?_
          refine z_iinc (pc := 144) (loc' := [some (zr 0), some (zi a), some (zi t), some (zi (mA A a)), some (zi b2), some (zi (c + 1)), none, none, none, none]) h dX11_fewNow_144 rfl (Nat.le_of_ble_eq_true rfl) rfl rfl ?_
          refine z_goto (pc := 147) (tgt := 19) h dX11_fewNow_147 (by decide) ?_
          exact ih19 _ (by omega) b2 (c + 1) (by omega) (by omega) (by exact hI2) (by exact hL2) rfl
        have J130 : ∀ (y : Int) (hY : (y = 1 ∧ (b = -1 ∨ popc c.toNat < popc b.toNat) ∧ reachB (A 5 0) (qA A a) (mA A a) t c.toNat = true) ∨ (y = 0 ∧ ¬ ((b = -1 ∨ popc c.toNat < popc b.toNat) ∧ reachB (A 5 0) (qA A a) (mA A a) t c.toNat = true))) , zG x LM 130 [some (zr 0), some (zi a), some (zi t), some (zi (mA A a)), some (zi b), some (zi c), some (zi y), none, none, none] ([] : List zV) S2 := by
          intro y hY
          have hy01 : y = 1 ∨ y = 0 := by rcases hY with h9 | h9; exact Or.inl h9.1; exact Or.inr h9.1
          refine z_iload (pc := 130) h dX11_fewNow_130 rfl ?_
          refine z_if_eq (pc := 132) (tgt := 140) h dX11_fewNow_132 (by decide) ⟨by omega, by omega⟩ (fun hc132 => ?_) (fun hc132 => ?_)
          ·
            refine z_iload (pc := 140) h dX11_fewNow_140 rfl ?_
            refine z_forget [true, true, true, true, true, true, false, true, true, true] (loc' := [some (zr 0), some (zi a), some (zi t), some (zi (mA A a)), some (zi b), some (zi c), none, none, none, none]) rfl ?_
            exact J142 b (by rcases hY with ⟨h1, h2, h3⟩ | ⟨h1, h2⟩; (first | (left; exact ⟨h2, h3, rfl⟩) | omega); (first | (right; exact ⟨h2, rfl⟩) | omega))
          ·
            refine z_iload (pc := 135) h dX11_fewNow_135 rfl ?_
            refine z_goto (pc := 137) (tgt := 142) h dX11_fewNow_137 (by decide) ?_
            refine z_forget [true, true, true, true, true, true, false, true, true, true] (loc' := [some (zr 0), some (zi a), some (zi t), some (zi (mA A a)), some (zi b), some (zi c), none, none, none, none]) rfl ?_
            exact J142 c (by rcases hY with ⟨h1, h2, h3⟩ | ⟨h1, h2⟩; (first | (left; exact ⟨h2, h3, rfl⟩) | omega); (first | (right; exact ⟨h2, rfl⟩) | omega))
        have J51 : ∀ (y : Int) (hy : (y = 1 ∧ (b = -1 ∨ popc c.toNat < popc b.toNat)) ∨ (y = 0 ∧ ¬ (b = -1 ∨ popc c.toNat < popc b.toNat))) , zG x LM 51 [some (zr 0), some (zi a), some (zi t), some (zi (mA A a)), some (zi b), some (zi c), none, none, none, none] [zi y] S2 := by
          intro y hy
          refine z_istore (pc := 51) (loc' := [some (zr 0), some (zi a), some (zi t), some (zi (mA A a)), some (zi b), some (zi c), some (zi y), none, none, none]) h dX11_fewNow_51 (Nat.le_of_ble_eq_true rfl) rfl rfl ?_
          refine z_iconst (pc := 53) h dX11_fewNow_53 ?_
          refine z_istore (pc := 54) (loc' := [some (zr 0), some (zi a), some (zi t), some (zi (mA A a)), some (zi b), some (zi c), some (zi y), some (zi 0), none, none]) h dX11_fewNow_54 (Nat.le_of_ble_eq_true rfl) rfl rfl ?_
          have J56 : ∀ (N : Nat) (y k : Int) (hk : 0 ≤ k ∧ k ≤ (mA A a)) (hK : (y = 1 ∧ (b = -1 ∨ popc c.toNat < popc b.toNat) ∧ ∀ q : Nat, (q : Int) < k → ∃ j : Nat, (j : Int) < (mA A a) ∧ c.toNat.testBit j = true ∧ stepF (A 5 0) (qA A a) q j ≤ t) ∨ (y = 0 ∧ ¬ ((b = -1 ∨ popc c.toNat < popc b.toNat) ∧ reachB (A 5 0) (qA A a) (mA A a) t c.toNat = true))) , ((mA A a) - k).toNat = N → zG x LM 56 [some (zr 0), some (zi a), some (zi t), some (zi (mA A a)), some (zi b), some (zi c), some (zi y), some (zi k), none, none] ([] : List zV) S2 := by
            intro N
            induction N using Nat.strongRecOn with
            | _ N ih56 => ?_
            intro y k hk hK hN56
            refine z_iload (pc := 56) h dX11_fewNow_56 rfl ?_
            refine z_iload_n (pc := 58) h dX11_fewNow_58 rfl ?_
            refine z_icmp_ge (pc := 59) (tgt := 130) h dX11_fewNow_59 (by decide) ⟨by omega, by omega⟩ ⟨by omega, by omega⟩ (fun hc59 => ?_) (fun hc59 => ?_)
            ·
              refine z_forget [true, true, true, true, true, true, true, false, true, true] (loc' := [some (zr 0), some (zi a), some (zi t), some (zi (mA A a)), some (zi b), some (zi c), some (zi y), none, none, none]) rfl ?_
              exact J130 y (by exact few_k hK (by omega))
            ·
              have hy01 : y = 1 ∨ y = 0 := by rcases hK with h9 | h9; exact Or.inl h9.1; exact Or.inr h9.1
              refine z_iload (pc := 62) h dX11_fewNow_62 rfl ?_
              refine z_if_eq (pc := 64) (tgt := 130) h dX11_fewNow_64 (by decide) ⟨by omega, by omega⟩ (fun hc64 => ?_) (fun hc64 => ?_)
              ·
                refine z_forget [true, true, true, true, true, true, true, false, true, true] (loc' := [some (zr 0), some (zi a), some (zi t), some (zi (mA A a)), some (zi b), some (zi c), some (zi y), none, none, none]) rfl ?_
                exact J130 y (by exact few_k hK (by omega))
              ·
                have hyy : y = 1 := by omega
                refine z_iconst (pc := 67) h dX11_fewNow_67 ?_
                refine z_istore (pc := 68) (loc' := [some (zr 0), some (zi a), some (zi t), some (zi (mA A a)), some (zi b), some (zi c), some (zi y), some (zi k), some (zi 0), none]) h dX11_fewNow_68 (Nat.le_of_ble_eq_true rfl) rfl rfl ?_
                refine z_iconst (pc := 70) h dX11_fewNow_70 ?_
                refine z_istore (pc := 71) (loc' := [some (zr 0), some (zi a), some (zi t), some (zi (mA A a)), some (zi b), some (zi c), some (zi y), some (zi k), some (zi 0), some (zi 0)]) h dX11_fewNow_71 (Nat.le_of_ble_eq_true rfl) rfl rfl ?_
                have J73 : ∀ (N : Nat) (v j : Int) (hj : 0 ≤ j ∧ j ≤ (mA A a)) (hJ : (v = 1 ∧ ∃ j : Nat, (j : Int) < (mA A a) ∧ c.toNat.testBit j = true ∧ stepF (A 5 0) (qA A a) k j ≤ t) ∨ (v = 0 ∧ ∀ q : Nat, (q : Int) < j → ¬ (c.toNat.testBit q = true ∧ stepF (A 5 0) (qA A a) k q ≤ t))) , ((mA A a) - j).toNat = N → zG x LM 73 [some (zr 0), some (zi a), some (zi t), some (zi (mA A a)), some (zi b), some (zi c), none, some (zi k), some (zi v), some (zi j)] ([] : List zV) S2 := by
                  intro N
                  induction N using Nat.strongRecOn with
                  | _ N ih73 => ?_
                  intro v j hj hJ hN73
                  refine z_iload (pc := 73) h dX11_fewNow_73 rfl ?_
                  refine z_iload_n (pc := 75) h dX11_fewNow_75 rfl ?_
                  refine z_icmp_ge (pc := 76) (tgt := 120) h dX11_fewNow_76 (by decide) ⟨by omega, by omega⟩ ⟨by omega, by omega⟩ (fun hc76 => ?_) (fun hc76 => ?_)
                  ·
                    refine z_iload (pc := 120) h dX11_fewNow_120 rfl ?_
                    refine z_istore (pc := 122) (loc' := [some (zr 0), some (zi a), some (zi t), some (zi (mA A a)), some (zi b), some (zi c), some (zi v), some (zi k), some (zi v), some (zi j)]) h dX11_fewNow_122 (Nat.le_of_ble_eq_true rfl) rfl rfl ?_
                    have hK2 : (v = 1 ∧ (b = -1 ∨ popc c.toNat < popc b.toNat) ∧ ∀ q : Nat, (q : Int) < k + 1 → ∃ j : Nat, (j : Int) < (mA A a) ∧ c.toNat.testBit j = true ∧ stepF (A 5 0) (qA A a) q j ≤ t) ∨ (v = 0 ∧ ¬ ((b = -1 ∨ popc c.toNat < popc b.toNat) ∧ reachB (A 5 0) (qA A a) (mA A a) t c.toNat = true)) := few_kk hk.1 (by omega) hK hyy hJ (by omega)
                    refine z_iinc (pc := 124) (loc' := [some (zr 0), some (zi a), some (zi t), some (zi (mA A a)), some (zi b), some (zi c), some (zi v), some (zi (k + 1)), some (zi v), some (zi j)]) h dX11_fewNow_124 rfl (Nat.le_of_ble_eq_true rfl) rfl rfl ?_
                    refine z_goto (pc := 127) (tgt := 56) h dX11_fewNow_127 (by decide) ?_
                    refine z_forget [true, true, true, true, true, true, true, true, false, false] (loc' := [some (zr 0), some (zi a), some (zi t), some (zi (mA A a)), some (zi b), some (zi c), some (zi v), some (zi (k + 1)), none, none]) rfl ?_
                    exact ih56 _ (by clear hK2 hJ hK; omega) v (k + 1) (by omega) (by exact hK2) rfl
                  ·
                    have J112 : ∀ (v2 : Int) (hJ2 : (v2 = 1 ∧ ∃ j : Nat, (j : Int) < (mA A a) ∧ c.toNat.testBit j = true ∧ stepF (A 5 0) (qA A a) k j ≤ t) ∨ (v2 = 0 ∧ ∀ q : Nat, (q : Int) < j + 1 → ¬ (c.toNat.testBit q = true ∧ stepF (A 5 0) (qA A a) k q ≤ t))) , zG x LM 112 [some (zr 0), some (zi a), some (zi t), some (zi (mA A a)), some (zi b), some (zi c), none, some (zi k), some (zi v), some (zi j)] [zi v2] S2 := by
                      intro v2 hJ2
                      refine z_istore (pc := 112) (loc' := [some (zr 0), some (zi a), some (zi t), some (zi (mA A a)), some (zi b), some (zi c), none, some (zi k), some (zi v2), some (zi j)]) h dX11_fewNow_112 (Nat.le_of_ble_eq_true rfl) rfl rfl ?_
                      refine z_iinc (pc := 114) (loc' := [some (zr 0), some (zi a), some (zi t), some (zi (mA A a)), some (zi b), some (zi c), none, some (zi k), some (zi v2), some (zi (j + 1))]) h dX11_fewNow_114 rfl (Nat.le_of_ble_eq_true rfl) rfl rfl ?_
                      refine z_goto (pc := 117) (tgt := 73) h dX11_fewNow_117 (by decide) ?_
                      exact ih73 _ (by clear hJ2 hJ hK; omega) v2 (j + 1) (by omega) (by exact hJ2) rfl
                    have hv01 : v = 1 ∨ v = 0 := by rcases hJ with h9 | h9; exact Or.inl h9.1; exact Or.inr h9.1
                    have hsb := stepF_b hg hQ k j
                    refine z_iload (pc := 79) h dX11_fewNow_79 rfl ?_
                    refine z_if_ne (pc := 81) (tgt := 107) h dX11_fewNow_81 (by decide) ⟨by omega, by omega⟩ (fun hc81 => ?_) (fun hc81 => ?_)
                    ·
                      refine z_iconst (pc := 107) h dX11_fewNow_107 ?_
                      refine z_goto (pc := 108) (tgt := 112) h dX11_fewNow_108 (by decide) ?_
                      exact J112 1 (by first | exact few_j1 hJ (by omega) | exact few_j2 ⟨hj.1, by omega⟩ hr88 hc104 | exact few_j3 hJ (by omega) hj.1 (fun q => hr88 q.1) | exact few_j3 hJ (by omega) hj.1 (fun q => by have := q.2; omega))
                    ·
                      refine z_iload (pc := 84) h dX11_fewNow_84 rfl ?_
                      refine z_iload (pc := 86) h dX11_fewNow_86 rfl ?_
                      refine z_callS (pc := 88) (rest := ([] : List zV)) h (m_X11_isIn c j S2 (by first | assumption | omega) (by first | assumption | omega)) dX11_fewNow_88 mcX11_isIn msX11_isIn mlX11_155 rfl rfl ⟨by decide, by decide⟩ rfl (Nat.le_of_ble_eq_true rfl) ?_
                      rintro _ _ ⟨rfl, ⟨hr88, rfl⟩ | ⟨hr88, rfl⟩⟩
                      ·
                        show zG x LM 91 [some (zr 0), some (zi a), some (zi t), some (zi (mA A a)), some (zi b), some (zi c), none, some (zi k), some (zi v), some (zi j)] [zi 1] S2
                        refine z_if_eq (pc := 91) (tgt := 111) h dX11_fewNow_91 (by decide) ⟨by decide, by decide⟩ (fun hc91 => absurd hc91 (by decide)) (fun hc91 => ?_)
                        refine z_aload_n (pc := 94) h dX11_fewNow_94 rfl ?_
                        refine z_iload_n (pc := 95) h dX11_fewNow_95 rfl ?_
                        refine z_iload (pc := 96) h dX11_fewNow_96 rfl ?_
                        refine z_iload (pc := 98) h dX11_fewNow_98 rfl ?_
                        refine z_callV (pc := 100) (rest := ([] : List zV)) h (m_X11_stepOf a k j _ S2 (by first | assumption | omega) (by first | assumption | omega) (by first | assumption | omega) (by first | assumption | omega) (by first | assumption | omega) (by first | assumption | omega)) dX11_fewNow_100 mcX11_stepOf miX11_stepOf mlX11_95 rfl rfl ⟨by decide, by decide⟩ clX11 rfl rfl rfl (Nat.le_of_ble_eq_true rfl) ?_
                        rintro _ _ ⟨rfl, rfl⟩
                        show zG x LM 103 [some (zr 0), some (zi a), some (zi t), some (zi (mA A a)), some (zi b), some (zi c), none, some (zi k), some (zi v), some (zi j)] [zi (stepF (A 5 0) (qA A a) k j)] S2
                        refine z_iload_n (pc := 103) h dX11_fewNow_103 rfl ?_
                        refine z_icmp_gt (pc := 104) (tgt := 111) h dX11_fewNow_104 (by decide) ⟨by omega, by omega⟩ ⟨by omega, by omega⟩ (fun hc104 => ?_) (fun hc104 => ?_)
                        ·
                          refine z_iconst (pc := 111) h dX11_fewNow_111 ?_
                          exact J112 0 (by first | exact few_j1 hJ (by omega) | exact few_j2 ⟨hj.1, by omega⟩ hr88 hc104 | exact few_j3 hJ (by omega) hj.1 (fun q => hr88 q.1) | exact few_j3 hJ (by omega) hj.1 (fun q => by have := q.2; omega))
                        ·
                          refine z_iconst (pc := 107) h dX11_fewNow_107 ?_
                          refine z_goto (pc := 108) (tgt := 112) h dX11_fewNow_108 (by decide) ?_
                          exact J112 1 (by first | exact few_j1 hJ (by omega) | exact few_j2 ⟨hj.1, by omega⟩ hr88 hc104 | exact few_j3 hJ (by omega) hj.1 (fun q => hr88 q.1) | exact few_j3 hJ (by omega) hj.1 (fun q => by have := q.2; omega))
                      ·
                        show zG x LM 91 [some (zr 0), some (zi a), some (zi t), some (zi (mA A a)), some (zi b), some (zi c), none, some (zi k), some (zi v), some (zi j)] [zi 0] S2
                        refine z_if_eq (pc := 91) (tgt := 111) h dX11_fewNow_91 (by decide) ⟨by decide, by decide⟩ (fun hc91 => ?_) (fun hc91 => absurd hc91 (by decide))
                        refine z_iconst (pc := 111) h dX11_fewNow_111 ?_
                        exact J112 0 (by first | exact few_j1 hJ (by omega) | exact few_j2 ⟨hj.1, by omega⟩ hr88 hc104 | exact few_j3 hJ (by omega) hj.1 (fun q => hr88 q.1) | exact few_j3 hJ (by omega) hj.1 (fun q => by have := q.2; omega))
                refine z_forget [true, true, true, true, true, true, false, true, true, true] (loc' := [some (zr 0), some (zi a), some (zi t), some (zi (mA A a)), some (zi b), some (zi c), none, some (zi k), some (zi 0), some (zi 0)]) rfl ?_
                exact J73 _ 0 0 (by omega) (by right; exact ⟨rfl, fun q hq => by omega⟩) rfl
          exact J56 _ y 0 (by omega) (by rcases hy with ⟨h1, h2⟩ | ⟨h1, h2⟩; (left; exact ⟨h1, h2, fun q hq => by omega⟩); (right; exact ⟨h1, fun h3 => h2 h3.1⟩)) rfl
        refine z_iload (pc := 27) h dX11_fewNow_27 rfl ?_
        refine z_iconst (pc := 29) h dX11_fewNow_29 ?_
        refine z_icmp_eq (pc := 30) (tgt := 46) h dX11_fewNow_30 (by decide) ⟨by omega, by omega⟩ ⟨by decide, by decide⟩ (fun hc30 => ?_) (fun hc30 => ?_)
        ·
          refine z_iconst (pc := 46) h dX11_fewNow_46 ?_
          refine z_goto (pc := 47) (tgt := 51) h dX11_fewNow_47 (by decide) ?_
          exact J51 1 (by omega)
        ·
          have pb1 := popc_b c.toNat
          have pb2 := popc_b b.toNat
          refine z_iload (pc := 33) h dX11_fewNow_33 rfl ?_
          refine z_callS (pc := 35) (rest := ([] : List zV)) h (m_X11_ones c S2 (by first | assumption | omega)) dX11_fewNow_35 mcX11_ones msX11_ones mlX11_194 rfl rfl ⟨by decide, by decide⟩ rfl (Nat.le_of_ble_eq_true rfl) ?_
          rintro _ _ ⟨rfl, rfl⟩
          show zG x LM 38 [some (zr 0), some (zi a), some (zi t), some (zi (mA A a)), some (zi b), some (zi c), none, none, none, none] [zi ((popc c.toNat : Nat) : Int)] S2
          refine z_iload (pc := 38) h dX11_fewNow_38 rfl ?_
          refine z_callS (pc := 40) (rest := [zi ((popc c.toNat : Nat) : Int)]) h (m_X11_ones b S2 (by first | assumption | omega)) dX11_fewNow_40 mcX11_ones msX11_ones mlX11_194 rfl rfl ⟨by decide, by decide⟩ rfl (Nat.le_of_ble_eq_true rfl) ?_
          rintro _ _ ⟨rfl, rfl⟩
          show zG x LM 43 [some (zr 0), some (zi a), some (zi t), some (zi (mA A a)), some (zi b), some (zi c), none, none, none, none] [zi ((popc b.toNat : Nat) : Int), zi ((popc c.toNat : Nat) : Int)] S2
          refine z_icmp_ge (pc := 43) (tgt := 50) h dX11_fewNow_43 (by decide) ⟨by omega, by omega⟩ ⟨by omega, by omega⟩ (fun hc43 => ?_) (fun hc43 => ?_)
          ·
            refine z_iconst (pc := 50) h dX11_fewNow_50 ?_
            exact J51 0 (by omega)
          ·
            refine z_iconst (pc := 46) h dX11_fewNow_46 ?_
            refine z_goto (pc := 47) (tgt := 51) h dX11_fewNow_47 (by decide) ?_
            exact J51 1 (by omega)
    refine z_iconst (pc := 13) h dX11_fewNow_13 ?_
    refine z_istore (pc := 14) (loc' := [some (zr 0), some (zi a), some (zi t), some (zi (mA A a)), some (zi (-1)), none, none, none, none, none]) h dX11_fewNow_14 (Nat.le_of_ble_eq_true rfl) rfl rfl ?_
    refine z_iconst (pc := 16) h dX11_fewNow_16 ?_
    refine z_istore (pc := 17) (loc' := [some (zr 0), some (zi a), some (zi t), some (zi (mA A a)), some (zi (-1)), some (zi 1), none, none, none, none]) h dX11_fewNow_17 (Nat.le_of_ble_eq_true rfl) rfl rfl ?_
    exact J19 _ (-1) 1 (by omega) (by omega) (by intro _; unfold fewF; rw [if_pos rfl]; congr 1 <;> omega) (by omega) rfl
  ·
    refine z_bipush (pc := 10) h dX11_fewNow_10 rfl ?_
    exact z_iret (pc := 12) h dX11_fewNow_12 rfl (⟨congrArg (fun z => some (zi z)) (by unfold fewV; rw [if_pos (by omega)]), hr2E, hr2R, hr2P⟩)

/-! JOINED: the class -/
def fiA (A : SS) : Int := if dA A 1 < dA A 0 then 1 else 0
def wyA (A : SS) (k r : Nat) : Int := if dA A 1 < dA A 0 then wayF (A 7 r) (A 7 (6 + k)) else wayF (A 7 k) (A 7 (6 + r))
def smA (A : SS) (k r : Nat) : Prop := if dA A 1 < dA A 0 then A 8 r = A 8 (6 + k) else A 8 k = A 8 (6 + r)
def fdA (A : SS) (k r : Nat) : Int := if dA A 1 < dA A 0 then (if A 8 r = A 8 (6 + k) then 0 else A 5 1) else (if A 8 k = A 8 (6 + r) then 0 else A 5 1)
def coA (A : SS) (k r : Nat) : Int := absI (wyA A k r) + fdA A k r
def fewN (A : SS) : Nat := (min (dA A 0) (dA A 1)).toNat
def manN (A : SS) : Nat := (max (dA A 0) (dA A 1)).toNat
theorem wyA_b (A : SS) (k r : Nat) : -30 ≤ wyA A k r ∧ wyA A k r ≤ 30 := by
  unfold wyA
  split
  · have := wayF_b (A 7 r) (A 7 (6 + k)); omega
  · have := wayF_b (A 7 k) (A 7 (6 + r)); omega
theorem coA_b {A : SS} (hm : MI A) (k r : Nat) : 0 ≤ coA A k r ∧ coA A k r ≤ 90 := by
  have h1 := wyA_b A k r
  have h2 := mi_u hm
  have h3 : 0 ≤ fdA A k r ∧ fdA A k r ≤ 60 := by unfold fdA; (repeat' split) <;> omega
  have h4 : 0 ≤ absI (wyA A k r) ∧ absI (wyA A k r) ≤ 30 := by unfold absI; split <;> omega
  unfold coA
  omega
def jc (A : SS) : Nat → Nat → Nat → Int := fun tk _ d => coA A (popc tk) d
def jw (A : SS) : Nat → Nat → Nat → Int := fun tk _ d => wyA A (popc tk) d
def z0 : Nat → Int := fun _ => 0
def l0 : Nat → Nat := fun _ => 0
def jR (A : SS) (m r tk : Nat) : TS := tR m (jc A) (jw A) z0 l0 r tk 0
def jT (A : SS) : TS := jR A (manN A) (fewN A) 0
def jA (A : SS) (m r tk j : Nat) : TS := if r = 0 then jR A m 0 tk else tF (tD m (jc A) (jw A) z0 l0 (r - 1) tk 0) j tE
theorem jA_n (A : SS) (m r tk : Nat) : jA A m r tk m = jR A m r tk := by
  unfold jA
  cases r with
  | zero => rfl
  | succ r => rfl
theorem jA_skip {A : SS} {m r tk j : Nat} (h : tk.testBit j = true) : jA A m r tk (j + 1) = jA A m r tk j := by
  unfold jA
  split
  · rfl
  · show tC _ (tD m (jc A) (jw A) z0 l0 (r - 1) tk 0 j) = _
    exact tC_0 (by unfold tD; rw [if_pos h]; rfl)
theorem jA_add {A : SS} {m r tk j : Nat} (h : tk.testBit j = false) : jA A m (r + 1) tk (j + 1) = tC (jA A m (r + 1) tk j) (tS (coA A (popc tk) j) (wyA A (popc tk) j) j (jR A m r (tk ||| 2 ^ j))) := by
  unfold jA
  rw [if_neg (by omega), if_neg (by omega)]
  show tC _ (tD m (jc A) (jw A) z0 l0 r tk 0 j) = _
  unfold tD
  rw [if_neg (by rw [h]; decide)]
  rfl
theorem jR_B {A : SS} (hm : MI A) (m r tk : Nat) : tB ((m ^ r : Nat) : Int) (90 * (r + 1)) (30 * r) (jR A m r tk) := tR_B m (jc A) (jw A) z0 l0 (C := 90) (V := 30) (fun _ _ _ => coA_b hm _ _) (fun _ _ _ => wyA_b A _ _) (fun _ => ⟨Int.le_refl _, by show (0 : Int) ≤ 90; decide⟩) r tk 0
theorem jR_b {A : SS} (hm : MI A) {m r : Nat} (hmm : m ≤ 6) (hr : r ≤ 6) (tk : Nat) : tB 46656 630 180 (jR A m r tk) := by
  have h := jR_B hm m r tk
  have h1 : m ^ r ≤ 6 ^ 6 := Nat.le_trans (Nat.pow_le_pow_left hmm r) (Nat.pow_le_pow_right (by decide) hr)
  have h2 : ((m ^ r : Nat) : Int) ≤ 46656 := by
    have : (6 : Nat) ^ 6 = 46656 := by decide
    omega
  exact tB_mono h h2 (by omega) (by omega)
theorem jA_b {A : SS} (hm : MI A) {m r j : Nat} (hmm : m ≤ 6) (hr : r ≤ 6) (hj : j ≤ 6) (tk : Nat) : tB 279936 720 210 (jA A m r tk j) := by
  unfold jA
  split
  · exact tB_mono (jR_b hm hmm (Nat.zero_le 6) tk) (by decide) (by decide) (by decide)
  · have hk : ∀ d, tB 46656 720 210 (tD m (jc A) (jw A) z0 l0 (r - 1) tk 0 d) := fun d => by
      unfold tD
      split
      · exact tB_mono (tE_B (B := 0) (W := 0) (by omega) (by omega)) (by omega) (by omega) (by omega)
      · exact tS_B (C := 90) (V := 30) (jR_b hm hmm (show r - 1 ≤ 6 by omega) _) (coA_b hm _ _) (wyA_b A _ _)
    have h2 := tF_B (by decide) (by decide) hk j
    exact tB_mono h2 (by omega) (by omega) (by omega)
theorem joi_add {x y : TS} {c w : Int} {d : Nat} (hx : 0 ≤ x.1) (hy : 0 < y.1) :
    ((x.1 = 0 ∨ c + y.2.1 < x.2.1) → (tC x (tS c w d y)).2.1 = c + y.2.1 ∧ (tC x (tS c w d y)).1 = y.1 ∧ (tC x (tS c w d y)).2.2.1 = w + y.2.2.1 ∧ (tC x (tS c w d y)).2.2.2.1 = w + y.2.2.2.1) ∧ (x.1 ≠ 0 → x.2.1 < c + y.2.1 → tC x (tS c w d y) = x) ∧ (x.1 ≠ 0 → c + y.2.1 = x.2.1 → (tC x (tS c w d y)).2.1 = x.2.1 ∧ (tC x (tS c w d y)).1 = x.1 + y.1 ∧ (tC x (tS c w d y)).2.2.1 = min x.2.2.1 (w + y.2.2.1) ∧ (tC x (tS c w d y)).2.2.2.1 = max x.2.2.2.1 (w + y.2.2.2.1)) := by
  have z1 : (tS c w d y).1 = y.1 := by rw [tS_1 (show y.1 ≠ 0 by omega)]
  have z2 : (tS c w d y).2.1 = c + y.2.1 := by rw [tS_1 (show y.1 ≠ 0 by omega)]
  have z3 : (tS c w d y).2.2.1 = w + y.2.2.1 := by rw [tS_1 (show y.1 ≠ 0 by omega)]
  have z4 : (tS c w d y).2.2.2.1 = w + y.2.2.2.1 := by rw [tS_1 (show y.1 ≠ 0 by omega)]
  refine ⟨fun h => ?_, fun h1 h2 => ?_, fun h1 h2 => ?_⟩
  · by_cases h1 : x.1 = 0
    · rw [tC_1 (y := tS c w d y) (by rw [z1]; omega) h1]; exact ⟨z2, z1, z3, z4⟩
    · rw [tC_lt (y := tS c w d y) (by rw [z1]; omega) (by rw [z2]; omega)]; exact ⟨z2, z1, z3, z4⟩
  · exact tC_gt (y := tS c w d y) h1 (by rw [z2]; omega)
  · rw [tC_eq (y := tS c w d y) h1 (by rw [z1]; omega) (by rw [z2]; omega), z1, z3, z4]; exact ⟨rfl, rfl, rfl, rfl⟩
def setJ (A : SS) (m f : Nat) (S : SS) (tk : Nat) : Prop := S 27 tk = (jR A m (f - popc tk) tk).2.1 ∧ S 28 tk = (jR A m (f - popc tk) tk).1 ∧ S 29 tk = (jR A m (f - popc tk) tk).2.2.1 ∧ S 30 tk = (jR A m (f - popc tk) tk).2.2.2.1
def colJ (A : SS) (m f : Nat) (S : SS) : Prop := ∀ k r : Nat, k < f → r < m → S 25 (k * 6 + r) = wyA A k r ∧ S 26 (k * 6 + r) = coA A k r
theorem pow6 {n : Nat} (h : n ≤ 6) : 1 ≤ 2 ^ n ∧ 2 ^ n ≤ 64 := ⟨Nat.two_pow_pos n, Nat.le_trans (Nat.pow_le_pow_right (by decide) h) (by decide)⟩
theorem popc_set {tk d m : Nat} (hm : m ≤ 6) (h : tk < 2 ^ m) (hd : d < m) (hb : tk.testBit d = false) : popc (tk ||| 2 ^ d) = popc tk + 1 ∧ tk ||| 2 ^ d < 2 ^ m ∧ tk < tk ||| 2 ^ d := by
  rw [popc_m (set_lt h hd) (by omega), popc_m h (by omega)]
  exact ⟨popk_set hb m hd, set_lt h hd, set_gt hb⟩

set_option maxRecDepth 100000 in
set_option maxHeartbeats 4000000 in
theorem m_X4_wayTo (k k2 : Nat) (i j : Int) (S : SS) (hk : isLook k) (hk2 : isLook k2) (hi : 0 ≤ i ∧ i < S k 2 ∧ S k 2 ≤ 6) (hj : 0 ≤ j ∧ j < S k2 2 ∧ S k2 2 ≤ 6) (hu : 0 ≤ S (k + 1) i.toNat ∧ S (k + 1) i.toNat ≤ 59) (hv : 0 ≤ S (k2 + 1) j.toNat ∧ S (k2 + 1) j.toNat ≤ 59) : zM LX yX4_wayTo cX4_wayTo 4 (some .int) 1 22 [zr k, zi i, zr k2, zi j] S (fun r S' => S = S' ∧ r = some (zi (wayF (S (k + 1) i.toNat) (S (k2 + 1) j.toNat)))) := by
  refine zM_of (own := RX4) rfl (by decide +kernel) [some (zr k), some (zi i), some (zr k2), some (zi j)] (Nat.le_of_ble_eq_true rfl) rfl ?_
  intro x h
  refine z_iload_n (pc := 0) h dX4_wayTo_0 rfl ?_
  refine z_iconst (pc := 1) h dX4_wayTo_1 ?_
  refine z_aload_n (pc := 2) h dX4_wayTo_2 rfl ?_
  refine z_getI (pc := 3) h dX4_wayTo_3 clX4 lkX4_22 (by decide) hk.1 rfl ?_
  refine z_iconst (pc := 6) h dX4_wayTo_6 ?_
  refine z_isub (pc := 7) h dX4_wayTo_7 ?_
  refine z_callS (pc := 8) (rest := ([] : List zV)) h (m_X10_within i 0 ((S k 2) - 1) S ⟨by omega, by omega⟩ ⟨by decide, by decide⟩ ⟨by omega, by omega⟩) dX4_wayTo_8 mcX10_within msX10_within mlX4_18 rfl rfl ⟨by decide, by decide⟩ rfl (Nat.le_of_ble_eq_true rfl) ?_
  rintro _ _ ⟨rfl, ⟨hr8, rfl⟩ | ⟨hr8, rfl⟩⟩
  ·
    show zG x LX 11 [some (zr k), some (zi i), some (zr k2), some (zi j)] [zi 1] S
    refine z_if_eq (pc := 11) (tgt := 28) h dX4_wayTo_11 (by decide) ⟨by decide, by decide⟩ (fun hc11 => absurd hc11 (by decide)) (fun hc11 => ?_)
    refine z_iload_n (pc := 14) h dX4_wayTo_14 rfl ?_
    refine z_iconst (pc := 15) h dX4_wayTo_15 ?_
    refine z_aload_n (pc := 16) h dX4_wayTo_16 rfl ?_
    refine z_getI (pc := 17) h dX4_wayTo_17 clX4 lkX4_22 (by decide) hk2.1 rfl ?_
    refine z_iconst (pc := 20) h dX4_wayTo_20 ?_
    refine z_isub (pc := 21) h dX4_wayTo_21 ?_
    refine z_callS (pc := 22) (rest := ([] : List zV)) h (m_X10_within j 0 ((S k2 2) - 1) S ⟨by omega, by omega⟩ ⟨by decide, by decide⟩ ⟨by omega, by omega⟩) dX4_wayTo_22 mcX10_within msX10_within mlX4_18 rfl rfl ⟨by decide, by decide⟩ rfl (Nat.le_of_ble_eq_true rfl) ?_
    rintro _ _ ⟨rfl, ⟨hr22, rfl⟩ | ⟨hr22, rfl⟩⟩
    ·
      show zG x LX 25 [some (zr k), some (zi i), some (zr k2), some (zi j)] [zi 1] S
      refine z_if_ne (pc := 25) (tgt := 30) h dX4_wayTo_25 (by decide) ⟨by decide, by decide⟩ (fun hc25 => ?_) (fun hc25 => absurd hc25 (by decide))
      refine z_aload_n (pc := 30) h dX4_wayTo_30 rfl ?_
      refine z_getR (a := k2 + 1) (pc := 31) h dX4_wayTo_31 clX4 lkX4_9 (by decide) hk2.1 rfl ?_
      refine z_iload_n (pc := 34) h dX4_wayTo_34 rfl ?_
      refine z_iald (pc := 35) h dX4_wayTo_35 hk2.2.1 (by decide) (by omega) (by omega) ?_
      refine z_aload_n (pc := 36) h dX4_wayTo_36 rfl ?_
      refine z_getR (a := k + 1) (pc := 37) h dX4_wayTo_37 clX4 lkX4_9 (by decide) hk.1 rfl ?_
      refine z_iload_n (pc := 40) h dX4_wayTo_40 rfl ?_
      refine z_iald (pc := 41) h dX4_wayTo_41 hk.2.1 (by decide) (by omega) (by omega) ?_
      refine z_isub (pc := 42) h dX4_wayTo_42 ?_
      refine z_bipush (pc := 43) h dX4_wayTo_43 rfl ?_
      refine z_iadd (pc := 45) h dX4_wayTo_45 ?_
      refine z_bipush (pc := 46) h dX4_wayTo_46 rfl ?_
      refine z_callS (pc := 48) (rest := ([] : List zV)) h (m_J9_floorMod_7cf53 (((S (k2 + 1) j.toNat) - (S (k + 1) i.toNat)) + 29) 60 S ⟨by omega, by omega⟩ (by first | assumption | omega)) dX4_wayTo_48 mcJ9_floorMod_7cf53 msJ9_floorMod_7cf53 mlX4_26 rfl rfl ⟨by decide, by decide⟩ rfl (Nat.le_of_ble_eq_true rfl) ?_
      rintro _ _ ⟨rfl, rfl⟩
      show zG x LX 51 [some (zr k), some (zi i), some (zr k2), some (zi j)] [zi ((((S (k2 + 1) j.toNat) - (S (k + 1) i.toNat)) + 29) % 60)] S
      refine z_bipush (pc := 51) h dX4_wayTo_51 rfl ?_
      refine z_isub (pc := 53) h dX4_wayTo_53 ?_
      exact z_iret (pc := 54) h dX4_wayTo_54 rfl ⟨rfl, congrArg (fun z => some (zi z)) (by first | omega | (unfold wayF; split <;> omega))⟩
    ·
      show zG x LX 25 [some (zr k), some (zi i), some (zr k2), some (zi j)] [zi 0] S
      refine z_if_ne (pc := 25) (tgt := 30) h dX4_wayTo_25 (by decide) ⟨by decide, by decide⟩ (fun hc25 => absurd hc25 (by decide)) (fun hc25 => ?_)
      refine z_iconst (pc := 28) h dX4_wayTo_28 ?_
      exact z_iret (pc := 29) h dX4_wayTo_29 rfl ⟨rfl, congrArg (fun z => some (zi z)) (by first | omega | (unfold wayF; split <;> omega))⟩
  ·
    show zG x LX 11 [some (zr k), some (zi i), some (zr k2), some (zi j)] [zi 0] S
    refine z_if_eq (pc := 11) (tgt := 28) h dX4_wayTo_11 (by decide) ⟨by decide, by decide⟩ (fun hc11 => ?_) (fun hc11 => absurd hc11 (by decide))
    refine z_iconst (pc := 28) h dX4_wayTo_28 ?_
    exact z_iret (pc := 29) h dX4_wayTo_29 rfl ⟨rfl, congrArg (fun z => some (zi z)) (by first | omega | (unfold wayF; split <;> omega))⟩

set_option maxRecDepth 100000 in
set_option maxHeartbeats 4000000 in
theorem m_X4_sameForm (k k2 : Nat) (i j : Int) (S : SS) (hk : isLook k) (hk2 : isLook k2) (hi : 0 ≤ i ∧ i < S k 2 ∧ S k 2 ≤ 6) (hj : 0 ≤ j ∧ j < S k2 2 ∧ S k2 2 ≤ 6) (hu : 0 ≤ S (k + 2) i.toNat ∧ S (k + 2) i.toNat ≤ 3) (hv : 0 ≤ S (k2 + 2) j.toNat ∧ S (k2 + 2) j.toNat ≤ 3) : zM LX yX4_sameForm cX4_sameForm 4 (some .boolean) 1 22 [zr k, zi i, zr k2, zi j] S (fun r S' => S = S' ∧ ((S (k + 2) i.toNat = S (k2 + 2) j.toNat) ∧ r = some (zi 1) ∨ ¬ (S (k + 2) i.toNat = S (k2 + 2) j.toNat) ∧ r = some (zi 0))) := by
  refine zM_of (own := RX4) rfl (by decide +kernel) [some (zr k), some (zi i), some (zr k2), some (zi j)] (Nat.le_of_ble_eq_true rfl) rfl ?_
  intro x h
  refine z_iload_n (pc := 0) h dX4_sameForm_0 rfl ?_
  refine z_iconst (pc := 1) h dX4_sameForm_1 ?_
  refine z_aload_n (pc := 2) h dX4_sameForm_2 rfl ?_
  refine z_getI (pc := 3) h dX4_sameForm_3 clX4 lkX4_22 (by decide) hk.1 rfl ?_
  refine z_iconst (pc := 6) h dX4_sameForm_6 ?_
  refine z_isub (pc := 7) h dX4_sameForm_7 ?_
  refine z_callS (pc := 8) (rest := ([] : List zV)) h (m_X10_within i 0 ((S k 2) - 1) S ⟨by omega, by omega⟩ ⟨by decide, by decide⟩ ⟨by omega, by omega⟩) dX4_sameForm_8 mcX10_within msX10_within mlX4_18 rfl rfl ⟨by decide, by decide⟩ rfl (Nat.le_of_ble_eq_true rfl) ?_
  rintro _ _ ⟨rfl, ⟨hr8, rfl⟩ | ⟨hr8, rfl⟩⟩
  ·
    show zG x LX 11 [some (zr k), some (zi i), some (zr k2), some (zi j)] [zi 1] S
    refine z_if_eq (pc := 11) (tgt := 47) h dX4_sameForm_11 (by decide) ⟨by decide, by decide⟩ (fun hc11 => absurd hc11 (by decide)) (fun hc11 => ?_)
    refine z_iload_n (pc := 14) h dX4_sameForm_14 rfl ?_
    refine z_iconst (pc := 15) h dX4_sameForm_15 ?_
    refine z_aload_n (pc := 16) h dX4_sameForm_16 rfl ?_
    refine z_getI (pc := 17) h dX4_sameForm_17 clX4 lkX4_22 (by decide) hk2.1 rfl ?_
    refine z_iconst (pc := 20) h dX4_sameForm_20 ?_
    refine z_isub (pc := 21) h dX4_sameForm_21 ?_
    refine z_callS (pc := 22) (rest := ([] : List zV)) h (m_X10_within j 0 ((S k2 2) - 1) S ⟨by omega, by omega⟩ ⟨by decide, by decide⟩ ⟨by omega, by omega⟩) dX4_sameForm_22 mcX10_within msX10_within mlX4_18 rfl rfl ⟨by decide, by decide⟩ rfl (Nat.le_of_ble_eq_true rfl) ?_
    rintro _ _ ⟨rfl, ⟨hr22, rfl⟩ | ⟨hr22, rfl⟩⟩
    ·
      show zG x LX 25 [some (zr k), some (zi i), some (zr k2), some (zi j)] [zi 1] S
      refine z_if_eq (pc := 25) (tgt := 47) h dX4_sameForm_25 (by decide) ⟨by decide, by decide⟩ (fun hc25 => absurd hc25 (by decide)) (fun hc25 => ?_)
      refine z_aload_n (pc := 28) h dX4_sameForm_28 rfl ?_
      refine z_getR (a := k + 2) (pc := 29) h dX4_sameForm_29 clX4 lkX4_15 (by decide) hk.1 rfl ?_
      refine z_iload_n (pc := 32) h dX4_sameForm_32 rfl ?_
      refine z_iald (pc := 33) h dX4_sameForm_33 hk.2.2 (by decide) (by omega) (by omega) ?_
      refine z_aload_n (pc := 34) h dX4_sameForm_34 rfl ?_
      refine z_getR (a := k2 + 2) (pc := 35) h dX4_sameForm_35 clX4 lkX4_15 (by decide) hk2.1 rfl ?_
      refine z_iload_n (pc := 38) h dX4_sameForm_38 rfl ?_
      refine z_iald (pc := 39) h dX4_sameForm_39 hk2.2.2 (by decide) (by omega) (by omega) ?_
      refine z_icmp_ne (pc := 40) (tgt := 47) h dX4_sameForm_40 (by decide) ⟨by omega, by omega⟩ ⟨by omega, by omega⟩ (fun hc40 => ?_) (fun hc40 => ?_)
      ·
        refine z_iconst (pc := 47) h dX4_sameForm_47 ?_
        exact z_zret (pc := 48) h dX4_sameForm_48 rfl (by decide) ⟨rfl, Or.inr ⟨by omega, rfl⟩⟩
      ·
        refine z_iconst (pc := 43) h dX4_sameForm_43 ?_
        refine z_goto (pc := 44) (tgt := 48) h dX4_sameForm_44 (by decide) ?_
        exact z_zret (pc := 48) h dX4_sameForm_48 rfl (by decide) ⟨rfl, Or.inl ⟨by omega, rfl⟩⟩
    ·
      show zG x LX 25 [some (zr k), some (zi i), some (zr k2), some (zi j)] [zi 0] S
      refine z_if_eq (pc := 25) (tgt := 47) h dX4_sameForm_25 (by decide) ⟨by decide, by decide⟩ (fun hc25 => ?_) (fun hc25 => absurd hc25 (by decide))
      refine z_iconst (pc := 47) h dX4_sameForm_47 ?_
      exact z_zret (pc := 48) h dX4_sameForm_48 rfl (by decide) ⟨rfl, Or.inr ⟨by omega, rfl⟩⟩
  ·
    show zG x LX 11 [some (zr k), some (zi i), some (zr k2), some (zi j)] [zi 0] S
    refine z_if_eq (pc := 11) (tgt := 47) h dX4_sameForm_11 (by decide) ⟨by decide, by decide⟩ (fun hc11 => ?_) (fun hc11 => absurd hc11 (by decide))
    refine z_iconst (pc := 47) h dX4_sameForm_47 ?_
    exact z_zret (pc := 48) h dX4_sameForm_48 rfl (by decide) ⟨rfl, Or.inr ⟨by omega, rfl⟩⟩

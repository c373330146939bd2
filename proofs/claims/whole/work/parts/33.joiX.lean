/-! JOINED: the class -/
def fiA (A : SS) : Int := if dA A 1 < dA A 0 then 1 else 0
def wyA (A : SS) (k r : Nat) : Int := if dA A 1 < dA A 0 then wayF (A 7 r) (A 7 (6 + k)) else wayF (A 7 k) (A 7 (6 + r))
def smA (A : SS) (k r : Nat) : Prop := if dA A 1 < dA A 0 then A 8 r = A 8 (6 + k) else A 8 k = A 8 (6 + r)
def fdA (A : SS) (k r : Nat) : Int := if dA A 1 < dA A 0 then (if A 8 r = A 8 (6 + k) then 0 else A 5 1) else (if A 8 k = A 8 (6 + r) then 0 else A 5 1)
def coA (A : SS) (k r : Nat) : Int := absI (wyA A k r) + fdA A k r
def fewN (A : SS) : Nat := (min (dA A 0) (dA A 1)).toNat
def manN (A : SS) : Nat := (max (dA A 0) (dA A 1)).toNat
theorem wyA_b (A : SS) (k r : Nat) : -30 ≤ wyA A k r ∧ wyA A k r ≤ 30 := by
  unfold wyA
  split
  · have := wayF_b (A 7 r) (A 7 (6 + k)); omega
  · have := wayF_b (A 7 k) (A 7 (6 + r)); omega
theorem coA_b {A : SS} (hm : MI A) (k r : Nat) : 0 ≤ coA A k r ∧ coA A k r ≤ 90 := by
  have h1 := wyA_b A k r
  have h2 := mi_u hm
  have h3 : 0 ≤ fdA A k r ∧ fdA A k r ≤ 60 := by unfold fdA; (repeat' split) <;> omega
  have h4 : 0 ≤ absI (wyA A k r) ∧ absI (wyA A k r) ≤ 30 := by unfold absI; split <;> omega
  unfold coA
  omega
def jc (A : SS) : Nat → Nat → Nat → Int := fun tk _ d => coA A (popc tk) d
def jw (A : SS) : Nat → Nat → Nat → Int := fun tk _ d => wyA A (popc tk) d
def z0 : Nat → Int := fun _ => 0
def l0 : Nat → Nat := fun _ => 0
def jR (A : SS) (m r tk : Nat) : TS := tR m (jc A) (jw A) z0 l0 r tk 0
def jT (A : SS) : TS := jR A (manN A) (fewN A) 0
def jA (A : SS) (m r tk j : Nat) : TS := if r = 0 then jR A m 0 tk else tF (tD m (jc A) (jw A) z0 l0 (r - 1) tk 0) j tE
theorem jA_n (A : SS) (m r tk : Nat) : jA A m r tk m = jR A m r tk := by
  unfold jA
  cases r with
  | zero => rfl
  | succ r => rfl
theorem jA_skip {A : SS} {m r tk j : Nat} (h : tk.testBit j = true) : jA A m r tk (j + 1) = jA A m r tk j := by
  unfold jA
  split
  · rfl
  · show tC _ (tD m (jc A) (jw A) z0 l0 (r - 1) tk 0 j) = _
    exact tC_0 (by unfold tD; rw [if_pos h]; rfl)
theorem jA_add {A : SS} {m r tk j : Nat} (h : tk.testBit j = false) : jA A m (r + 1) tk (j + 1) = tC (jA A m (r + 1) tk j) (tS (coA A (popc tk) j) (wyA A (popc tk) j) j (jR A m r (tk ||| 2 ^ j))) := by
  unfold jA
  rw [if_neg (by omega), if_neg (by omega)]
  show tC _ (tD m (jc A) (jw A) z0 l0 r tk 0 j) = _
  unfold tD
  rw [if_neg (by rw [h]; decide)]
  rfl
theorem jR_B {A : SS} (hm : MI A) (m r tk : Nat) : tB ((m ^ r : Nat) : Int) (90 * (r + 1)) (30 * r) (jR A m r tk) := tR_B m (jc A) (jw A) z0 l0 (C := 90) (V := 30) (fun _ _ _ => coA_b hm _ _) (fun _ _ _ => wyA_b A _ _) (fun _ => ⟨by decide, by decide⟩) r tk 0
theorem jR_b {A : SS} (hm : MI A) {m r : Nat} (hmm : m ≤ 6) (hr : r ≤ 6) (tk : Nat) : tB 46656 630 180 (jR A m r tk) := by
  have h := jR_B hm m r tk
  have h1 : m ^ r ≤ 6 ^ 6 := Nat.le_trans (Nat.pow_le_pow_left hmm r) (Nat.pow_le_pow_right (by decide) hr)
  have h2 : ((m ^ r : Nat) : Int) ≤ 46656 := by
    have : (6 : Nat) ^ 6 = 46656 := by decide
    omega
  exact tB_mono h h2 (by omega) (by omega)
theorem jA_b {A : SS} (hm : MI A) {m r j : Nat} (hmm : m ≤ 6) (hr : r ≤ 6) (hj : j ≤ 6) (tk : Nat) : tB 279936 720 210 (jA A m r tk j) := by
  unfold jA
  split
  · exact tB_mono (jR_b hm hmm (Nat.zero_le 6) tk) (by decide) (by decide) (by decide)
  · have hk : ∀ d, tB 46656 720 210 (tD m (jc A) (jw A) z0 l0 (r - 1) tk 0 d) := fun d => by
      unfold tD
      split
      · exact tB_mono (tE_B (B := 0) (W := 0) (by omega) (by omega)) (by omega) (by omega) (by omega)
      · exact tS_B (C := 90) (V := 30) (jR_b hm hmm (show r - 1 ≤ 6 by omega) _) (coA_b hm _ _) (wyA_b A _ _)
    have h2 := tF_B (by decide) (by decide) hk j
    exact tB_mono h2 (by omega) (by omega) (by omega)
theorem joi_add {x y : TS} {c w : Int} {d : Nat} (hx : 0 ≤ x.1) (hy : 0 < y.1) :
    ((x.1 = 0 ∨ c + y.2.1 < x.2.1) → (tC x (tS c w d y)).2.1 = c + y.2.1 ∧ (tC x (tS c w d y)).1 = y.1 ∧ (tC x (tS c w d y)).2.2.1 = w + y.2.2.1 ∧ (tC x (tS c w d y)).2.2.2.1 = w + y.2.2.2.1) ∧ (x.1 ≠ 0 → x.2.1 < c + y.2.1 → tC x (tS c w d y) = x) ∧ (x.1 ≠ 0 → c + y.2.1 = x.2.1 → (tC x (tS c w d y)).2.1 = x.2.1 ∧ (tC x (tS c w d y)).1 = x.1 + y.1 ∧ (tC x (tS c w d y)).2.2.1 = min x.2.2.1 (w + y.2.2.1) ∧ (tC x (tS c w d y)).2.2.2.1 = max x.2.2.2.1 (w + y.2.2.2.1)) := by
  have z1 : (tS c w d y).1 = y.1 := by rw [tS_1 (show y.1 ≠ 0 by omega)]
  have z2 : (tS c w d y).2.1 = c + y.2.1 := by rw [tS_1 (show y.1 ≠ 0 by omega)]
  have z3 : (tS c w d y).2.2.1 = w + y.2.2.1 := by rw [tS_1 (show y.1 ≠ 0 by omega)]
  have z4 : (tS c w d y).2.2.2.1 = w + y.2.2.2.1 := by rw [tS_1 (show y.1 ≠ 0 by omega)]
  refine ⟨fun h => ?_, fun h1 h2 => ?_, fun h1 h2 => ?_⟩
  · by_cases h1 : x.1 = 0
    · rw [tC_1 (y := tS c w d y) (by rw [z1]; omega) h1]; exact ⟨z2, z1, z3, z4⟩
    · rw [tC_lt (y := tS c w d y) (by rw [z1]; omega) (by rw [z2]; omega)]; exact ⟨z2, z1, z3, z4⟩
  · exact tC_gt (y := tS c w d y) h1 (by rw [z2]; omega)
  · rw [tC_eq (y := tS c w d y) h1 (by rw [z1]; omega) (by rw [z2]; omega), z1, z3, z4]; exact ⟨rfl, rfl, rfl, rfl⟩
def setJ (A : SS) (m f : Nat) (S : SS) (tk : Nat) : Prop := S 27 tk = (jR A m (f - popc tk) tk).2.1 ∧ S 28 tk = (jR A m (f - popc tk) tk).1 ∧ S 29 tk = (jR A m (f - popc tk) tk).2.2.1 ∧ S 30 tk = (jR A m (f - popc tk) tk).2.2.2.1
def colJ (A : SS) (m f : Nat) (S : SS) : Prop := ∀ k r : Nat, k < f → r < m → S 25 (k * 6 + r) = wyA A k r ∧ S 26 (k * 6 + r) = coA A k r
theorem pow6 {n : Nat} (h : n ≤ 6) : 1 ≤ 2 ^ n ∧ 2 ^ n ≤ 64 := ⟨Nat.two_pow_pos n, Nat.le_trans (Nat.pow_le_pow_right (by decide) h) (by decide)⟩
theorem popc_set {tk d m : Nat} (hm : m ≤ 6) (h : tk < 2 ^ m) (hd : d < m) (hb : tk.testBit d = false) : popc (tk ||| 2 ^ d) = popc tk + 1 ∧ tk ||| 2 ^ d < 2 ^ m ∧ tk < tk ||| 2 ^ d := by
  rw [popc_m (set_lt h hd) (by omega), popc_m h (by omega)]
  exact ⟨popk_set hb m hd, set_lt h hd, set_gt hb⟩

set_option maxRecDepth 100000 in
set_option maxHeartbeats 4000000 in
theorem m_X4_wayTo (k k2 : Nat) (i j : Int) (S : SS) (hk : isLook k) (hk2 : isLook k2) (hi : 0 ≤ i ∧ i < S k 2 ∧ S k 2 ≤ 6) (hj : 0 ≤ j ∧ j < S k2 2 ∧ S k2 2 ≤ 6) (hu : 0 ≤ S (k + 1) i.toNat ∧ S (k + 1) i.toNat ≤ 59) (hv : 0 ≤ S (k2 + 1) j.toNat ∧ S (k2 + 1) j.toNat ≤ 59) : zM LX yX4_wayTo cX4_wayTo 4 (some .int) 1 22 [zr k, zi i, zr k2, zi j] S (fun r S' => S = S' ∧ r = some (zi (wayF (S (k + 1) i.toNat) (S (k2 + 1) j.toNat)))) := by
  refine zM_of (own := RX4) rfl (by decide +kernel) [some (zr k), some (zi i), some (zr k2), some (zi j)] (Nat.le_of_ble_eq_true rfl) rfl ?_
  intro x h
  refine z_iload_n (pc := 0) h dX4_wayTo_0 rfl ?_
  refine z_iconst (pc := 1) h dX4_wayTo_1 ?_
  refine z_aload_n (pc := 2) h dX4_wayTo_2 rfl ?_
  refine z_getI (pc := 3) h dX4_wayTo_3 clX4 lkX4_22 (by decide) hk.1 rfl ?_
  refine z_iconst (pc := 6) h dX4_wayTo_6 ?_
  refine z_isub (pc := 7) h dX4_wayTo_7 ?_
  refine z_callS (pc := 8) (rest := ([] : List zV)) h (m_X10_within i 0 ((S k 2) - 1) S ⟨by omega, by omega⟩ ⟨by decide, by decide⟩ ⟨by omega, by omega⟩) dX4_wayTo_8 mcX10_within msX10_within mlX4_18 rfl rfl ⟨by decide, by decide⟩ rfl (Nat.le_of_ble_eq_true rfl) ?_
  rintro _ _ ⟨rfl, ⟨hr8, rfl⟩ | ⟨hr8, rfl⟩⟩
  ·
    show zG x LX 11 [some (zr k), some (zi i), some (zr k2), some (zi j)] [zi 1] S
    refine z_if_eq (pc := 11) (tgt := 28) h dX4_wayTo_11 (by decide) ⟨by decide, by decide⟩ (fun hc11 => absurd hc11 (by decide)) (fun hc11 => ?_)
    refine z_iload_n (pc := 14) h dX4_wayTo_14 rfl ?_
    refine z_iconst (pc := 15) h dX4_wayTo_15 ?_
    refine z_aload_n (pc := 16) h dX4_wayTo_16 rfl ?_
    refine z_getI (pc := 17) h dX4_wayTo_17 clX4 lkX4_22 (by decide) hk2.1 rfl ?_
    refine z_iconst (pc := 20) h dX4_wayTo_20 ?_
    refine z_isub (pc := 21) h dX4_wayTo_21 ?_
    refine z_callS (pc := 22) (rest := ([] : List zV)) h (m_X10_within j 0 ((S k2 2) - 1) S ⟨by omega, by omega⟩ ⟨by decide, by decide⟩ ⟨by omega, by omega⟩) dX4_wayTo_22 mcX10_within msX10_within mlX4_18 rfl rfl ⟨by decide, by decide⟩ rfl (Nat.le_of_ble_eq_true rfl) ?_
    rintro _ _ ⟨rfl, ⟨hr22, rfl⟩ | ⟨hr22, rfl⟩⟩
    ·
      show zG x LX 25 [some (zr k), some (zi i), some (zr k2), some (zi j)] [zi 1] S
      refine z_if_ne (pc := 25) (tgt := 30) h dX4_wayTo_25 (by decide) ⟨by decide, by decide⟩ (fun hc25 => ?_) (fun hc25 => absurd hc25 (by decide))
      refine z_aload_n (pc := 30) h dX4_wayTo_30 rfl ?_
      refine z_getR (a := k2 + 1) (pc := 31) h dX4_wayTo_31 clX4 lkX4_9 (by decide) hk2.1 rfl ?_
      refine z_iload_n (pc := 34) h dX4_wayTo_34 rfl ?_
      refine z_iald (pc := 35) h dX4_wayTo_35 hk2.2.1 (by decide) (by omega) (by omega) ?_
      refine z_aload_n (pc := 36) h dX4_wayTo_36 rfl ?_
      refine z_getR (a := k + 1) (pc := 37) h dX4_wayTo_37 clX4 lkX4_9 (by decide) hk.1 rfl ?_
      refine z_iload_n (pc := 40) h dX4_wayTo_40 rfl ?_
      refine z_iald (pc := 41) h dX4_wayTo_41 hk.2.1 (by decide) (by omega) (by omega) ?_
      refine z_isub (pc := 42) h dX4_wayTo_42 ?_
      refine z_bipush (pc := 43) h dX4_wayTo_43 rfl ?_
      refine z_iadd (pc := 45) h dX4_wayTo_45 ?_
      refine z_bipush (pc := 46) h dX4_wayTo_46 rfl ?_
      refine z_callS (pc := 48) (rest := ([] : List zV)) h (m_J9_floorMod_7cf53 (((S (k2 + 1) j.toNat) - (S (k + 1) i.toNat)) + 29) 60 S ⟨by omega, by omega⟩ (by first | assumption | omega)) dX4_wayTo_48 mcJ9_floorMod_7cf53 msJ9_floorMod_7cf53 mlX4_26 rfl rfl ⟨by decide, by decide⟩ rfl (Nat.le_of_ble_eq_true rfl) ?_
      rintro _ _ ⟨rfl, rfl⟩
      show zG x LX 51 [some (zr k), some (zi i), some (zr k2), some (zi j)] [zi ((((S (k2 + 1) j.toNat) - (S (k + 1) i.toNat)) + 29) % 60)] S
      refine z_bipush (pc := 51) h dX4_wayTo_51 rfl ?_
      refine z_isub (pc := 53) h dX4_wayTo_53 ?_
      exact z_iret (pc := 54) h dX4_wayTo_54 rfl ⟨rfl, congrArg (fun z => some (zi z)) (by first | omega | (unfold wayF; split <;> omega))⟩
    ·
      show zG x LX 25 [some (zr k), some (zi i), some (zr k2), some (zi j)] [zi 0] S
      refine z_if_ne (pc := 25) (tgt := 30) h dX4_wayTo_25 (by decide) ⟨by decide, by decide⟩ (fun hc25 => absurd hc25 (by decide)) (fun hc25 => ?_)
      refine z_iconst (pc := 28) h dX4_wayTo_28 ?_
      exact z_iret (pc := 29) h dX4_wayTo_29 rfl ⟨rfl, congrArg (fun z => some (zi z)) (by first | omega | (unfold wayF; split <;> omega))⟩
  ·
    show zG x LX 11 [some (zr k), some (zi i), some (zr k2), some (zi j)] [zi 0] S
    refine z_if_eq (pc := 11) (tgt := 28) h dX4_wayTo_11 (by decide) ⟨by decide, by decide⟩ (fun hc11 => ?_) (fun hc11 => absurd hc11 (by decide))
    refine z_iconst (pc := 28) h dX4_wayTo_28 ?_
    exact z_iret (pc := 29) h dX4_wayTo_29 rfl ⟨rfl, congrArg (fun z => some (zi z)) (by first | omega | (unfold wayF; split <;> omega))⟩

set_option maxRecDepth 100000 in
set_option maxHeartbeats 4000000 in
theorem m_X4_sameForm (k k2 : Nat) (i j : Int) (S : SS) (hk : isLook k) (hk2 : isLook k2) (hi : 0 ≤ i ∧ i < S k 2 ∧ S k 2 ≤ 6) (hj : 0 ≤ j ∧ j < S k2 2 ∧ S k2 2 ≤ 6) (hu : 0 ≤ S (k + 2) i.toNat ∧ S (k + 2) i.toNat ≤ 3) (hv : 0 ≤ S (k2 + 2) j.toNat ∧ S (k2 + 2) j.toNat ≤ 3) : zM LX yX4_sameForm cX4_sameForm 4 (some .boolean) 1 22 [zr k, zi i, zr k2, zi j] S (fun r S' => S = S' ∧ ((S (k + 2) i.toNat = S (k2 + 2) j.toNat) ∧ r = some (zi 1) ∨ ¬ (S (k + 2) i.toNat = S (k2 + 2) j.toNat) ∧ r = some (zi 0))) := by
  refine zM_of (own := RX4) rfl (by decide +kernel) [some (zr k), some (zi i), some (zr k2), some (zi j)] (Nat.le_of_ble_eq_true rfl) rfl ?_
  intro x h
  refine z_iload_n (pc := 0) h dX4_sameForm_0 rfl ?_
  refine z_iconst (pc := 1) h dX4_sameForm_1 ?_
  refine z_aload_n (pc := 2) h dX4_sameForm_2 rfl ?_
  refine z_getI (pc := 3) h dX4_sameForm_3 clX4 lkX4_22 (by decide) hk.1 rfl ?_
  refine z_iconst (pc := 6) h dX4_sameForm_6 ?_
  refine z_isub (pc := 7) h dX4_sameForm_7 ?_
  refine z_callS (pc := 8) (rest := ([] : List zV)) h (m_X10_within i 0 ((S k 2) - 1) S ⟨by omega, by omega⟩ ⟨by decide, by decide⟩ ⟨by omega, by omega⟩) dX4_sameForm_8 mcX10_within msX10_within mlX4_18 rfl rfl ⟨by decide, by decide⟩ rfl (Nat.le_of_ble_eq_true rfl) ?_
  rintro _ _ ⟨rfl, ⟨hr8, rfl⟩ | ⟨hr8, rfl⟩⟩
  ·
    show zG x LX 11 [some (zr k), some (zi i), some (zr k2), some (zi j)] [zi 1] S
    refine z_if_eq (pc := 11) (tgt := 47) h dX4_sameForm_11 (by decide) ⟨by decide, by decide⟩ (fun hc11 => absurd hc11 (by decide)) (fun hc11 => ?_)
    refine z_iload_n (pc := 14) h dX4_sameForm_14 rfl ?_
    refine z_iconst (pc := 15) h dX4_sameForm_15 ?_
    refine z_aload_n (pc := 16) h dX4_sameForm_16 rfl ?_
    refine z_getI (pc := 17) h dX4_sameForm_17 clX4 lkX4_22 (by decide) hk2.1 rfl ?_
    refine z_iconst (pc := 20) h dX4_sameForm_20 ?_
    refine z_isub (pc := 21) h dX4_sameForm_21 ?_
    refine z_callS (pc := 22) (rest := ([] : List zV)) h (m_X10_within j 0 ((S k2 2) - 1) S ⟨by omega, by omega⟩ ⟨by decide, by decide⟩ ⟨by omega, by omega⟩) dX4_sameForm_22 mcX10_within msX10_within mlX4_18 rfl rfl ⟨by decide, by decide⟩ rfl (Nat.le_of_ble_eq_true rfl) ?_
    rintro _ _ ⟨rfl, ⟨hr22, rfl⟩ | ⟨hr22, rfl⟩⟩
    ·
      show zG x LX 25 [some (zr k), some (zi i), some (zr k2), some (zi j)] [zi 1] S
      refine z_if_eq (pc := 25) (tgt := 47) h dX4_sameForm_25 (by decide) ⟨by decide, by decide⟩ (fun hc25 => absurd hc25 (by decide)) (fun hc25 => ?_)
      refine z_aload_n (pc := 28) h dX4_sameForm_28 rfl ?_
      refine z_getR (a := k + 2) (pc := 29) h dX4_sameForm_29 clX4 lkX4_15 (by decide) hk.1 rfl ?_
      refine z_iload_n (pc := 32) h dX4_sameForm_32 rfl ?_
      refine z_iald (pc := 33) h dX4_sameForm_33 hk.2.2 (by decide) (by omega) (by omega) ?_
      refine z_aload_n (pc := 34) h dX4_sameForm_34 rfl ?_
      refine z_getR (a := k2 + 2) (pc := 35) h dX4_sameForm_35 clX4 lkX4_15 (by decide) hk2.1 rfl ?_
      refine z_iload_n (pc := 38) h dX4_sameForm_38 rfl ?_
      refine z_iald (pc := 39) h dX4_sameForm_39 hk2.2.2 (by decide) (by omega) (by omega) ?_
      refine z_icmp_ne (pc := 40) (tgt := 47) h dX4_sameForm_40 (by decide) ⟨by omega, by omega⟩ ⟨by omega, by omega⟩ (fun hc40 => ?_) (fun hc40 => ?_)
      ·
        refine z_iconst (pc := 47) h dX4_sameForm_47 ?_
        exact z_zret (pc := 48) h dX4_sameForm_48 rfl (by decide) ⟨rfl, Or.inr ⟨by omega, rfl⟩⟩
      ·
        refine z_iconst (pc := 43) h dX4_sameForm_43 ?_
        refine z_goto (pc := 44) (tgt := 48) h dX4_sameForm_44 (by decide) ?_
        exact z_zret (pc := 48) h dX4_sameForm_48 rfl (by decide) ⟨rfl, Or.inl ⟨by omega, rfl⟩⟩
    ·
      show zG x LX 25 [some (zr k), some (zi i), some (zr k2), some (zi j)] [zi 0] S
      refine z_if_eq (pc := 25) (tgt := 47) h dX4_sameForm_25 (by decide) ⟨by decide, by decide⟩ (fun hc25 => ?_) (fun hc25 => absurd hc25 (by decide))
      refine z_iconst (pc := 47) h dX4_sameForm_47 ?_
      exact z_zret (pc := 48) h dX4_sameForm_48 rfl (by decide) ⟨rfl, Or.inr ⟨by omega, rfl⟩⟩
  ·
    show zG x LX 11 [some (zr k), some (zi i), some (zr k2), some (zi j)] [zi 0] S
    refine z_if_eq (pc := 11) (tgt := 47) h dX4_sameForm_11 (by decide) ⟨by decide, by decide⟩ (fun hc11 => ?_) (fun hc11 => absurd hc11 (by decide))
    refine z_iconst (pc := 47) h dX4_sameForm_47 ?_
    exact z_zret (pc := 48) h dX4_sameForm_48 rfl (by decide) ⟨rfl, Or.inr ⟨by omega, rfl⟩⟩

set_option maxRecDepth 100000 in
set_option maxHeartbeats 4000000 in
theorem m_X3_weigh (t k d : Int) (x : TS) (r : Nat) (A : SS) (m f : Nat) (S : SS) (hm : MI A) (hfm : f ≤ m ∧ m ≤ 6) (h8 : S 24 8 = (f : Int)) (h9 : S 24 9 = (m : Int)) (hC : colJ A m f S) (ht : 0 ≤ t ∧ t.toNat < 2 ^ m) (hd : 0 ≤ d ∧ d < m) (hb : t.toNat.testBit d.toNat = false) (hk : k = ((popc t.toNat : Nat) : Int)) (hr : f - popc t.toNat = r + 1) (hx : S 27 t.toNat = x.2.1 ∧ S 28 t.toNat = x.1 ∧ S 29 t.toNat = x.2.2.1 ∧ S 30 t.toNat = x.2.2.2.1) (hxb : tB 279936 720 210 x) (hK : setJ A m f S (t.toNat ||| 2 ^ d.toNat)) : zM LX yX3_weigh cX3_weigh 9 none 1 21 [zr 24, zi t, zi k, zi d] S (fun rr S' => rr = none ∧ (∀ x y, ¬ ((27 ≤ x ∧ x ≤ 30) ∧ y = t.toNat) → S' x y = S x y) ∧ S' 27 t.toNat = (tC x (tS (coA A (popc t.toNat) d.toNat) (wyA A (popc t.toNat) d.toNat) d.toNat (jR A m r (t.toNat ||| 2 ^ d.toNat)))).2.1 ∧ S' 28 t.toNat = (tC x (tS (coA A (popc t.toNat) d.toNat) (wyA A (popc t.toNat) d.toNat) d.toNat (jR A m r (t.toNat ||| 2 ^ d.toNat)))).1 ∧ S' 29 t.toNat = (tC x (tS (coA A (popc t.toNat) d.toNat) (wyA A (popc t.toNat) d.toNat) d.toNat (jR A m r (t.toNat ||| 2 ^ d.toNat)))).2.2.1 ∧ S' 30 t.toNat = (tC x (tS (coA A (popc t.toNat) d.toNat) (wyA A (popc t.toNat) d.toNat) d.toNat (jR A m r (t.toNat ||| 2 ^ d.toNat)))).2.2.2.1) := by
  refine zM_of (own := RX3) rfl (by decide +kernel) [some (zr 24), some (zi t), some (zi k), some (zi d), none, none, none, none, none] (Nat.le_of_ble_eq_true rfl) rfl ?_
  intro x h
  have hp6 := pow6 hfm.2
  obtain ⟨p1, p2, p3⟩ := popc_set hfm.2 ht.2 (show d.toNat < m by omega) hb
  have hpw := pw_b (j := d) (by omega)
  have hK2 := hK
  unfold setJ at hK2
  rw [p1, show f - (popc t.toNat + 1) = r by omega] at hK2
  obtain ⟨q1, q2, q3, q4⟩ := hK2
  obtain ⟨x1, x2, x3, x4⟩ := hx
  have hyb := jR_b hm hfm.2 (show r ≤ 6 by omega) (t.toNat ||| 2 ^ d.toNat)
  obtain ⟨c1, c2⟩ := hC (popc t.toNat) d.toNat (by omega) (by omega)
  have hix : (k * 6 + d).toNat = popc t.toNat * 6 + d.toNat := by omega
  rw [← hix] at c1 c2
  have hpos : 0 < (jR A m r (t.toNat ||| 2 ^ d.toNat)).1 := tR_pos m (jc A) (jw A) z0 l0 r _ 0 (by rw [← popc_m p2 (by omega), p1]; omega)
  have hja := joi_add (x := x) (y := (jR A m r (t.toNat ||| 2 ^ d.toNat))) (c := coA A (popc t.toNat) d.toNat) (w := wyA A (popc t.toNat) d.toNat) (d := d.toNat) hxb.1.1 hpos
  have hcb := coA_b hm (popc t.toNat) d.toNat
  have hwb := wyA_b A (popc t.toNat) d.toNat
  obtain ⟨xb1, xb2, xb3, xb4, xb5, xb6⟩ := hxb
  obtain ⟨yb1, yb2, yb3, yb4, yb5, yb6⟩ := hyb
  generalize (jR A m r (t.toNat ||| 2 ^ d.toNat)) = y at *
  refine z_iload_n (pc := 0) h dX3_weigh_0 rfl ?_
  refine z_iconst (pc := 1) h dX3_weigh_1 ?_
  refine z_iload_n (pc := 2) h dX3_weigh_2 rfl ?_
  refine z_ishl (pc := 3) h dX3_weigh_3 ⟨by omega, by omega⟩ ?_
  refine z_ior (pc := 4) h dX3_weigh_4 ⟨by omega, by omega⟩ ⟨hpw.1, Int.le_trans hpw.2 (by decide)⟩ ?_
  refine z_cv (b := ((t.toNat ||| 2 ^ d.toNat : Nat) : Int)) (by exact or_v ht.1 (by omega)) ?_
  refine z_istore (pc := 5) (loc' := [some (zr 24), some (zi t), some (zi k), some (zi d), some (zi ((t.toNat ||| 2 ^ d.toNat : Nat) : Int)), none, none, none, none]) h dX3_weigh_5 (Nat.le_of_ble_eq_true rfl) rfl rfl ?_
  refine z_iload_n (pc := 7) h dX3_weigh_7 rfl ?_
  refine z_bipush (pc := 8) h dX3_weigh_8 rfl ?_
  refine z_imul (pc := 10) h dX3_weigh_10 ?_
  refine z_iload_n (pc := 11) h dX3_weigh_11 rfl ?_
  refine z_iadd (pc := 12) h dX3_weigh_12 ?_
  refine z_istore (pc := 13) (loc' := [some (zr 24), some (zi t), some (zi k), some (zi d), some (zi ((t.toNat ||| 2 ^ d.toNat : Nat) : Int)), some (zi ((k * 6) + d)), none, none, none]) h dX3_weigh_13 (Nat.le_of_ble_eq_true rfl) rfl rfl ?_
  refine z_aload_n (pc := 15) h dX3_weigh_15 rfl ?_
  refine z_getR (a := 26) (pc := 16) h dX3_weigh_16 clX3 lkX3_15 (by decide) rfl rfl ?_
  refine z_iload (pc := 19) h dX3_weigh_19 rfl ?_
  refine z_iald (pc := 21) h dX3_weigh_21 rfl (by decide) (by omega) (by omega) ?_
  refine z_cv (b := (coA A (popc t.toNat) d.toNat)) (by exact c2) ?_
  refine z_aload_n (pc := 22) h dX3_weigh_22 rfl ?_
  refine z_getR (a := 27) (pc := 23) h dX3_weigh_23 clX3 lkX3_18 (by decide) rfl rfl ?_
  refine z_iload (pc := 26) h dX3_weigh_26 rfl ?_
  refine z_iald (pc := 28) h dX3_weigh_28 rfl (by decide) (by omega) (by omega) ?_
  refine z_cv (b := (y.2.1)) (by rw [Int.toNat_natCast]; exact q1) ?_
  refine z_iadd (pc := 29) h dX3_weigh_29 ?_
  refine z_istore (pc := 30) (loc' := [some (zr 24), some (zi t), some (zi k), some (zi d), some (zi ((t.toNat ||| 2 ^ d.toNat : Nat) : Int)), some (zi ((k * 6) + d)), some (zi ((coA A (popc t.toNat) d.toNat) + (y.2.1))), none, none]) h dX3_weigh_30 (Nat.le_of_ble_eq_true rfl) rfl rfl ?_
  refine z_aload_n (pc := 32) h dX3_weigh_32 rfl ?_
  refine z_getR (a := 25) (pc := 33) h dX3_weigh_33 clX3 lkX3_9 (by decide) rfl rfl ?_
  refine z_iload (pc := 36) h dX3_weigh_36 rfl ?_
  refine z_iald (pc := 38) h dX3_weigh_38 rfl (by decide) (by omega) (by omega) ?_
  refine z_cv (b := (wyA A (popc t.toNat) d.toNat)) (by exact c1) ?_
  refine z_aload_n (pc := 39) h dX3_weigh_39 rfl ?_
  refine z_getR (a := 29) (pc := 40) h dX3_weigh_40 clX3 lkX3_24 (by decide) rfl rfl ?_
  refine z_iload (pc := 43) h dX3_weigh_43 rfl ?_
  refine z_iald (pc := 45) h dX3_weigh_45 rfl (by decide) (by omega) (by omega) ?_
  refine z_cv (b := (y.2.2.1)) (by rw [Int.toNat_natCast]; exact q3) ?_
  refine z_iadd (pc := 46) h dX3_weigh_46 ?_
  refine z_istore (pc := 47) (loc' := [some (zr 24), some (zi t), some (zi k), some (zi d), some (zi ((t.toNat ||| 2 ^ d.toNat : Nat) : Int)), some (zi ((k * 6) + d)), some (zi ((coA A (popc t.toNat) d.toNat) + (y.2.1))), some (zi ((wyA A (popc t.toNat) d.toNat) + (y.2.2.1))), none]) h dX3_weigh_47 (Nat.le_of_ble_eq_true rfl) rfl rfl ?_
  refine z_aload_n (pc := 49) h dX3_weigh_49 rfl ?_
  refine z_getR (a := 25) (pc := 50) h dX3_weigh_50 clX3 lkX3_9 (by decide) rfl rfl ?_
  refine z_iload (pc := 53) h dX3_weigh_53 rfl ?_
  refine z_iald (pc := 55) h dX3_weigh_55 rfl (by decide) (by omega) (by omega) ?_
  refine z_cv (b := (wyA A (popc t.toNat) d.toNat)) (by exact c1) ?_
  refine z_aload_n (pc := 56) h dX3_weigh_56 rfl ?_
  refine z_getR (a := 30) (pc := 57) h dX3_weigh_57 clX3 lkX3_27 (by decide) rfl rfl ?_
  refine z_iload (pc := 60) h dX3_weigh_60 rfl ?_
  refine z_iald (pc := 62) h dX3_weigh_62 rfl (by decide) (by omega) (by omega) ?_
  refine z_cv (b := (y.2.2.2.1)) (by rw [Int.toNat_natCast]; exact q4) ?_
  refine z_iadd (pc := 63) h dX3_weigh_63 ?_
  refine z_istore (pc := 64) (loc' := [some (zr 24), some (zi t), some (zi k), some (zi d), some (zi ((t.toNat ||| 2 ^ d.toNat : Nat) : Int)), some (zi ((k * 6) + d)), some (zi ((coA A (popc t.toNat) d.toNat) + (y.2.1))), some (zi ((wyA A (popc t.toNat) d.toNat) + (y.2.2.1))), some (zi ((wyA A (popc t.toNat) d.toNat) + (y.2.2.2.1)))]) h dX3_weigh_64 (Nat.le_of_ble_eq_true rfl) rfl rfl ?_
  refine z_aload_n (pc := 66) h dX3_weigh_66 rfl ?_
  refine z_getR (a := 28) (pc := 67) h dX3_weigh_67 clX3 lkX3_21 (by decide) rfl rfl ?_
  refine z_iload_n (pc := 70) h dX3_weigh_70 rfl ?_
  refine z_iald (pc := 71) h dX3_weigh_71 rfl (by decide) (by omega) (by omega) ?_
  refine z_cv (b := (x.1)) (by exact x2) ?_
  refine z_if_eq (pc := 72) (tgt := 86) h dX3_weigh_72 (by decide) ⟨by omega, by omega⟩ (fun hc72 => ?_) (fun hc72 => ?_)
  ·
    refine z_aload_n (pc := 86) h dX3_weigh_86 rfl ?_
    refine z_getR (a := 27) (pc := 87) h dX3_weigh_87 clX3 lkX3_18 (by decide) rfl rfl ?_
    refine z_iload_n (pc := 90) h dX3_weigh_90 rfl ?_
    refine z_iload (pc := 91) h dX3_weigh_91 rfl ?_
    refine z_iast (pc := 93) h dX3_weigh_93 rfl (by decide) (by omega) (by omega) ?_
    refine z_aload_n (pc := 94) h dX3_weigh_94 rfl ?_
    refine z_getR (a := 28) (pc := 95) h dX3_weigh_95 clX3 lkX3_21 (by decide) rfl rfl ?_
    refine z_iload_n (pc := 98) h dX3_weigh_98 rfl ?_
    refine z_aload_n (pc := 99) h dX3_weigh_99 rfl ?_
    refine z_getR (a := 28) (pc := 100) h dX3_weigh_100 clX3 lkX3_21 (by decide) rfl rfl ?_
    refine z_iload (pc := 103) h dX3_weigh_103 rfl ?_
    refine z_iald (pc := 105) h dX3_weigh_105 rfl (by decide) (by omega) (by omega) ?_
    refine z_cv (b := (S 28 (Int.toNat ((t.toNat ||| 2 ^ d.toNat : Nat) : Int)))) (by rw [up2_k _ _ (by decide)]) ?_
    refine z_cv (b := (y.1)) (by rw [Int.toNat_natCast]; exact q2) ?_
    refine z_iast (pc := 106) h dX3_weigh_106 rfl (by decide) (by omega) (by omega) ?_
    refine z_aload_n (pc := 107) h dX3_weigh_107 rfl ?_
    refine z_getR (a := 29) (pc := 108) h dX3_weigh_108 clX3 lkX3_24 (by decide) rfl rfl ?_
    refine z_iload_n (pc := 111) h dX3_weigh_111 rfl ?_
    refine z_iload (pc := 112) h dX3_weigh_112 rfl ?_
    refine z_iast (pc := 114) h dX3_weigh_114 rfl (by decide) (by omega) (by omega) ?_
    refine z_aload_n (pc := 115) h dX3_weigh_115 rfl ?_
    refine z_getR (a := 30) (pc := 116) h dX3_weigh_116 clX3 lkX3_27 (by decide) rfl rfl ?_
    refine z_iload_n (pc := 119) h dX3_weigh_119 rfl ?_
    refine z_iload (pc := 120) h dX3_weigh_120 rfl ?_
    refine z_iast (pc := 122) h dX3_weigh_122 rfl (by decide) (by omega) (by omega) ?_
    refine z_goto (pc := 123) (tgt := 187) h dX3_weigh_123 (by decide) ?_
    refine z_vret (pc := 187) h dX3_weigh_187 rfl ?_
    refine ⟨rfl, ?_, ?_⟩
    · intro a b q
      first
      | rfl
      | (rw [up2_e, if_neg (by omega), up2_e, if_neg (by omega), up2_e, if_neg (by omega), up2_e, if_neg (by omega)])
      | (rw [up2_e, if_neg (by omega), up2_e, if_neg (by omega), up2_e, if_neg (by omega)])
    · first
      | (obtain ⟨u1, u2, u3, u4⟩ := hja.1 (by omega); exact ⟨by rw [up2_k _ _ (by decide), up2_k _ _ (by decide), up2_k _ _ (by decide), up2_s, u1], by rw [up2_k _ _ (by decide), up2_k _ _ (by decide), up2_s, u2], by rw [up2_k _ _ (by decide), up2_s, u3], by rw [up2_s, u4]⟩)
      | (obtain ⟨u1, u2, u3, u4⟩ := hja.2.2 (by omega) (by omega); exact ⟨by rw [up2_k _ _ (by decide), up2_k _ _ (by decide), up2_k _ _ (by decide), u1]; exact x1, by rw [up2_k _ _ (by decide), up2_k _ _ (by decide), up2_s, u2], by rw [up2_k _ _ (by decide), up2_s, u3], by rw [up2_s, u4]⟩)
      | (rw [hja.2.1 (by omega) (by omega)]; exact ⟨x1, x2, x3, x4⟩)
  ·
    refine z_iload (pc := 75) h dX3_weigh_75 rfl ?_
    refine z_aload_n (pc := 77) h dX3_weigh_77 rfl ?_
    refine z_getR (a := 27) (pc := 78) h dX3_weigh_78 clX3 lkX3_18 (by decide) rfl rfl ?_
    refine z_iload_n (pc := 81) h dX3_weigh_81 rfl ?_
    refine z_iald (pc := 82) h dX3_weigh_82 rfl (by decide) (by omega) (by omega) ?_
    refine z_cv (b := (x.2.1)) (by exact x1) ?_
    refine z_icmp_ge (pc := 83) (tgt := 126) h dX3_weigh_83 (by decide) ⟨by omega, by omega⟩ ⟨by omega, by omega⟩ (fun hc83 => ?_) (fun hc83 => ?_)
    ·
      refine z_iload (pc := 126) h dX3_weigh_126 rfl ?_
      refine z_aload_n (pc := 128) h dX3_weigh_128 rfl ?_
      refine z_getR (a := 27) (pc := 129) h dX3_weigh_129 clX3 lkX3_18 (by decide) rfl rfl ?_
      refine z_iload_n (pc := 132) h dX3_weigh_132 rfl ?_
      refine z_iald (pc := 133) h dX3_weigh_133 rfl (by decide) (by omega) (by omega) ?_
      refine z_cv (b := (x.2.1)) (by exact x1) ?_
      refine z_icmp_ne (pc := 134) (tgt := 187) h dX3_weigh_134 (by decide) ⟨by omega, by omega⟩ ⟨by omega, by omega⟩ (fun hc134 => ?_) (fun hc134 => ?_)
      ·
        refine z_vret (pc := 187) h dX3_weigh_187 rfl ?_
        refine ⟨rfl, ?_, ?_⟩
        · intro a b q
          first
          | rfl
          | (rw [up2_e, if_neg (by omega), up2_e, if_neg (by omega), up2_e, if_neg (by omega), up2_e, if_neg (by omega)])
          | (rw [up2_e, if_neg (by omega), up2_e, if_neg (by omega), up2_e, if_neg (by omega)])
        · first
          | (obtain ⟨u1, u2, u3, u4⟩ := hja.1 (by omega); exact ⟨by rw [up2_k _ _ (by decide), up2_k _ _ (by decide), up2_k _ _ (by decide), up2_s, u1], by rw [up2_k _ _ (by decide), up2_k _ _ (by decide), up2_s, u2], by rw [up2_k _ _ (by decide), up2_s, u3], by rw [up2_s, u4]⟩)
          | (obtain ⟨u1, u2, u3, u4⟩ := hja.2.2 (by omega) (by omega); exact ⟨by rw [up2_k _ _ (by decide), up2_k _ _ (by decide), up2_k _ _ (by decide), u1]; exact x1, by rw [up2_k _ _ (by decide), up2_k _ _ (by decide), up2_s, u2], by rw [up2_k _ _ (by decide), up2_s, u3], by rw [up2_s, u4]⟩)
          | (rw [hja.2.1 (by omega) (by omega)]; exact ⟨x1, x2, x3, x4⟩)
      ·
        refine z_aload_n (pc := 137) h dX3_weigh_137 rfl ?_
        refine z_getR (a := 28) (pc := 138) h dX3_weigh_138 clX3 lkX3_21 (by decide) rfl rfl ?_
        refine z_iload_n (pc := 141) h dX3_weigh_141 rfl ?_
        refine z_dup2 (pc := 142) h dX3_weigh_142 rfl rfl ?_
        refine z_iald (pc := 143) h dX3_weigh_143 rfl (by decide) (by omega) (by omega) ?_
        refine z_cv (b := (x.1)) (by exact x2) ?_
        refine z_aload_n (pc := 144) h dX3_weigh_144 rfl ?_
        refine z_getR (a := 28) (pc := 145) h dX3_weigh_145 clX3 lkX3_21 (by decide) rfl rfl ?_
        refine z_iload (pc := 148) h dX3_weigh_148 rfl ?_
        refine z_iald (pc := 150) h dX3_weigh_150 rfl (by decide) (by omega) (by omega) ?_
        refine z_cv (b := (y.1)) (by rw [Int.toNat_natCast]; exact q2) ?_
        refine z_iadd (pc := 151) h dX3_weigh_151 ?_
        refine z_iast (pc := 152) h dX3_weigh_152 rfl (by decide) (by omega) (by omega) ?_
        refine z_aload_n (pc := 153) h dX3_weigh_153 rfl ?_
        refine z_getR (a := 29) (pc := 154) h dX3_weigh_154 clX3 lkX3_24 (by decide) rfl rfl ?_
        refine z_iload_n (pc := 157) h dX3_weigh_157 rfl ?_
        refine z_aload_n (pc := 158) h dX3_weigh_158 rfl ?_
        refine z_getR (a := 29) (pc := 159) h dX3_weigh_159 clX3 lkX3_24 (by decide) rfl rfl ?_
        refine z_iload_n (pc := 162) h dX3_weigh_162 rfl ?_
        refine z_iald (pc := 163) h dX3_weigh_163 rfl (by decide) (by omega) (by omega) ?_
        refine z_cv (b := (S 29 t.toNat)) (by rw [up2_k _ _ (by decide)]) ?_
        refine z_cv (b := (x.2.2.1)) (by exact x3) ?_
        refine z_iload (pc := 164) h dX3_weigh_164 rfl ?_
        refine z_callS (pc := 166) (rest := [zi t, zr 29]) h (m_J9_min_7cf53 (x.2.2.1) ((wyA A (popc t.toNat) d.toNat) + (y.2.2.1)) (up2 S 28 t.toNat ((x.1) + (y.1))) ⟨by omega, by omega⟩ ⟨by omega, by omega⟩) dX3_weigh_166 mcJ9_min_7cf53 msJ9_min_7cf53 mlX3_43 rfl rfl ⟨by decide, by decide⟩ rfl (Nat.le_of_ble_eq_true rfl) ?_
        rintro _ _ ⟨rfl, rfl⟩
        show zG x LX 169 [some (zr 24), some (zi t), some (zi k), some (zi d), some (zi ((t.toNat ||| 2 ^ d.toNat : Nat) : Int)), some (zi ((k * 6) + d)), some (zi ((coA A (popc t.toNat) d.toNat) + (y.2.1))), some (zi ((wyA A (popc t.toNat) d.toNat) + (y.2.2.1))), some (zi ((wyA A (popc t.toNat) d.toNat) + (y.2.2.2.1)))] [zi (min (x.2.2.1) ((wyA A (popc t.toNat) d.toNat) + (y.2.2.1))), zi t, zr 29] (up2 S 28 t.toNat ((x.1) + (y.1)))
        refine z_iast (pc := 169) h dX3_weigh_169 rfl (by decide) (by omega) (by omega) ?_
        refine z_aload_n (pc := 170) h dX3_weigh_170 rfl ?_
        refine z_getR (a := 30) (pc := 171) h dX3_weigh_171 clX3 lkX3_27 (by decide) rfl rfl ?_
        refine z_iload_n (pc := 174) h dX3_weigh_174 rfl ?_
        refine z_aload_n (pc := 175) h dX3_weigh_175 rfl ?_
        refine z_getR (a := 30) (pc := 176) h dX3_weigh_176 clX3 lkX3_27 (by decide) rfl rfl ?_
        refine z_iload_n (pc := 179) h dX3_weigh_179 rfl ?_
        refine z_iald (pc := 180) h dX3_weigh_180 rfl (by decide) (by omega) (by omega) ?_
        refine z_cv (b := (S 30 t.toNat)) (by rw [up2_k _ _ (by decide), up2_k _ _ (by decide)]) ?_
        refine z_cv (b := (x.2.2.2.1)) (by exact x4) ?_
        refine z_iload (pc := 181) h dX3_weigh_181 rfl ?_
        refine z_callS (pc := 183) (rest := [zi t, zr 30]) h (m_J9_max_7cf53 (x.2.2.2.1) ((wyA A (popc t.toNat) d.toNat) + (y.2.2.2.1)) (up2 (up2 S 28 t.toNat ((x.1) + (y.1))) 29 t.toNat (min (x.2.2.1) ((wyA A (popc t.toNat) d.toNat) + (y.2.2.1)))) ⟨by omega, by omega⟩ ⟨by omega, by omega⟩) dX3_weigh_183 mcJ9_max_7cf53 msJ9_max_7cf53 mlX3_52 rfl rfl ⟨by decide, by decide⟩ rfl (Nat.le_of_ble_eq_true rfl) ?_
        rintro _ _ ⟨rfl, rfl⟩
        show zG x LX 186 [some (zr 24), some (zi t), some (zi k), some (zi d), some (zi ((t.toNat ||| 2 ^ d.toNat : Nat) : Int)), some (zi ((k * 6) + d)), some (zi ((coA A (popc t.toNat) d.toNat) + (y.2.1))), some (zi ((wyA A (popc t.toNat) d.toNat) + (y.2.2.1))), some (zi ((wyA A (popc t.toNat) d.toNat) + (y.2.2.2.1)))] [zi (max (x.2.2.2.1) ((wyA A (popc t.toNat) d.toNat) + (y.2.2.2.1))), zi t, zr 30] (up2 (up2 S 28 t.toNat ((x.1) + (y.1))) 29 t.toNat (min (x.2.2.1) ((wyA A (popc t.toNat) d.toNat) + (y.2.2.1))))
        refine z_iast (pc := 186) h dX3_weigh_186 rfl (by decide) (by omega) (by omega) ?_
        refine z_vret (pc := 187) h dX3_weigh_187 rfl ?_
        refine ⟨rfl, ?_, ?_⟩
        · intro a b q
          first
          | rfl
          | (rw [up2_e, if_neg (by omega), up2_e, if_neg (by omega), up2_e, if_neg (by omega), up2_e, if_neg (by omega)])
          | (rw [up2_e, if_neg (by omega), up2_e, if_neg (by omega), up2_e, if_neg (by omega)])
        · first
          | (obtain ⟨u1, u2, u3, u4⟩ := hja.1 (by omega); exact ⟨by rw [up2_k _ _ (by decide), up2_k _ _ (by decide), up2_k _ _ (by decide), up2_s, u1], by rw [up2_k _ _ (by decide), up2_k _ _ (by decide), up2_s, u2], by rw [up2_k _ _ (by decide), up2_s, u3], by rw [up2_s, u4]⟩)
          | (obtain ⟨u1, u2, u3, u4⟩ := hja.2.2 (by omega) (by omega); exact ⟨by rw [up2_k _ _ (by decide), up2_k _ _ (by decide), up2_k _ _ (by decide), u1]; exact x1, by rw [up2_k _ _ (by decide), up2_k _ _ (by decide), up2_s, u2], by rw [up2_k _ _ (by decide), up2_s, u3], by rw [up2_s, u4]⟩)
          | (rw [hja.2.1 (by omega) (by omega)]; exact ⟨x1, x2, x3, x4⟩)
    ·
      refine z_aload_n (pc := 86) h dX3_weigh_86 rfl ?_
      refine z_getR (a := 27) (pc := 87) h dX3_weigh_87 clX3 lkX3_18 (by decide) rfl rfl ?_
      refine z_iload_n (pc := 90) h dX3_weigh_90 rfl ?_
      refine z_iload (pc := 91) h dX3_weigh_91 rfl ?_
      refine z_iast (pc := 93) h dX3_weigh_93 rfl (by decide) (by omega) (by omega) ?_
      refine z_aload_n (pc := 94) h dX3_weigh_94 rfl ?_
      refine z_getR (a := 28) (pc := 95) h dX3_weigh_95 clX3 lkX3_21 (by decide) rfl rfl ?_
      refine z_iload_n (pc := 98) h dX3_weigh_98 rfl ?_
      refine z_aload_n (pc := 99) h dX3_weigh_99 rfl ?_
      refine z_getR (a := 28) (pc := 100) h dX3_weigh_100 clX3 lkX3_21 (by decide) rfl rfl ?_
      refine z_iload (pc := 103) h dX3_weigh_103 rfl ?_
      refine z_iald (pc := 105) h dX3_weigh_105 rfl (by decide) (by omega) (by omega) ?_
      refine z_cv (b := (S 28 (Int.toNat ((t.toNat ||| 2 ^ d.toNat : Nat) : Int)))) (by rw [up2_k _ _ (by decide)]) ?_
      refine z_cv (b := (y.1)) (by rw [Int.toNat_natCast]; exact q2) ?_
      refine z_iast (pc := 106) h dX3_weigh_106 rfl (by decide) (by omega) (by omega) ?_
      refine z_aload_n (pc := 107) h dX3_weigh_107 rfl ?_
      refine z_getR (a := 29) (pc := 108) h dX3_weigh_108 clX3 lkX3_24 (by decide) rfl rfl ?_
      refine z_iload_n (pc := 111) h dX3_weigh_111 rfl ?_
      refine z_iload (pc := 112) h dX3_weigh_112 rfl ?_
      refine z_iast (pc := 114) h dX3_weigh_114 rfl (by decide) (by omega) (by omega) ?_
      refine z_aload_n (pc := 115) h dX3_weigh_115 rfl ?_
      refine z_getR (a := 30) (pc := 116) h dX3_weigh_116 clX3 lkX3_27 (by decide) rfl rfl ?_
      refine z_iload_n (pc := 119) h dX3_weigh_119 rfl ?_
      refine z_iload (pc := 120) h dX3_weigh_120 rfl ?_
      refine z_iast (pc := 122) h dX3_weigh_122 rfl (by decide) (by omega) (by omega) ?_
      refine z_goto (pc := 123) (tgt := 187) h dX3_weigh_123 (by decide) ?_
      refine z_vret (pc := 187) h dX3_weigh_187 rfl ?_
      refine ⟨rfl, ?_, ?_⟩
      · intro a b q
        first
        | rfl
        | (rw [up2_e, if_neg (by omega), up2_e, if_neg (by omega), up2_e, if_neg (by omega), up2_e, if_neg (by omega)])
        | (rw [up2_e, if_neg (by omega), up2_e, if_neg (by omega), up2_e, if_neg (by omega)])
      · first
        | (obtain ⟨u1, u2, u3, u4⟩ := hja.1 (by omega); exact ⟨by rw [up2_k _ _ (by decide), up2_k _ _ (by decide), up2_k _ _ (by decide), up2_s, u1], by rw [up2_k _ _ (by decide), up2_k _ _ (by decide), up2_s, u2], by rw [up2_k _ _ (by decide), up2_s, u3], by rw [up2_s, u4]⟩)
        | (obtain ⟨u1, u2, u3, u4⟩ := hja.2.2 (by omega) (by omega); exact ⟨by rw [up2_k _ _ (by decide), up2_k _ _ (by decide), up2_k _ _ (by decide), u1]; exact x1, by rw [up2_k _ _ (by decide), up2_k _ _ (by decide), up2_s, u2], by rw [up2_k _ _ (by decide), up2_s, u3], by rw [up2_s, u4]⟩)
        | (rw [hja.2.1 (by omega) (by omega)]; exact ⟨x1, x2, x3, x4⟩)

set_option maxRecDepth 100000 in
set_option maxHeartbeats 4000000 in
theorem m_X3_settle (t : Int) (A : SS) (m f : Nat) (S : SS) (hm : MI A) (hfm : f ≤ m ∧ m ≤ 6) (h8 : S 24 8 = (f : Int)) (h9 : S 24 9 = (m : Int)) (hC : colJ A m f S) (ht : 0 ≤ t ∧ t.toNat < 2 ^ m) (hK : popc t.toNat < f → ∀ d : Nat, d < m → t.toNat.testBit d = false → setJ A m f S (t.toNat ||| 2 ^ d)) : zM LX yX3_settle cX3_settle 4 none 2 49 [zr 24, zi t] S (fun rr S' => rr = none ∧ (∀ x y, ¬ ((27 ≤ x ∧ x ≤ 30) ∧ y = t.toNat) → S' x y = S x y) ∧ (popc t.toNat ≤ f → setJ A m f S' t.toNat)) := by
  refine zM_of (own := RX3) rfl (by decide +kernel) [some (zr 24), some (zi t), none, none] (Nat.le_of_ble_eq_true rfl) rfl ?_
  intro x h
  have hp6 := pow6 hfm.2
  have hpm : popc t.toNat ≤ m := by rw [popc_m ht.2 (by omega)]; exact popk_b _ _
  refine z_iload_n (pc := 0) h dX3_settle_0 rfl ?_
  refine z_callS (pc := 1) (rest := ([] : List zV)) h (m_J6_bitCount_0f7a4 t S (by first | assumption | omega)) dX3_settle_1 mcJ6_bitCount_0f7a4 msJ6_bitCount_0f7a4 mlX3_77 rfl rfl ⟨by decide, by decide⟩ rfl (Nat.le_of_ble_eq_true rfl) ?_
  rintro _ _ ⟨rfl, rfl⟩
  show zG x LX 4 [some (zr 24), some (zi t), none, none] [zi (popc t.toNat : Nat)] S
  refine z_istore_n (pc := 4) (loc' := [some (zr 24), some (zi t), some (zi (popc t.toNat : Nat)), none]) h dX3_settle_4 rfl (Nat.le_of_ble_eq_true rfl) rfl rfl ?_
  refine z_aload_n (pc := 5) h dX3_settle_5 rfl ?_
  refine z_getR (a := 27) (pc := 6) h dX3_settle_6 clX3 lkX3_18 (by decide) rfl rfl ?_
  refine z_iload_n (pc := 9) h dX3_settle_9 rfl ?_
  refine z_iconst (pc := 10) h dX3_settle_10 ?_
  refine z_iast (pc := 11) h dX3_settle_11 rfl (by decide) (by omega) (by omega) ?_
  have J30 : ∀ (v : Int) (hv : (v = 1 ∧ popc t.toNat = f) ∨ (v = 0 ∧ popc t.toNat ≠ f)) , zG x LX 30 [some (zr 24), some (zi t), some (zi ((popc t.toNat : Nat) : Int)), none] [zi v, zi t, zr 28] (up2 S 27 t.toNat 0) := by
    intro v hv
    refine z_iast (pc := 30) h dX3_settle_30 rfl (by decide) (by omega) (by omega) ?_
    refine z_aload_n (pc := 31) h dX3_settle_31 rfl ?_
    refine z_getR (a := 29) (pc := 32) h dX3_settle_32 clX3 lkX3_24 (by decide) rfl rfl ?_
    refine z_iload_n (pc := 35) h dX3_settle_35 rfl ?_
    refine z_iconst (pc := 36) h dX3_settle_36 ?_
    refine z_iast (pc := 37) h dX3_settle_37 rfl (by decide) (by omega) (by omega) ?_
    refine z_aload_n (pc := 38) h dX3_settle_38 rfl ?_
    refine z_getR (a := 30) (pc := 39) h dX3_settle_39 clX3 lkX3_27 (by decide) rfl rfl ?_
    refine z_iload_n (pc := 42) h dX3_settle_42 rfl ?_
    refine z_iconst (pc := 43) h dX3_settle_43 ?_
    refine z_iast (pc := 44) h dX3_settle_44 rfl (by decide) (by omega) (by omega) ?_
    refine z_iconst (pc := 45) h dX3_settle_45 ?_
    refine z_istore_n (pc := 46) (loc' := [some (zr 24), some (zi t), some (zi ((popc t.toNat : Nat) : Int)), some (zi 0)]) h dX3_settle_46 rfl (Nat.le_of_ble_eq_true rfl) rfl rfl ?_
    have J47 : ∀ (N : Nat) (j : Int) (S1 : SS) (hj : 0 ≤ j ∧ j ≤ m) (hF : ∀ x y, ¬ ((27 ≤ x ∧ x ≤ 30) ∧ y = t.toNat) → S1 x y = S x y) (hA : popc t.toNat ≤ f → S1 27 t.toNat = (jA A m (f - popc t.toNat) t.toNat j.toNat).2.1 ∧ S1 28 t.toNat = (jA A m (f - popc t.toNat) t.toNat j.toNat).1 ∧ S1 29 t.toNat = (jA A m (f - popc t.toNat) t.toNat j.toNat).2.2.1 ∧ S1 30 t.toNat = (jA A m (f - popc t.toNat) t.toNat j.toNat).2.2.2.1) , ((m : Int) - j).toNat = N → zG x LX 47 [some (zr 24), some (zi t), some (zi ((popc t.toNat : Nat) : Int)), some (zi j)] ([] : List zV) S1 := by
      intro N
      induction N using Nat.strongRecOn with
      | _ N ih47 => ?_
      intro j S1 hj hF hA hN47
      have g8 : S1 24 8 = (f : Int) := by rw [hF _ _ (by omega)]; exact h8
      have g9 : S1 24 9 = (m : Int) := by rw [hF _ _ (by omega)]; exact h9
      refine z_iload_n (pc := 47) h dX3_settle_47 rfl ?_
      refine z_aload_n (pc := 48) h dX3_settle_48 rfl ?_
      refine z_getI (pc := 49) h dX3_settle_49 clX3 lkX3_49 (by decide) rfl rfl ?_
      refine z_icmp_ge (pc := 52) (tgt := 84) h dX3_settle_52 (by decide) ⟨by omega, by omega⟩ ⟨by omega, by omega⟩ (fun hc52 => ?_) (fun hc52 => ?_)
      ·
        refine z_vret (pc := 84) h dX3_settle_84 rfl ?_
        refine ⟨rfl, hF, fun hle => ?_⟩
        have h7 := hA hle
        unfold setJ
        first
          | (rw [show j.toNat = m by omega, jA_n] at h7; exact h7)
          | (have h6 : jA A m (f - popc t.toNat) t.toNat j.toNat = jR A m (f - popc t.toNat) t.toNat := by rw [show f - popc t.toNat = 0 by omega]; rfl
             rw [h6] at h7
             exact h7)
      ·
        refine z_iload_n (pc := 55) h dX3_settle_55 rfl ?_
        refine z_aload_n (pc := 56) h dX3_settle_56 rfl ?_
        refine z_getI (pc := 57) h dX3_settle_57 clX3 lkX3_55 (by decide) rfl rfl ?_
        refine z_icmp_ge (pc := 60) (tgt := 84) h dX3_settle_60 (by decide) ⟨by omega, by omega⟩ ⟨by omega, by omega⟩ (fun hc60 => ?_) (fun hc60 => ?_)
        ·
          refine z_vret (pc := 84) h dX3_settle_84 rfl ?_
          refine ⟨rfl, hF, fun hle => ?_⟩
          have h7 := hA hle
          unfold setJ
          first
            | (rw [show j.toNat = m by omega, jA_n] at h7; exact h7)
            | (have h6 : jA A m (f - popc t.toNat) t.toNat j.toNat = jR A m (f - popc t.toNat) t.toNat := by rw [show f - popc t.toNat = 0 by omega]; rfl
               rw [h6] at h7
               exact h7)
        ·
          refine z_iload_n (pc := 63) h dX3_settle_63 rfl ?_
          refine z_iload_n (pc := 64) h dX3_settle_64 rfl ?_
          refine z_ishr (pc := 65) h dX3_settle_65 ⟨by omega, by omega⟩ ⟨by omega, by omega⟩ ?_
          refine z_iconst (pc := 66) h dX3_settle_66 ?_
          refine z_iand (pc := 67) h dX3_settle_67 ⟨(div_bb (N := 255) ⟨ht.1, by omega⟩ _).1, Int.le_trans (div_bb (N := 255) ⟨ht.1, by omega⟩ _).2 (by decide)⟩ ⟨by decide, by decide⟩ ?_
          refine z_nm (b := (((Int.toNat (t / 2 ^ j.toNat)) &&& 1 : Nat) : Int)) (fun bv h_bv => ?_)
          have hbv := bit_w ht.1 hj.1 h_bv
          refine z_if_ne (pc := 68) (tgt := 78) h dX3_settle_68 (by decide) ⟨by omega, by omega⟩ (fun hc68 => ?_) (fun hc68 => ?_)
          ·
            refine z_iinc (pc := 78) (loc' := [some (zr 24), some (zi t), some (zi ((popc t.toNat : Nat) : Int)), some (zi (j + 1))]) h dX3_settle_78 rfl (Nat.le_of_ble_eq_true rfl) rfl rfl ?_
            refine z_goto (pc := 81) (tgt := 47) h dX3_settle_81 (by decide) ?_
            exact ih47 _ (by omega) (j + 1) S1 (by omega) (by first | exact hF | (intro x y q; rw [hr75f x y q]; exact hF x y q)) (by intro hle; rw [show (j + 1).toNat = j.toNat + 1 by omega]; first | (rw [jA_skip (hbv.resolve_right (fun q => by omega)).2]; exact hA hle) | (rw [hr9, jA_add hbf]; rw [hr9] at hr75a; exact hr75a)) rfl
          ·
            have hbf : t.toNat.testBit j.toNat = false := (hbv.resolve_left (fun q => by omega)).2
            obtain ⟨r, hr9⟩ : ∃ r, f - popc t.toNat = r + 1 := ⟨f - popc t.toNat - 1, by omega⟩
            have hC1 : colJ A m f S1 := fun k r q1 q2 => by rw [hF _ _ (by omega), hF _ _ (by omega)]; exact hC k r q1 q2
            obtain ⟨p1, p2, p3⟩ := popc_set hfm.2 ht.2 (show j.toNat < m by omega) hbf
            have hK1 : setJ A m f S1 (t.toNat ||| 2 ^ j.toNat) := by
              have h7 := hK (by omega) j.toNat (by omega) hbf
              unfold setJ at h7 ⊢
              rw [hF _ _ (by omega), hF _ _ (by omega), hF _ _ (by omega), hF _ _ (by omega)]
              exact h7
            refine z_aload_n (pc := 71) h dX3_settle_71 rfl ?_
            refine z_iload_n (pc := 72) h dX3_settle_72 rfl ?_
            refine z_iload_n (pc := 73) h dX3_settle_73 rfl ?_
            refine z_iload_n (pc := 74) h dX3_settle_74 rfl ?_
            refine z_callV (pc := 75) (rest := ([] : List zV)) h (m_X3_weigh t ((popc t.toNat : Nat) : Int) j (jA A m (f - popc t.toNat) t.toNat j.toNat) r A m f S1 (by first | assumption | omega) (by first | assumption | omega) g8 g9 hC1 (by first | assumption | omega) (by first | assumption | omega) hbf rfl hr9 (hA (by omega)) (jA_b hm hfm.2 (by omega) (by omega) _) hK1) dX3_settle_75 mcX3_weigh miX3_weigh mlX3_82 rfl rfl ⟨by decide, by decide⟩ clX3 rfl rfl rfl (Nat.le_of_ble_eq_true rfl) ?_
            rintro _ S75 ⟨rfl, hr75f, hr75a⟩
            show zG x LX 78 [some (zr 24), some (zi t), some (zi ((popc t.toNat : Nat) : Int)), some (zi j)] ([] : List zV) S75
            refine z_iinc (pc := 78) (loc' := [some (zr 24), some (zi t), some (zi ((popc t.toNat : Nat) : Int)), some (zi (j + 1))]) h dX3_settle_78 rfl (Nat.le_of_ble_eq_true rfl) rfl rfl ?_
            refine z_goto (pc := 81) (tgt := 47) h dX3_settle_81 (by decide) ?_
            exact ih47 _ (by omega) (j + 1) S75 (by omega) (by first | exact hF | (intro x y q; rw [hr75f x y q]; exact hF x y q)) (by intro hle; rw [show (j + 1).toNat = j.toNat + 1 by omega]; first | (rw [jA_skip (hbv.resolve_right (fun q => by omega)).2]; exact hA hle) | (rw [hr9, jA_add hbf]; rw [hr9] at hr75a; exact hr75a)) rfl
    exact J47 _ 0 (up2 (up2 (up2 (up2 S 27 t.toNat 0) 28 t.toNat v) 29 t.toNat 0) 30 t.toNat 0) (by omega) (by intro x y q; rw [up2_e, if_neg (by omega), up2_e, if_neg (by omega), up2_e, if_neg (by omega), up2_e, if_neg (by omega)]) (by intro hle; unfold jA; have e30 : ∀ w : Int, up2 (up2 (up2 (up2 S 27 t.toNat 0) 28 t.toNat w) 29 t.toNat 0) 30 t.toNat 0 27 t.toNat = 0 := (fun w => by rw [up2_k _ _ (by decide), up2_k _ _ (by decide), up2_k _ _ (by decide), up2_s]); have e31 : ∀ w : Int, up2 (up2 (up2 (up2 S 27 t.toNat 0) 28 t.toNat w) 29 t.toNat 0) 30 t.toNat 0 28 t.toNat = w := (fun w => by rw [up2_k _ _ (by decide), up2_k _ _ (by decide), up2_s]); have e32 : ∀ w : Int, up2 (up2 (up2 (up2 S 27 t.toNat 0) 28 t.toNat w) 29 t.toNat 0) 30 t.toNat 0 29 t.toNat = 0 := (fun w => by rw [up2_k _ _ (by decide), up2_s]); rw [e30, e31, e32, up2_s]; rcases hv with ⟨v1, v2⟩ | ⟨v1, v2⟩; (rw [if_pos (by omega), v1]; exact ⟨rfl, rfl, rfl, rfl⟩); (rw [if_neg (by omega), v1]; exact ⟨rfl, rfl, rfl, rfl⟩)) rfl
  refine z_aload_n (pc := 12) h dX3_settle_12 rfl ?_
  refine z_getR (a := 28) (pc := 13) h dX3_settle_13 clX3 lkX3_21 (by decide) rfl rfl ?_
  refine z_iload_n (pc := 16) h dX3_settle_16 rfl ?_
  refine z_iload_n (pc := 17) h dX3_settle_17 rfl ?_
  refine z_aload_n (pc := 18) h dX3_settle_18 rfl ?_
  refine z_getI (pc := 19) h dX3_settle_19 clX3 lkX3_49 (by decide) rfl rfl ?_
  refine z_cv (b := (S 24 8)) (by rw [up2_k _ _ (by decide)]) ?_
  refine z_icmp_ne (pc := 22) (tgt := 29) h dX3_settle_22 (by decide) ⟨by omega, by omega⟩ ⟨by omega, by omega⟩ (fun hc22 => ?_) (fun hc22 => ?_)
  ·
    refine z_iconst (pc := 29) h dX3_settle_29 ?_
    exact J30 0 (by omega)
  ·
    refine z_iconst (pc := 25) h dX3_settle_25 ?_
    refine z_goto (pc := 26) (tgt := 30) h dX3_settle_26 (by decide) ?_
    exact J30 1 (by omega)

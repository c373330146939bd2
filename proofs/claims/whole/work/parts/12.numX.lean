theorem gR_z (n l : Nat) : gR n l 0 = l := by cases n <;> simp [gR]
theorem told_b {a b : Int} (w : Int) (ha : -1000000 ≤ a ∧ a ≤ 1000000) (hb : 1 ≤ b ∧ b ≤ 1000000) : -1000000 ≤ toldF a b w ∧ toldF a b w ≤ 1000000 := by
  have h : ∀ x y : Int, (x.tdiv y).natAbs ≤ x.natAbs := fun x y => Int.natAbs_tdiv_le_natAbs x y
  unfold toldF
  split
  · have := h a (gcdI (absI a) b)
    omega
  · have := h b (gcdI (absI a) b)
    omega

set_option maxRecDepth 100000 in
set_option maxHeartbeats 4000000 in
theorem m_X2_commonDivisor (a b : Int) (S : SS) (ha : 0 ≤ a ∧ a ≤ 2147483647) (hb : 0 ≤ b ∧ b ≤ 2147483647) : zM LX yX2_commonDivisor cX2_commonDivisor 6 (some .int) 0 0 [zi a, zi b] S (fun r S' => S = S' ∧ r = some (zi (gcdI a b))) := by
  refine zM_of (own := RX2) rfl (by decide +kernel) [some (zi a), some (zi b), none, none, none, none] (Nat.le_of_ble_eq_true rfl) rfl ?_
  intro x h
  refine z_iload_n (pc := 0) h dX2_commonDivisor_0 rfl ?_
  refine z_istore_n (pc := 1) (loc' := [some (zi a), some (zi b), some (zi a), none, none, none]) h dX2_commonDivisor_1 rfl (Nat.le_of_ble_eq_true rfl) rfl rfl ?_
  refine z_iload_n (pc := 2) h dX2_commonDivisor_2 rfl ?_
  refine z_istore_n (pc := 3) (loc' := [some (zi a), some (zi b), some (zi a), some (zi b), none, none]) h dX2_commonDivisor_3 rfl (Nat.le_of_ble_eq_true rfl) rfl rfl ?_
  refine z_iconst (pc := 4) h dX2_commonDivisor_4 ?_
  refine z_istore (pc := 5) (loc' := [some (zi a), some (zi b), some (zi a), some (zi b), some (zi 0), none]) h dX2_commonDivisor_5 (Nat.le_of_ble_eq_true rfl) rfl rfl ?_
  have J7 : ∀ (N : Nat) (l s r : Int) (h0 : 0 ≤ r ∧ r ≤ 64) (h1 : 0 ≤ l ∧ l ≤ 2147483647) (h2 : 0 ≤ s ∧ s ≤ 2147483647) (hI : gR (64 - r).toNat l.toNat s.toNat = gR 64 a.toNat b.toNat) , (64 - r).toNat = N → zG x LX 7 [some (zi a), some (zi b), some (zi l), some (zi s), some (zi r), none] ([] : List zV) S := by
    intro N
    induction N using Nat.strongRecOn with
    | _ N ih7 => ?_
    intro l s r h0 h1 h2 hI hN7
    refine z_iload (pc := 7) h dX2_commonDivisor_7 rfl ?_
    refine z_bipush (pc := 9) h dX2_commonDivisor_9 rfl ?_
    refine z_icmp_ge (pc := 11) (tgt := 34) h dX2_commonDivisor_11 (by decide) ⟨by omega, by omega⟩ ⟨by decide, by decide⟩ (fun hc11 => ?_) (fun hc11 => ?_)
    ·
      refine z_iload_n (pc := 34) h dX2_commonDivisor_34 rfl ?_
      exact z_iret (pc := 35) h dX2_commonDivisor_35 rfl ⟨rfl, congrArg (fun z => some (zi z)) (by first | (have h9 : (64 - r).toNat = 0 := (by omega); rw [h9, gR] at hI; unfold gcdI; rw [← gR_64 (show b.toNat ≤ 2147483647 by omega), ← hI]; omega) | (have h9 : s.toNat = 0 := (by omega); rw [h9, gR_z] at hI; unfold gcdI; rw [← gR_64 (show b.toNat ≤ 2147483647 by omega), ← hI]; omega))⟩
    ·
      refine z_iload_n (pc := 14) h dX2_commonDivisor_14 rfl ?_
      refine z_if_eq (pc := 15) (tgt := 34) h dX2_commonDivisor_15 (by decide) ⟨by omega, by omega⟩ (fun hc15 => ?_) (fun hc15 => ?_)
      ·
        refine z_iload_n (pc := 34) h dX2_commonDivisor_34 rfl ?_
        exact z_iret (pc := 35) h dX2_commonDivisor_35 rfl ⟨rfl, congrArg (fun z => some (zi z)) (by first | (have h9 : (64 - r).toNat = 0 := (by omega); rw [h9, gR] at hI; unfold gcdI; rw [← gR_64 (show b.toNat ≤ 2147483647 by omega), ← hI]; omega) | (have h9 : s.toNat = 0 := (by omega); rw [h9, gR_z] at hI; unfold gcdI; rw [← gR_64 (show b.toNat ≤ 2147483647 by omega), ← hI]; omega))⟩
      ·
        refine z_iload_n (pc := 18) h dX2_commonDivisor_18 rfl ?_
        refine z_iload_n (pc := 19) h dX2_commonDivisor_19 rfl ?_
        refine z_iremN (pc := 20) h dX2_commonDivisor_20 ⟨by omega, by omega⟩ ⟨by omega, by omega⟩ ?_
        refine z_istore (pc := 21) (loc' := [some (zi a), some (zi b), some (zi l), some (zi s), some (zi r), some (zi (l % s))]) h dX2_commonDivisor_21 (Nat.le_of_ble_eq_true rfl) rfl rfl ?_
        refine z_iload_n (pc := 23) h dX2_commonDivisor_23 rfl ?_
        refine z_istore_n (pc := 24) (loc' := [some (zi a), some (zi b), some (zi s), some (zi s), some (zi r), some (zi (l % s))]) h dX2_commonDivisor_24 rfl (Nat.le_of_ble_eq_true rfl) rfl rfl ?_
        refine z_iload (pc := 25) h dX2_commonDivisor_25 rfl ?_
        refine z_istore_n (pc := 27) (loc' := [some (zi a), some (zi b), some (zi s), some (zi (l % s)), some (zi r), some (zi (l % s))]) h dX2_commonDivisor_27 rfl (Nat.le_of_ble_eq_true rfl) rfl rfl ?_
        refine z_iinc (pc := 28) (loc' := [some (zi a), some (zi b), some (zi s), some (zi (l % s)), some (zi (r + 1)), some (zi (l % s))]) h dX2_commonDivisor_28 rfl (Nat.le_of_ble_eq_true rfl) rfl rfl ?_
        refine z_goto (pc := 31) (tgt := 7) h dX2_commonDivisor_31 (by decide) ?_
        refine z_forget [true, true, true, true, true, false] (loc' := [some (zi a), some (zi b), some (zi s), some (zi (l % s)), some (zi (r + 1)), none]) rfl ?_
        exact ih7 _ (by omega) s (l % s) (r + 1) (by omega) (by omega) (by have := Int.emod_nonneg l (show s ≠ 0 from (by omega)); have := Int.emod_lt_of_pos l (show 0 < s from (by omega)); omega) (by have h9 : (64 - r).toNat = (64 - (r + 1)).toNat + 1 := (by omega); rw [h9, gR, if_neg (by omega)] at hI; rw [Int.toNat_emod h1.1 h2.1]; exact hI) rfl
  exact J7 _ a b 0 (by omega) (by omega) (by omega) (rfl) rfl

set_option maxRecDepth 100000 in
set_option maxHeartbeats 4000000 in
theorem m_X2_told (a b w : Int) (S : SS) (ha : -1000000 ≤ a ∧ a ≤ 1000000) (hb : 1 ≤ b ∧ b ≤ 1000000) (hw : r32 w) : zM LX yX2_told cX2_told 4 (some .int) 1 25 [zi a, zi b, zi w] S (fun r S' => S = S' ∧ r = some (zi (toldF a b w))) := by
  refine zM_of (own := RX2) rfl (by decide +kernel) [some (zi a), some (zi b), some (zi w), none] (Nat.le_of_ble_eq_true rfl) rfl ?_
  intro x h
  have hA : 0 ≤ absI a ∧ absI a ≤ 1000000 := by unfold absI; split <;> omega
  have hG := gcdI_b (a := absI a) (b := b) (by omega)
  refine z_iload_n (pc := 0) h dX2_told_0 rfl ?_
  refine z_callS (pc := 1) (rest := ([] : List zV)) h (m_J9_abs_0f7a4 a S ⟨by omega, by omega⟩) dX2_told_1 mcJ9_abs_0f7a4 msJ9_abs_0f7a4 mlX2_7 rfl rfl ⟨by decide, by decide⟩ rfl (Nat.le_of_ble_eq_true rfl) ?_
  rintro _ _ ⟨rfl, rfl⟩
  show zG x LX 4 [some (zi a), some (zi b), some (zi w), none] [zi (absI a)] S
  refine z_iload_n (pc := 4) h dX2_told_4 rfl ?_
  refine z_callS (pc := 5) (rest := ([] : List zV)) h (m_X2_commonDivisor (absI a) b S (by first | assumption | omega) (by first | assumption | omega)) dX2_told_5 mcX2_commonDivisor msX2_commonDivisor mlX2_13 rfl rfl ⟨by decide, by decide⟩ rfl (Nat.le_of_ble_eq_true rfl) ?_
  rintro _ _ ⟨rfl, rfl⟩
  show zG x LX 8 [some (zi a), some (zi b), some (zi w), none] [zi (gcdI (absI a) b)] S
  refine z_istore_n (pc := 8) (loc' := [some (zi a), some (zi b), some (zi w), some (zi (gcdI (absI a) b))]) h dX2_told_8 rfl (Nat.le_of_ble_eq_true rfl) rfl rfl ?_
  refine z_iload_n (pc := 9) h dX2_told_9 rfl ?_
  refine z_iconst (pc := 10) h dX2_told_10 ?_
  refine z_icmp_ge (pc := 11) (tgt := 16) h dX2_told_11 (by decide) ⟨by omega, by omega⟩ ⟨by decide, by decide⟩ (fun hc11 => ?_) (fun hc11 => absurd hc11 (by omega))
  refine z_iload_n (pc := 16) h dX2_told_16 rfl ?_
  refine z_if_ne (pc := 17) (tgt := 26) h dX2_told_17 (by decide) ⟨by omega, by omega⟩ (fun hc17 => ?_) (fun hc17 => ?_)
  ·
    refine z_iload_n (pc := 26) h dX2_told_26 rfl ?_
    refine z_iload_n (pc := 27) h dX2_told_27 rfl ?_
    refine z_idiv (pc := 28) h dX2_told_28 ⟨by omega, by omega⟩ ⟨by omega, by omega⟩ (by omega) ?_
    exact z_iret (pc := 29) h dX2_told_29 rfl ⟨rfl, congrArg (fun z => some (zi z)) (by first | (rw [toldF, if_pos (by omega)]) | (rw [toldF, if_neg (by omega)]))⟩
  ·
    refine z_iload_n (pc := 20) h dX2_told_20 rfl ?_
    refine z_iload_n (pc := 21) h dX2_told_21 rfl ?_
    refine z_idiv (pc := 22) h dX2_told_22 ⟨by omega, by omega⟩ ⟨by omega, by omega⟩ (by omega) ?_
    refine z_goto (pc := 23) (tgt := 29) h dX2_told_23 (by decide) ?_
    exact z_iret (pc := 29) h dX2_told_29 rfl ⟨rfl, congrArg (fun z => some (zi z)) (by first | (rw [toldF, if_pos (by omega)]) | (rw [toldF, if_neg (by omega)]))⟩

set_option maxRecDepth 100000 in
set_option maxHeartbeats 4000000 in
theorem m_X2_nearest (a b : Int) (S : SS) (ha : 0 ≤ a ∧ a ≤ 1000000) (hb : 1 ≤ b ∧ b ≤ 1000000) : zM LX yX2_nearest cX2_nearest 2 (some .int) 1 22 [zi a, zi b] S (fun r S' => S = S' ∧ r = some (zi (nearF a b))) := by
  refine zM_of (own := RX2) rfl (by decide +kernel) [some (zi a), some (zi b)] (Nat.le_of_ble_eq_true rfl) rfl ?_
  intro x h
  refine z_iload_n (pc := 0) h dX2_nearest_0 rfl ?_
  refine z_iconst (pc := 1) h dX2_nearest_1 ?_
  refine z_icmp_ge (pc := 2) (tgt := 9) h dX2_nearest_2 (by decide) ⟨by omega, by omega⟩ ⟨by decide, by decide⟩ (fun hc2 => ?_) (fun hc2 => absurd hc2 (by omega))
  refine z_iconst (pc := 9) h dX2_nearest_9 ?_
  refine z_iload_n (pc := 10) h dX2_nearest_10 rfl ?_
  refine z_imul (pc := 11) h dX2_nearest_11 ?_
  refine z_iload_n (pc := 12) h dX2_nearest_12 rfl ?_
  refine z_iadd (pc := 13) h dX2_nearest_13 ?_
  refine z_iconst (pc := 14) h dX2_nearest_14 ?_
  refine z_isub (pc := 15) h dX2_nearest_15 ?_
  refine z_iconst (pc := 16) h dX2_nearest_16 ?_
  refine z_iload_n (pc := 17) h dX2_nearest_17 rfl ?_
  refine z_imul (pc := 18) h dX2_nearest_18 ?_
  refine z_callS (pc := 19) (rest := ([] : List zV)) h (m_J9_floorDiv_7cf53 (((2 * a) + b) - 1) (2 * b) S ⟨by omega, by omega⟩ (by first | assumption | omega)) dX2_nearest_19 mcJ9_floorDiv_7cf53 msJ9_floorDiv_7cf53 mlX2_19 rfl rfl ⟨by decide, by decide⟩ rfl (Nat.le_of_ble_eq_true rfl) ?_
  rintro _ _ ⟨rfl, rfl⟩
  show zG x LX 22 [some (zi a), some (zi b)] [zi ((((2 * a) + b) - 1) / (2 * b))] S
  exact z_iret (pc := 22) h dX2_nearest_22 rfl ⟨rfl, congrArg (fun z => some (zi z)) (by rfl)⟩

set_option maxRecDepth 100000 in
set_option maxHeartbeats 4000000 in
theorem m_X1_stands (s p : Int) (S : SS) (hs : r32 s) (hp : r32 p) : zM LX yX1_stands cX1_stands 2 (some .boolean) 1 22 [zi s, zi p] S (fun r S' => S = S' ∧ (((1 ≤ s ∧ s ≤ 24) ∧ (1 ≤ p ∧ p ≤ 24)) ∧ r = some (zi 1) ∨ ¬ ((1 ≤ s ∧ s ≤ 24) ∧ (1 ≤ p ∧ p ≤ 24)) ∧ r = some (zi 0))) := by
  refine zM_of (own := RX1) rfl (by decide +kernel) [some (zi s), some (zi p)] (Nat.le_of_ble_eq_true rfl) rfl ?_
  intro x h
  refine z_iload_n (pc := 0) h dX1_stands_0 rfl ?_
  refine z_iconst (pc := 1) h dX1_stands_1 ?_
  refine z_bipush (pc := 2) h dX1_stands_2 rfl ?_
  refine z_callS (pc := 4) (rest := ([] : List zV)) h (m_X10_within s 1 24 S ⟨by omega, by omega⟩ ⟨by decide, by decide⟩ ⟨by decide, by decide⟩) dX1_stands_4 mcX10_within msX10_within mlX1_9 rfl rfl ⟨by decide, by decide⟩ rfl (Nat.le_of_ble_eq_true rfl) ?_
  rintro _ _ ⟨rfl, ⟨hr4, rfl⟩ | ⟨hr4, rfl⟩⟩
  ·
    show zG x LX 7 [some (zi s), some (zi p)] [zi 1] S
    refine z_if_eq (pc := 7) (tgt := 24) h dX1_stands_7 (by decide) ⟨by decide, by decide⟩ (fun hc7 => absurd hc7 (by decide)) (fun hc7 => ?_)
    refine z_iload_n (pc := 10) h dX1_stands_10 rfl ?_
    refine z_iconst (pc := 11) h dX1_stands_11 ?_
    refine z_bipush (pc := 12) h dX1_stands_12 rfl ?_
    refine z_callS (pc := 14) (rest := ([] : List zV)) h (m_X10_within p 1 24 S ⟨by omega, by omega⟩ ⟨by decide, by decide⟩ ⟨by decide, by decide⟩) dX1_stands_14 mcX10_within msX10_within mlX1_9 rfl rfl ⟨by decide, by decide⟩ rfl (Nat.le_of_ble_eq_true rfl) ?_
    rintro _ _ ⟨rfl, ⟨hr14, rfl⟩ | ⟨hr14, rfl⟩⟩
    ·
      show zG x LX 17 [some (zi s), some (zi p)] [zi 1] S
      refine z_if_eq (pc := 17) (tgt := 24) h dX1_stands_17 (by decide) ⟨by decide, by decide⟩ (fun hc17 => absurd hc17 (by decide)) (fun hc17 => ?_)
      refine z_iconst (pc := 20) h dX1_stands_20 ?_
      refine z_goto (pc := 21) (tgt := 25) h dX1_stands_21 (by decide) ?_
      exact z_zret (pc := 25) h dX1_stands_25 rfl (by decide) ⟨rfl, Or.inl ⟨by omega, rfl⟩⟩
    ·
      show zG x LX 17 [some (zi s), some (zi p)] [zi 0] S
      refine z_if_eq (pc := 17) (tgt := 24) h dX1_stands_17 (by decide) ⟨by decide, by decide⟩ (fun hc17 => ?_) (fun hc17 => absurd hc17 (by decide))
      refine z_iconst (pc := 24) h dX1_stands_24 ?_
      exact z_zret (pc := 25) h dX1_stands_25 rfl (by decide) ⟨rfl, Or.inr ⟨by omega, rfl⟩⟩
  ·
    show zG x LX 7 [some (zi s), some (zi p)] [zi 0] S
    refine z_if_eq (pc := 7) (tgt := 24) h dX1_stands_7 (by decide) ⟨by decide, by decide⟩ (fun hc7 => ?_) (fun hc7 => absurd hc7 (by decide))
    refine z_iconst (pc := 24) h dX1_stands_24 ?_
    exact z_zret (pc := 25) h dX1_stands_25 rfl (by decide) ⟨rfl, Or.inr ⟨by omega, rfl⟩⟩

set_option maxRecDepth 100000 in
set_option maxHeartbeats 4000000 in
theorem m_X1_advanceOf (s p : Int) (S : SS) (hs : 1 ≤ s ∧ s ≤ 24) (hp : 1 ≤ p ∧ p ≤ 24) : zM LX yX1_advanceOf cX1_advanceOf 2 (some .int) 2 43 [zi s, zi p] S (fun r S' => S = S' ∧ r = some (zi (nearF p s))) := by
  refine zM_of (own := RX1) rfl (by decide +kernel) [some (zi s), some (zi p)] (Nat.le_of_ble_eq_true rfl) rfl ?_
  intro x h
  refine z_iload_n (pc := 0) h dX1_advanceOf_0 rfl ?_
  refine z_iload_n (pc := 1) h dX1_advanceOf_1 rfl ?_
  refine z_callS (pc := 2) (rest := ([] : List zV)) h (m_X2_nearest p s S (by first | assumption | omega) (by first | assumption | omega)) dX1_advanceOf_2 mcX2_nearest msX2_nearest mlX1_13 rfl rfl ⟨by decide, by decide⟩ rfl (Nat.le_of_ble_eq_true rfl) ?_
  rintro _ _ ⟨rfl, rfl⟩
  show zG x LX 5 [some (zi s), some (zi p)] [zi (nearF p s)] S
  exact z_iret (pc := 5) h dX1_advanceOf_5 rfl ⟨rfl, congrArg (fun z => some (zi z)) (by rfl)⟩

set_option maxRecDepth 100000 in
set_option maxHeartbeats 4000000 in
theorem m_X1_driftAbove (s p : Int) (S : SS) (hs : 1 ≤ s ∧ s ≤ 24) (hp : 1 ≤ p ∧ p ≤ 24) : zM LX yX1_driftAbove cX1_driftAbove 2 (some .int) 3 64 [zi s, zi p] S (fun r S' => S = S' ∧ r = some (zi (p - nearF p s * s))) := by
  refine zM_of (own := RX1) rfl (by decide +kernel) [some (zi s), some (zi p)] (Nat.le_of_ble_eq_true rfl) rfl ?_
  intro x h
  refine z_iload_n (pc := 0) h dX1_driftAbove_0 rfl ?_
  refine z_iload_n (pc := 1) h dX1_driftAbove_1 rfl ?_
  refine z_iload_n (pc := 2) h dX1_driftAbove_2 rfl ?_
  refine z_callS (pc := 3) (rest := [zi p]) h (m_X1_advanceOf s p S (by first | assumption | omega) (by first | assumption | omega)) dX1_driftAbove_3 mcX1_advanceOf msX1_advanceOf mlX1_19 rfl rfl ⟨by decide, by decide⟩ rfl (Nat.le_of_ble_eq_true rfl) ?_
  rintro _ _ ⟨rfl, rfl⟩
  show zG x LX 6 [some (zi s), some (zi p)] [zi (nearF p s), zi p] S
  refine z_iload_n (pc := 6) h dX1_driftAbove_6 rfl ?_
  refine z_imul (pc := 7) h dX1_driftAbove_7 ?_
  refine z_isub (pc := 8) h dX1_driftAbove_8 ?_
  exact z_iret (pc := 9) h dX1_driftAbove_9 rfl ⟨rfl, congrArg (fun z => some (zi z)) (by rfl)⟩

set_option maxRecDepth 100000 in
set_option maxHeartbeats 4000000 in
theorem m_X1_pictureAt (s p k : Int) (S : SS) (hs : 1 ≤ s ∧ s ≤ 24) (hp : 1 ≤ p ∧ p ≤ 24) (hk : 0 ≤ k ∧ k ≤ 999) : zM LX yX1_pictureAt cX1_pictureAt 3 (some .int) 3 64 [zi s, zi p, zi k] S (fun r S' => S = S' ∧ r = some (zi (k * nearF p s % p))) := by
  refine zM_of (own := RX1) rfl (by decide +kernel) [some (zi s), some (zi p), some (zi k)] (Nat.le_of_ble_eq_true rfl) rfl ?_
  intro x h
  have hN := near_0 (a := p) (b := s) (by omega) (by omega)
  have hM := mul_bd (a := k) (A := 999) hk (b := nearF p s) (B := 24) ⟨hN.1, by omega⟩
  refine z_iload_n (pc := 0) h dX1_pictureAt_0 rfl ?_
  refine z_iconst (pc := 1) h dX1_pictureAt_1 ?_
  refine z_icmp_ge (pc := 2) (tgt := 9) h dX1_pictureAt_2 (by decide) ⟨by omega, by omega⟩ ⟨by decide, by decide⟩ (fun hc2 => ?_) (fun hc2 => absurd hc2 (by omega))
  refine z_iload_n (pc := 9) h dX1_pictureAt_9 rfl ?_
  refine z_iload_n (pc := 10) h dX1_pictureAt_10 rfl ?_
  refine z_iload_n (pc := 11) h dX1_pictureAt_11 rfl ?_
  refine z_callS (pc := 12) (rest := [zi k]) h (m_X1_advanceOf s p S (by first | assumption | omega) (by first | assumption | omega)) dX1_pictureAt_12 mcX1_advanceOf msX1_advanceOf mlX1_19 rfl rfl ⟨by decide, by decide⟩ rfl (Nat.le_of_ble_eq_true rfl) ?_
  rintro _ _ ⟨rfl, rfl⟩
  show zG x LX 15 [some (zi s), some (zi p), some (zi k)] [zi (nearF p s), zi k] S
  refine z_imul (pc := 15) h dX1_pictureAt_15 ?_
  refine z_iload_n (pc := 16) h dX1_pictureAt_16 rfl ?_
  refine z_iremN (pc := 17) h dX1_pictureAt_17 ⟨by omega, by omega⟩ ⟨by omega, by omega⟩ ?_
  exact z_iret (pc := 18) h dX1_pictureAt_18 rfl ⟨rfl, congrArg (fun z => some (zi z)) (by rfl)⟩

set_option maxRecDepth 100000 in
set_option maxHeartbeats 4000000 in
theorem m_X1_seemingOf (s p : Int) (S : SS) (hs : 1 ≤ s ∧ s ≤ 24) (hp : 1 ≤ p ∧ p ≤ 24) : zM LX yX1_seemingOf cX1_seemingOf 3 (some .int) 4 86 [zi s, zi p] S (fun r S' => S = S' ∧ r = some (zi (seemF s p))) := by
  refine zM_of (own := RX1) rfl (by decide +kernel) [some (zi s), some (zi p), none] (Nat.le_of_ble_eq_true rfl) rfl ?_
  intro x h
  have hB := near_b p (b := s) (by omega)
  have hN := near_0 (a := p) (b := s) (by omega) (by omega)
  have hMM := Int.emod_nonneg (1 * nearF p s) (show p ≠ 0 by omega)
  have hML := Int.emod_lt_of_pos (1 * nearF p s) (show 0 < p by omega)
  refine z_iload_n (pc := 0) h dX1_seemingOf_0 rfl ?_
  refine z_iload_n (pc := 1) h dX1_seemingOf_1 rfl ?_
  refine z_callS (pc := 2) (rest := ([] : List zV)) h (m_X1_driftAbove s p S (by first | assumption | omega) (by first | assumption | omega)) dX1_seemingOf_2 mcX1_driftAbove msX1_driftAbove mlX1_24 rfl rfl ⟨by decide, by decide⟩ rfl (Nat.le_of_ble_eq_true rfl) ?_
  rintro _ _ ⟨rfl, rfl⟩
  show zG x LX 5 [some (zi s), some (zi p), none] [zi (p - nearF p s * s)] S
  refine z_istore_n (pc := 5) (loc' := [some (zi s), some (zi p), some (zi (p - nearF p s * s))]) h dX1_seemingOf_5 rfl (Nat.le_of_ble_eq_true rfl) rfl rfl ?_
  refine z_iload_n (pc := 6) h dX1_seemingOf_6 rfl ?_
  refine z_if_eq (pc := 7) (tgt := 20) h dX1_seemingOf_7 (by decide) ⟨by omega, by omega⟩ (fun hc7 => ?_) (fun hc7 => ?_)
  ·
    refine z_iload_n (pc := 20) h dX1_seemingOf_20 rfl ?_
    refine z_iload_n (pc := 21) h dX1_seemingOf_21 rfl ?_
    refine z_iconst (pc := 22) h dX1_seemingOf_22 ?_
    refine z_callS (pc := 23) (rest := ([] : List zV)) h (m_X1_pictureAt s p 1 S (by first | assumption | omega) (by first | assumption | omega) (by first | assumption | omega)) dX1_seemingOf_23 mcX1_pictureAt msX1_pictureAt mlX1_27 rfl rfl ⟨by decide, by decide⟩ rfl (Nat.le_of_ble_eq_true rfl) ?_
    rintro _ _ ⟨rfl, rfl⟩
    show zG x LX 26 [some (zi s), some (zi p), some (zi (p - nearF p s * s))] [zi (1 * nearF p s % p)] S
    refine z_if_ne (pc := 26) (tgt := 33) h dX1_seemingOf_26 (by decide) ⟨by omega, by omega⟩ (fun hc26 => ?_) (fun hc26 => ?_)
    ·
      refine z_iconst (pc := 33) h dX1_seemingOf_33 ?_
      exact z_iret (pc := 34) h dX1_seemingOf_34 rfl ⟨rfl, congrArg (fun z => some (zi z)) (by unfold seemF; rw [Int.one_mul] at *; (repeat' split) <;> first | rfl | omega)⟩
    ·
      refine z_iconst (pc := 29) h dX1_seemingOf_29 ?_
      refine z_goto (pc := 30) (tgt := 34) h dX1_seemingOf_30 (by decide) ?_
      exact z_iret (pc := 34) h dX1_seemingOf_34 rfl ⟨rfl, congrArg (fun z => some (zi z)) (by unfold seemF; rw [Int.one_mul] at *; (repeat' split) <;> first | rfl | omega)⟩
  ·
    refine z_iload_n (pc := 10) h dX1_seemingOf_10 rfl ?_
    refine z_if_le (pc := 11) (tgt := 18) h dX1_seemingOf_11 (by decide) ⟨by omega, by omega⟩ (fun hc11 => ?_) (fun hc11 => ?_)
    ·
      refine z_iconst (pc := 18) h dX1_seemingOf_18 ?_
      exact z_iret (pc := 19) h dX1_seemingOf_19 rfl ⟨rfl, congrArg (fun z => some (zi z)) (by unfold seemF; rw [Int.one_mul] at *; (repeat' split) <;> first | rfl | omega)⟩
    ·
      refine z_iconst (pc := 14) h dX1_seemingOf_14 ?_
      refine z_goto (pc := 15) (tgt := 19) h dX1_seemingOf_15 (by decide) ?_
      exact z_iret (pc := 19) h dX1_seemingOf_19 rfl ⟨rfl, congrArg (fun z => some (zi z)) (by unfold seemF; rw [Int.one_mul] at *; (repeat' split) <;> first | rfl | omega)⟩

set_option maxRecDepth 100000 in
set_option maxHeartbeats 4000000 in
theorem m_X1_looksRound (s p : Int) (S : SS) (hs : 1 ≤ s ∧ s ≤ 24) (hp : 1 ≤ p ∧ p ≤ 24) : zM LX yX1_looksRound cX1_looksRound 3 (some .int) 3 64 [zi s, zi p] S (fun r S' => S = S' ∧ r = some (zi (p / gcdI p (nearF p s)))) := by
  refine zM_of (own := RX1) rfl (by decide +kernel) [some (zi s), some (zi p), none] (Nat.le_of_ble_eq_true rfl) rfl ?_
  intro x h
  have hN := near_0 (a := p) (b := s) (by omega) (by omega)
  have hG := gcdI_b1 (a := p) (b := nearF p s) (by omega)
  refine z_iload_n (pc := 0) h dX1_looksRound_0 rfl ?_
  refine z_iload_n (pc := 1) h dX1_looksRound_1 rfl ?_
  refine z_iload_n (pc := 2) h dX1_looksRound_2 rfl ?_
  refine z_callS (pc := 3) (rest := [zi p]) h (m_X1_advanceOf s p S (by first | assumption | omega) (by first | assumption | omega)) dX1_looksRound_3 mcX1_advanceOf msX1_advanceOf mlX1_19 rfl rfl ⟨by decide, by decide⟩ rfl (Nat.le_of_ble_eq_true rfl) ?_
  rintro _ _ ⟨rfl, rfl⟩
  show zG x LX 6 [some (zi s), some (zi p), none] [zi (nearF p s), zi p] S
  refine z_callS (pc := 6) (rest := ([] : List zV)) h (m_X2_commonDivisor p (nearF p s) S (by first | assumption | omega) (by first | assumption | omega)) dX1_looksRound_6 mcX2_commonDivisor msX2_commonDivisor mlX1_31 rfl rfl ⟨by decide, by decide⟩ rfl (Nat.le_of_ble_eq_true rfl) ?_
  rintro _ _ ⟨rfl, rfl⟩
  show zG x LX 9 [some (zi s), some (zi p), none] [zi (gcdI p (nearF p s))] S
  refine z_istore_n (pc := 9) (loc' := [some (zi s), some (zi p), some (zi (gcdI p (nearF p s)))]) h dX1_looksRound_9 rfl (Nat.le_of_ble_eq_true rfl) rfl rfl ?_
  refine z_iload_n (pc := 10) h dX1_looksRound_10 rfl ?_
  refine z_iconst (pc := 11) h dX1_looksRound_11 ?_
  refine z_icmp_ge (pc := 12) (tgt := 19) h dX1_looksRound_12 (by decide) ⟨by omega, by omega⟩ ⟨by decide, by decide⟩ (fun hc12 => ?_) (fun hc12 => absurd hc12 (by omega))
  refine z_iload_n (pc := 19) h dX1_looksRound_19 rfl ?_
  refine z_iload_n (pc := 20) h dX1_looksRound_20 rfl ?_
  refine z_idivN (pc := 21) h dX1_looksRound_21 ⟨by omega, by omega⟩ ⟨by omega, by omega⟩ ?_
  exact z_iret (pc := 22) h dX1_looksRound_22 rfl ⟨rfl, congrArg (fun z => some (zi z)) (by rfl)⟩

set_option maxRecDepth 100000 in
set_option maxHeartbeats 4000000 in
theorem m_X1_pairs (a e i : Int) (S : SS) (ha : r32 a) (he : r32 e) (hi : r32 i) : zM LX yX1_pairs cX1_pairs 6 (some .int) 5 108 [zi a, zi e, zi i] S (fun r S' => S = S' ∧ r = some (zi (pairsF a e i))) := by
  refine zM_of (own := RX1) rfl (by decide +kernel) [some (zi a), some (zi e), some (zi i), none, none, none] (Nat.le_of_ble_eq_true rfl) rfl ?_
  intro x h
  refine z_iconst (pc := 0) h dX1_pairs_0 ?_
  refine z_istore_n (pc := 1) (loc' := [some (zi a), some (zi e), some (zi i), some (zi 0), none, none]) h dX1_pairs_1 rfl (Nat.le_of_ble_eq_true rfl) rfl rfl ?_
  refine z_iconst (pc := 2) h dX1_pairs_2 ?_
  refine z_istore (pc := 3) (loc' := [some (zi a), some (zi e), some (zi i), some (zi 0), some (zi 1), none]) h dX1_pairs_3 (Nat.le_of_ble_eq_true rfl) rfl rfl ?_
  have J5 : ∀ (N : Nat) (f s : Int) (hs : 1 ≤ s ∧ s ≤ 25) (hf : 0 ≤ f ∧ f ≤ 24 * (s - 1)) (hI : scanR (pairP a e) pairV i (24 * (25 - s)).toNat (24 * (s - 1)).toNat f = pairsF a e i) , (25 - s).toNat = N → zG x LX 5 [some (zi a), some (zi e), some (zi i), some (zi f), some (zi s), none] ([] : List zV) S := by
    intro N
    induction N using Nat.strongRecOn with
    | _ N ih5 => ?_
    intro f s hs hf hI hN5
    refine z_iload (pc := 5) h dX1_pairs_5 rfl ?_
    refine z_bipush (pc := 7) h dX1_pairs_7 rfl ?_
    refine z_icmp_gt (pc := 9) (tgt := 73) h dX1_pairs_9 (by decide) ⟨by omega, by omega⟩ ⟨by decide, by decide⟩ (fun hc9 => ?_) (fun hc9 => ?_)
    ·
      refine z_iload_n (pc := 73) h dX1_pairs_73 rfl ?_
      refine z_iconst (pc := 74) h dX1_pairs_74 ?_
      refine z_icmp_ne (pc := 75) (tgt := 82) h dX1_pairs_75 (by decide) ⟨by omega, by omega⟩ ⟨by decide, by decide⟩ (fun hc75 => ?_) (fun hc75 => ?_)
      ·
        refine z_iconst (pc := 82) h dX1_pairs_82 ?_
        exact z_iret (pc := 83) h dX1_pairs_83 rfl ⟨rfl, congrArg (fun z => some (zi z)) (by first | (rw [if_pos (by rw [pairP_at ⟨hs.1, by omega⟩ ⟨hp.1, by omega⟩]; simp; omega), if_pos (by omega), pairV_at ⟨hs.1, by omega⟩ ⟨hp.1, by omega⟩] at hJ; exact hJ) | (rw [scan_0 (by omega), if_pos (by omega)] at hI; exact hI) | (rw [scan_0 (by omega), if_neg (by omega)] at hI; exact hI))⟩
      ·
        refine z_iload_n (pc := 78) h dX1_pairs_78 rfl ?_
        refine z_goto (pc := 79) (tgt := 83) h dX1_pairs_79 (by decide) ?_
        exact z_iret (pc := 83) h dX1_pairs_83 rfl ⟨rfl, congrArg (fun z => some (zi z)) (by first | (rw [if_pos (by rw [pairP_at ⟨hs.1, by omega⟩ ⟨hp.1, by omega⟩]; simp; omega), if_pos (by omega), pairV_at ⟨hs.1, by omega⟩ ⟨hp.1, by omega⟩] at hJ; exact hJ) | (rw [scan_0 (by omega), if_pos (by omega)] at hI; exact hI) | (rw [scan_0 (by omega), if_neg (by omega)] at hI; exact hI))⟩
    ·
      refine z_iconst (pc := 12) h dX1_pairs_12 ?_
      refine z_istore (pc := 13) (loc' := [some (zi a), some (zi e), some (zi i), some (zi f), some (zi s), some (zi 1)]) h dX1_pairs_13 (Nat.le_of_ble_eq_true rfl) rfl rfl ?_
      have J15 : ∀ (N : Nat) (f p : Int) (hp : 1 ≤ p ∧ p ≤ 25) (hg : 0 ≤ f ∧ f ≤ 24 * (s - 1) + (p - 1)) (hJ : scanR (pairP a e) pairV i (24 * (25 - s) - (p - 1)).toNat (24 * (s - 1) + (p - 1)).toNat f = pairsF a e i) , (25 - p).toNat = N → zG x LX 15 [some (zi a), some (zi e), some (zi i), some (zi f), some (zi s), some (zi p)] ([] : List zV) S := by
        intro N
        induction N using Nat.strongRecOn with
        | _ N ih15 => ?_
        intro f p hp hg hJ hN15
        refine z_iload (pc := 15) h dX1_pairs_15 rfl ?_
        refine z_bipush (pc := 17) h dX1_pairs_17 rfl ?_
        refine z_icmp_gt (pc := 19) (tgt := 67) h dX1_pairs_19 (by decide) ⟨by omega, by omega⟩ ⟨by decide, by decide⟩ (fun hc19 => ?_) (fun hc19 => ?_)
        ·
          refine z_iinc (pc := 67) (loc' := [some (zi a), some (zi e), some (zi i), some (zi f), some (zi (s + 1)), some (zi p)]) h dX1_pairs_67 rfl (Nat.le_of_ble_eq_true rfl) rfl rfl ?_
          refine z_goto (pc := 70) (tgt := 5) h dX1_pairs_70 (by decide) ?_
          refine z_forget [true, true, true, true, true, false] (loc' := [some (zi a), some (zi e), some (zi i), some (zi f), some (zi (s + 1)), none]) rfl ?_
          exact ih5 _ (by omega) f (s + 1) (by omega) (by omega) (by rw [← hJ]; congr 1 <;> omega) rfl
        ·
          have J61 : ∀ (f2 : Int) (hg2 : 0 ≤ f2 ∧ f2 ≤ 24 * (s - 1) + p) (hK : scanR (pairP a e) pairV i (24 * (25 - s) - ((p + 1) - 1)).toNat (24 * (s - 1) + ((p + 1) - 1)).toNat f2 = pairsF a e i) , zG x LX 61 [some (zi a), some (zi e), some (zi i), some (zi f2), some (zi s), some (zi p)] ([] : List zV) S := by
            intro f2 hg2 hK
            refine z_iinc (pc := 61) (loc' := [some (zi a), some (zi e), some (zi i), some (zi f2), some (zi s), some (zi (p + 1))]) h dX1_pairs_61 rfl (Nat.le_of_ble_eq_true rfl) rfl rfl ?_
            refine z_goto (pc := 64) (tgt := 15) h dX1_pairs_64 (by decide) ?_
            exact ih15 _ (by omega) f2 (p + 1) (by omega) (by omega) (by exact hK) rfl
          rw [scan_s (r' := (24 * (25 - s) - ((p + 1) - 1)).toNat) (t' := (24 * (s - 1) + ((p + 1) - 1)).toNat) (by omega) (by omega)] at hJ
          have hN := near_0 (a := p) (b := s) (by omega) (by omega)
          have hE := seemF_b s p
          refine z_iload (pc := 22) h dX1_pairs_22 rfl ?_
          refine z_iload (pc := 24) h dX1_pairs_24 rfl ?_
          refine z_callS (pc := 26) (rest := ([] : List zV)) h (m_X1_advanceOf s p S (by first | assumption | omega) (by first | assumption | omega)) dX1_pairs_26 mcX1_advanceOf msX1_advanceOf mlX1_19 rfl rfl ⟨by decide, by decide⟩ rfl (Nat.le_of_ble_eq_true rfl) ?_
          rintro _ _ ⟨rfl, rfl⟩
          show zG x LX 29 [some (zi a), some (zi e), some (zi i), some (zi f), some (zi s), some (zi p)] [zi (nearF p s)] S
          refine z_iload_n (pc := 29) h dX1_pairs_29 rfl ?_
          refine z_icmp_ne (pc := 30) (tgt := 61) h dX1_pairs_30 (by decide) ⟨by omega, by omega⟩ ⟨by omega, by omega⟩ (fun hc30 => ?_) (fun hc30 => ?_)
          ·
            exact J61 f (by omega) (by first | (rw [if_neg (by rw [pairP_at ⟨hs.1, by omega⟩ ⟨hp.1, by omega⟩]; simp; omega)] at hJ; exact hJ) | (rw [if_pos (by rw [pairP_at ⟨hs.1, by omega⟩ ⟨hp.1, by omega⟩]; simp; omega), if_neg (by omega)] at hJ; exact hJ))
          ·
            refine z_iload (pc := 33) h dX1_pairs_33 rfl ?_
            refine z_iload (pc := 35) h dX1_pairs_35 rfl ?_
            refine z_callS (pc := 37) (rest := ([] : List zV)) h (m_X1_seemingOf s p S (by first | assumption | omega) (by first | assumption | omega)) dX1_pairs_37 mcX1_seemingOf msX1_seemingOf mlX1_34 rfl rfl ⟨by decide, by decide⟩ rfl (Nat.le_of_ble_eq_true rfl) ?_
            rintro _ _ ⟨rfl, rfl⟩
            show zG x LX 40 [some (zi a), some (zi e), some (zi i), some (zi f), some (zi s), some (zi p)] [zi (seemF s p)] S
            refine z_iload_n (pc := 40) h dX1_pairs_40 rfl ?_
            refine z_icmp_ne (pc := 41) (tgt := 61) h dX1_pairs_41 (by decide) ⟨by omega, by omega⟩ ⟨by omega, by omega⟩ (fun hc41 => ?_) (fun hc41 => ?_)
            ·
              exact J61 f (by omega) (by first | (rw [if_neg (by rw [pairP_at ⟨hs.1, by omega⟩ ⟨hp.1, by omega⟩]; simp; omega)] at hJ; exact hJ) | (rw [if_pos (by rw [pairP_at ⟨hs.1, by omega⟩ ⟨hp.1, by omega⟩]; simp; omega), if_neg (by omega)] at hJ; exact hJ))
            ·
              refine z_iload_n (pc := 44) h dX1_pairs_44 rfl ?_
              refine z_iload_n (pc := 45) h dX1_pairs_45 rfl ?_
              refine z_icmp_ne (pc := 46) (tgt := 58) h dX1_pairs_46 (by decide) ⟨by omega, by omega⟩ ⟨by omega, by omega⟩ (fun hc46 => ?_) (fun hc46 => ?_)
              ·
                refine z_iinc (pc := 58) (loc' := [some (zi a), some (zi e), some (zi i), some (zi (f + 1)), some (zi s), some (zi p)]) h dX1_pairs_58 rfl (Nat.le_of_ble_eq_true rfl) rfl rfl ?_
                exact J61 (f + 1) (by omega) (by first | (rw [if_neg (by rw [pairP_at ⟨hs.1, by omega⟩ ⟨hp.1, by omega⟩]; simp; omega)] at hJ; exact hJ) | (rw [if_pos (by rw [pairP_at ⟨hs.1, by omega⟩ ⟨hp.1, by omega⟩]; simp; omega), if_neg (by omega)] at hJ; exact hJ))
              ·
                refine z_bipush (pc := 49) h dX1_pairs_49 rfl ?_
                refine z_iload (pc := 51) h dX1_pairs_51 rfl ?_
                refine z_imul (pc := 53) h dX1_pairs_53 ?_
                refine z_iload (pc := 54) h dX1_pairs_54 rfl ?_
                refine z_iadd (pc := 56) h dX1_pairs_56 ?_
                exact z_iret (pc := 57) h dX1_pairs_57 rfl ⟨rfl, congrArg (fun z => some (zi z)) (by first | (rw [if_pos (by rw [pairP_at ⟨hs.1, by omega⟩ ⟨hp.1, by omega⟩]; simp; omega), if_pos (by omega), pairV_at ⟨hs.1, by omega⟩ ⟨hp.1, by omega⟩] at hJ; exact hJ) | (rw [scan_0 (by omega), if_pos (by omega)] at hI; exact hI) | (rw [scan_0 (by omega), if_neg (by omega)] at hI; exact hI))⟩
      exact J15 _ f 1 (by omega) (by omega) (by rw [← hI]; congr 1 <;> omega) rfl
  exact J5 _ 0 1 (by omega) (by omega) (rfl) rfl

set_option maxRecDepth 100000 in
set_option maxHeartbeats 4000000 in
theorem m_X9_stands (s t f : Int) (S : SS) (hs : r32 s) (ht : r32 t) (hf : r32 f) : zM LX yX9_stands cX9_stands 3 (some .boolean) 1 22 [zi s, zi t, zi f] S (fun r S' => S = S' ∧ (((1 ≤ s ∧ s ≤ 36) ∧ (0 ≤ t ∧ t ≤ 999) ∧ (1 ≤ f ∧ f ≤ 99)) ∧ r = some (zi 1) ∨ ¬ ((1 ≤ s ∧ s ≤ 36) ∧ (0 ≤ t ∧ t ≤ 999) ∧ (1 ≤ f ∧ f ≤ 99)) ∧ r = some (zi 0))) := by
  refine zM_of (own := RX9) rfl (by decide +kernel) [some (zi s), some (zi t), some (zi f)] (Nat.le_of_ble_eq_true rfl) rfl ?_
  intro x h
  refine z_iload_n (pc := 0) h dX9_stands_0 rfl ?_
  refine z_iconst (pc := 1) h dX9_stands_1 ?_
  refine z_bipush (pc := 2) h dX9_stands_2 rfl ?_
  refine z_callS (pc := 4) (rest := ([] : List zV)) h (m_X10_within s 1 36 S ⟨by omega, by omega⟩ ⟨by decide, by decide⟩ ⟨by decide, by decide⟩) dX9_stands_4 mcX10_within msX10_within mlX9_9 rfl rfl ⟨by decide, by decide⟩ rfl (Nat.le_of_ble_eq_true rfl) ?_
  rintro _ _ ⟨rfl, ⟨hr4, rfl⟩ | ⟨hr4, rfl⟩⟩
  ·
    show zG x LX 7 [some (zi s), some (zi t), some (zi f)] [zi 1] S
    refine z_if_eq (pc := 7) (tgt := 35) h dX9_stands_7 (by decide) ⟨by decide, by decide⟩ (fun hc7 => absurd hc7 (by decide)) (fun hc7 => ?_)
    refine z_iload_n (pc := 10) h dX9_stands_10 rfl ?_
    refine z_iconst (pc := 11) h dX9_stands_11 ?_
    refine z_sipush (pc := 12) h dX9_stands_12 rfl ?_
    refine z_callS (pc := 15) (rest := ([] : List zV)) h (m_X10_within t 0 999 S ⟨by omega, by omega⟩ ⟨by decide, by decide⟩ ⟨by decide, by decide⟩) dX9_stands_15 mcX10_within msX10_within mlX9_9 rfl rfl ⟨by decide, by decide⟩ rfl (Nat.le_of_ble_eq_true rfl) ?_
    rintro _ _ ⟨rfl, ⟨hr15, rfl⟩ | ⟨hr15, rfl⟩⟩
    ·
      show zG x LX 18 [some (zi s), some (zi t), some (zi f)] [zi 1] S
      refine z_if_eq (pc := 18) (tgt := 35) h dX9_stands_18 (by decide) ⟨by decide, by decide⟩ (fun hc18 => absurd hc18 (by decide)) (fun hc18 => ?_)
      refine z_iload_n (pc := 21) h dX9_stands_21 rfl ?_
      refine z_iconst (pc := 22) h dX9_stands_22 ?_
      refine z_bipush (pc := 23) h dX9_stands_23 rfl ?_
      refine z_callS (pc := 25) (rest := ([] : List zV)) h (m_X10_within f 1 99 S ⟨by omega, by omega⟩ ⟨by decide, by decide⟩ ⟨by decide, by decide⟩) dX9_stands_25 mcX10_within msX10_within mlX9_9 rfl rfl ⟨by decide, by decide⟩ rfl (Nat.le_of_ble_eq_true rfl) ?_
      rintro _ _ ⟨rfl, ⟨hr25, rfl⟩ | ⟨hr25, rfl⟩⟩
      ·
        show zG x LX 28 [some (zi s), some (zi t), some (zi f)] [zi 1] S
        refine z_if_eq (pc := 28) (tgt := 35) h dX9_stands_28 (by decide) ⟨by decide, by decide⟩ (fun hc28 => absurd hc28 (by decide)) (fun hc28 => ?_)
        refine z_iconst (pc := 31) h dX9_stands_31 ?_
        refine z_goto (pc := 32) (tgt := 36) h dX9_stands_32 (by decide) ?_
        exact z_zret (pc := 36) h dX9_stands_36 rfl (by decide) ⟨rfl, Or.inl ⟨by omega, rfl⟩⟩
      ·
        show zG x LX 28 [some (zi s), some (zi t), some (zi f)] [zi 0] S
        refine z_if_eq (pc := 28) (tgt := 35) h dX9_stands_28 (by decide) ⟨by decide, by decide⟩ (fun hc28 => ?_) (fun hc28 => absurd hc28 (by decide))
        refine z_iconst (pc := 35) h dX9_stands_35 ?_
        exact z_zret (pc := 36) h dX9_stands_36 rfl (by decide) ⟨rfl, Or.inr ⟨by omega, rfl⟩⟩
    ·
      show zG x LX 18 [some (zi s), some (zi t), some (zi f)] [zi 0] S
      refine z_if_eq (pc := 18) (tgt := 35) h dX9_stands_18 (by decide) ⟨by decide, by decide⟩ (fun hc18 => ?_) (fun hc18 => absurd hc18 (by decide))
      refine z_iconst (pc := 35) h dX9_stands_35 ?_
      exact z_zret (pc := 36) h dX9_stands_36 rfl (by decide) ⟨rfl, Or.inr ⟨by omega, rfl⟩⟩
  ·
    show zG x LX 7 [some (zi s), some (zi t), some (zi f)] [zi 0] S
    refine z_if_eq (pc := 7) (tgt := 35) h dX9_stands_7 (by decide) ⟨by decide, by decide⟩ (fun hc7 => ?_) (fun hc7 => absurd hc7 (by decide))
    refine z_iconst (pc := 35) h dX9_stands_35 ?_
    exact z_zret (pc := 36) h dX9_stands_36 rfl (by decide) ⟨rfl, Or.inr ⟨by omega, rfl⟩⟩

set_option maxRecDepth 100000 in
set_option maxHeartbeats 4000000 in
theorem m_X9_isSecond (g : Int) (S : SS) (hg : r32 g) : zM LX yX9_isSecond cX9_isSecond 1 (some .boolean) 1 22 [zi g] S (fun r S' => S = S' ∧ ((g = -1 ∨ 1 ≤ g ∧ g ≤ 99) ∧ r = some (zi 1) ∨ ¬ (g = -1 ∨ 1 ≤ g ∧ g ≤ 99) ∧ r = some (zi 0))) := by
  refine zM_of (own := RX9) rfl (by decide +kernel) [some (zi g)] (Nat.le_of_ble_eq_true rfl) rfl ?_
  intro x h
  refine z_iload_n (pc := 0) h dX9_isSecond_0 rfl ?_
  refine z_iconst (pc := 1) h dX9_isSecond_1 ?_
  refine z_icmp_eq (pc := 2) (tgt := 15) h dX9_isSecond_2 (by decide) ⟨by omega, by omega⟩ ⟨by decide, by decide⟩ (fun hc2 => ?_) (fun hc2 => ?_)
  ·
    refine z_iconst (pc := 15) h dX9_isSecond_15 ?_
    refine z_goto (pc := 16) (tgt := 20) h dX9_isSecond_16 (by decide) ?_
    exact z_zret (pc := 20) h dX9_isSecond_20 rfl (by decide) ⟨rfl, Or.inl ⟨by omega, rfl⟩⟩
  ·
    refine z_iload_n (pc := 5) h dX9_isSecond_5 rfl ?_
    refine z_iconst (pc := 6) h dX9_isSecond_6 ?_
    refine z_bipush (pc := 7) h dX9_isSecond_7 rfl ?_
    refine z_callS (pc := 9) (rest := ([] : List zV)) h (m_X10_within g 1 99 S ⟨by omega, by omega⟩ ⟨by decide, by decide⟩ ⟨by decide, by decide⟩) dX9_isSecond_9 mcX10_within msX10_within mlX9_9 rfl rfl ⟨by decide, by decide⟩ rfl (Nat.le_of_ble_eq_true rfl) ?_
    rintro _ _ ⟨rfl, ⟨hr9, rfl⟩ | ⟨hr9, rfl⟩⟩
    ·
      show zG x LX 12 [some (zi g)] [zi 1] S
      refine z_if_eq (pc := 12) (tgt := 19) h dX9_isSecond_12 (by decide) ⟨by decide, by decide⟩ (fun hc12 => absurd hc12 (by decide)) (fun hc12 => ?_)
      refine z_iconst (pc := 15) h dX9_isSecond_15 ?_
      refine z_goto (pc := 16) (tgt := 20) h dX9_isSecond_16 (by decide) ?_
      exact z_zret (pc := 20) h dX9_isSecond_20 rfl (by decide) ⟨rfl, Or.inl ⟨by omega, rfl⟩⟩
    ·
      show zG x LX 12 [some (zi g)] [zi 0] S
      refine z_if_eq (pc := 12) (tgt := 19) h dX9_isSecond_12 (by decide) ⟨by decide, by decide⟩ (fun hc12 => ?_) (fun hc12 => absurd hc12 (by decide))
      refine z_iconst (pc := 19) h dX9_isSecond_19 ?_
      exact z_zret (pc := 20) h dX9_isSecond_20 rfl (by decide) ⟨rfl, Or.inr ⟨by omega, rfl⟩⟩

set_option maxRecDepth 100000 in
set_option maxHeartbeats 4000000 in
theorem m_X9_seemsBelow (f : Int) (S : SS)  : zM LX yX9_seemsBelow cX9_seemsBelow 1 (some .int) 0 0 [zi f] S (fun r S' => S = S' ∧ r = some (zi (60 * f))) := by
  refine zM_of (own := RX9) rfl (by decide +kernel) [some (zi f)] (Nat.le_of_ble_eq_true rfl) rfl ?_
  intro x h
  refine z_bipush (pc := 0) h dX9_seemsBelow_0 rfl ?_
  refine z_iload_n (pc := 2) h dX9_seemsBelow_2 rfl ?_
  refine z_imul (pc := 3) h dX9_seemsBelow_3 ?_
  exact z_iret (pc := 4) h dX9_seemsBelow_4 rfl ⟨rfl, congrArg (fun z => some (zi z)) (by rfl)⟩

set_option maxRecDepth 100000 in
set_option maxHeartbeats 4000000 in
theorem m_X9_seemsAbove (s t f : Int) (S : SS) (hs : 1 ≤ s ∧ s ≤ 36) (ht : 0 ≤ t ∧ t ≤ 999) (hf : 1 ≤ f ∧ f ≤ 99) : zM LX yX9_seemsAbove cX9_seemsAbove 5 (some .int) 2 43 [zi s, zi t, zi f] S (fun r S' => S = S' ∧ r = some (zi (seemW s t f))) := by
  refine zM_of (own := RX9) rfl (by decide +kernel) [some (zi s), some (zi t), some (zi f), none, none] (Nat.le_of_ble_eq_true rfl) rfl ?_
  intro x h
  have hM := mul_bd (a := s) (A := 36) (b := t) (B := 999) (by omega) (by omega)
  refine z_iload_n (pc := 0) h dX9_seemsAbove_0 rfl ?_
  refine z_iload_n (pc := 1) h dX9_seemsAbove_1 rfl ?_
  refine z_imul (pc := 2) h dX9_seemsAbove_2 ?_
  refine z_istore_n (pc := 3) (loc' := [some (zi s), some (zi t), some (zi f), some (zi (s * t)), none]) h dX9_seemsAbove_3 rfl (Nat.le_of_ble_eq_true rfl) rfl rfl ?_
  refine z_iload_n (pc := 4) h dX9_seemsAbove_4 rfl ?_
  refine z_callS (pc := 5) (rest := ([] : List zV)) h (m_X9_seemsBelow f S ) dX9_seemsAbove_5 mcX9_seemsBelow msX9_seemsBelow mlX9_13 rfl rfl ⟨by decide, by decide⟩ rfl (Nat.le_of_ble_eq_true rfl) ?_
  rintro _ _ ⟨rfl, rfl⟩
  show zG x LX 8 [some (zi s), some (zi t), some (zi f), some (zi (s * t)), none] [zi (60 * f)] S
  refine z_istore (pc := 8) (loc' := [some (zi s), some (zi t), some (zi f), some (zi (s * t)), some (zi (60 * f))]) h dX9_seemsAbove_8 (Nat.le_of_ble_eq_true rfl) rfl rfl ?_
  refine z_iload_n (pc := 10) h dX9_seemsAbove_10 rfl ?_
  refine z_iload_n (pc := 11) h dX9_seemsAbove_11 rfl ?_
  refine z_iload (pc := 12) h dX9_seemsAbove_12 rfl ?_
  refine z_callS (pc := 14) (rest := [zi (s * t)]) h (m_X2_nearest (s * t) (60 * f) S (by first | assumption | omega) (by first | assumption | omega)) dX9_seemsAbove_14 mcX2_nearest msX2_nearest mlX9_19 rfl rfl ⟨by decide, by decide⟩ rfl (Nat.le_of_ble_eq_true rfl) ?_
  rintro _ _ ⟨rfl, rfl⟩
  show zG x LX 17 [some (zi s), some (zi t), some (zi f), some (zi (s * t)), some (zi (60 * f))] [zi (nearF (s * t) (60 * f)), zi (s * t)] S
  refine z_iload (pc := 17) h dX9_seemsAbove_17 rfl ?_
  refine z_imul (pc := 19) h dX9_seemsAbove_19 ?_
  refine z_isub (pc := 20) h dX9_seemsAbove_20 ?_
  exact z_iret (pc := 21) h dX9_seemsAbove_21 rfl ⟨rfl, congrArg (fun z => some (zi z)) (by rfl)⟩

set_option maxRecDepth 100000 in
set_option maxHeartbeats 4000000 in
theorem m_X9_alike (s t u f : Int) (S : SS) (hs : 1 ≤ s ∧ s ≤ 36) (ht : 0 ≤ t ∧ t ≤ 999) (hf : 1 ≤ f ∧ f ≤ 99) (hu : 0 ≤ u ∧ u ≤ 999) : zM LX yX9_alike cX9_alike 4 (some .boolean) 3 67 [zi s, zi t, zi u, zi f] S (fun r S' => S = S' ∧ ((60 * f ∣ s * (u - t)) ∧ r = some (zi 1) ∨ ¬ (60 * f ∣ s * (u - t)) ∧ r = some (zi 0))) := by
  refine zM_of (own := RX9) rfl (by decide +kernel) [some (zi s), some (zi t), some (zi u), some (zi f)] (Nat.le_of_ble_eq_true rfl) rfl ?_
  intro x h
  have h1 := seemW_b s t hf.1
  have h2 := seemW_b s u hf.1
  have h3 := seem_iff s t u hf.1
  refine z_iload_n (pc := 0) h dX9_alike_0 rfl ?_
  refine z_iload_n (pc := 1) h dX9_alike_1 rfl ?_
  refine z_iload_n (pc := 2) h dX9_alike_2 rfl ?_
  refine z_callS (pc := 3) (rest := ([] : List zV)) h (m_X9_seemsAbove s t f S (by first | assumption | omega) (by first | assumption | omega) (by first | assumption | omega)) dX9_alike_3 mcX9_seemsAbove msX9_seemsAbove mlX9_25 rfl rfl ⟨by decide, by decide⟩ rfl (Nat.le_of_ble_eq_true rfl) ?_
  rintro _ _ ⟨rfl, rfl⟩
  show zG x LX 6 [some (zi s), some (zi t), some (zi u), some (zi f)] [zi (seemW s t f)] S
  refine z_iload_n (pc := 6) h dX9_alike_6 rfl ?_
  refine z_iload_n (pc := 7) h dX9_alike_7 rfl ?_
  refine z_iload_n (pc := 8) h dX9_alike_8 rfl ?_
  refine z_callS (pc := 9) (rest := [zi (seemW s t f)]) h (m_X9_seemsAbove s u f S (by first | assumption | omega) (by first | assumption | omega) (by first | assumption | omega)) dX9_alike_9 mcX9_seemsAbove msX9_seemsAbove mlX9_25 rfl rfl ⟨by decide, by decide⟩ rfl (Nat.le_of_ble_eq_true rfl) ?_
  rintro _ _ ⟨rfl, rfl⟩
  show zG x LX 12 [some (zi s), some (zi t), some (zi u), some (zi f)] [zi (seemW s u f), zi (seemW s t f)] S
  refine z_icmp_ne (pc := 12) (tgt := 19) h dX9_alike_12 (by decide) ⟨by omega, by omega⟩ ⟨by omega, by omega⟩ (fun hc12 => ?_) (fun hc12 => ?_)
  ·
    refine z_iconst (pc := 19) h dX9_alike_19 ?_
    exact z_zret (pc := 20) h dX9_alike_20 rfl (by decide) ⟨rfl, Or.inr ⟨by first | exact h3.mp hc12 | exact fun q => hc12 (h3.mpr q), rfl⟩⟩
  ·
    refine z_iconst (pc := 15) h dX9_alike_15 ?_
    refine z_goto (pc := 16) (tgt := 20) h dX9_alike_16 (by decide) ?_
    exact z_zret (pc := 20) h dX9_alike_20 rfl (by decide) ⟨rfl, Or.inl ⟨by first | exact h3.mp hc12 | exact fun q => hc12 (h3.mpr q), rfl⟩⟩

set_option maxRecDepth 100000 in
set_option maxHeartbeats 4000000 in
theorem m_X9_fit (s t u f g : Int) (S : SS) (hs : 1 ≤ s ∧ s ≤ 36) (ht : 0 ≤ t ∧ t ≤ 999) (hf : 1 ≤ f ∧ f ≤ 99) (hu : 0 ≤ u ∧ u ≤ 999) (hg : g = -1 ∨ 1 ≤ g ∧ g ≤ 99) : zM LX yX9_fit cX9_fit 5 (some .boolean) 4 90 [zi s, zi t, zi u, zi f, zi g] S (fun r S' => S = S' ∧ (((60 * f ∣ s * (u - t)) ∧ (g = -1 ∨ 60 * g ∣ s * (u - t))) ∧ r = some (zi 1) ∨ ¬ ((60 * f ∣ s * (u - t)) ∧ (g = -1 ∨ 60 * g ∣ s * (u - t))) ∧ r = some (zi 0))) := by
  refine zM_of (own := RX9) rfl (by decide +kernel) [some (zi s), some (zi t), some (zi u), some (zi f), some (zi g)] (Nat.le_of_ble_eq_true rfl) rfl ?_
  intro x h
  refine z_iload_n (pc := 0) h dX9_fit_0 rfl ?_
  refine z_iload_n (pc := 1) h dX9_fit_1 rfl ?_
  refine z_iload_n (pc := 2) h dX9_fit_2 rfl ?_
  refine z_iload_n (pc := 3) h dX9_fit_3 rfl ?_
  refine z_callS (pc := 4) (rest := ([] : List zV)) h (m_X9_alike s t u f S (by first | assumption | omega) (by first | assumption | omega) (by first | assumption | omega) (by first | assumption | omega)) dX9_fit_4 mcX9_alike msX9_alike mlX9_29 rfl rfl ⟨by decide, by decide⟩ rfl (Nat.le_of_ble_eq_true rfl) ?_
  rintro _ _ ⟨rfl, ⟨hr4, rfl⟩ | ⟨hr4, rfl⟩⟩
  ·
    show zG x LX 7 [some (zi s), some (zi t), some (zi u), some (zi f), some (zi g)] [zi 1] S
    refine z_if_eq (pc := 7) (tgt := 31) h dX9_fit_7 (by decide) ⟨by decide, by decide⟩ (fun hc7 => absurd hc7 (by decide)) (fun hc7 => ?_)
    refine z_iload (pc := 10) h dX9_fit_10 rfl ?_
    refine z_iconst (pc := 12) h dX9_fit_12 ?_
    refine z_icmp_eq (pc := 13) (tgt := 27) h dX9_fit_13 (by decide) ⟨by omega, by omega⟩ ⟨by decide, by decide⟩ (fun hc13 => ?_) (fun hc13 => ?_)
    ·
      refine z_iconst (pc := 27) h dX9_fit_27 ?_
      refine z_goto (pc := 28) (tgt := 32) h dX9_fit_28 (by decide) ?_
      exact z_zret (pc := 32) h dX9_fit_32 rfl (by decide) ⟨rfl, Or.inl ⟨by first | exact ⟨by assumption, Or.inl (by omega)⟩ | exact ⟨by assumption, Or.inr (by assumption)⟩ | exact fun q => absurd q.1 (by assumption) | exact fun q => q.2.elim (fun e => absurd e (by omega)) (fun e => absurd e (by assumption)), rfl⟩⟩
    ·
      refine z_iload_n (pc := 16) h dX9_fit_16 rfl ?_
      refine z_iload_n (pc := 17) h dX9_fit_17 rfl ?_
      refine z_iload_n (pc := 18) h dX9_fit_18 rfl ?_
      refine z_iload (pc := 19) h dX9_fit_19 rfl ?_
      refine z_callS (pc := 21) (rest := ([] : List zV)) h (m_X9_alike s t u g S (by first | assumption | omega) (by first | assumption | omega) (by first | assumption | omega) (by first | assumption | omega)) dX9_fit_21 mcX9_alike msX9_alike mlX9_29 rfl rfl ⟨by decide, by decide⟩ rfl (Nat.le_of_ble_eq_true rfl) ?_
      rintro _ _ ⟨rfl, ⟨hr21, rfl⟩ | ⟨hr21, rfl⟩⟩
      ·
        show zG x LX 24 [some (zi s), some (zi t), some (zi u), some (zi f), some (zi g)] [zi 1] S
        refine z_if_eq (pc := 24) (tgt := 31) h dX9_fit_24 (by decide) ⟨by decide, by decide⟩ (fun hc24 => absurd hc24 (by decide)) (fun hc24 => ?_)
        refine z_iconst (pc := 27) h dX9_fit_27 ?_
        refine z_goto (pc := 28) (tgt := 32) h dX9_fit_28 (by decide) ?_
        exact z_zret (pc := 32) h dX9_fit_32 rfl (by decide) ⟨rfl, Or.inl ⟨by first | exact ⟨by assumption, Or.inl (by omega)⟩ | exact ⟨by assumption, Or.inr (by assumption)⟩ | exact fun q => absurd q.1 (by assumption) | exact fun q => q.2.elim (fun e => absurd e (by omega)) (fun e => absurd e (by assumption)), rfl⟩⟩
      ·
        show zG x LX 24 [some (zi s), some (zi t), some (zi u), some (zi f), some (zi g)] [zi 0] S
        refine z_if_eq (pc := 24) (tgt := 31) h dX9_fit_24 (by decide) ⟨by decide, by decide⟩ (fun hc24 => ?_) (fun hc24 => absurd hc24 (by decide))
        refine z_iconst (pc := 31) h dX9_fit_31 ?_
        exact z_zret (pc := 32) h dX9_fit_32 rfl (by decide) ⟨rfl, Or.inr ⟨by first | exact ⟨by assumption, Or.inl (by omega)⟩ | exact ⟨by assumption, Or.inr (by assumption)⟩ | exact fun q => absurd q.1 (by assumption) | exact fun q => q.2.elim (fun e => absurd e (by omega)) (fun e => absurd e (by assumption)), rfl⟩⟩
  ·
    show zG x LX 7 [some (zi s), some (zi t), some (zi u), some (zi f), some (zi g)] [zi 0] S
    refine z_if_eq (pc := 7) (tgt := 31) h dX9_fit_7 (by decide) ⟨by decide, by decide⟩ (fun hc7 => ?_) (fun hc7 => absurd hc7 (by decide))
    refine z_iconst (pc := 31) h dX9_fit_31 ?_
    exact z_zret (pc := 32) h dX9_fit_32 rfl (by decide) ⟨rfl, Or.inr ⟨by first | exact ⟨by assumption, Or.inl (by omega)⟩ | exact ⟨by assumption, Or.inr (by assumption)⟩ | exact fun q => absurd q.1 (by assumption) | exact fun q => q.2.elim (fun e => absurd e (by omega)) (fun e => absurd e (by assumption)), rfl⟩⟩

set_option maxRecDepth 100000 in
set_option maxHeartbeats 4000000 in
theorem m_X9_howManyFit (s t f g m : Int) (S : SS) (hs : 1 ≤ s ∧ s ≤ 36) (ht : 0 ≤ t ∧ t ≤ 999) (hf : 1 ≤ f ∧ f ≤ 99) (hg : g = -1 ∨ 1 ≤ g ∧ g ≤ 99) (hm : 0 ≤ m ∧ m ≤ 999) : zM LX yX9_howManyFit cX9_howManyFit 7 (some .int) 5 114 [zi s, zi t, zi f, zi g, zi m] S (fun r S' => S = S' ∧ r = some (zi (upToF s t f g m))) := by
  refine zM_of (own := RX9) rfl (by decide +kernel) [some (zi s), some (zi t), some (zi f), some (zi g), some (zi m), none, none] (Nat.le_of_ble_eq_true rfl) rfl ?_
  intro x h
  refine z_iconst (pc := 0) h dX9_howManyFit_0 ?_
  refine z_istore (pc := 1) (loc' := [some (zi s), some (zi t), some (zi f), some (zi g), some (zi m), some (zi 0), none]) h dX9_howManyFit_1 (Nat.le_of_ble_eq_true rfl) rfl rfl ?_
  refine z_iconst (pc := 3) h dX9_howManyFit_3 ?_
  refine z_istore (pc := 4) (loc' := [some (zi s), some (zi t), some (zi f), some (zi g), some (zi m), some (zi 0), some (zi 0)]) h dX9_howManyFit_4 (Nat.le_of_ble_eq_true rfl) rfl rfl ?_
  have J6 : ∀ (N : Nat) (c u : Int) (hu : 0 ≤ u ∧ u ≤ m + 1) (hc : 0 ≤ c ∧ c ≤ u) (hI : scanR (fitB s t f g) (fun n => (n : Int)) (-1) (m + 1 - u).toNat u.toNat c = upToF s t f g m) , (m + 1 - u).toNat = N → zG x LX 6 [some (zi s), some (zi t), some (zi f), some (zi g), some (zi m), some (zi c), some (zi u)] ([] : List zV) S := by
    intro N
    induction N using Nat.strongRecOn with
    | _ N ih6 => ?_
    intro c u hu hc hI hN6
    refine z_iload (pc := 6) h dX9_howManyFit_6 rfl ?_
    refine z_iload (pc := 8) h dX9_howManyFit_8 rfl ?_
    refine z_icmp_gt (pc := 10) (tgt := 42) h dX9_howManyFit_10 (by decide) ⟨by omega, by omega⟩ ⟨by omega, by omega⟩ (fun hc10 => ?_) (fun hc10 => ?_)
    ·
      refine z_iload (pc := 42) h dX9_howManyFit_42 rfl ?_
      exact z_iret (pc := 44) h dX9_howManyFit_44 rfl ⟨rfl, congrArg (fun z => some (zi z)) (by rw [scan_0 (by omega), if_pos rfl] at hI; exact hI)⟩
    ·
      refine z_iload (pc := 13) h dX9_howManyFit_13 rfl ?_
      refine z_sipush (pc := 15) h dX9_howManyFit_15 rfl ?_
      refine z_icmp_gt (pc := 18) (tgt := 42) h dX9_howManyFit_18 (by decide) ⟨by omega, by omega⟩ ⟨by decide, by decide⟩ (fun hc18 => absurd hc18 (by omega)) (fun hc18 => ?_)
      have J36 : ∀ (c2 : Int) (hc2 : 0 ≤ c2 ∧ c2 ≤ u + 1) (hK : scanR (fitB s t f g) (fun n => (n : Int)) (-1) (m + 1 - (u + 1)).toNat (u + 1).toNat c2 = upToF s t f g m) , zG x LX 36 [some (zi s), some (zi t), some (zi f), some (zi g), some (zi m), some (zi c2), some (zi u)] ([] : List zV) S := by
        intro c2 hc2 hK
        refine z_iinc (pc := 36) (loc' := [some (zi s), some (zi t), some (zi f), some (zi g), some (zi m), some (zi c2), some (zi (u + 1))]) h dX9_howManyFit_36 rfl (Nat.le_of_ble_eq_true rfl) rfl rfl ?_
        refine z_goto (pc := 39) (tgt := 6) h dX9_howManyFit_39 (by decide) ?_
        exact ih6 _ (by omega) c2 (u + 1) (by omega) (by omega) (by exact hK) rfl
      rw [scan_s (r' := (m + 1 - (u + 1)).toNat) (t' := (u + 1).toNat) (by omega) (by omega)] at hI
      refine z_iload_n (pc := 21) h dX9_howManyFit_21 rfl ?_
      refine z_iload_n (pc := 22) h dX9_howManyFit_22 rfl ?_
      refine z_iload (pc := 23) h dX9_howManyFit_23 rfl ?_
      refine z_iload_n (pc := 25) h dX9_howManyFit_25 rfl ?_
      refine z_iload_n (pc := 26) h dX9_howManyFit_26 rfl ?_
      refine z_callS (pc := 27) (rest := ([] : List zV)) h (m_X9_fit s t u f g S (by first | assumption | omega) (by first | assumption | omega) (by first | assumption | omega) (by first | assumption | omega) (by first | assumption | omega)) dX9_howManyFit_27 mcX9_fit msX9_fit mlX9_33 rfl rfl ⟨by decide, by decide⟩ rfl (Nat.le_of_ble_eq_true rfl) ?_
      rintro _ _ ⟨rfl, ⟨hr27, rfl⟩ | ⟨hr27, rfl⟩⟩
      ·
        show zG x LX 30 [some (zi s), some (zi t), some (zi f), some (zi g), some (zi m), some (zi c), some (zi u)] [zi 1] S
        refine z_if_eq (pc := 30) (tgt := 36) h dX9_howManyFit_30 (by decide) ⟨by decide, by decide⟩ (fun hc30 => absurd hc30 (by decide)) (fun hc30 => ?_)
        refine z_iinc (pc := 33) (loc' := [some (zi s), some (zi t), some (zi f), some (zi g), some (zi m), some (zi (c + 1)), some (zi u)]) h dX9_howManyFit_33 rfl (Nat.le_of_ble_eq_true rfl) rfl rfl ?_
        exact J36 (c + 1) (by omega) (by first | (rw [if_pos ((fitB_t (by omega)).mpr hr27), if_neg (by omega)] at hI; exact hI) | (rw [if_neg (fun q => hr27 ((fitB_t (by omega)).mp q))] at hI; exact hI))
      ·
        show zG x LX 30 [some (zi s), some (zi t), some (zi f), some (zi g), some (zi m), some (zi c), some (zi u)] [zi 0] S
        refine z_if_eq (pc := 30) (tgt := 36) h dX9_howManyFit_30 (by decide) ⟨by decide, by decide⟩ (fun hc30 => ?_) (fun hc30 => absurd hc30 (by decide))
        exact J36 c (by omega) (by first | (rw [if_pos ((fitB_t (by omega)).mpr hr27), if_neg (by omega)] at hI; exact hI) | (rw [if_neg (fun q => hr27 ((fitB_t (by omega)).mp q))] at hI; exact hI))
  exact J6 _ 0 0 (by omega) (by omega) (by unfold upToF; congr 1 <;> omega) rfl

set_option maxRecDepth 100000 in
set_option maxHeartbeats 4000000 in
theorem m_X9_fitting (s t f g i : Int) (S : SS) (hs : 1 ≤ s ∧ s ≤ 36) (ht : 0 ≤ t ∧ t ≤ 999) (hf : 1 ≤ f ∧ f ≤ 99) (hg : g = -1 ∨ 1 ≤ g ∧ g ≤ 99) (hi : 0 ≤ i ∧ i ≤ 2147483647) : zM LX yX9_fitting cX9_fitting 7 (some .int) 5 114 [zi s, zi t, zi f, zi g, zi i] S (fun r S' => S = S' ∧ r = some (zi (fitsF s t f g i))) := by
  refine zM_of (own := RX9) rfl (by decide +kernel) [some (zi s), some (zi t), some (zi f), some (zi g), some (zi i), none, none] (Nat.le_of_ble_eq_true rfl) rfl ?_
  intro x h
  refine z_iconst (pc := 0) h dX9_fitting_0 ?_
  refine z_istore (pc := 1) (loc' := [some (zi s), some (zi t), some (zi f), some (zi g), some (zi i), some (zi 0), none]) h dX9_fitting_1 (Nat.le_of_ble_eq_true rfl) rfl rfl ?_
  refine z_iconst (pc := 3) h dX9_fitting_3 ?_
  refine z_istore (pc := 4) (loc' := [some (zi s), some (zi t), some (zi f), some (zi g), some (zi i), some (zi 0), some (zi 0)]) h dX9_fitting_4 (Nat.le_of_ble_eq_true rfl) rfl rfl ?_
  have J6 : ∀ (N : Nat) (c u : Int) (hu : 0 ≤ u ∧ u ≤ 1000) (hc : 0 ≤ c ∧ c ≤ u) (hI : scanR (fitB s t f g) (fun n => (n : Int)) i (1000 - u).toNat u.toNat c = fitsF s t f g i) , (1000 - u).toNat = N → zG x LX 6 [some (zi s), some (zi t), some (zi f), some (zi g), some (zi i), some (zi c), some (zi u)] ([] : List zV) S := by
    intro N
    induction N using Nat.strongRecOn with
    | _ N ih6 => ?_
    intro c u hu hc hI hN6
    refine z_iload (pc := 6) h dX9_fitting_6 rfl ?_
    refine z_sipush (pc := 8) h dX9_fitting_8 rfl ?_
    refine z_icmp_gt (pc := 11) (tgt := 45) h dX9_fitting_11 (by decide) ⟨by omega, by omega⟩ ⟨by decide, by decide⟩ (fun hc11 => ?_) (fun hc11 => ?_)
    ·
      refine z_iconst (pc := 45) h dX9_fitting_45 ?_
      exact z_iret (pc := 46) h dX9_fitting_46 rfl ⟨rfl, congrArg (fun z => some (zi z)) (by first | (rw [if_pos ((fitB_t (by omega)).mpr hr20), if_pos (by omega)] at hI; rw [← hI]; omega) | (rw [scan_0 (by omega), if_neg (by omega)] at hI; exact hI))⟩
    ·
      have J39 : ∀ (c2 : Int) (hc2 : 0 ≤ c2 ∧ c2 ≤ u + 1) (hK : scanR (fitB s t f g) (fun n => (n : Int)) i (1000 - (u + 1)).toNat (u + 1).toNat c2 = fitsF s t f g i) , zG x LX 39 [some (zi s), some (zi t), some (zi f), some (zi g), some (zi i), some (zi c2), some (zi u)] ([] : List zV) S := by
        intro c2 hc2 hK
        refine z_iinc (pc := 39) (loc' := [some (zi s), some (zi t), some (zi f), some (zi g), some (zi i), some (zi c2), some (zi (u + 1))]) h dX9_fitting_39 rfl (Nat.le_of_ble_eq_true rfl) rfl rfl ?_
        refine z_goto (pc := 42) (tgt := 6) h dX9_fitting_42 (by decide) ?_
        exact ih6 _ (by omega) c2 (u + 1) (by omega) (by omega) (by exact hK) rfl
      rw [scan_s (r' := (1000 - (u + 1)).toNat) (t' := (u + 1).toNat) (by omega) (by omega)] at hI
      refine z_iload_n (pc := 14) h dX9_fitting_14 rfl ?_
      refine z_iload_n (pc := 15) h dX9_fitting_15 rfl ?_
      refine z_iload (pc := 16) h dX9_fitting_16 rfl ?_
      refine z_iload_n (pc := 18) h dX9_fitting_18 rfl ?_
      refine z_iload_n (pc := 19) h dX9_fitting_19 rfl ?_
      refine z_callS (pc := 20) (rest := ([] : List zV)) h (m_X9_fit s t u f g S (by first | assumption | omega) (by first | assumption | omega) (by first | assumption | omega) (by first | assumption | omega) (by first | assumption | omega)) dX9_fitting_20 mcX9_fit msX9_fit mlX9_33 rfl rfl ⟨by decide, by decide⟩ rfl (Nat.le_of_ble_eq_true rfl) ?_
      rintro _ _ ⟨rfl, ⟨hr20, rfl⟩ | ⟨hr20, rfl⟩⟩
      ·
        show zG x LX 23 [some (zi s), some (zi t), some (zi f), some (zi g), some (zi i), some (zi c), some (zi u)] [zi 1] S
        refine z_if_eq (pc := 23) (tgt := 39) h dX9_fitting_23 (by decide) ⟨by decide, by decide⟩ (fun hc23 => absurd hc23 (by decide)) (fun hc23 => ?_)
        refine z_iload (pc := 26) h dX9_fitting_26 rfl ?_
        refine z_iload (pc := 28) h dX9_fitting_28 rfl ?_
        refine z_icmp_ne (pc := 30) (tgt := 36) h dX9_fitting_30 (by decide) ⟨by omega, by omega⟩ ⟨by omega, by omega⟩ (fun hc30 => ?_) (fun hc30 => ?_)
        ·
          refine z_iinc (pc := 36) (loc' := [some (zi s), some (zi t), some (zi f), some (zi g), some (zi i), some (zi (c + 1)), some (zi u)]) h dX9_fitting_36 rfl (Nat.le_of_ble_eq_true rfl) rfl rfl ?_
          exact J39 (c + 1) (by omega) (by first | (rw [if_pos ((fitB_t (by omega)).mpr hr20), if_neg (by omega)] at hI; exact hI) | (rw [if_neg (fun q => hr20 ((fitB_t (by omega)).mp q))] at hI; exact hI))
        ·
          refine z_iload (pc := 33) h dX9_fitting_33 rfl ?_
          exact z_iret (pc := 35) h dX9_fitting_35 rfl ⟨rfl, congrArg (fun z => some (zi z)) (by first | (rw [if_pos ((fitB_t (by omega)).mpr hr20), if_pos (by omega)] at hI; rw [← hI]; omega) | (rw [scan_0 (by omega), if_neg (by omega)] at hI; exact hI))⟩
      ·
        show zG x LX 23 [some (zi s), some (zi t), some (zi f), some (zi g), some (zi i), some (zi c), some (zi u)] [zi 0] S
        refine z_if_eq (pc := 23) (tgt := 39) h dX9_fitting_23 (by decide) ⟨by decide, by decide⟩ (fun hc23 => ?_) (fun hc23 => absurd hc23 (by decide))
        exact J39 c (by omega) (by first | (rw [if_pos ((fitB_t (by omega)).mpr hr20), if_neg (by omega)] at hI; exact hI) | (rw [if_neg (fun q => hr20 ((fitB_t (by omega)).mp q))] at hI; exact hI))
  exact J6 _ 0 0 (by omega) (by omega) (rfl) rfl

set_option maxRecDepth 100000 in
set_option maxHeartbeats 4000000 in
theorem m_X10_drum (a b c : Int) (S : SS) (ha : r32 a) (hb : r32 b) (hc : r32 c) : zM LX yX10_drum cX10_drum 4 (some .int) 5 108 [zr 0, zi a, zi b, zi c] S (fun r S' => S = S' ∧ r = some (zi (sp_drum a b c))) := by
  refine zM_of (own := RX10) rfl (by decide +kernel) [some (zr 0), some (zi a), some (zi b), some (zi c)] (Nat.le_of_ble_eq_true rfl) rfl ?_
  intro x h
  refine z_iload_n (pc := 0) h dX10_drum_0 rfl ?_
  refine z_iload_n (pc := 1) h dX10_drum_1 rfl ?_
  refine z_callS (pc := 2) (rest := ([] : List zV)) h (m_X1_stands a b S ⟨by omega, by omega⟩ ⟨by omega, by omega⟩) dX10_drum_2 mcX1_stands msX1_stands mlX10_105 rfl rfl ⟨by decide, by decide⟩ rfl (Nat.le_of_ble_eq_true rfl) ?_
  rintro _ _ ⟨rfl, ⟨hr2, rfl⟩ | ⟨hr2, rfl⟩⟩
  ·
    show zG x LX 5 [some (zr 0), some (zi a), some (zi b), some (zi c)] [zi 1] S
    refine z_if_eq (pc := 5) (tgt := 17) h dX10_drum_5 (by decide) ⟨by decide, by decide⟩ (fun hc5 => absurd hc5 (by decide)) (fun hc5 => ?_)
    refine z_iload_n (pc := 8) h dX10_drum_8 rfl ?_
    refine z_iconst (pc := 9) h dX10_drum_9 ?_
    refine z_iconst (pc := 10) h dX10_drum_10 ?_
    refine z_callS (pc := 11) (rest := ([] : List zV)) h (m_X10_within c 0 1 S ⟨by omega, by omega⟩ ⟨by decide, by decide⟩ ⟨by decide, by decide⟩) dX10_drum_11 mcX10_within msX10_within mlX10_75 rfl rfl ⟨by decide, by decide⟩ rfl (Nat.le_of_ble_eq_true rfl) ?_
    rintro _ _ ⟨rfl, ⟨hr11, rfl⟩ | ⟨hr11, rfl⟩⟩
    ·
      show zG x LX 14 [some (zr 0), some (zi a), some (zi b), some (zi c)] [zi 1] S
      refine z_if_ne (pc := 14) (tgt := 20) h dX10_drum_14 (by decide) ⟨by decide, by decide⟩ (fun hc14 => ?_) (fun hc14 => absurd hc14 (by decide))
      refine z_iload_n (pc := 20) h dX10_drum_20 rfl ?_
      refine z_if_ne (pc := 21) (tgt := 32) h dX10_drum_21 (by decide) ⟨by omega, by omega⟩ (fun hc21 => ?_) (fun hc21 => ?_)
      ·
        refine z_iload_n (pc := 32) h dX10_drum_32 rfl ?_
        refine z_iload_n (pc := 33) h dX10_drum_33 rfl ?_
        refine z_callS (pc := 34) (rest := ([] : List zV)) h (m_X1_seemingOf a b S (by first | assumption | omega) (by first | assumption | omega)) dX10_drum_34 mcX1_seemingOf msX1_seemingOf mlX10_114 rfl rfl ⟨by decide, by decide⟩ rfl (Nat.le_of_ble_eq_true rfl) ?_
        rintro _ _ ⟨rfl, rfl⟩
        show zG x LX 37 [some (zr 0), some (zi a), some (zi b), some (zi c)] [zi (seemF a b)] S
        exact z_iret (pc := 37) h dX10_drum_37 rfl ⟨rfl, congrArg (fun z => some (zi z)) (by unfold sp_drum; (repeat' split) <;> first | rfl | omega)⟩
      ·
        refine z_iload_n (pc := 24) h dX10_drum_24 rfl ?_
        refine z_iload_n (pc := 25) h dX10_drum_25 rfl ?_
        refine z_callS (pc := 26) (rest := ([] : List zV)) h (m_X1_advanceOf a b S (by first | assumption | omega) (by first | assumption | omega)) dX10_drum_26 mcX1_advanceOf msX1_advanceOf mlX10_111 rfl rfl ⟨by decide, by decide⟩ rfl (Nat.le_of_ble_eq_true rfl) ?_
        rintro _ _ ⟨rfl, rfl⟩
        show zG x LX 29 [some (zr 0), some (zi a), some (zi b), some (zi c)] [zi (nearF b a)] S
        refine z_goto (pc := 29) (tgt := 37) h dX10_drum_29 (by decide) ?_
        exact z_iret (pc := 37) h dX10_drum_37 rfl ⟨rfl, congrArg (fun z => some (zi z)) (by unfold sp_drum; (repeat' split) <;> first | rfl | omega)⟩
    ·
      show zG x LX 14 [some (zr 0), some (zi a), some (zi b), some (zi c)] [zi 0] S
      refine z_if_ne (pc := 14) (tgt := 20) h dX10_drum_14 (by decide) ⟨by decide, by decide⟩ (fun hc14 => absurd hc14 (by decide)) (fun hc14 => ?_)
      refine z_bipush (pc := 17) h dX10_drum_17 rfl ?_
      exact z_iret (pc := 19) h dX10_drum_19 rfl ⟨rfl, congrArg (fun z => some (zi z)) (by unfold sp_drum; (repeat' split) <;> first | rfl | omega)⟩
  ·
    show zG x LX 5 [some (zr 0), some (zi a), some (zi b), some (zi c)] [zi 0] S
    refine z_if_eq (pc := 5) (tgt := 17) h dX10_drum_5 (by decide) ⟨by decide, by decide⟩ (fun hc5 => ?_) (fun hc5 => absurd hc5 (by decide))
    refine z_bipush (pc := 17) h dX10_drum_17 rfl ?_
    exact z_iret (pc := 19) h dX10_drum_19 rfl ⟨rfl, congrArg (fun z => some (zi z)) (by unfold sp_drum; (repeat' split) <;> first | rfl | omega)⟩

set_option maxRecDepth 100000 in
set_option maxHeartbeats 4000000 in
theorem m_X10_drift (a b c : Int) (S : SS) (ha : r32 a) (hb : r32 b) (hc : r32 c) : zM LX yX10_drift cX10_drift 4 (some .long) 4 85 [zr 0, zi a, zi b, zi c] S (fun r S' => S = S' ∧ r = some (zl (sp_drift a b c))) := by
  refine zM_of (own := RX10) rfl (by decide +kernel) [some (zr 0), some (zi a), some (zi b), some (zi c)] (Nat.le_of_ble_eq_true rfl) rfl ?_
  intro x h
  refine z_iload_n (pc := 0) h dX10_drift_0 rfl ?_
  refine z_iload_n (pc := 1) h dX10_drift_1 rfl ?_
  refine z_callS (pc := 2) (rest := ([] : List zV)) h (m_X1_stands a b S ⟨by omega, by omega⟩ ⟨by omega, by omega⟩) dX10_drift_2 mcX1_stands msX1_stands mlX10_105 rfl rfl ⟨by decide, by decide⟩ rfl (Nat.le_of_ble_eq_true rfl) ?_
  rintro _ _ ⟨rfl, ⟨hr2, rfl⟩ | ⟨hr2, rfl⟩⟩
  ·
    show zG x LX 5 [some (zr 0), some (zi a), some (zi b), some (zi c)] [zi 1] S
    refine z_if_eq (pc := 5) (tgt := 17) h dX10_drift_5 (by decide) ⟨by decide, by decide⟩ (fun hc5 => absurd hc5 (by decide)) (fun hc5 => ?_)
    refine z_iload_n (pc := 8) h dX10_drift_8 rfl ?_
    refine z_iconst (pc := 9) h dX10_drift_9 ?_
    refine z_iconst (pc := 10) h dX10_drift_10 ?_
    refine z_callS (pc := 11) (rest := ([] : List zV)) h (m_X10_within c 0 1 S ⟨by omega, by omega⟩ ⟨by decide, by decide⟩ ⟨by decide, by decide⟩) dX10_drift_11 mcX10_within msX10_within mlX10_75 rfl rfl ⟨by decide, by decide⟩ rfl (Nat.le_of_ble_eq_true rfl) ?_
    rintro _ _ ⟨rfl, ⟨hr11, rfl⟩ | ⟨hr11, rfl⟩⟩
    ·
      show zG x LX 14 [some (zr 0), some (zi a), some (zi b), some (zi c)] [zi 1] S
      refine z_if_ne (pc := 14) (tgt := 23) h dX10_drift_14 (by decide) ⟨by decide, by decide⟩ (fun hc14 => ?_) (fun hc14 => absurd hc14 (by decide))
      refine z_iload_n (pc := 23) h dX10_drift_23 rfl ?_
      refine z_iload_n (pc := 24) h dX10_drift_24 rfl ?_
      refine z_callS (pc := 25) (rest := ([] : List zV)) h (m_X1_driftAbove a b S (by first | assumption | omega) (by first | assumption | omega)) dX10_drift_25 mcX1_driftAbove msX1_driftAbove mlX10_121 rfl rfl ⟨by decide, by decide⟩ rfl (Nat.le_of_ble_eq_true rfl) ?_
      rintro _ _ ⟨rfl, rfl⟩
      show zG x LX 28 [some (zr 0), some (zi a), some (zi b), some (zi c)] [zi (b - nearF b a * a)] S
      have hB := near_b b (b := a) (by omega)
      refine z_iload_n (pc := 28) h dX10_drift_28 rfl ?_
      refine z_iload_n (pc := 29) h dX10_drift_29 rfl ?_
      refine z_callS (pc := 30) (rest := ([] : List zV)) h (m_X2_told (b - nearF b a * a) a c S (by first | assumption | omega) (by first | assumption | omega) ⟨by omega, by omega⟩) dX10_drift_30 mcX2_told msX2_told mlX10_124 rfl rfl ⟨by decide, by decide⟩ rfl (Nat.le_of_ble_eq_true rfl) ?_
      rintro _ _ ⟨rfl, rfl⟩
      show zG x LX 33 [some (zr 0), some (zi a), some (zi b), some (zi c)] [zi (toldF (b - nearF b a * a) a c)] S
      have hT := told_b (a := b - nearF b a * a) (b := a) c (by omega) (by omega)
      refine z_i2l (pc := 33) h dX10_drift_33 ⟨by omega, by omega⟩ ?_
      exact z_lret (pc := 34) h dX10_drift_34 rfl ⟨rfl, congrArg (fun z => some (zl z)) (by unfold sp_drift; (repeat' split) <;> first | rfl | omega)⟩
    ·
      show zG x LX 14 [some (zr 0), some (zi a), some (zi b), some (zi c)] [zi 0] S
      refine z_if_ne (pc := 14) (tgt := 23) h dX10_drift_14 (by decide) ⟨by decide, by decide⟩ (fun hc14 => absurd hc14 (by decide)) (fun hc14 => ?_)
      refine z_bipush (pc := 17) h dX10_drift_17 rfl ?_
      refine z_callS (pc := 19) (rest := ([] : List zV)) h (m_X10_asLong (-2) S ⟨by decide, by decide⟩) dX10_drift_19 mcX10_asLong msX10_asLong mlX10_117 rfl rfl ⟨by decide, by decide⟩ rfl (Nat.le_of_ble_eq_true rfl) ?_
      rintro _ _ ⟨rfl, rfl⟩
      show zG x LX 22 [some (zr 0), some (zi a), some (zi b), some (zi c)] [zl (-9223372036854775808 - (-2))] S
      exact z_lret (pc := 22) h dX10_drift_22 rfl ⟨rfl, congrArg (fun z => some (zl z)) (by unfold sp_drift; (repeat' split) <;> first | rfl | omega)⟩
  ·
    show zG x LX 5 [some (zr 0), some (zi a), some (zi b), some (zi c)] [zi 0] S
    refine z_if_eq (pc := 5) (tgt := 17) h dX10_drift_5 (by decide) ⟨by decide, by decide⟩ (fun hc5 => ?_) (fun hc5 => absurd hc5 (by decide))
    refine z_bipush (pc := 17) h dX10_drift_17 rfl ?_
    refine z_callS (pc := 19) (rest := ([] : List zV)) h (m_X10_asLong (-2) S ⟨by decide, by decide⟩) dX10_drift_19 mcX10_asLong msX10_asLong mlX10_117 rfl rfl ⟨by decide, by decide⟩ rfl (Nat.le_of_ble_eq_true rfl) ?_
    rintro _ _ ⟨rfl, rfl⟩
    show zG x LX 22 [some (zr 0), some (zi a), some (zi b), some (zi c)] [zl (-9223372036854775808 - (-2))] S
    exact z_lret (pc := 22) h dX10_drift_22 rfl ⟨rfl, congrArg (fun z => some (zl z)) (by unfold sp_drift; (repeat' split) <;> first | rfl | omega)⟩

set_option maxRecDepth 100000 in
set_option maxHeartbeats 4000000 in
theorem m_X10_numbers (a b c : Int) (S : SS) (ha : r32 a) (hb : r32 b) (hc : r32 c) : zM LX yX10_numbers cX10_numbers 4 (some .int) 6 133 [zr 0, zi a, zi b, zi c] S (fun r S' => S = S' ∧ r = some (zi (sp_numbers a b c))) := by
  refine zM_of (own := RX10) rfl (by decide +kernel) [some (zr 0), some (zi a), some (zi b), some (zi c)] (Nat.le_of_ble_eq_true rfl) rfl ?_
  intro x h
  refine z_iload_n (pc := 0) h dX10_numbers_0 rfl ?_
  refine z_iconst (pc := 1) h dX10_numbers_1 ?_
  refine z_bipush (pc := 2) h dX10_numbers_2 rfl ?_
  refine z_callS (pc := 4) (rest := ([] : List zV)) h (m_X10_within a 0 24 S ⟨by omega, by omega⟩ ⟨by decide, by decide⟩ ⟨by decide, by decide⟩) dX10_numbers_4 mcX10_within msX10_within mlX10_75 rfl rfl ⟨by decide, by decide⟩ rfl (Nat.le_of_ble_eq_true rfl) ?_
  rintro _ _ ⟨rfl, ⟨hr4, rfl⟩ | ⟨hr4, rfl⟩⟩
  ·
    show zG x LX 7 [some (zr 0), some (zi a), some (zi b), some (zi c)] [zi 1] S
    refine z_if_eq (pc := 7) (tgt := 24) h dX10_numbers_7 (by decide) ⟨by decide, by decide⟩ (fun hc7 => absurd hc7 (by decide)) (fun hc7 => ?_)
    refine z_iload_n (pc := 10) h dX10_numbers_10 rfl ?_
    refine z_iconst (pc := 11) h dX10_numbers_11 ?_
    refine z_iconst (pc := 12) h dX10_numbers_12 ?_
    refine z_callS (pc := 13) (rest := ([] : List zV)) h (m_X10_within b 0 3 S ⟨by omega, by omega⟩ ⟨by decide, by decide⟩ ⟨by decide, by decide⟩) dX10_numbers_13 mcX10_within msX10_within mlX10_75 rfl rfl ⟨by decide, by decide⟩ rfl (Nat.le_of_ble_eq_true rfl) ?_
    rintro _ _ ⟨rfl, ⟨hr13, rfl⟩ | ⟨hr13, rfl⟩⟩
    ·
      show zG x LX 16 [some (zr 0), some (zi a), some (zi b), some (zi c)] [zi 1] S
      refine z_if_eq (pc := 16) (tgt := 24) h dX10_numbers_16 (by decide) ⟨by decide, by decide⟩ (fun hc16 => absurd hc16 (by decide)) (fun hc16 => ?_)
      refine z_iload_n (pc := 19) h dX10_numbers_19 rfl ?_
      refine z_iconst (pc := 20) h dX10_numbers_20 ?_
      refine z_icmp_ge (pc := 21) (tgt := 27) h dX10_numbers_21 (by decide) ⟨by omega, by omega⟩ ⟨by decide, by decide⟩ (fun hc21 => ?_) (fun hc21 => ?_)
      ·
        refine z_iload_n (pc := 27) h dX10_numbers_27 rfl ?_
        refine z_iload_n (pc := 28) h dX10_numbers_28 rfl ?_
        refine z_iload_n (pc := 29) h dX10_numbers_29 rfl ?_
        refine z_callS (pc := 30) (rest := ([] : List zV)) h (m_X1_pairs a b c S ⟨by omega, by omega⟩ ⟨by omega, by omega⟩ ⟨by omega, by omega⟩) dX10_numbers_30 mcX1_pairs msX1_pairs mlX10_138 rfl rfl ⟨by decide, by decide⟩ rfl (Nat.le_of_ble_eq_true rfl) ?_
        rintro _ _ ⟨rfl, rfl⟩
        show zG x LX 33 [some (zr 0), some (zi a), some (zi b), some (zi c)] [zi (pairsF a b c)] S
        exact z_iret (pc := 33) h dX10_numbers_33 rfl ⟨rfl, congrArg (fun z => some (zi z)) (by unfold sp_numbers; (repeat' split) <;> first | rfl | omega)⟩
      ·
        refine z_bipush (pc := 24) h dX10_numbers_24 rfl ?_
        exact z_iret (pc := 26) h dX10_numbers_26 rfl ⟨rfl, congrArg (fun z => some (zi z)) (by unfold sp_numbers; (repeat' split) <;> first | rfl | omega)⟩
    ·
      show zG x LX 16 [some (zr 0), some (zi a), some (zi b), some (zi c)] [zi 0] S
      refine z_if_eq (pc := 16) (tgt := 24) h dX10_numbers_16 (by decide) ⟨by decide, by decide⟩ (fun hc16 => ?_) (fun hc16 => absurd hc16 (by decide))
      refine z_bipush (pc := 24) h dX10_numbers_24 rfl ?_
      exact z_iret (pc := 26) h dX10_numbers_26 rfl ⟨rfl, congrArg (fun z => some (zi z)) (by unfold sp_numbers; (repeat' split) <;> first | rfl | omega)⟩
  ·
    show zG x LX 7 [some (zr 0), some (zi a), some (zi b), some (zi c)] [zi 0] S
    refine z_if_eq (pc := 7) (tgt := 24) h dX10_numbers_7 (by decide) ⟨by decide, by decide⟩ (fun hc7 => ?_) (fun hc7 => absurd hc7 (by decide))
    refine z_bipush (pc := 24) h dX10_numbers_24 rfl ?_
    exact z_iret (pc := 26) h dX10_numbers_26 rfl ⟨rfl, congrArg (fun z => some (zi z)) (by unfold sp_numbers; (repeat' split) <;> first | rfl | omega)⟩

set_option maxRecDepth 100000 in
set_option maxHeartbeats 4000000 in
theorem m_X10_wheel (a b c d : Int) (S : SS) (ha : r32 a) (hb : r32 b) (hc : r32 c) (hd : r32 d) : zM LX yX10_wheel cX10_wheel 5 (some .long) 3 67 [zr 0, zi a, zi b, zi c, zi d] S (fun r S' => S = S' ∧ r = some (zl (sp_wheel a b c d))) := by
  refine zM_of (own := RX10) rfl (by decide +kernel) [some (zr 0), some (zi a), some (zi b), some (zi c), some (zi d)] (Nat.le_of_ble_eq_true rfl) rfl ?_
  intro x h
  refine z_iload_n (pc := 0) h dX10_wheel_0 rfl ?_
  refine z_iload_n (pc := 1) h dX10_wheel_1 rfl ?_
  refine z_iload_n (pc := 2) h dX10_wheel_2 rfl ?_
  refine z_callS (pc := 3) (rest := ([] : List zV)) h (m_X9_stands a b c S ⟨by omega, by omega⟩ ⟨by omega, by omega⟩ ⟨by omega, by omega⟩) dX10_wheel_3 mcX9_stands msX9_stands mlX10_141 rfl rfl ⟨by decide, by decide⟩ rfl (Nat.le_of_ble_eq_true rfl) ?_
  rintro _ _ ⟨rfl, ⟨hr3, rfl⟩ | ⟨hr3, rfl⟩⟩
  ·
    show zG x LX 6 [some (zr 0), some (zi a), some (zi b), some (zi c), some (zi d)] [zi 1] S
    refine z_if_eq (pc := 6) (tgt := 19) h dX10_wheel_6 (by decide) ⟨by decide, by decide⟩ (fun hc6 => absurd hc6 (by decide)) (fun hc6 => ?_)
    refine z_iload (pc := 9) h dX10_wheel_9 rfl ?_
    refine z_iconst (pc := 11) h dX10_wheel_11 ?_
    refine z_iconst (pc := 12) h dX10_wheel_12 ?_
    refine z_callS (pc := 13) (rest := ([] : List zV)) h (m_X10_within d 0 1 S ⟨by omega, by omega⟩ ⟨by decide, by decide⟩ ⟨by decide, by decide⟩) dX10_wheel_13 mcX10_within msX10_within mlX10_75 rfl rfl ⟨by decide, by decide⟩ rfl (Nat.le_of_ble_eq_true rfl) ?_
    rintro _ _ ⟨rfl, ⟨hr13, rfl⟩ | ⟨hr13, rfl⟩⟩
    ·
      show zG x LX 16 [some (zr 0), some (zi a), some (zi b), some (zi c), some (zi d)] [zi 1] S
      refine z_if_ne (pc := 16) (tgt := 25) h dX10_wheel_16 (by decide) ⟨by decide, by decide⟩ (fun hc16 => ?_) (fun hc16 => absurd hc16 (by decide))
      refine z_iload_n (pc := 25) h dX10_wheel_25 rfl ?_
      refine z_iload_n (pc := 26) h dX10_wheel_26 rfl ?_
      refine z_iload_n (pc := 27) h dX10_wheel_27 rfl ?_
      refine z_callS (pc := 28) (rest := ([] : List zV)) h (m_X9_seemsAbove a b c S (by first | assumption | omega) (by first | assumption | omega) (by first | assumption | omega)) dX10_wheel_28 mcX9_seemsAbove msX9_seemsAbove mlX10_145 rfl rfl ⟨by decide, by decide⟩ rfl (Nat.le_of_ble_eq_true rfl) ?_
      rintro _ _ ⟨rfl, rfl⟩
      show zG x LX 31 [some (zr 0), some (zi a), some (zi b), some (zi c), some (zi d)] [zi (seemW a b c)] S
      refine z_iload_n (pc := 31) h dX10_wheel_31 rfl ?_
      refine z_callS (pc := 32) (rest := [zi (seemW a b c)]) h (m_X9_seemsBelow c S ) dX10_wheel_32 mcX9_seemsBelow msX9_seemsBelow mlX10_148 rfl rfl ⟨by decide, by decide⟩ rfl (Nat.le_of_ble_eq_true rfl) ?_
      rintro _ _ ⟨rfl, rfl⟩
      show zG x LX 35 [some (zr 0), some (zi a), some (zi b), some (zi c), some (zi d)] [zi (60 * c), zi (seemW a b c)] S
      refine z_iload (pc := 35) h dX10_wheel_35 rfl ?_
      have hB := seemW_b a b (f := c) (by omega)
      refine z_callS (pc := 37) (rest := ([] : List zV)) h (m_X2_told (seemW a b c) (60 * c) d S (by first | assumption | omega) (by first | assumption | omega) ⟨by omega, by omega⟩) dX10_wheel_37 mcX2_told msX2_told mlX10_124 rfl rfl ⟨by decide, by decide⟩ rfl (Nat.le_of_ble_eq_true rfl) ?_
      rintro _ _ ⟨rfl, rfl⟩
      show zG x LX 40 [some (zr 0), some (zi a), some (zi b), some (zi c), some (zi d)] [zi (toldF (seemW a b c) (60 * c) d)] S
      have hT := told_b (a := seemW a b c) (b := 60 * c) d (by omega) (by omega)
      refine z_i2l (pc := 40) h dX10_wheel_40 ⟨by omega, by omega⟩ ?_
      exact z_lret (pc := 41) h dX10_wheel_41 rfl ⟨rfl, congrArg (fun z => some (zl z)) (by unfold sp_wheel; (repeat' split) <;> first | rfl | omega)⟩
    ·
      show zG x LX 16 [some (zr 0), some (zi a), some (zi b), some (zi c), some (zi d)] [zi 0] S
      refine z_if_ne (pc := 16) (tgt := 25) h dX10_wheel_16 (by decide) ⟨by decide, by decide⟩ (fun hc16 => absurd hc16 (by decide)) (fun hc16 => ?_)
      refine z_bipush (pc := 19) h dX10_wheel_19 rfl ?_
      refine z_callS (pc := 21) (rest := ([] : List zV)) h (m_X10_asLong (-2) S ⟨by decide, by decide⟩) dX10_wheel_21 mcX10_asLong msX10_asLong mlX10_117 rfl rfl ⟨by decide, by decide⟩ rfl (Nat.le_of_ble_eq_true rfl) ?_
      rintro _ _ ⟨rfl, rfl⟩
      show zG x LX 24 [some (zr 0), some (zi a), some (zi b), some (zi c), some (zi d)] [zl (-9223372036854775808 - (-2))] S
      exact z_lret (pc := 24) h dX10_wheel_24 rfl ⟨rfl, congrArg (fun z => some (zl z)) (by unfold sp_wheel; (repeat' split) <;> first | rfl | omega)⟩
  ·
    show zG x LX 6 [some (zr 0), some (zi a), some (zi b), some (zi c), some (zi d)] [zi 0] S
    refine z_if_eq (pc := 6) (tgt := 19) h dX10_wheel_6 (by decide) ⟨by decide, by decide⟩ (fun hc6 => ?_) (fun hc6 => absurd hc6 (by decide))
    refine z_bipush (pc := 19) h dX10_wheel_19 rfl ?_
    refine z_callS (pc := 21) (rest := ([] : List zV)) h (m_X10_asLong (-2) S ⟨by decide, by decide⟩) dX10_wheel_21 mcX10_asLong msX10_asLong mlX10_117 rfl rfl ⟨by decide, by decide⟩ rfl (Nat.le_of_ble_eq_true rfl) ?_
    rintro _ _ ⟨rfl, rfl⟩
    show zG x LX 24 [some (zr 0), some (zi a), some (zi b), some (zi c), some (zi d)] [zl (-9223372036854775808 - (-2))] S
    exact z_lret (pc := 24) h dX10_wheel_24 rfl ⟨rfl, congrArg (fun z => some (zl z)) (by unfold sp_wheel; (repeat' split) <;> first | rfl | omega)⟩

set_option maxRecDepth 100000 in
set_option maxHeartbeats 4000000 in
theorem m_X10_fits (a b c d e : Int) (S : SS) (ha : r32 a) (hb : r32 b) (hc : r32 c) (hd : r32 d) (he : r32 e) : zM LX yX10_fits cX10_fits 6 (some .int) 6 140 [zr 0, zi a, zi b, zi c, zi d, zi e] S (fun r S' => S = S' ∧ r = some (zi (sp_fits a b c d e))) := by
  refine zM_of (own := RX10) rfl (by decide +kernel) [some (zr 0), some (zi a), some (zi b), some (zi c), some (zi d), some (zi e)] (Nat.le_of_ble_eq_true rfl) rfl ?_
  intro x h
  refine z_iload_n (pc := 0) h dX10_fits_0 rfl ?_
  refine z_iload_n (pc := 1) h dX10_fits_1 rfl ?_
  refine z_iload_n (pc := 2) h dX10_fits_2 rfl ?_
  refine z_callS (pc := 3) (rest := ([] : List zV)) h (m_X9_stands a b c S ⟨by omega, by omega⟩ ⟨by omega, by omega⟩ ⟨by omega, by omega⟩) dX10_fits_3 mcX9_stands msX9_stands mlX10_141 rfl rfl ⟨by decide, by decide⟩ rfl (Nat.le_of_ble_eq_true rfl) ?_
  rintro _ _ ⟨rfl, ⟨hr3, rfl⟩ | ⟨hr3, rfl⟩⟩
  ·
    show zG x LX 6 [some (zr 0), some (zi a), some (zi b), some (zi c), some (zi d), some (zi e)] [zi 1] S
    refine z_if_eq (pc := 6) (tgt := 23) h dX10_fits_6 (by decide) ⟨by decide, by decide⟩ (fun hc6 => absurd hc6 (by decide)) (fun hc6 => ?_)
    refine z_iload (pc := 9) h dX10_fits_9 rfl ?_
    refine z_callS (pc := 11) (rest := ([] : List zV)) h (m_X9_isSecond d S ⟨by omega, by omega⟩) dX10_fits_11 mcX9_isSecond msX9_isSecond mlX10_151 rfl rfl ⟨by decide, by decide⟩ rfl (Nat.le_of_ble_eq_true rfl) ?_
    rintro _ _ ⟨rfl, ⟨hr11, rfl⟩ | ⟨hr11, rfl⟩⟩
    ·
      show zG x LX 14 [some (zr 0), some (zi a), some (zi b), some (zi c), some (zi d), some (zi e)] [zi 1] S
      refine z_if_eq (pc := 14) (tgt := 23) h dX10_fits_14 (by decide) ⟨by decide, by decide⟩ (fun hc14 => absurd hc14 (by decide)) (fun hc14 => ?_)
      refine z_iload (pc := 17) h dX10_fits_17 rfl ?_
      refine z_iconst (pc := 19) h dX10_fits_19 ?_
      refine z_icmp_ge (pc := 20) (tgt := 26) h dX10_fits_20 (by decide) ⟨by omega, by omega⟩ ⟨by decide, by decide⟩ (fun hc20 => ?_) (fun hc20 => ?_)
      ·
        refine z_iload (pc := 26) h dX10_fits_26 rfl ?_
        refine z_iconst (pc := 28) h dX10_fits_28 ?_
        refine z_icmp_ne (pc := 29) (tgt := 44) h dX10_fits_29 (by decide) ⟨by omega, by omega⟩ ⟨by decide, by decide⟩ (fun hc29 => ?_) (fun hc29 => ?_)
        ·
          refine z_iload_n (pc := 44) h dX10_fits_44 rfl ?_
          refine z_iload_n (pc := 45) h dX10_fits_45 rfl ?_
          refine z_iload_n (pc := 46) h dX10_fits_46 rfl ?_
          refine z_iload (pc := 47) h dX10_fits_47 rfl ?_
          refine z_iload (pc := 49) h dX10_fits_49 rfl ?_
          refine z_callS (pc := 51) (rest := ([] : List zV)) h (m_X9_fitting a b c d e S (by first | assumption | omega) (by first | assumption | omega) (by first | assumption | omega) (by first | assumption | omega) (by first | assumption | omega)) dX10_fits_51 mcX9_fitting msX9_fitting mlX10_158 rfl rfl ⟨by decide, by decide⟩ rfl (Nat.le_of_ble_eq_true rfl) ?_
          rintro _ _ ⟨rfl, rfl⟩
          show zG x LX 54 [some (zr 0), some (zi a), some (zi b), some (zi c), some (zi d), some (zi e)] [zi (fitsF a b c d e)] S
          exact z_iret (pc := 54) h dX10_fits_54 rfl ⟨rfl, congrArg (fun z => some (zi z)) (by unfold sp_fits; (repeat' split) <;> first | rfl | omega | (rw [show e = -1 by omega]; rfl))⟩
        ·
          refine z_iload_n (pc := 32) h dX10_fits_32 rfl ?_
          refine z_iload_n (pc := 33) h dX10_fits_33 rfl ?_
          refine z_iload_n (pc := 34) h dX10_fits_34 rfl ?_
          refine z_iload (pc := 35) h dX10_fits_35 rfl ?_
          refine z_sipush (pc := 37) h dX10_fits_37 rfl ?_
          refine z_callS (pc := 40) (rest := ([] : List zV)) h (m_X9_howManyFit a b c d 999 S (by first | assumption | omega) (by first | assumption | omega) (by first | assumption | omega) (by first | assumption | omega) (by first | assumption | omega)) dX10_fits_40 mcX9_howManyFit msX9_howManyFit mlX10_154 rfl rfl ⟨by decide, by decide⟩ rfl (Nat.le_of_ble_eq_true rfl) ?_
          rintro _ _ ⟨rfl, rfl⟩
          show zG x LX 43 [some (zr 0), some (zi a), some (zi b), some (zi c), some (zi d), some (zi e)] [zi (upToF a b c d 999)] S
          exact z_iret (pc := 43) h dX10_fits_43 rfl ⟨rfl, congrArg (fun z => some (zi z)) (by unfold sp_fits; (repeat' split) <;> first | rfl | omega | (rw [show e = -1 by omega]; rfl))⟩
      ·
        refine z_bipush (pc := 23) h dX10_fits_23 rfl ?_
        exact z_iret (pc := 25) h dX10_fits_25 rfl ⟨rfl, congrArg (fun z => some (zi z)) (by unfold sp_fits; (repeat' split) <;> first | rfl | omega | (rw [show e = -1 by omega]; rfl))⟩
    ·
      show zG x LX 14 [some (zr 0), some (zi a), some (zi b), some (zi c), some (zi d), some (zi e)] [zi 0] S
      refine z_if_eq (pc := 14) (tgt := 23) h dX10_fits_14 (by decide) ⟨by decide, by decide⟩ (fun hc14 => ?_) (fun hc14 => absurd hc14 (by decide))
      refine z_bipush (pc := 23) h dX10_fits_23 rfl ?_
      exact z_iret (pc := 25) h dX10_fits_25 rfl ⟨rfl, congrArg (fun z => some (zi z)) (by unfold sp_fits; (repeat' split) <;> first | rfl | omega | (rw [show e = -1 by omega]; rfl))⟩
  ·
    show zG x LX 6 [some (zr 0), some (zi a), some (zi b), some (zi c), some (zi d), some (zi e)] [zi 0] S
    refine z_if_eq (pc := 6) (tgt := 23) h dX10_fits_6 (by decide) ⟨by decide, by decide⟩ (fun hc6 => ?_) (fun hc6 => absurd hc6 (by decide))
    refine z_bipush (pc := 23) h dX10_fits_23 rfl ?_
    exact z_iret (pc := 25) h dX10_fits_25 rfl ⟨rfl, congrArg (fun z => some (zi z)) (by unfold sp_fits; (repeat' split) <;> first | rfl | omega | (rw [show e = -1 by omega]; rfl))⟩

set_option maxRecDepth 100000 in
set_option maxHeartbeats 4000000 in
theorem m_X10_upTo (a b c d e : Int) (S : SS) (ha : r32 a) (hb : r32 b) (hc : r32 c) (hd : r32 d) (he : r32 e) : zM LX yX10_upTo cX10_upTo 6 (some .int) 6 140 [zr 0, zi a, zi b, zi c, zi d, zi e] S (fun r S' => S = S' ∧ r = some (zi (sp_upTo a b c d e))) := by
  refine zM_of (own := RX10) rfl (by decide +kernel) [some (zr 0), some (zi a), some (zi b), some (zi c), some (zi d), some (zi e)] (Nat.le_of_ble_eq_true rfl) rfl ?_
  intro x h
  refine z_iload_n (pc := 0) h dX10_upTo_0 rfl ?_
  refine z_iload_n (pc := 1) h dX10_upTo_1 rfl ?_
  refine z_iload_n (pc := 2) h dX10_upTo_2 rfl ?_
  refine z_callS (pc := 3) (rest := ([] : List zV)) h (m_X9_stands a b c S ⟨by omega, by omega⟩ ⟨by omega, by omega⟩ ⟨by omega, by omega⟩) dX10_upTo_3 mcX9_stands msX9_stands mlX10_141 rfl rfl ⟨by decide, by decide⟩ rfl (Nat.le_of_ble_eq_true rfl) ?_
  rintro _ _ ⟨rfl, ⟨hr3, rfl⟩ | ⟨hr3, rfl⟩⟩
  ·
    show zG x LX 6 [some (zr 0), some (zi a), some (zi b), some (zi c), some (zi d), some (zi e)] [zi 1] S
    refine z_if_eq (pc := 6) (tgt := 29) h dX10_upTo_6 (by decide) ⟨by decide, by decide⟩ (fun hc6 => absurd hc6 (by decide)) (fun hc6 => ?_)
    refine z_iload (pc := 9) h dX10_upTo_9 rfl ?_
    refine z_callS (pc := 11) (rest := ([] : List zV)) h (m_X9_isSecond d S ⟨by omega, by omega⟩) dX10_upTo_11 mcX9_isSecond msX9_isSecond mlX10_151 rfl rfl ⟨by decide, by decide⟩ rfl (Nat.le_of_ble_eq_true rfl) ?_
    rintro _ _ ⟨rfl, ⟨hr11, rfl⟩ | ⟨hr11, rfl⟩⟩
    ·
      show zG x LX 14 [some (zr 0), some (zi a), some (zi b), some (zi c), some (zi d), some (zi e)] [zi 1] S
      refine z_if_eq (pc := 14) (tgt := 29) h dX10_upTo_14 (by decide) ⟨by decide, by decide⟩ (fun hc14 => absurd hc14 (by decide)) (fun hc14 => ?_)
      refine z_iload (pc := 17) h dX10_upTo_17 rfl ?_
      refine z_iconst (pc := 19) h dX10_upTo_19 ?_
      refine z_sipush (pc := 20) h dX10_upTo_20 rfl ?_
      refine z_callS (pc := 23) (rest := ([] : List zV)) h (m_X10_within e 0 999 S ⟨by omega, by omega⟩ ⟨by decide, by decide⟩ ⟨by decide, by decide⟩) dX10_upTo_23 mcX10_within msX10_within mlX10_75 rfl rfl ⟨by decide, by decide⟩ rfl (Nat.le_of_ble_eq_true rfl) ?_
      rintro _ _ ⟨rfl, ⟨hr23, rfl⟩ | ⟨hr23, rfl⟩⟩
      ·
        show zG x LX 26 [some (zr 0), some (zi a), some (zi b), some (zi c), some (zi d), some (zi e)] [zi 1] S
        refine z_if_ne (pc := 26) (tgt := 32) h dX10_upTo_26 (by decide) ⟨by decide, by decide⟩ (fun hc26 => ?_) (fun hc26 => absurd hc26 (by decide))
        refine z_iload_n (pc := 32) h dX10_upTo_32 rfl ?_
        refine z_iload_n (pc := 33) h dX10_upTo_33 rfl ?_
        refine z_iload_n (pc := 34) h dX10_upTo_34 rfl ?_
        refine z_iload (pc := 35) h dX10_upTo_35 rfl ?_
        refine z_iload (pc := 37) h dX10_upTo_37 rfl ?_
        refine z_callS (pc := 39) (rest := ([] : List zV)) h (m_X9_howManyFit a b c d e S (by first | assumption | omega) (by first | assumption | omega) (by first | assumption | omega) (by first | assumption | omega) (by first | assumption | omega)) dX10_upTo_39 mcX9_howManyFit msX9_howManyFit mlX10_154 rfl rfl ⟨by decide, by decide⟩ rfl (Nat.le_of_ble_eq_true rfl) ?_
        rintro _ _ ⟨rfl, rfl⟩
        show zG x LX 42 [some (zr 0), some (zi a), some (zi b), some (zi c), some (zi d), some (zi e)] [zi (upToF a b c d e)] S
        exact z_iret (pc := 42) h dX10_upTo_42 rfl ⟨rfl, congrArg (fun z => some (zi z)) (by unfold sp_upTo; (repeat' split) <;> first | rfl | omega)⟩
      ·
        show zG x LX 26 [some (zr 0), some (zi a), some (zi b), some (zi c), some (zi d), some (zi e)] [zi 0] S
        refine z_if_ne (pc := 26) (tgt := 32) h dX10_upTo_26 (by decide) ⟨by decide, by decide⟩ (fun hc26 => absurd hc26 (by decide)) (fun hc26 => ?_)
        refine z_bipush (pc := 29) h dX10_upTo_29 rfl ?_
        exact z_iret (pc := 31) h dX10_upTo_31 rfl ⟨rfl, congrArg (fun z => some (zi z)) (by unfold sp_upTo; (repeat' split) <;> first | rfl | omega)⟩
    ·
      show zG x LX 14 [some (zr 0), some (zi a), some (zi b), some (zi c), some (zi d), some (zi e)] [zi 0] S
      refine z_if_eq (pc := 14) (tgt := 29) h dX10_upTo_14 (by decide) ⟨by decide, by decide⟩ (fun hc14 => ?_) (fun hc14 => absurd hc14 (by decide))
      refine z_bipush (pc := 29) h dX10_upTo_29 rfl ?_
      exact z_iret (pc := 31) h dX10_upTo_31 rfl ⟨rfl, congrArg (fun z => some (zi z)) (by unfold sp_upTo; (repeat' split) <;> first | rfl | omega)⟩
  ·
    show zG x LX 6 [some (zr 0), some (zi a), some (zi b), some (zi c), some (zi d), some (zi e)] [zi 0] S
    refine z_if_eq (pc := 6) (tgt := 29) h dX10_upTo_6 (by decide) ⟨by decide, by decide⟩ (fun hc6 => ?_) (fun hc6 => absurd hc6 (by decide))
    refine z_bipush (pc := 29) h dX10_upTo_29 rfl ?_
    exact z_iret (pc := 31) h dX10_upTo_31 rfl ⟨rfl, congrArg (fun z => some (zi z)) (by unfold sp_upTo; (repeat' split) <;> first | rfl | omega)⟩

set_option maxRecDepth 100000 in
set_option maxHeartbeats 4000000 in
theorem m_X10_narrow (a b c d : Int) (S : SS) (ha : r32 a) (hb : r32 b) (hc : r32 c) (hd : r32 d) : zM LX yX10_narrow cX10_narrow 5 (some .long) 2 48 [zr 0, zi a, zi b, zi c, zi d] S (fun r S' => S = S' ∧ r = some (zl (sp_narrow a b c d))) := by
  refine zM_of (own := RX10) rfl (by decide +kernel) [some (zr 0), some (zi a), some (zi b), some (zi c), some (zi d)] (Nat.le_of_ble_eq_true rfl) rfl ?_
  intro x h
  refine z_iload_n (pc := 0) h dX10_narrow_0 rfl ?_
  refine z_iconst (pc := 1) h dX10_narrow_1 ?_
  refine z_bipush (pc := 2) h dX10_narrow_2 rfl ?_
  refine z_callS (pc := 4) (rest := ([] : List zV)) h (m_X10_within a 1 99 S ⟨by omega, by omega⟩ ⟨by decide, by decide⟩ ⟨by decide, by decide⟩) dX10_narrow_4 mcX10_within msX10_within mlX10_75 rfl rfl ⟨by decide, by decide⟩ rfl (Nat.le_of_ble_eq_true rfl) ?_
  rintro _ _ ⟨rfl, ⟨hr4, rfl⟩ | ⟨hr4, rfl⟩⟩
  ·
    show zG x LX 7 [some (zr 0), some (zi a), some (zi b), some (zi c), some (zi d)] [zi 1] S
    refine z_if_eq (pc := 7) (tgt := 28) h dX10_narrow_7 (by decide) ⟨by decide, by decide⟩ (fun hc7 => absurd hc7 (by decide)) (fun hc7 => ?_)
    refine z_iload_n (pc := 10) h dX10_narrow_10 rfl ?_
    refine z_iload_n (pc := 11) h dX10_narrow_11 rfl ?_
    refine z_callS (pc := 12) (rest := ([] : List zV)) h (m_X10_isDrawing b c S ⟨by omega, by omega⟩ ⟨by omega, by omega⟩) dX10_narrow_12 mcX10_isDrawing msX10_isDrawing mlX10_209 rfl rfl ⟨by decide, by decide⟩ rfl (Nat.le_of_ble_eq_true rfl) ?_
    rintro _ _ ⟨rfl, ⟨hr12, rfl⟩ | ⟨hr12, rfl⟩⟩
    ·
      show zG x LX 15 [some (zr 0), some (zi a), some (zi b), some (zi c), some (zi d)] [zi 1] S
      refine z_if_eq (pc := 15) (tgt := 28) h dX10_narrow_15 (by decide) ⟨by decide, by decide⟩ (fun hc15 => absurd hc15 (by decide)) (fun hc15 => ?_)
      refine z_iload (pc := 18) h dX10_narrow_18 rfl ?_
      refine z_iconst (pc := 20) h dX10_narrow_20 ?_
      refine z_iconst (pc := 21) h dX10_narrow_21 ?_
      refine z_callS (pc := 22) (rest := ([] : List zV)) h (m_X10_within d 0 1 S ⟨by omega, by omega⟩ ⟨by decide, by decide⟩ ⟨by decide, by decide⟩) dX10_narrow_22 mcX10_within msX10_within mlX10_75 rfl rfl ⟨by decide, by decide⟩ rfl (Nat.le_of_ble_eq_true rfl) ?_
      rintro _ _ ⟨rfl, ⟨hr22, rfl⟩ | ⟨hr22, rfl⟩⟩
      ·
        show zG x LX 25 [some (zr 0), some (zi a), some (zi b), some (zi c), some (zi d)] [zi 1] S
        refine z_if_ne (pc := 25) (tgt := 34) h dX10_narrow_25 (by decide) ⟨by decide, by decide⟩ (fun hc25 => ?_) (fun hc25 => absurd hc25 (by decide))
        have hM := mul_bd (a := a) (A := 99) (b := c) (B := 99) (by omega) (by omega)
        refine z_iload_n (pc := 34) h dX10_narrow_34 rfl ?_
        refine z_iload_n (pc := 35) h dX10_narrow_35 rfl ?_
        refine z_imul (pc := 36) h dX10_narrow_36 ?_
        refine z_iload_n (pc := 37) h dX10_narrow_37 rfl ?_
        refine z_iload_n (pc := 38) h dX10_narrow_38 rfl ?_
        refine z_iadd (pc := 39) h dX10_narrow_39 ?_
        refine z_iload (pc := 40) h dX10_narrow_40 rfl ?_
        refine z_callS (pc := 42) (rest := ([] : List zV)) h (m_X2_told (a * c) (b + c) d S (by first | assumption | omega) (by first | assumption | omega) ⟨by omega, by omega⟩) dX10_narrow_42 mcX2_told msX2_told mlX10_124 rfl rfl ⟨by decide, by decide⟩ rfl (Nat.le_of_ble_eq_true rfl) ?_
        rintro _ _ ⟨rfl, rfl⟩
        show zG x LX 45 [some (zr 0), some (zi a), some (zi b), some (zi c), some (zi d)] [zi (toldF (a * c) (b + c) d)] S
        have hT := told_b (a := a * c) (b := b + c) d (by omega) (by omega)
        refine z_i2l (pc := 45) h dX10_narrow_45 ⟨by omega, by omega⟩ ?_
        exact z_lret (pc := 46) h dX10_narrow_46 rfl ⟨rfl, congrArg (fun z => some (zl z)) (by unfold sp_narrow; (repeat' split) <;> first | rfl | omega)⟩
      ·
        show zG x LX 25 [some (zr 0), some (zi a), some (zi b), some (zi c), some (zi d)] [zi 0] S
        refine z_if_ne (pc := 25) (tgt := 34) h dX10_narrow_25 (by decide) ⟨by decide, by decide⟩ (fun hc25 => absurd hc25 (by decide)) (fun hc25 => ?_)
        refine z_bipush (pc := 28) h dX10_narrow_28 rfl ?_
        refine z_callS (pc := 30) (rest := ([] : List zV)) h (m_X10_asLong (-2) S ⟨by decide, by decide⟩) dX10_narrow_30 mcX10_asLong msX10_asLong mlX10_117 rfl rfl ⟨by decide, by decide⟩ rfl (Nat.le_of_ble_eq_true rfl) ?_
        rintro _ _ ⟨rfl, rfl⟩
        show zG x LX 33 [some (zr 0), some (zi a), some (zi b), some (zi c), some (zi d)] [zl (-9223372036854775808 - (-2))] S
        exact z_lret (pc := 33) h dX10_narrow_33 rfl ⟨rfl, congrArg (fun z => some (zl z)) (by unfold sp_narrow; (repeat' split) <;> first | rfl | omega)⟩
    ·
      show zG x LX 15 [some (zr 0), some (zi a), some (zi b), some (zi c), some (zi d)] [zi 0] S
      refine z_if_eq (pc := 15) (tgt := 28) h dX10_narrow_15 (by decide) ⟨by decide, by decide⟩ (fun hc15 => ?_) (fun hc15 => absurd hc15 (by decide))
      refine z_bipush (pc := 28) h dX10_narrow_28 rfl ?_
      refine z_callS (pc := 30) (rest := ([] : List zV)) h (m_X10_asLong (-2) S ⟨by decide, by decide⟩) dX10_narrow_30 mcX10_asLong msX10_asLong mlX10_117 rfl rfl ⟨by decide, by decide⟩ rfl (Nat.le_of_ble_eq_true rfl) ?_
      rintro _ _ ⟨rfl, rfl⟩
      show zG x LX 33 [some (zr 0), some (zi a), some (zi b), some (zi c), some (zi d)] [zl (-9223372036854775808 - (-2))] S
      exact z_lret (pc := 33) h dX10_narrow_33 rfl ⟨rfl, congrArg (fun z => some (zl z)) (by unfold sp_narrow; (repeat' split) <;> first | rfl | omega)⟩
  ·
    show zG x LX 7 [some (zr 0), some (zi a), some (zi b), some (zi c), some (zi d)] [zi 0] S
    refine z_if_eq (pc := 7) (tgt := 28) h dX10_narrow_7 (by decide) ⟨by decide, by decide⟩ (fun hc7 => ?_) (fun hc7 => absurd hc7 (by decide))
    refine z_bipush (pc := 28) h dX10_narrow_28 rfl ?_
    refine z_callS (pc := 30) (rest := ([] : List zV)) h (m_X10_asLong (-2) S ⟨by decide, by decide⟩) dX10_narrow_30 mcX10_asLong msX10_asLong mlX10_117 rfl rfl ⟨by decide, by decide⟩ rfl (Nat.le_of_ble_eq_true rfl) ?_
    rintro _ _ ⟨rfl, rfl⟩
    show zG x LX 33 [some (zr 0), some (zi a), some (zi b), some (zi c), some (zi d)] [zl (-9223372036854775808 - (-2))] S
    exact z_lret (pc := 33) h dX10_narrow_33 rfl ⟨rfl, congrArg (fun z => some (zl z)) (by unfold sp_narrow; (repeat' split) <;> first | rfl | omega)⟩

set_option maxRecDepth 100000 in
set_option maxHeartbeats 4000000 in
theorem m_X10_wide (a b c : Int) (S : SS) (ha : r32 a) (hb : r32 b) (hc : r32 c) : zM LX yX10_wide cX10_wide 5 (some .int) 2 43 [zr 0, zi a, zi b, zi c] S (fun r S' => S = S' ∧ r = some (zi (sp_wide a b c))) := by
  refine zM_of (own := RX10) rfl (by decide +kernel) [some (zr 0), some (zi a), some (zi b), some (zi c), none] (Nat.le_of_ble_eq_true rfl) rfl ?_
  intro x h
  refine z_iload_n (pc := 0) h dX10_wide_0 rfl ?_
  refine z_iconst (pc := 1) h dX10_wide_1 ?_
  refine z_bipush (pc := 2) h dX10_wide_2 rfl ?_
  refine z_callS (pc := 4) (rest := ([] : List zV)) h (m_X10_within a 0 99 S ⟨by omega, by omega⟩ ⟨by decide, by decide⟩ ⟨by decide, by decide⟩) dX10_wide_4 mcX10_within msX10_within mlX10_75 rfl rfl ⟨by decide, by decide⟩ rfl (Nat.le_of_ble_eq_true rfl) ?_
  rintro _ _ ⟨rfl, ⟨hr4, rfl⟩ | ⟨hr4, rfl⟩⟩
  ·
    show zG x LX 7 [some (zr 0), some (zi a), some (zi b), some (zi c), none] [zi 1] S
    refine z_if_eq (pc := 7) (tgt := 18) h dX10_wide_7 (by decide) ⟨by decide, by decide⟩ (fun hc7 => absurd hc7 (by decide)) (fun hc7 => ?_)
    refine z_iload_n (pc := 10) h dX10_wide_10 rfl ?_
    refine z_iload_n (pc := 11) h dX10_wide_11 rfl ?_
    refine z_callS (pc := 12) (rest := ([] : List zV)) h (m_X10_isDrawing b c S ⟨by omega, by omega⟩ ⟨by omega, by omega⟩) dX10_wide_12 mcX10_isDrawing msX10_isDrawing mlX10_209 rfl rfl ⟨by decide, by decide⟩ rfl (Nat.le_of_ble_eq_true rfl) ?_
    rintro _ _ ⟨rfl, ⟨hr12, rfl⟩ | ⟨hr12, rfl⟩⟩
    ·
      show zG x LX 15 [some (zr 0), some (zi a), some (zi b), some (zi c), none] [zi 1] S
      refine z_if_ne (pc := 15) (tgt := 21) h dX10_wide_15 (by decide) ⟨by decide, by decide⟩ (fun hc15 => ?_) (fun hc15 => absurd hc15 (by decide))
      refine z_iconst (pc := 21) h dX10_wide_21 ?_
      refine z_istore (pc := 22) (loc' := [some (zr 0), some (zi a), some (zi b), some (zi c), some (zi 1)]) h dX10_wide_22 (Nat.le_of_ble_eq_true rfl) rfl rfl ?_
      have J24 : ∀ (N : Nat) (w : Int) (hw : 1 ≤ w ∧ w ≤ 1000) (hI : wideR a b c (1000 - w).toNat w = sp_wide a b c) , (1000 - w).toNat = N → zG x LX 24 [some (zr 0), some (zi a), some (zi b), some (zi c), some (zi w)] ([] : List zV) S := by
        intro N
        induction N using Nat.strongRecOn with
        | _ N ih24 => ?_
        intro w hw hI hN24
        refine z_iload (pc := 24) h dX10_wide_24 rfl ?_
        refine z_sipush (pc := 26) h dX10_wide_26 rfl ?_
        refine z_icmp_gt (pc := 29) (tgt := 53) h dX10_wide_29 (by decide) ⟨by omega, by omega⟩ ⟨by decide, by decide⟩ (fun hc29 => ?_) (fun hc29 => ?_)
        ·
          refine z_iconst (pc := 53) h dX10_wide_53 ?_
          exact z_iret (pc := 54) h dX10_wide_54 rfl ⟨rfl, congrArg (fun z => some (zi z)) (by first | (rw [sp_wide, if_neg (by omega)]) | (rw [if_pos (by omega)] at hI; exact hI) | (rw [wide_0 (by omega)] at hI; exact hI))⟩
        ·
          rw [wide_s (r' := (1000 - (w + 1)).toNat) (w' := w + 1) (by omega) rfl] at hI
          have hM := mul_bd (a := w) (A := 999) (b := c) (B := 99) (by omega) (by omega)
          have hM2 := mul_bd (a := a) (A := 99) (b := b + c) (B := 198) (by omega) (by omega)
          refine z_iload (pc := 32) h dX10_wide_32 rfl ?_
          refine z_iload_n (pc := 34) h dX10_wide_34 rfl ?_
          refine z_imul (pc := 35) h dX10_wide_35 ?_
          refine z_iload_n (pc := 36) h dX10_wide_36 rfl ?_
          refine z_iload_n (pc := 37) h dX10_wide_37 rfl ?_
          refine z_iload_n (pc := 38) h dX10_wide_38 rfl ?_
          refine z_iadd (pc := 39) h dX10_wide_39 ?_
          refine z_imul (pc := 40) h dX10_wide_40 ?_
          refine z_icmp_lt (pc := 41) (tgt := 47) h dX10_wide_41 (by decide) ⟨by omega, by omega⟩ ⟨by omega, by omega⟩ (fun hc41 => ?_) (fun hc41 => ?_)
          ·
            refine z_iinc (pc := 47) (loc' := [some (zr 0), some (zi a), some (zi b), some (zi c), some (zi (w + 1))]) h dX10_wide_47 rfl (Nat.le_of_ble_eq_true rfl) rfl rfl ?_
            refine z_goto (pc := 50) (tgt := 24) h dX10_wide_50 (by decide) ?_
            exact ih24 _ (by omega) (w + 1) (by omega) (by rw [if_neg (by omega)] at hI; exact hI) rfl
          ·
            refine z_iload (pc := 44) h dX10_wide_44 rfl ?_
            exact z_iret (pc := 46) h dX10_wide_46 rfl ⟨rfl, congrArg (fun z => some (zi z)) (by first | (rw [sp_wide, if_neg (by omega)]) | (rw [if_pos (by omega)] at hI; exact hI) | (rw [wide_0 (by omega)] at hI; exact hI))⟩
      exact J24 _ 1 (by omega) (by rw [sp_wide, if_pos (by omega)]; rfl) rfl
    ·
      show zG x LX 15 [some (zr 0), some (zi a), some (zi b), some (zi c), none] [zi 0] S
      refine z_if_ne (pc := 15) (tgt := 21) h dX10_wide_15 (by decide) ⟨by decide, by decide⟩ (fun hc15 => absurd hc15 (by decide)) (fun hc15 => ?_)
      refine z_bipush (pc := 18) h dX10_wide_18 rfl ?_
      exact z_iret (pc := 20) h dX10_wide_20 rfl ⟨rfl, congrArg (fun z => some (zi z)) (by first | (rw [sp_wide, if_neg (by omega)]) | (rw [if_pos (by omega)] at hI; exact hI) | (rw [wide_0 (by omega)] at hI; exact hI))⟩
  ·
    show zG x LX 7 [some (zr 0), some (zi a), some (zi b), some (zi c), none] [zi 0] S
    refine z_if_eq (pc := 7) (tgt := 18) h dX10_wide_7 (by decide) ⟨by decide, by decide⟩ (fun hc7 => ?_) (fun hc7 => absurd hc7 (by decide))
    refine z_bipush (pc := 18) h dX10_wide_18 rfl ?_
    exact z_iret (pc := 20) h dX10_wide_20 rfl ⟨rfl, congrArg (fun z => some (zi z)) (by first | (rw [sp_wide, if_neg (by omega)]) | (rw [if_pos (by omega)] at hI; exact hI) | (rw [wide_0 (by omega)] at hI; exact hI))⟩

set_option maxRecDepth 100000 in
set_option maxHeartbeats 4000000 in
theorem m_X10_slit (a b : Int) (S : SS) (ha : r32 a) (hb : r32 b) : zM LX yX10_slit cX10_slit 5 (some .int) 1 22 [zr 0, zi a, zi b] S (fun r S' => S = S' ∧ r = some (zi (sp_slit a b))) := by
  refine zM_of (own := RX10) rfl (by decide +kernel) [some (zr 0), some (zi a), some (zi b), none, none] (Nat.le_of_ble_eq_true rfl) rfl ?_
  intro x h
  refine z_iload_n (pc := 0) h dX10_slit_0 rfl ?_
  refine z_iconst (pc := 1) h dX10_slit_1 ?_
  refine z_bipush (pc := 2) h dX10_slit_2 rfl ?_
  refine z_callS (pc := 4) (rest := ([] : List zV)) h (m_X10_within a 0 99 S ⟨by omega, by omega⟩ ⟨by decide, by decide⟩ ⟨by decide, by decide⟩) dX10_slit_4 mcX10_within msX10_within mlX10_75 rfl rfl ⟨by decide, by decide⟩ rfl (Nat.le_of_ble_eq_true rfl) ?_
  rintro _ _ ⟨rfl, ⟨hr4, rfl⟩ | ⟨hr4, rfl⟩⟩
  ·
    show zG x LX 7 [some (zr 0), some (zi a), some (zi b), none, none] [zi 1] S
    refine z_if_eq (pc := 7) (tgt := 20) h dX10_slit_7 (by decide) ⟨by decide, by decide⟩ (fun hc7 => absurd hc7 (by decide)) (fun hc7 => ?_)
    refine z_iload_n (pc := 10) h dX10_slit_10 rfl ?_
    refine z_iconst (pc := 11) h dX10_slit_11 ?_
    refine z_bipush (pc := 12) h dX10_slit_12 rfl ?_
    refine z_callS (pc := 14) (rest := ([] : List zV)) h (m_X10_within b 0 99 S ⟨by omega, by omega⟩ ⟨by decide, by decide⟩ ⟨by decide, by decide⟩) dX10_slit_14 mcX10_within msX10_within mlX10_75 rfl rfl ⟨by decide, by decide⟩ rfl (Nat.le_of_ble_eq_true rfl) ?_
    rintro _ _ ⟨rfl, ⟨hr14, rfl⟩ | ⟨hr14, rfl⟩⟩
    ·
      show zG x LX 17 [some (zr 0), some (zi a), some (zi b), none, none] [zi 1] S
      refine z_if_ne (pc := 17) (tgt := 23) h dX10_slit_17 (by decide) ⟨by decide, by decide⟩ (fun hc17 => ?_) (fun hc17 => absurd hc17 (by decide))
      refine z_iconst (pc := 23) h dX10_slit_23 ?_
      refine z_istore_n (pc := 24) (loc' := [some (zr 0), some (zi a), some (zi b), some (zi 1), none]) h dX10_slit_24 rfl (Nat.le_of_ble_eq_true rfl) rfl rfl ?_
      refine z_iconst (pc := 25) h dX10_slit_25 ?_
      refine z_istore (pc := 26) (loc' := [some (zr 0), some (zi a), some (zi b), some (zi 1), some (zi 2)]) h dX10_slit_26 (Nat.le_of_ble_eq_true rfl) rfl rfl ?_
      have J28 : ∀ (N : Nat) (w z : Int) (hw : 2 ≤ w ∧ w ≤ 21) (hz : 1 ≤ z ∧ z ≤ 20) (hI : slitR a b (21 - w).toNat w z = sp_slit a b) , (21 - w).toNat = N → zG x LX 28 [some (zr 0), some (zi a), some (zi b), some (zi z), some (zi w)] ([] : List zV) S := by
        intro N
        induction N using Nat.strongRecOn with
        | _ N ih28 => ?_
        intro w z hw hz hI hN28
        refine z_iload (pc := 28) h dX10_slit_28 rfl ?_
        refine z_bipush (pc := 30) h dX10_slit_30 rfl ?_
        refine z_icmp_gt (pc := 32) (tgt := 60) h dX10_slit_32 (by decide) ⟨by omega, by omega⟩ ⟨by decide, by decide⟩ (fun hc32 => ?_) (fun hc32 => ?_)
        ·
          refine z_iload_n (pc := 60) h dX10_slit_60 rfl ?_
          exact z_iret (pc := 61) h dX10_slit_61 rfl ⟨rfl, congrArg (fun z => some (zi z)) (by first | (rw [sp_slit, if_neg (by omega)]) | (rw [slit_0 (by omega)] at hI; exact hI))⟩
        ·
          rw [slit_s (r' := (21 - (w + 1)).toNat) (w' := w + 1) (by omega) rfl] at hI
          have hW1 := worth_b (l := a) (b := b) (w := w) (by omega) (by omega) (by omega)
          have hW2 := worth_b (l := a) (b := b) (w := z) (by omega) (by omega) (by omega)
          refine z_iload_n (pc := 35) h dX10_slit_35 rfl ?_
          refine z_iload_n (pc := 36) h dX10_slit_36 rfl ?_
          refine z_iload (pc := 37) h dX10_slit_37 rfl ?_
          refine z_callS (pc := 39) (rest := ([] : List zV)) h (m_X10_slitWorth a b w S ) dX10_slit_39 mcX10_slitWorth msX10_slitWorth mlX10_212 rfl rfl ⟨by decide, by decide⟩ rfl (Nat.le_of_ble_eq_true rfl) ?_
          rintro _ _ ⟨rfl, rfl⟩
          show zG x LX 42 [some (zr 0), some (zi a), some (zi b), some (zi z), some (zi w)] [zi (a * w - b * w * w)] S
          refine z_iload_n (pc := 42) h dX10_slit_42 rfl ?_
          refine z_iload_n (pc := 43) h dX10_slit_43 rfl ?_
          refine z_iload_n (pc := 44) h dX10_slit_44 rfl ?_
          refine z_callS (pc := 45) (rest := [zi (a * w - b * w * w)]) h (m_X10_slitWorth a b z S ) dX10_slit_45 mcX10_slitWorth msX10_slitWorth mlX10_212 rfl rfl ⟨by decide, by decide⟩ rfl (Nat.le_of_ble_eq_true rfl) ?_
          rintro _ _ ⟨rfl, rfl⟩
          show zG x LX 48 [some (zr 0), some (zi a), some (zi b), some (zi z), some (zi w)] [zi (a * z - b * z * z), zi (a * w - b * w * w)] S
          refine zG_eq (st' := [zi (worthF a b z), zi (worthF a b w)]) ?_ rfl rfl rfl rfl
          refine z_icmp_le (pc := 48) (tgt := 54) h dX10_slit_48 (by decide) ⟨by omega, by omega⟩ ⟨by omega, by omega⟩ (fun hc48 => ?_) (fun hc48 => ?_)
          ·
            refine z_iinc (pc := 54) (loc' := [some (zr 0), some (zi a), some (zi b), some (zi z), some (zi (w + 1))]) h dX10_slit_54 rfl (Nat.le_of_ble_eq_true rfl) rfl rfl ?_
            refine z_goto (pc := 57) (tgt := 28) h dX10_slit_57 (by decide) ?_
            exact ih28 _ (by omega) (w + 1) z (by omega) (by omega) (by first | (rw [if_pos (by assumption)] at hI; exact hI) | (rw [if_neg (by omega)] at hI; exact hI)) rfl
          ·
            refine z_iload (pc := 51) h dX10_slit_51 rfl ?_
            refine z_istore_n (pc := 53) (loc' := [some (zr 0), some (zi a), some (zi b), some (zi w), some (zi w)]) h dX10_slit_53 rfl (Nat.le_of_ble_eq_true rfl) rfl rfl ?_
            refine z_iinc (pc := 54) (loc' := [some (zr 0), some (zi a), some (zi b), some (zi w), some (zi (w + 1))]) h dX10_slit_54 rfl (Nat.le_of_ble_eq_true rfl) rfl rfl ?_
            refine z_goto (pc := 57) (tgt := 28) h dX10_slit_57 (by decide) ?_
            exact ih28 _ (by omega) (w + 1) w (by omega) (by omega) (by first | (rw [if_pos (by assumption)] at hI; exact hI) | (rw [if_neg (by omega)] at hI; exact hI)) rfl
      exact J28 _ 2 1 (by omega) (by omega) (by rw [sp_slit, if_pos (by omega)]; rfl) rfl
    ·
      show zG x LX 17 [some (zr 0), some (zi a), some (zi b), none, none] [zi 0] S
      refine z_if_ne (pc := 17) (tgt := 23) h dX10_slit_17 (by decide) ⟨by decide, by decide⟩ (fun hc17 => absurd hc17 (by decide)) (fun hc17 => ?_)
      refine z_bipush (pc := 20) h dX10_slit_20 rfl ?_
      exact z_iret (pc := 22) h dX10_slit_22 rfl ⟨rfl, congrArg (fun z => some (zi z)) (by first | (rw [sp_slit, if_neg (by omega)]) | (rw [slit_0 (by omega)] at hI; exact hI))⟩
  ·
    show zG x LX 7 [some (zr 0), some (zi a), some (zi b), none, none] [zi 0] S
    refine z_if_eq (pc := 7) (tgt := 20) h dX10_slit_7 (by decide) ⟨by decide, by decide⟩ (fun hc7 => ?_) (fun hc7 => absurd hc7 (by decide))
    refine z_bipush (pc := 20) h dX10_slit_20 rfl ?_
    exact z_iret (pc := 22) h dX10_slit_22 rfl ⟨rfl, congrArg (fun z => some (zi z)) (by first | (rw [sp_slit, if_neg (by omega)]) | (rw [slit_0 (by omega)] at hI; exact hI))⟩

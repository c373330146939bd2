set_option maxRecDepth 100000 in
set_option maxHeartbeats 4000000 in
theorem m_X10_within (a b c : Int) (S : SS) (ha : r32 a) (hb : r32 b) (hc : r32 c) : zM LX yX10_within cX10_within 3 (some .boolean) 0 0 [zi a, zi b, zi c] S (fun r S' => S = S' ∧ ((b ≤ a ∧ a ≤ c) ∧ r = some (zi 1) ∨ ¬ (b ≤ a ∧ a ≤ c) ∧ r = some (zi 0))) := by
  refine zM_of (own := RX10) rfl (by decide +kernel) [some (zi a), some (zi b), some (zi c)] (Nat.le_of_ble_eq_true rfl) rfl ?_
  intro x h
  refine z_iload_n (pc := 0) h dX10_within_0 rfl ?_
  refine z_iload_n (pc := 1) h dX10_within_1 rfl ?_
  refine z_icmp_lt (pc := 2) (tgt := 14) h dX10_within_2 (by decide) ⟨by omega, by omega⟩ ⟨by omega, by omega⟩ (fun hc2 => ?_) (fun hc2 => ?_)
  ·
    refine z_iconst (pc := 14) h dX10_within_14 ?_
    exact z_zret (pc := 15) h dX10_within_15 rfl (by decide) ⟨rfl, Or.inr ⟨by omega, rfl⟩⟩
  ·
    refine z_iload_n (pc := 5) h dX10_within_5 rfl ?_
    refine z_iload_n (pc := 6) h dX10_within_6 rfl ?_
    refine z_icmp_gt (pc := 7) (tgt := 14) h dX10_within_7 (by decide) ⟨by omega, by omega⟩ ⟨by omega, by omega⟩ (fun hc7 => ?_) (fun hc7 => ?_)
    ·
      refine z_iconst (pc := 14) h dX10_within_14 ?_
      exact z_zret (pc := 15) h dX10_within_15 rfl (by decide) ⟨rfl, Or.inr ⟨by omega, rfl⟩⟩
    ·
      refine z_iconst (pc := 10) h dX10_within_10 ?_
      refine z_goto (pc := 11) (tgt := 15) h dX10_within_11 (by decide) ?_
      exact z_zret (pc := 15) h dX10_within_15 rfl (by decide) ⟨rfl, Or.inl ⟨by omega, rfl⟩⟩

set_option maxRecDepth 100000 in
set_option maxHeartbeats 4000000 in
theorem m_X10_asLong (a : Int) (S : SS) (ha : r32 a) : zM LX yX10_asLong cX10_asLong 1 (some .long) 0 0 [zi a] S (fun r S' => S = S' ∧ r = some (zl (-9223372036854775808 - a))) := by
  refine zM_of (own := RX10) rfl (by decide +kernel) [some (zi a)] (Nat.le_of_ble_eq_true rfl) rfl ?_
  intro x h
  refine z_ldc2 (pc := 0) (a := (-9223372036854775808)) h kcX10_357 dX10_asLong_0 (by decide) ?_
  refine z_iload_n (pc := 3) h dX10_asLong_3 rfl ?_
  refine z_i2l (pc := 4) h dX10_asLong_4 ⟨by omega, by omega⟩ ?_
  refine z_lsub (pc := 5) h dX10_asLong_5 ?_
  exact z_lret (pc := 6) h dX10_asLong_6 rfl ⟨rfl, congrArg (fun z => some (zl z)) (by rfl)⟩

set_option maxRecDepth 100000 in
set_option maxHeartbeats 4000000 in
theorem m_X10_slitWorth (a b c : Int) (S : SS)  : zM LX yX10_slitWorth cX10_slitWorth 3 (some .int) 0 0 [zi a, zi b, zi c] S (fun r S' => S = S' ∧ r = some (zi (a * c - b * c * c))) := by
  refine zM_of (own := RX10) rfl (by decide +kernel) [some (zi a), some (zi b), some (zi c)] (Nat.le_of_ble_eq_true rfl) rfl ?_
  intro x h
  refine z_iload_n (pc := 0) h dX10_slitWorth_0 rfl ?_
  refine z_iload_n (pc := 1) h dX10_slitWorth_1 rfl ?_
  refine z_imul (pc := 2) h dX10_slitWorth_2 ?_
  refine z_iload_n (pc := 3) h dX10_slitWorth_3 rfl ?_
  refine z_iload_n (pc := 4) h dX10_slitWorth_4 rfl ?_
  refine z_imul (pc := 5) h dX10_slitWorth_5 ?_
  refine z_iload_n (pc := 6) h dX10_slitWorth_6 rfl ?_
  refine z_imul (pc := 7) h dX10_slitWorth_7 ?_
  refine z_isub (pc := 8) h dX10_slitWorth_8 ?_
  exact z_iret (pc := 9) h dX10_slitWorth_9 rfl ⟨rfl, congrArg (fun z => some (zi z)) (by rfl)⟩

set_option maxRecDepth 100000 in
set_option maxHeartbeats 4000000 in
theorem m_X10_mixed (a b : Int) (S : SS)  : zM LX yX10_mixed cX10_mixed 4 (some .long) 0 0 [zl a, zl b] S (fun r S' => S = S' ∧ r = some (zl (31 * a + b))) := by
  refine zM_of (own := RX10) rfl (by decide +kernel) [some (zl a), none, some (zl b), none] (Nat.le_of_ble_eq_true rfl) rfl ?_
  intro x h
  refine z_ldc2 (pc := 0) (a := 31) h kcX10_355 dX10_mixed_0 (by decide) ?_
  refine z_lload_n (pc := 3) h dX10_mixed_3 rfl ?_
  refine z_lmul (pc := 4) h dX10_mixed_4 ?_
  refine z_lload_n (pc := 5) h dX10_mixed_5 rfl ?_
  refine z_ladd (pc := 6) h dX10_mixed_6 ?_
  exact z_lret (pc := 7) h dX10_mixed_7 rfl ⟨rfl, congrArg (fun z => some (zl z)) (by rfl)⟩

set_option maxRecDepth 100000 in
set_option maxHeartbeats 4000000 in
theorem m_X10_isDrawing (a b : Int) (S : SS) (ha : r32 a) (hb : r32 b) : zM LX yX10_isDrawing cX10_isDrawing 2 (some .boolean) 1 22 [zi a, zi b] S (fun r S' => S = S' ∧ (((1 ≤ a ∧ a ≤ 99) ∧ (1 ≤ b ∧ b ≤ 99)) ∧ r = some (zi 1) ∨ ¬ ((1 ≤ a ∧ a ≤ 99) ∧ (1 ≤ b ∧ b ≤ 99)) ∧ r = some (zi 0))) := by
  refine zM_of (own := RX10) rfl (by decide +kernel) [some (zi a), some (zi b)] (Nat.le_of_ble_eq_true rfl) rfl ?_
  intro x h
  refine z_iload_n (pc := 0) h dX10_isDrawing_0 rfl ?_
  refine z_iconst (pc := 1) h dX10_isDrawing_1 ?_
  refine z_bipush (pc := 2) h dX10_isDrawing_2 rfl ?_
  refine z_callS (pc := 4) (rest := ([] : List zV)) h (m_X10_within a 1 99 S ⟨by omega, by omega⟩ ⟨by decide, by decide⟩ ⟨by decide, by decide⟩) dX10_isDrawing_4 mcX10_within msX10_within mlX10_75 rfl rfl ⟨by decide, by decide⟩ rfl (Nat.le_of_ble_eq_true rfl) ?_
  rintro _ _ ⟨rfl, ⟨hr4, rfl⟩ | ⟨hr4, rfl⟩⟩
  ·
    show zG x LX 7 [some (zi a), some (zi b)] [zi 1] S
    refine z_if_eq (pc := 7) (tgt := 24) h dX10_isDrawing_7 (by decide) ⟨by decide, by decide⟩ (fun hc7 => absurd hc7 (by decide)) (fun hc7 => ?_)
    refine z_iload_n (pc := 10) h dX10_isDrawing_10 rfl ?_
    refine z_iconst (pc := 11) h dX10_isDrawing_11 ?_
    refine z_bipush (pc := 12) h dX10_isDrawing_12 rfl ?_
    refine z_callS (pc := 14) (rest := ([] : List zV)) h (m_X10_within b 1 99 S ⟨by omega, by omega⟩ ⟨by decide, by decide⟩ ⟨by decide, by decide⟩) dX10_isDrawing_14 mcX10_within msX10_within mlX10_75 rfl rfl ⟨by decide, by decide⟩ rfl (Nat.le_of_ble_eq_true rfl) ?_
    rintro _ _ ⟨rfl, ⟨hr14, rfl⟩ | ⟨hr14, rfl⟩⟩
    ·
      show zG x LX 17 [some (zi a), some (zi b)] [zi 1] S
      refine z_if_eq (pc := 17) (tgt := 24) h dX10_isDrawing_17 (by decide) ⟨by decide, by decide⟩ (fun hc17 => absurd hc17 (by decide)) (fun hc17 => ?_)
      refine z_iconst (pc := 20) h dX10_isDrawing_20 ?_
      refine z_goto (pc := 21) (tgt := 25) h dX10_isDrawing_21 (by decide) ?_
      exact z_zret (pc := 25) h dX10_isDrawing_25 rfl (by decide) ⟨rfl, Or.inl ⟨by omega, rfl⟩⟩
    ·
      show zG x LX 17 [some (zi a), some (zi b)] [zi 0] S
      refine z_if_eq (pc := 17) (tgt := 24) h dX10_isDrawing_17 (by decide) ⟨by decide, by decide⟩ (fun hc17 => ?_) (fun hc17 => absurd hc17 (by decide))
      refine z_iconst (pc := 24) h dX10_isDrawing_24 ?_
      exact z_zret (pc := 25) h dX10_isDrawing_25 rfl (by decide) ⟨rfl, Or.inr ⟨by omega, rfl⟩⟩
  ·
    show zG x LX 7 [some (zi a), some (zi b)] [zi 0] S
    refine z_if_eq (pc := 7) (tgt := 24) h dX10_isDrawing_7 (by decide) ⟨by decide, by decide⟩ (fun hc7 => ?_) (fun hc7 => absurd hc7 (by decide))
    refine z_iconst (pc := 24) h dX10_isDrawing_24 ?_
    exact z_zret (pc := 25) h dX10_isDrawing_25 rfl (by decide) ⟨rfl, Or.inr ⟨by omega, rfl⟩⟩

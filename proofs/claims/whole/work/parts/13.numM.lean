set_option maxRecDepth 100000 in
set_option maxHeartbeats 4000000 in
theorem m_X11_in (a b c : Int) (S : SS) (ha : r32 a) (hb : r32 b) (hc : r32 c) : zM LM yX11_in cX11_in 3 (some .boolean) 0 0 [zi a, zi b, zi c] S (fun r S' => S = S' ∧ ((b ≤ a ∧ a ≤ c) ∧ r = some (zi 1) ∨ ¬ (b ≤ a ∧ a ≤ c) ∧ r = some (zi 0))) := by
  refine zM_of (own := RX11) rfl (by decide +kernel) [some (zi a), some (zi b), some (zi c)] (Nat.le_of_ble_eq_true rfl) rfl ?_
  intro x h
  refine z_iload_n (pc := 0) h dX11_in_0 rfl ?_
  refine z_iload_n (pc := 1) h dX11_in_1 rfl ?_
  refine z_icmp_lt (pc := 2) (tgt := 14) h dX11_in_2 (by decide) ⟨by omega, by omega⟩ ⟨by omega, by omega⟩ (fun hc2 => ?_) (fun hc2 => ?_)
  ·
    refine z_iconst (pc := 14) h dX11_in_14 ?_
    exact z_zret (pc := 15) h dX11_in_15 rfl (by decide) ⟨rfl, Or.inr ⟨by omega, rfl⟩⟩
  ·
    refine z_iload_n (pc := 5) h dX11_in_5 rfl ?_
    refine z_iload_n (pc := 6) h dX11_in_6 rfl ?_
    refine z_icmp_gt (pc := 7) (tgt := 14) h dX11_in_7 (by decide) ⟨by omega, by omega⟩ ⟨by omega, by omega⟩ (fun hc7 => ?_) (fun hc7 => ?_)
    ·
      refine z_iconst (pc := 14) h dX11_in_14 ?_
      exact z_zret (pc := 15) h dX11_in_15 rfl (by decide) ⟨rfl, Or.inr ⟨by omega, rfl⟩⟩
    ·
      refine z_iconst (pc := 10) h dX11_in_10 ?_
      refine z_goto (pc := 11) (tgt := 15) h dX11_in_11 (by decide) ?_
      exact z_zret (pc := 15) h dX11_in_15 rfl (by decide) ⟨rfl, Or.inl ⟨by omega, rfl⟩⟩

set_option maxRecDepth 100000 in
set_option maxHeartbeats 4000000 in
theorem m_X11_amount (a : Int) (S : SS) (ha : r32 a) : zM LM yX11_amount cX11_amount 1 (some .int) 0 0 [zi a] S (fun r S' => S = S' ∧ r = some (zi (absI a))) := by
  refine zM_of (own := RX11) rfl (by decide +kernel) [some (zi a)] (Nat.le_of_ble_eq_true rfl) rfl ?_
  intro x h
  refine z_iload_n (pc := 0) h dX11_amount_0 rfl ?_
  refine z_if_ge (pc := 1) (tgt := 9) h dX11_amount_1 (by decide) ⟨by omega, by omega⟩ (fun hc1 => ?_) (fun hc1 => ?_)
  ·
    refine z_iload_n (pc := 9) h dX11_amount_9 rfl ?_
    exact z_iret (pc := 10) h dX11_amount_10 rfl ⟨rfl, congrArg (fun z => some (zi z)) (by first | exact (absI_n (by omega)).symm | exact (absI_p (by omega)).symm)⟩
  ·
    refine z_iload_n (pc := 4) h dX11_amount_4 rfl ?_
    refine z_ineg (pc := 5) h dX11_amount_5 ?_
    refine z_goto (pc := 6) (tgt := 10) h dX11_amount_6 (by decide) ?_
    exact z_iret (pc := 10) h dX11_amount_10 rfl ⟨rfl, congrArg (fun z => some (zi z)) (by first | exact (absI_n (by omega)).symm | exact (absI_p (by omega)).symm)⟩

set_option maxRecDepth 100000 in
set_option maxHeartbeats 4000000 in
theorem m_X11_no (a : Int) (S : SS) (ha : r32 a) : zM LM yX11_no cX11_no 1 (some .long) 0 0 [zi a] S (fun r S' => S = S' ∧ r = some (zl (-9223372036854775808 - a))) := by
  refine zM_of (own := RX11) rfl (by decide +kernel) [some (zi a)] (Nat.le_of_ble_eq_true rfl) rfl ?_
  intro x h
  refine z_ldc2 (pc := 0) (a := (-9223372036854775808)) h kcX11_65 dX11_no_0 (by decide) ?_
  refine z_iload_n (pc := 3) h dX11_no_3 rfl ?_
  refine z_i2l (pc := 4) h dX11_no_4 ⟨by omega, by omega⟩ ?_
  refine z_lsub (pc := 5) h dX11_no_5 ?_
  exact z_lret (pc := 6) h dX11_no_6 rfl ⟨rfl, congrArg (fun z => some (zl z)) (by rfl)⟩

set_option maxRecDepth 100000 in
set_option maxHeartbeats 4000000 in
theorem m_X11_common (a b : Int) (S : SS) (ha : 0 ≤ a ∧ a ≤ 2147483647) (hb : 0 ≤ b ∧ b ≤ 2147483647) : zM LM yX11_common cX11_common 5 (some .int) 0 0 [zi a, zi b] S (fun r S' => S = S' ∧ r = some (zi (gcdI a b))) := by
  refine zM_of (own := RX11) rfl (by decide +kernel) [some (zi a), some (zi b), none, none, none] (Nat.le_of_ble_eq_true rfl) rfl ?_
  intro x h
  refine z_iload_n (pc := 0) h dX11_common_0 rfl ?_
  refine z_istore_n (pc := 1) (loc' := [some (zi a), some (zi b), some (zi a), none, none]) h dX11_common_1 rfl (Nat.le_of_ble_eq_true rfl) rfl rfl ?_
  refine z_iload_n (pc := 2) h dX11_common_2 rfl ?_
  refine z_istore_n (pc := 3) (loc' := [some (zi a), some (zi b), some (zi a), some (zi b), none]) h dX11_common_3 rfl (Nat.le_of_ble_eq_true rfl) rfl rfl ?_
  have J4 : ∀ (N : Nat) (l s : Int) (h1 : 0 ≤ l ∧ l ≤ 2147483647) (h2 : 0 ≤ s ∧ s ≤ 2147483647) (hI : gcdI l s = gcdI a b) , s.toNat = N → zG x LM 4 [some (zi a), some (zi b), some (zi l), some (zi s), none] ([] : List zV) S := by
    intro N
    induction N using Nat.strongRecOn with
    | _ N ih4 => ?_
    intro l s h1 h2 hI hN4
    refine z_iload_n (pc := 4) h dX11_common_4 rfl ?_
    refine z_if_eq (pc := 5) (tgt := 21) h dX11_common_5 (by decide) ⟨by omega, by omega⟩ (fun hc5 => ?_) (fun hc5 => ?_)
    ·
      refine z_iload_n (pc := 21) h dX11_common_21 rfl ?_
      exact z_iret (pc := 22) h dX11_common_22 rfl ⟨rfl, congrArg (fun z => some (zi z)) (by rw [hc5, gcdI_z h1.1] at hI; exact hI)⟩
    ·
      have hm1 := Int.emod_nonneg l (show s ≠ 0 by omega)
      have hm2 := Int.emod_lt_of_pos l (show 0 < s by omega)
      refine z_iload_n (pc := 8) h dX11_common_8 rfl ?_
      refine z_iload_n (pc := 9) h dX11_common_9 rfl ?_
      refine z_iremN (pc := 10) h dX11_common_10 ⟨by omega, by omega⟩ ⟨by omega, by omega⟩ ?_
      refine z_istore (pc := 11) (loc' := [some (zi a), some (zi b), some (zi l), some (zi s), some (zi (l % s))]) h dX11_common_11 (Nat.le_of_ble_eq_true rfl) rfl rfl ?_
      refine z_iload_n (pc := 13) h dX11_common_13 rfl ?_
      refine z_istore_n (pc := 14) (loc' := [some (zi a), some (zi b), some (zi s), some (zi s), some (zi (l % s))]) h dX11_common_14 rfl (Nat.le_of_ble_eq_true rfl) rfl rfl ?_
      refine z_iload (pc := 15) h dX11_common_15 rfl ?_
      refine z_istore_n (pc := 17) (loc' := [some (zi a), some (zi b), some (zi s), some (zi (l % s)), some (zi (l % s))]) h dX11_common_17 rfl (Nat.le_of_ble_eq_true rfl) rfl rfl ?_
      refine z_goto (pc := 18) (tgt := 4) h dX11_common_18 (by decide) ?_
      refine z_forget [true, true, true, true, false] (loc' := [some (zi a), some (zi b), some (zi s), some (zi (l % s)), none]) rfl ?_
      exact ih4 _ (by omega) s (l % s) (by omega) (by omega) (by rw [gcdI_s h1.1 (by omega)]; exact hI) rfl
  exact J4 _ a b (by omega) (by omega) (rfl) rfl

set_option maxRecDepth 100000 in
set_option maxHeartbeats 4000000 in
theorem m_X11_lowest (a b w : Int) (S : SS) (ha : -1000000 ≤ a ∧ a ≤ 1000000) (hb : 1 ≤ b ∧ b ≤ 1000000) (hw : r32 w) : zM LM yX11_lowest cX11_lowest 4 (some .long) 1 24 [zi a, zi b, zi w] S (fun r S' => S = S' ∧ r = some (zl (toldF a b w))) := by
  refine zM_of (own := RX11) rfl (by decide +kernel) [some (zi a), some (zi b), some (zi w), none] (Nat.le_of_ble_eq_true rfl) rfl ?_
  intro x h
  have hA : 0 ≤ absI a ∧ absI a ≤ 1000000 := by unfold absI; split <;> omega
  have hG := gcdI_b (a := absI a) (b := b) (by omega)
  have hT0 : -1000000 ≤ a.tdiv (gcdI (absI a) b) ∧ a.tdiv (gcdI (absI a) b) ≤ 1000000 := by have := Int.natAbs_tdiv_le_natAbs a (gcdI (absI a) b); omega
  have hT1 : -1000000 ≤ b.tdiv (gcdI (absI a) b) ∧ b.tdiv (gcdI (absI a) b) ≤ 1000000 := by have := Int.natAbs_tdiv_le_natAbs b (gcdI (absI a) b); omega
  refine z_iload_n (pc := 0) h dX11_lowest_0 rfl ?_
  refine z_callS (pc := 1) (rest := ([] : List zV)) h (m_X11_amount a S ⟨by omega, by omega⟩) dX11_lowest_1 mcX11_amount msX11_amount mlX11_67 rfl rfl ⟨by decide, by decide⟩ rfl (Nat.le_of_ble_eq_true rfl) ?_
  rintro _ _ ⟨rfl, rfl⟩
  show zG x LM 4 [some (zi a), some (zi b), some (zi w), none] [zi (absI a)] S
  refine z_iload_n (pc := 4) h dX11_lowest_4 rfl ?_
  refine z_callS (pc := 5) (rest := ([] : List zV)) h (m_X11_common (absI a) b S (by first | assumption | omega) (by first | assumption | omega)) dX11_lowest_5 mcX11_common msX11_common mlX11_71 rfl rfl ⟨by decide, by decide⟩ rfl (Nat.le_of_ble_eq_true rfl) ?_
  rintro _ _ ⟨rfl, rfl⟩
  show zG x LM 8 [some (zi a), some (zi b), some (zi w), none] [zi (gcdI (absI a) b)] S
  refine z_istore_n (pc := 8) (loc' := [some (zi a), some (zi b), some (zi w), some (zi (gcdI (absI a) b))]) h dX11_lowest_8 rfl (Nat.le_of_ble_eq_true rfl) rfl rfl ?_
  refine z_iload_n (pc := 9) h dX11_lowest_9 rfl ?_
  refine z_if_ne (pc := 10) (tgt := 20) h dX11_lowest_10 (by decide) ⟨by omega, by omega⟩ (fun hc10 => ?_) (fun hc10 => ?_)
  ·
    refine z_iload_n (pc := 20) h dX11_lowest_20 rfl ?_
    refine z_iload_n (pc := 21) h dX11_lowest_21 rfl ?_
    refine z_idiv (pc := 22) h dX11_lowest_22 ⟨by omega, by omega⟩ ⟨by omega, by omega⟩ (by omega) ?_
    refine z_i2l (pc := 23) h dX11_lowest_23 ⟨by omega, by omega⟩ ?_
    exact z_lret (pc := 24) h dX11_lowest_24 rfl ⟨rfl, congrArg (fun z => some (zl z)) (by first | (rw [toldF, if_pos (by omega)]) | (rw [toldF, if_neg (by omega)]))⟩
  ·
    refine z_iload_n (pc := 13) h dX11_lowest_13 rfl ?_
    refine z_iload_n (pc := 14) h dX11_lowest_14 rfl ?_
    refine z_idiv (pc := 15) h dX11_lowest_15 ⟨by omega, by omega⟩ ⟨by omega, by omega⟩ (by omega) ?_
    refine z_i2l (pc := 16) h dX11_lowest_16 ⟨by omega, by omega⟩ ?_
    refine z_goto (pc := 17) (tgt := 24) h dX11_lowest_17 (by decide) ?_
    exact z_lret (pc := 24) h dX11_lowest_24 rfl ⟨rfl, congrArg (fun z => some (zl z)) (by first | (rw [toldF, if_pos (by omega)]) | (rw [toldF, if_neg (by omega)]))⟩

set_option maxRecDepth 100000 in
set_option maxHeartbeats 4000000 in
theorem m_X11_nearest (a b : Int) (S : SS) (ha : 0 ≤ a ∧ a ≤ 1000000) (hb : 1 ≤ b ∧ b ≤ 1000000) : zM LM yX11_nearest cX11_nearest 2 (some .int) 0 0 [zi a, zi b] S (fun r S' => S = S' ∧ r = some (zi (nearF a b))) := by
  refine zM_of (own := RX11) rfl (by decide +kernel) [some (zi a), some (zi b)] (Nat.le_of_ble_eq_true rfl) rfl ?_
  intro x h
  refine z_iconst (pc := 0) h dX11_nearest_0 ?_
  refine z_iload_n (pc := 1) h dX11_nearest_1 rfl ?_
  refine z_imul (pc := 2) h dX11_nearest_2 ?_
  refine z_iload_n (pc := 3) h dX11_nearest_3 rfl ?_
  refine z_iadd (pc := 4) h dX11_nearest_4 ?_
  refine z_iconst (pc := 5) h dX11_nearest_5 ?_
  refine z_isub (pc := 6) h dX11_nearest_6 ?_
  refine z_iconst (pc := 7) h dX11_nearest_7 ?_
  refine z_iload_n (pc := 8) h dX11_nearest_8 rfl ?_
  refine z_imul (pc := 9) h dX11_nearest_9 ?_
  refine z_idivN (pc := 10) h dX11_nearest_10 ⟨by omega, by omega⟩ ⟨by omega, by omega⟩ ?_
  exact z_iret (pc := 11) h dX11_nearest_11 rfl ⟨rfl, congrArg (fun z => some (zi z)) (by rfl)⟩

set_option maxRecDepth 100000 in
set_option maxHeartbeats 4000000 in
theorem m_X11_isDrum (a : Int) (S : SS) (ha : r32 a) : zM LM yX11_isDrum cX11_isDrum 1 (some .boolean) 1 22 [zi a] S (fun r S' => S = S' ∧ ((1 ≤ a ∧ a ≤ 24) ∧ r = some (zi 1) ∨ ¬ (1 ≤ a ∧ a ≤ 24) ∧ r = some (zi 0))) := by
  refine zM_of (own := RX11) rfl (by decide +kernel) [some (zi a)] (Nat.le_of_ble_eq_true rfl) rfl ?_
  intro x h
  refine z_iload_n (pc := 0) h dX11_isDrum_0 rfl ?_
  refine z_iconst (pc := 1) h dX11_isDrum_1 ?_
  refine z_bipush (pc := 2) h dX11_isDrum_2 rfl ?_
  refine z_callS (pc := 4) (rest := ([] : List zV)) h (m_X11_in a 1 24 S ⟨by omega, by omega⟩ ⟨by decide, by decide⟩ ⟨by decide, by decide⟩) dX11_isDrum_4 mcX11_in msX11_in mlX11_75 rfl rfl ⟨by decide, by decide⟩ rfl (Nat.le_of_ble_eq_true rfl) ?_
  rintro _ _ ⟨rfl, ⟨hr4, rfl⟩ | ⟨hr4, rfl⟩⟩
  ·
    show zG x LM 7 [some (zi a)] [zi 1] S
    exact z_zret (pc := 7) h dX11_isDrum_7 rfl (by decide) ⟨rfl, Or.inl ⟨by omega, rfl⟩⟩
  ·
    show zG x LM 7 [some (zi a)] [zi 0] S
    exact z_zret (pc := 7) h dX11_isDrum_7 rfl (by decide) ⟨rfl, Or.inr ⟨by omega, rfl⟩⟩

set_option maxRecDepth 100000 in
set_option maxHeartbeats 4000000 in
theorem m_X11_seeming (s p : Int) (S : SS) (hs : 1 ≤ s ∧ s ≤ 24) (hp : 1 ≤ p ∧ p ≤ 24) : zM LM yX11_seeming cX11_seeming 4 (some .int) 1 21 [zi s, zi p] S (fun r S' => S = S' ∧ r = some (zi (seemF s p))) := by
  refine zM_of (own := RX11) rfl (by decide +kernel) [some (zi s), some (zi p), none, none] (Nat.le_of_ble_eq_true rfl) rfl ?_
  intro x h
  have hB := near_b p (b := s) (by omega)
  have hN := near_0 (a := p) (b := s) (by omega) (by omega)
  have hMM := Int.emod_nonneg (nearF p s) (show p ≠ 0 by omega)
  have hML := Int.emod_lt_of_pos (nearF p s) (show 0 < p by omega)
  refine z_iload_n (pc := 0) h dX11_seeming_0 rfl ?_
  refine z_iload_n (pc := 1) h dX11_seeming_1 rfl ?_
  refine z_callS (pc := 2) (rest := ([] : List zV)) h (m_X11_nearest p s S (by first | assumption | omega) (by first | assumption | omega)) dX11_seeming_2 mcX11_nearest msX11_nearest mlX11_102 rfl rfl ⟨by decide, by decide⟩ rfl (Nat.le_of_ble_eq_true rfl) ?_
  rintro _ _ ⟨rfl, rfl⟩
  show zG x LM 5 [some (zi s), some (zi p), none, none] [zi (nearF p s)] S
  refine z_istore_n (pc := 5) (loc' := [some (zi s), some (zi p), some (zi (nearF p s)), none]) h dX11_seeming_5 rfl (Nat.le_of_ble_eq_true rfl) rfl rfl ?_
  refine z_iload_n (pc := 6) h dX11_seeming_6 rfl ?_
  refine z_iload_n (pc := 7) h dX11_seeming_7 rfl ?_
  refine z_iload_n (pc := 8) h dX11_seeming_8 rfl ?_
  refine z_imul (pc := 9) h dX11_seeming_9 ?_
  refine z_isub (pc := 10) h dX11_seeming_10 ?_
  refine z_istore_n (pc := 11) (loc' := [some (zi s), some (zi p), some (zi (nearF p s)), some (zi (p - ((nearF p s) * s)))]) h dX11_seeming_11 rfl (Nat.le_of_ble_eq_true rfl) rfl rfl ?_
  refine z_iload_n (pc := 12) h dX11_seeming_12 rfl ?_
  refine z_if_le (pc := 13) (tgt := 20) h dX11_seeming_13 (by decide) ⟨by omega, by omega⟩ (fun hc13 => ?_) (fun hc13 => ?_)
  ·
    refine z_iload_n (pc := 20) h dX11_seeming_20 rfl ?_
    refine z_if_ge (pc := 21) (tgt := 28) h dX11_seeming_21 (by decide) ⟨by omega, by omega⟩ (fun hc21 => ?_) (fun hc21 => ?_)
    ·
      refine z_iload_n (pc := 28) h dX11_seeming_28 rfl ?_
      refine z_iload_n (pc := 29) h dX11_seeming_29 rfl ?_
      refine z_iremN (pc := 30) h dX11_seeming_30 ⟨by omega, by omega⟩ ⟨by omega, by omega⟩ ?_
      refine z_if_ne (pc := 31) (tgt := 38) h dX11_seeming_31 (by decide) ⟨by omega, by omega⟩ (fun hc31 => ?_) (fun hc31 => ?_)
      ·
        refine z_iconst (pc := 38) h dX11_seeming_38 ?_
        exact z_iret (pc := 39) h dX11_seeming_39 rfl ⟨rfl, congrArg (fun z => some (zi z)) (by unfold seemF; (repeat' split) <;> first | rfl | omega)⟩
      ·
        refine z_iconst (pc := 34) h dX11_seeming_34 ?_
        refine z_goto (pc := 35) (tgt := 39) h dX11_seeming_35 (by decide) ?_
        exact z_iret (pc := 39) h dX11_seeming_39 rfl ⟨rfl, congrArg (fun z => some (zi z)) (by unfold seemF; (repeat' split) <;> first | rfl | omega)⟩
    ·
      refine z_iconst (pc := 24) h dX11_seeming_24 ?_
      refine z_goto (pc := 25) (tgt := 39) h dX11_seeming_25 (by decide) ?_
      exact z_iret (pc := 39) h dX11_seeming_39 rfl ⟨rfl, congrArg (fun z => some (zi z)) (by unfold seemF; (repeat' split) <;> first | rfl | omega)⟩
  ·
    refine z_iconst (pc := 16) h dX11_seeming_16 ?_
    refine z_goto (pc := 17) (tgt := 39) h dX11_seeming_17 (by decide) ?_
    exact z_iret (pc := 39) h dX11_seeming_39 rfl ⟨rfl, congrArg (fun z => some (zi z)) (by unfold seemF; (repeat' split) <;> first | rfl | omega)⟩

set_option maxRecDepth 100000 in
set_option maxHeartbeats 4000000 in
theorem m_X11_numbersOf (a e i : Int) (S : SS) (ha : r32 a) (he : r32 e) (hi : r32 i) : zM LM yX11_numbersOf cX11_numbersOf 6 (some .int) 2 44 [zi a, zi e, zi i] S (fun r S' => S = S' ∧ r = some (zi (pairsF a e i))) := by
  refine zM_of (own := RX11) rfl (by decide +kernel) [some (zi a), some (zi e), some (zi i), none, none, none] (Nat.le_of_ble_eq_true rfl) rfl ?_
  intro x h
  refine z_iconst (pc := 0) h dX11_numbersOf_0 ?_
  refine z_istore_n (pc := 1) (loc' := [some (zi a), some (zi e), some (zi i), some (zi 0), none, none]) h dX11_numbersOf_1 rfl (Nat.le_of_ble_eq_true rfl) rfl rfl ?_
  refine z_iconst (pc := 2) h dX11_numbersOf_2 ?_
  refine z_istore (pc := 3) (loc' := [some (zi a), some (zi e), some (zi i), some (zi 0), some (zi 1), none]) h dX11_numbersOf_3 (Nat.le_of_ble_eq_true rfl) rfl rfl ?_
  have J5 : ∀ (N : Nat) (f s : Int) (hs : 1 ≤ s ∧ s ≤ 25) (hf : 0 ≤ f ∧ f ≤ 24 * (s - 1)) (hI : scanR (pairP a e) pairV i (24 * (25 - s)).toNat (24 * (s - 1)).toNat f = pairsF a e i) , (25 - s).toNat = N → zG x LM 5 [some (zi a), some (zi e), some (zi i), some (zi f), some (zi s), none] ([] : List zV) S := by
    intro N
    induction N using Nat.strongRecOn with
    | _ N ih5 => ?_
    intro f s hs hf hI hN5
    refine z_iload (pc := 5) h dX11_numbersOf_5 rfl ?_
    refine z_bipush (pc := 7) h dX11_numbersOf_7 rfl ?_
    refine z_icmp_ge (pc := 9) (tgt := 73) h dX11_numbersOf_9 (by decide) ⟨by omega, by omega⟩ ⟨by decide, by decide⟩ (fun hc9 => ?_) (fun hc9 => ?_)
    ·
      refine z_iload_n (pc := 73) h dX11_numbersOf_73 rfl ?_
      refine z_iconst (pc := 74) h dX11_numbersOf_74 ?_
      refine z_icmp_ne (pc := 75) (tgt := 82) h dX11_numbersOf_75 (by decide) ⟨by omega, by omega⟩ ⟨by decide, by decide⟩ (fun hc75 => ?_) (fun hc75 => ?_)
      ·
        refine z_iconst (pc := 82) h dX11_numbersOf_82 ?_
        exact z_iret (pc := 83) h dX11_numbersOf_83 rfl ⟨rfl, congrArg (fun z => some (zi z)) (by first | (rw [if_pos (by rw [pairP_at ⟨hs.1, by omega⟩ ⟨hp.1, by omega⟩]; simp; omega), if_pos (by omega), pairV_at ⟨hs.1, by omega⟩ ⟨hp.1, by omega⟩] at hJ; exact hJ) | (rw [scan_0 (by omega), if_pos (by omega)] at hI; exact hI) | (rw [scan_0 (by omega), if_neg (by omega)] at hI; exact hI))⟩
      ·
        refine z_iload_n (pc := 78) h dX11_numbersOf_78 rfl ?_
        refine z_goto (pc := 79) (tgt := 83) h dX11_numbersOf_79 (by decide) ?_
        exact z_iret (pc := 83) h dX11_numbersOf_83 rfl ⟨rfl, congrArg (fun z => some (zi z)) (by first | (rw [if_pos (by rw [pairP_at ⟨hs.1, by omega⟩ ⟨hp.1, by omega⟩]; simp; omega), if_pos (by omega), pairV_at ⟨hs.1, by omega⟩ ⟨hp.1, by omega⟩] at hJ; exact hJ) | (rw [scan_0 (by omega), if_pos (by omega)] at hI; exact hI) | (rw [scan_0 (by omega), if_neg (by omega)] at hI; exact hI))⟩
    ·
      refine z_iconst (pc := 12) h dX11_numbersOf_12 ?_
      refine z_istore (pc := 13) (loc' := [some (zi a), some (zi e), some (zi i), some (zi f), some (zi s), some (zi 1)]) h dX11_numbersOf_13 (Nat.le_of_ble_eq_true rfl) rfl rfl ?_
      have J15 : ∀ (N : Nat) (f p : Int) (hp : 1 ≤ p ∧ p ≤ 25) (hg : 0 ≤ f ∧ f ≤ 24 * (s - 1) + (p - 1)) (hJ : scanR (pairP a e) pairV i (24 * (25 - s) - (p - 1)).toNat (24 * (s - 1) + (p - 1)).toNat f = pairsF a e i) , (25 - p).toNat = N → zG x LM 15 [some (zi a), some (zi e), some (zi i), some (zi f), some (zi s), some (zi p)] ([] : List zV) S := by
        intro N
        induction N using Nat.strongRecOn with
        | _ N ih15 => ?_
        intro f p hp hg hJ hN15
        refine z_iload (pc := 15) h dX11_numbersOf_15 rfl ?_
        refine z_bipush (pc := 17) h dX11_numbersOf_17 rfl ?_
        refine z_icmp_ge (pc := 19) (tgt := 67) h dX11_numbersOf_19 (by decide) ⟨by omega, by omega⟩ ⟨by decide, by decide⟩ (fun hc19 => ?_) (fun hc19 => ?_)
        ·
          refine z_iinc (pc := 67) (loc' := [some (zi a), some (zi e), some (zi i), some (zi f), some (zi (s + 1)), some (zi p)]) h dX11_numbersOf_67 rfl (Nat.le_of_ble_eq_true rfl) rfl rfl ?_
          refine z_goto (pc := 70) (tgt := 5) h dX11_numbersOf_70 (by decide) ?_
          refine z_forget [true, true, true, true, true, false] (loc' := [some (zi a), some (zi e), some (zi i), some (zi f), some (zi (s + 1)), none]) rfl ?_
          exact ih5 _ (by omega) f (s + 1) (by omega) (by omega) (by rw [← hJ]; congr 1 <;> omega) rfl
        ·
          have J61 : ∀ (f2 : Int) (hg2 : 0 ≤ f2 ∧ f2 ≤ 24 * (s - 1) + p) (hK : scanR (pairP a e) pairV i (24 * (25 - s) - ((p + 1) - 1)).toNat (24 * (s - 1) + ((p + 1) - 1)).toNat f2 = pairsF a e i) , zG x LM 61 [some (zi a), some (zi e), some (zi i), some (zi f2), some (zi s), some (zi p)] ([] : List zV) S := by
            intro f2 hg2 hK
            refine z_iinc (pc := 61) (loc' := [some (zi a), some (zi e), some (zi i), some (zi f2), some (zi s), some (zi (p + 1))]) h dX11_numbersOf_61 rfl (Nat.le_of_ble_eq_true rfl) rfl rfl ?_
            refine z_goto (pc := 64) (tgt := 15) h dX11_numbersOf_64 (by decide) ?_
            exact ih15 _ (by omega) f2 (p + 1) (by omega) (by omega) (by exact hK) rfl
          rw [scan_s (r' := (24 * (25 - s) - ((p + 1) - 1)).toNat) (t' := (24 * (s - 1) + ((p + 1) - 1)).toNat) (by omega) (by omega)] at hJ
          have hN := near_0 (a := p) (b := s) (by omega) (by omega)
          have hE := seemF_b s p
          refine z_iload (pc := 22) h dX11_numbersOf_22 rfl ?_
          refine z_iload (pc := 24) h dX11_numbersOf_24 rfl ?_
          refine z_callS (pc := 26) (rest := ([] : List zV)) h (m_X11_nearest p s S (by first | assumption | omega) (by first | assumption | omega)) dX11_numbersOf_26 mcX11_nearest msX11_nearest mlX11_102 rfl rfl ⟨by decide, by decide⟩ rfl (Nat.le_of_ble_eq_true rfl) ?_
          rintro _ _ ⟨rfl, rfl⟩
          show zG x LM 29 [some (zi a), some (zi e), some (zi i), some (zi f), some (zi s), some (zi p)] [zi (nearF p s)] S
          refine z_iload_n (pc := 29) h dX11_numbersOf_29 rfl ?_
          refine z_icmp_ne (pc := 30) (tgt := 61) h dX11_numbersOf_30 (by decide) ⟨by omega, by omega⟩ ⟨by omega, by omega⟩ (fun hc30 => ?_) (fun hc30 => ?_)
          ·
            exact J61 f (by omega) (by first | (rw [if_neg (by rw [pairP_at ⟨hs.1, by omega⟩ ⟨hp.1, by omega⟩]; simp; omega)] at hJ; exact hJ) | (rw [if_pos (by rw [pairP_at ⟨hs.1, by omega⟩ ⟨hp.1, by omega⟩]; simp; omega), if_neg (by omega)] at hJ; exact hJ))
          ·
            refine z_iload (pc := 33) h dX11_numbersOf_33 rfl ?_
            refine z_iload (pc := 35) h dX11_numbersOf_35 rfl ?_
            refine z_callS (pc := 37) (rest := ([] : List zV)) h (m_X11_seeming s p S (by first | assumption | omega) (by first | assumption | omega)) dX11_numbersOf_37 mcX11_seeming msX11_seeming mlX11_108 rfl rfl ⟨by decide, by decide⟩ rfl (Nat.le_of_ble_eq_true rfl) ?_
            rintro _ _ ⟨rfl, rfl⟩
            show zG x LM 40 [some (zi a), some (zi e), some (zi i), some (zi f), some (zi s), some (zi p)] [zi (seemF s p)] S
            refine z_iload_n (pc := 40) h dX11_numbersOf_40 rfl ?_
            refine z_icmp_ne (pc := 41) (tgt := 61) h dX11_numbersOf_41 (by decide) ⟨by omega, by omega⟩ ⟨by omega, by omega⟩ (fun hc41 => ?_) (fun hc41 => ?_)
            ·
              exact J61 f (by omega) (by first | (rw [if_neg (by rw [pairP_at ⟨hs.1, by omega⟩ ⟨hp.1, by omega⟩]; simp; omega)] at hJ; exact hJ) | (rw [if_pos (by rw [pairP_at ⟨hs.1, by omega⟩ ⟨hp.1, by omega⟩]; simp; omega), if_neg (by omega)] at hJ; exact hJ))
            ·
              refine z_iload_n (pc := 44) h dX11_numbersOf_44 rfl ?_
              refine z_iload_n (pc := 45) h dX11_numbersOf_45 rfl ?_
              refine z_icmp_ne (pc := 46) (tgt := 58) h dX11_numbersOf_46 (by decide) ⟨by omega, by omega⟩ ⟨by omega, by omega⟩ (fun hc46 => ?_) (fun hc46 => ?_)
              ·
                refine z_iinc (pc := 58) (loc' := [some (zi a), some (zi e), some (zi i), some (zi (f + 1)), some (zi s), some (zi p)]) h dX11_numbersOf_58 rfl (Nat.le_of_ble_eq_true rfl) rfl rfl ?_
                exact J61 (f + 1) (by omega) (by first | (rw [if_neg (by rw [pairP_at ⟨hs.1, by omega⟩ ⟨hp.1, by omega⟩]; simp; omega)] at hJ; exact hJ) | (rw [if_pos (by rw [pairP_at ⟨hs.1, by omega⟩ ⟨hp.1, by omega⟩]; simp; omega), if_neg (by omega)] at hJ; exact hJ))
              ·
                refine z_bipush (pc := 49) h dX11_numbersOf_49 rfl ?_
                refine z_iload (pc := 51) h dX11_numbersOf_51 rfl ?_
                refine z_imul (pc := 53) h dX11_numbersOf_53 ?_
                refine z_iload (pc := 54) h dX11_numbersOf_54 rfl ?_
                refine z_iadd (pc := 56) h dX11_numbersOf_56 ?_
                exact z_iret (pc := 57) h dX11_numbersOf_57 rfl ⟨rfl, congrArg (fun z => some (zi z)) (by first | (rw [if_pos (by rw [pairP_at ⟨hs.1, by omega⟩ ⟨hp.1, by omega⟩]; simp; omega), if_pos (by omega), pairV_at ⟨hs.1, by omega⟩ ⟨hp.1, by omega⟩] at hJ; exact hJ) | (rw [scan_0 (by omega), if_pos (by omega)] at hI; exact hI) | (rw [scan_0 (by omega), if_neg (by omega)] at hI; exact hI))⟩
      exact J15 _ f 1 (by omega) (by omega) (by rw [← hI]; congr 1 <;> omega) rfl
  exact J5 _ 0 1 (by omega) (by omega) (rfl) rfl

set_option maxRecDepth 100000 in
set_option maxHeartbeats 4000000 in
theorem m_X11_isWheel (s t f : Int) (S : SS) (hs : r32 s) (ht : r32 t) (hf : r32 f) : zM LM yX11_isWheel cX11_isWheel 3 (some .boolean) 1 22 [zi s, zi t, zi f] S (fun r S' => S = S' ∧ (((1 ≤ s ∧ s ≤ 36) ∧ (0 ≤ t ∧ t ≤ 999) ∧ (1 ≤ f ∧ f ≤ 99)) ∧ r = some (zi 1) ∨ ¬ ((1 ≤ s ∧ s ≤ 36) ∧ (0 ≤ t ∧ t ≤ 999) ∧ (1 ≤ f ∧ f ≤ 99)) ∧ r = some (zi 0))) := by
  refine zM_of (own := RX11) rfl (by decide +kernel) [some (zi s), some (zi t), some (zi f)] (Nat.le_of_ble_eq_true rfl) rfl ?_
  intro x h
  refine z_iload_n (pc := 0) h dX11_isWheel_0 rfl ?_
  refine z_iconst (pc := 1) h dX11_isWheel_1 ?_
  refine z_bipush (pc := 2) h dX11_isWheel_2 rfl ?_
  refine z_callS (pc := 4) (rest := ([] : List zV)) h (m_X11_in s 1 36 S ⟨by omega, by omega⟩ ⟨by decide, by decide⟩ ⟨by decide, by decide⟩) dX11_isWheel_4 mcX11_in msX11_in mlX11_75 rfl rfl ⟨by decide, by decide⟩ rfl (Nat.le_of_ble_eq_true rfl) ?_
  rintro _ _ ⟨rfl, ⟨hr4, rfl⟩ | ⟨hr4, rfl⟩⟩
  ·
    show zG x LM 7 [some (zi s), some (zi t), some (zi f)] [zi 1] S
    refine z_if_eq (pc := 7) (tgt := 35) h dX11_isWheel_7 (by decide) ⟨by decide, by decide⟩ (fun hc7 => absurd hc7 (by decide)) (fun hc7 => ?_)
    refine z_iload_n (pc := 10) h dX11_isWheel_10 rfl ?_
    refine z_iconst (pc := 11) h dX11_isWheel_11 ?_
    refine z_sipush (pc := 12) h dX11_isWheel_12 rfl ?_
    refine z_callS (pc := 15) (rest := ([] : List zV)) h (m_X11_in t 0 999 S ⟨by omega, by omega⟩ ⟨by decide, by decide⟩ ⟨by decide, by decide⟩) dX11_isWheel_15 mcX11_in msX11_in mlX11_75 rfl rfl ⟨by decide, by decide⟩ rfl (Nat.le_of_ble_eq_true rfl) ?_
    rintro _ _ ⟨rfl, ⟨hr15, rfl⟩ | ⟨hr15, rfl⟩⟩
    ·
      show zG x LM 18 [some (zi s), some (zi t), some (zi f)] [zi 1] S
      refine z_if_eq (pc := 18) (tgt := 35) h dX11_isWheel_18 (by decide) ⟨by decide, by decide⟩ (fun hc18 => absurd hc18 (by decide)) (fun hc18 => ?_)
      refine z_iload_n (pc := 21) h dX11_isWheel_21 rfl ?_
      refine z_iconst (pc := 22) h dX11_isWheel_22 ?_
      refine z_bipush (pc := 23) h dX11_isWheel_23 rfl ?_
      refine z_callS (pc := 25) (rest := ([] : List zV)) h (m_X11_in f 1 99 S ⟨by omega, by omega⟩ ⟨by decide, by decide⟩ ⟨by decide, by decide⟩) dX11_isWheel_25 mcX11_in msX11_in mlX11_75 rfl rfl ⟨by decide, by decide⟩ rfl (Nat.le_of_ble_eq_true rfl) ?_
      rintro _ _ ⟨rfl, ⟨hr25, rfl⟩ | ⟨hr25, rfl⟩⟩
      ·
        show zG x LM 28 [some (zi s), some (zi t), some (zi f)] [zi 1] S
        refine z_if_eq (pc := 28) (tgt := 35) h dX11_isWheel_28 (by decide) ⟨by decide, by decide⟩ (fun hc28 => absurd hc28 (by decide)) (fun hc28 => ?_)
        refine z_iconst (pc := 31) h dX11_isWheel_31 ?_
        refine z_goto (pc := 32) (tgt := 36) h dX11_isWheel_32 (by decide) ?_
        exact z_zret (pc := 36) h dX11_isWheel_36 rfl (by decide) ⟨rfl, Or.inl ⟨by omega, rfl⟩⟩
      ·
        show zG x LM 28 [some (zi s), some (zi t), some (zi f)] [zi 0] S
        refine z_if_eq (pc := 28) (tgt := 35) h dX11_isWheel_28 (by decide) ⟨by decide, by decide⟩ (fun hc28 => ?_) (fun hc28 => absurd hc28 (by decide))
        refine z_iconst (pc := 35) h dX11_isWheel_35 ?_
        exact z_zret (pc := 36) h dX11_isWheel_36 rfl (by decide) ⟨rfl, Or.inr ⟨by omega, rfl⟩⟩
    ·
      show zG x LM 18 [some (zi s), some (zi t), some (zi f)] [zi 0] S
      refine z_if_eq (pc := 18) (tgt := 35) h dX11_isWheel_18 (by decide) ⟨by decide, by decide⟩ (fun hc18 => ?_) (fun hc18 => absurd hc18 (by decide))
      refine z_iconst (pc := 35) h dX11_isWheel_35 ?_
      exact z_zret (pc := 36) h dX11_isWheel_36 rfl (by decide) ⟨rfl, Or.inr ⟨by omega, rfl⟩⟩
  ·
    show zG x LM 7 [some (zi s), some (zi t), some (zi f)] [zi 0] S
    refine z_if_eq (pc := 7) (tgt := 35) h dX11_isWheel_7 (by decide) ⟨by decide, by decide⟩ (fun hc7 => ?_) (fun hc7 => absurd hc7 (by decide))
    refine z_iconst (pc := 35) h dX11_isWheel_35 ?_
    exact z_zret (pc := 36) h dX11_isWheel_36 rfl (by decide) ⟨rfl, Or.inr ⟨by omega, rfl⟩⟩

set_option maxRecDepth 100000 in
set_option maxHeartbeats 4000000 in
theorem m_X11_fitsBy (s t f u : Int) (S : SS) (hs : 1 ≤ s ∧ s ≤ 36) (ht : 0 ≤ t ∧ t ≤ 999) (hf : f = -1 ∨ 1 ≤ f ∧ f ≤ 99) (hu : 0 ≤ u ∧ u ≤ 999) : zM LM yX11_fitsBy cX11_fitsBy 4 (some .boolean) 0 0 [zi s, zi t, zi f, zi u] S (fun r S' => S = S' ∧ ((f = -1 ∨ 60 * f ∣ s * (u - t)) ∧ r = some (zi 1) ∨ ¬ (f = -1 ∨ 60 * f ∣ s * (u - t)) ∧ r = some (zi 0))) := by
  refine zM_of (own := RX11) rfl (by decide +kernel) [some (zi s), some (zi t), some (zi f), some (zi u)] (Nat.le_of_ble_eq_true rfl) rfl ?_
  intro x h
  have hM : -36000 ≤ s * (u - t) ∧ s * (u - t) ≤ 36000 := by
    rw [Int.mul_sub]
    have h1 := mul_bd (a := s) (A := 36) (b := u) (B := 999) (by omega) hu
    have h2 := mul_bd (a := s) (A := 36) (b := t) (B := 999) (by omega) ht
    omega
  refine z_iload_n (pc := 0) h dX11_fitsBy_0 rfl ?_
  refine z_iconst (pc := 1) h dX11_fitsBy_1 ?_
  refine z_icmp_eq (pc := 2) (tgt := 18) h dX11_fitsBy_2 (by decide) ⟨by omega, by omega⟩ ⟨by decide, by decide⟩ (fun hc2 => ?_) (fun hc2 => ?_)
  ·
    refine z_iconst (pc := 18) h dX11_fitsBy_18 ?_
    refine z_goto (pc := 19) (tgt := 23) h dX11_fitsBy_19 (by decide) ?_
    exact z_zret (pc := 23) h dX11_fitsBy_23 rfl (by decide) ⟨rfl, Or.inl ⟨by first | exact Or.inl (by omega) | exact Or.inr (hD.mp hc15) | exact fun q => q.elim (fun e => absurd e (by omega)) (fun e => hc15 (hD.mpr e)), rfl⟩⟩
  ·
    refine z_iload_n (pc := 5) h dX11_fitsBy_5 rfl ?_
    refine z_iload_n (pc := 6) h dX11_fitsBy_6 rfl ?_
    refine z_iload_n (pc := 7) h dX11_fitsBy_7 rfl ?_
    refine z_isub (pc := 8) h dX11_fitsBy_8 ?_
    refine z_imul (pc := 9) h dX11_fitsBy_9 ?_
    refine z_bipush (pc := 10) h dX11_fitsBy_10 rfl ?_
    refine z_iload_n (pc := 12) h dX11_fitsBy_12 rfl ?_
    refine z_imul (pc := 13) h dX11_fitsBy_13 ?_
    refine z_irem (pc := 14) h dX11_fitsBy_14 ⟨by omega, by omega⟩ ⟨by omega, by omega⟩ (by omega) ?_
    have hD : (s * (u - t)).tmod (60 * f) = 0 ↔ 60 * f ∣ s * (u - t) := Int.dvd_iff_tmod_eq_zero.symm
    have hTB := tmod_bounds (a := s * (u - t)) (M := 60 * f) (by omega)
    refine z_if_ne (pc := 15) (tgt := 22) h dX11_fitsBy_15 (by decide) ⟨by omega, by omega⟩ (fun hc15 => ?_) (fun hc15 => ?_)
    ·
      refine z_iconst (pc := 22) h dX11_fitsBy_22 ?_
      exact z_zret (pc := 23) h dX11_fitsBy_23 rfl (by decide) ⟨rfl, Or.inr ⟨by first | exact Or.inl (by omega) | exact Or.inr (hD.mp hc15) | exact fun q => q.elim (fun e => absurd e (by omega)) (fun e => hc15 (hD.mpr e)), rfl⟩⟩
    ·
      refine z_iconst (pc := 18) h dX11_fitsBy_18 ?_
      refine z_goto (pc := 19) (tgt := 23) h dX11_fitsBy_19 (by decide) ?_
      exact z_zret (pc := 23) h dX11_fitsBy_23 rfl (by decide) ⟨rfl, Or.inl ⟨by first | exact Or.inl (by omega) | exact Or.inr (hD.mp hc15) | exact fun q => q.elim (fun e => absurd e (by omega)) (fun e => hc15 (hD.mpr e)), rfl⟩⟩

set_option maxRecDepth 100000 in
set_option maxHeartbeats 4000000 in
theorem m_X11_fits (a b c d e : Int) (S : SS) (ha : r32 a) (hb : r32 b) (hc : r32 c) (hd : r32 d) (he : r32 e) : zM LM yX11_fits cX11_fits 8 (some .int) 2 44 [zr 0, zi a, zi b, zi c, zi d, zi e] S (fun r S' => S = S' ∧ r = some (zi (sp_fits a b c d e))) := by
  refine zM_of (own := RX11) rfl (by decide +kernel) [some (zr 0), some (zi a), some (zi b), some (zi c), some (zi d), some (zi e), none, none] (Nat.le_of_ble_eq_true rfl) rfl ?_
  intro x h
  refine z_iload_n (pc := 0) h dX11_fits_0 rfl ?_
  refine z_iload_n (pc := 1) h dX11_fits_1 rfl ?_
  refine z_iload_n (pc := 2) h dX11_fits_2 rfl ?_
  refine z_callS (pc := 3) (rest := ([] : List zV)) h (m_X11_isWheel a b c S ⟨by omega, by omega⟩ ⟨by omega, by omega⟩ ⟨by omega, by omega⟩) dX11_fits_3 mcX11_isWheel msX11_isWheel mlX11_125 rfl rfl ⟨by decide, by decide⟩ rfl (Nat.le_of_ble_eq_true rfl) ?_
  rintro _ _ ⟨rfl, ⟨hr3, rfl⟩ | ⟨hr3, rfl⟩⟩
  ·
    show zG x LM 6 [some (zr 0), some (zi a), some (zi b), some (zi c), some (zi d), some (zi e), none, none] [zi 1] S
    refine z_if_eq (pc := 6) (tgt := 32) h dX11_fits_6 (by decide) ⟨by decide, by decide⟩ (fun hc6 => absurd hc6 (by decide)) (fun hc6 => ?_)
    refine z_iload (pc := 9) h dX11_fits_9 rfl ?_
    refine z_iconst (pc := 11) h dX11_fits_11 ?_
    refine z_icmp_eq (pc := 12) (tgt := 26) h dX11_fits_12 (by decide) ⟨by omega, by omega⟩ ⟨by decide, by decide⟩ (fun hc12 => ?_) (fun hc12 => ?_)
    ·
      refine z_iload (pc := 26) h dX11_fits_26 rfl ?_
      refine z_iconst (pc := 28) h dX11_fits_28 ?_
      refine z_icmp_ge (pc := 29) (tgt := 35) h dX11_fits_29 (by decide) ⟨by omega, by omega⟩ ⟨by decide, by decide⟩ (fun hc29 => ?_) (fun hc29 => ?_)
      ·
        have J41 : ∀ (N : Nat) (z u : Int) (hu : 0 ≤ u ∧ u ≤ 1000) (hz : 0 ≤ z ∧ z ≤ u) (hI : scanR (fitB a b c d) (fun n => (n : Int)) e (1000 - u).toNat u.toNat z = sp_fits a b c d e) , (1000 - u).toNat = N → zG x LM 41 [some (zr 0), some (zi a), some (zi b), some (zi c), some (zi d), some (zi e), some (zi z), some (zi u)] ([] : List zV) S := by
          intro N
          induction N using Nat.strongRecOn with
          | _ N ih41 => ?_
          intro z u hu hz hI hN41
          refine z_iload (pc := 41) h dX11_fits_41 rfl ?_
          refine z_sipush (pc := 43) h dX11_fits_43 rfl ?_
          refine z_icmp_ge (pc := 46) (tgt := 91) h dX11_fits_46 (by decide) ⟨by omega, by omega⟩ ⟨by decide, by decide⟩ (fun hc46 => ?_) (fun hc46 => ?_)
          ·
            refine z_iload (pc := 91) h dX11_fits_91 rfl ?_
            refine z_iconst (pc := 93) h dX11_fits_93 ?_
            refine z_icmp_ne (pc := 94) (tgt := 102) h dX11_fits_94 (by decide) ⟨by omega, by omega⟩ ⟨by decide, by decide⟩ (fun hc94 => ?_) (fun hc94 => ?_)
            ·
              refine z_iconst (pc := 102) h dX11_fits_102 ?_
              exact z_iret (pc := 103) h dX11_fits_103 rfl ⟨rfl, congrArg (fun z => some (zi z)) (by first | (rw [sp_fits, if_neg (by omega)]) | (rw [if_pos ((fitB_t (by omega)).mpr ⟨hr54.resolve_left (by omega), hr66⟩), if_pos (by omega)] at hI; rw [← hI]; omega) | (rw [scan_0 (by omega), if_pos (by omega)] at hI; exact hI) | (rw [scan_0 (by omega), if_neg (by omega)] at hI; exact hI))⟩
            ·
              refine z_iload (pc := 97) h dX11_fits_97 rfl ?_
              refine z_goto (pc := 99) (tgt := 103) h dX11_fits_99 (by decide) ?_
              exact z_iret (pc := 103) h dX11_fits_103 rfl ⟨rfl, congrArg (fun z => some (zi z)) (by first | (rw [sp_fits, if_neg (by omega)]) | (rw [if_pos ((fitB_t (by omega)).mpr ⟨hr54.resolve_left (by omega), hr66⟩), if_pos (by omega)] at hI; rw [← hI]; omega) | (rw [scan_0 (by omega), if_pos (by omega)] at hI; exact hI) | (rw [scan_0 (by omega), if_neg (by omega)] at hI; exact hI))⟩
          ·
            have J85 : ∀ (z2 : Int) (hc2 : 0 ≤ z2 ∧ z2 ≤ u + 1) (hK : scanR (fitB a b c d) (fun n => (n : Int)) e (1000 - (u + 1)).toNat (u + 1).toNat z2 = sp_fits a b c d e) , zG x LM 85 [some (zr 0), some (zi a), some (zi b), some (zi c), some (zi d), some (zi e), some (zi z2), some (zi u)] ([] : List zV) S := by
              intro z2 hc2 hK
              refine z_iinc (pc := 85) (loc' := [some (zr 0), some (zi a), some (zi b), some (zi c), some (zi d), some (zi e), some (zi z2), some (zi (u + 1))]) h dX11_fits_85 rfl (Nat.le_of_ble_eq_true rfl) rfl rfl ?_
              refine z_goto (pc := 88) (tgt := 41) h dX11_fits_88 (by decide) ?_
              exact ih41 _ (by omega) z2 (u + 1) (by omega) (by omega) (by exact hK) rfl
            rw [scan_s (r' := (1000 - (u + 1)).toNat) (t' := (u + 1).toNat) (by omega) (by omega)] at hI
            refine z_iload_n (pc := 49) h dX11_fits_49 rfl ?_
            refine z_iload_n (pc := 50) h dX11_fits_50 rfl ?_
            refine z_iload_n (pc := 51) h dX11_fits_51 rfl ?_
            refine z_iload (pc := 52) h dX11_fits_52 rfl ?_
            refine z_callS (pc := 54) (rest := ([] : List zV)) h (m_X11_fitsBy a b c u S (by first | assumption | omega) (by first | assumption | omega) (by first | assumption | omega) (by first | assumption | omega)) dX11_fits_54 mcX11_fitsBy msX11_fitsBy mlX11_128 rfl rfl ⟨by decide, by decide⟩ rfl (Nat.le_of_ble_eq_true rfl) ?_
            rintro _ _ ⟨rfl, ⟨hr54, rfl⟩ | ⟨hr54, rfl⟩⟩
            ·
              show zG x LM 57 [some (zr 0), some (zi a), some (zi b), some (zi c), some (zi d), some (zi e), some (zi z), some (zi u)] [zi 1] S
              refine z_if_eq (pc := 57) (tgt := 85) h dX11_fits_57 (by decide) ⟨by decide, by decide⟩ (fun hc57 => absurd hc57 (by decide)) (fun hc57 => ?_)
              refine z_iload_n (pc := 60) h dX11_fits_60 rfl ?_
              refine z_iload_n (pc := 61) h dX11_fits_61 rfl ?_
              refine z_iload (pc := 62) h dX11_fits_62 rfl ?_
              refine z_iload (pc := 64) h dX11_fits_64 rfl ?_
              refine z_callS (pc := 66) (rest := ([] : List zV)) h (m_X11_fitsBy a b d u S (by first | assumption | omega) (by first | assumption | omega) (by first | assumption | omega) (by first | assumption | omega)) dX11_fits_66 mcX11_fitsBy msX11_fitsBy mlX11_128 rfl rfl ⟨by decide, by decide⟩ rfl (Nat.le_of_ble_eq_true rfl) ?_
              rintro _ _ ⟨rfl, ⟨hr66, rfl⟩ | ⟨hr66, rfl⟩⟩
              ·
                show zG x LM 69 [some (zr 0), some (zi a), some (zi b), some (zi c), some (zi d), some (zi e), some (zi z), some (zi u)] [zi 1] S
                refine z_if_eq (pc := 69) (tgt := 85) h dX11_fits_69 (by decide) ⟨by decide, by decide⟩ (fun hc69 => absurd hc69 (by decide)) (fun hc69 => ?_)
                refine z_iload (pc := 72) h dX11_fits_72 rfl ?_
                refine z_iload (pc := 74) h dX11_fits_74 rfl ?_
                refine z_icmp_ne (pc := 76) (tgt := 82) h dX11_fits_76 (by decide) ⟨by omega, by omega⟩ ⟨by omega, by omega⟩ (fun hc76 => ?_) (fun hc76 => ?_)
                ·
                  refine z_iinc (pc := 82) (loc' := [some (zr 0), some (zi a), some (zi b), some (zi c), some (zi d), some (zi e), some (zi (z + 1)), some (zi u)]) h dX11_fits_82 rfl (Nat.le_of_ble_eq_true rfl) rfl rfl ?_
                  exact J85 (z + 1) (by omega) (by first | (rw [if_pos ((fitB_t (by omega)).mpr ⟨hr54.resolve_left (by omega), hr66⟩), if_neg (by omega)] at hI; exact hI) | (rw [if_neg (fun q => hr54 (Or.inr ((fitB_t (by omega)).mp q).1))] at hI; exact hI) | (rw [if_neg (fun q => hr66 ((fitB_t (by omega)).mp q).2)] at hI; exact hI))
                ·
                  refine z_iload (pc := 79) h dX11_fits_79 rfl ?_
                  exact z_iret (pc := 81) h dX11_fits_81 rfl ⟨rfl, congrArg (fun z => some (zi z)) (by first | (rw [sp_fits, if_neg (by omega)]) | (rw [if_pos ((fitB_t (by omega)).mpr ⟨hr54.resolve_left (by omega), hr66⟩), if_pos (by omega)] at hI; rw [← hI]; omega) | (rw [scan_0 (by omega), if_pos (by omega)] at hI; exact hI) | (rw [scan_0 (by omega), if_neg (by omega)] at hI; exact hI))⟩
              ·
                show zG x LM 69 [some (zr 0), some (zi a), some (zi b), some (zi c), some (zi d), some (zi e), some (zi z), some (zi u)] [zi 0] S
                refine z_if_eq (pc := 69) (tgt := 85) h dX11_fits_69 (by decide) ⟨by decide, by decide⟩ (fun hc69 => ?_) (fun hc69 => absurd hc69 (by decide))
                exact J85 z (by omega) (by first | (rw [if_pos ((fitB_t (by omega)).mpr ⟨hr54.resolve_left (by omega), hr66⟩), if_neg (by omega)] at hI; exact hI) | (rw [if_neg (fun q => hr54 (Or.inr ((fitB_t (by omega)).mp q).1))] at hI; exact hI) | (rw [if_neg (fun q => hr66 ((fitB_t (by omega)).mp q).2)] at hI; exact hI))
            ·
              show zG x LM 57 [some (zr 0), some (zi a), some (zi b), some (zi c), some (zi d), some (zi e), some (zi z), some (zi u)] [zi 0] S
              refine z_if_eq (pc := 57) (tgt := 85) h dX11_fits_57 (by decide) ⟨by decide, by decide⟩ (fun hc57 => ?_) (fun hc57 => absurd hc57 (by decide))
              exact J85 z (by omega) (by first | (rw [if_pos ((fitB_t (by omega)).mpr ⟨hr54.resolve_left (by omega), hr66⟩), if_neg (by omega)] at hI; exact hI) | (rw [if_neg (fun q => hr54 (Or.inr ((fitB_t (by omega)).mp q).1))] at hI; exact hI) | (rw [if_neg (fun q => hr66 ((fitB_t (by omega)).mp q).2)] at hI; exact hI))
        refine z_iconst (pc := 35) h dX11_fits_35 ?_
        refine z_istore (pc := 36) (loc' := [some (zr 0), some (zi a), some (zi b), some (zi c), some (zi d), some (zi e), some (zi 0), none]) h dX11_fits_36 (Nat.le_of_ble_eq_true rfl) rfl rfl ?_
        refine z_iconst (pc := 38) h dX11_fits_38 ?_
        refine z_istore (pc := 39) (loc' := [some (zr 0), some (zi a), some (zi b), some (zi c), some (zi d), some (zi e), some (zi 0), some (zi 0)]) h dX11_fits_39 (Nat.le_of_ble_eq_true rfl) rfl rfl ?_
        exact J41 _ 0 0 (by omega) (by omega) (by rw [sp_fits, if_pos (by omega)]; rfl) rfl
      ·
        refine z_bipush (pc := 32) h dX11_fits_32 rfl ?_
        exact z_iret (pc := 34) h dX11_fits_34 rfl ⟨rfl, congrArg (fun z => some (zi z)) (by first | (rw [sp_fits, if_neg (by omega)]) | (rw [if_pos ((fitB_t (by omega)).mpr ⟨hr54.resolve_left (by omega), hr66⟩), if_pos (by omega)] at hI; rw [← hI]; omega) | (rw [scan_0 (by omega), if_pos (by omega)] at hI; exact hI) | (rw [scan_0 (by omega), if_neg (by omega)] at hI; exact hI))⟩
    ·
      refine z_iload (pc := 15) h dX11_fits_15 rfl ?_
      refine z_iconst (pc := 17) h dX11_fits_17 ?_
      refine z_bipush (pc := 18) h dX11_fits_18 rfl ?_
      refine z_callS (pc := 20) (rest := ([] : List zV)) h (m_X11_in d 1 99 S ⟨by omega, by omega⟩ ⟨by decide, by decide⟩ ⟨by decide, by decide⟩) dX11_fits_20 mcX11_in msX11_in mlX11_75 rfl rfl ⟨by decide, by decide⟩ rfl (Nat.le_of_ble_eq_true rfl) ?_
      rintro _ _ ⟨rfl, ⟨hr20, rfl⟩ | ⟨hr20, rfl⟩⟩
      ·
        show zG x LM 23 [some (zr 0), some (zi a), some (zi b), some (zi c), some (zi d), some (zi e), none, none] [zi 1] S
        refine z_if_eq (pc := 23) (tgt := 32) h dX11_fits_23 (by decide) ⟨by decide, by decide⟩ (fun hc23 => absurd hc23 (by decide)) (fun hc23 => ?_)
        refine z_iload (pc := 26) h dX11_fits_26 rfl ?_
        refine z_iconst (pc := 28) h dX11_fits_28 ?_
        refine z_icmp_ge (pc := 29) (tgt := 35) h dX11_fits_29 (by decide) ⟨by omega, by omega⟩ ⟨by decide, by decide⟩ (fun hc29 => ?_) (fun hc29 => ?_)
        ·
          have J41 : ∀ (N : Nat) (z u : Int) (hu : 0 ≤ u ∧ u ≤ 1000) (hz : 0 ≤ z ∧ z ≤ u) (hI : scanR (fitB a b c d) (fun n => (n : Int)) e (1000 - u).toNat u.toNat z = sp_fits a b c d e) , (1000 - u).toNat = N → zG x LM 41 [some (zr 0), some (zi a), some (zi b), some (zi c), some (zi d), some (zi e), some (zi z), some (zi u)] ([] : List zV) S := by
            intro N
            induction N using Nat.strongRecOn with
            | _ N ih41 => ?_
            intro z u hu hz hI hN41
            refine z_iload (pc := 41) h dX11_fits_41 rfl ?_
            refine z_sipush (pc := 43) h dX11_fits_43 rfl ?_
            refine z_icmp_ge (pc := 46) (tgt := 91) h dX11_fits_46 (by decide) ⟨by omega, by omega⟩ ⟨by decide, by decide⟩ (fun hc46 => ?_) (fun hc46 => ?_)
            ·
              refine z_iload (pc := 91) h dX11_fits_91 rfl ?_
              refine z_iconst (pc := 93) h dX11_fits_93 ?_
              refine z_icmp_ne (pc := 94) (tgt := 102) h dX11_fits_94 (by decide) ⟨by omega, by omega⟩ ⟨by decide, by decide⟩ (fun hc94 => ?_) (fun hc94 => ?_)
              ·
                refine z_iconst (pc := 102) h dX11_fits_102 ?_
                exact z_iret (pc := 103) h dX11_fits_103 rfl ⟨rfl, congrArg (fun z => some (zi z)) (by first | (rw [sp_fits, if_neg (by omega)]) | (rw [if_pos ((fitB_t (by omega)).mpr ⟨hr54.resolve_left (by omega), hr66⟩), if_pos (by omega)] at hI; rw [← hI]; omega) | (rw [scan_0 (by omega), if_pos (by omega)] at hI; exact hI) | (rw [scan_0 (by omega), if_neg (by omega)] at hI; exact hI))⟩
              ·
                refine z_iload (pc := 97) h dX11_fits_97 rfl ?_
                refine z_goto (pc := 99) (tgt := 103) h dX11_fits_99 (by decide) ?_
                exact z_iret (pc := 103) h dX11_fits_103 rfl ⟨rfl, congrArg (fun z => some (zi z)) (by first | (rw [sp_fits, if_neg (by omega)]) | (rw [if_pos ((fitB_t (by omega)).mpr ⟨hr54.resolve_left (by omega), hr66⟩), if_pos (by omega)] at hI; rw [← hI]; omega) | (rw [scan_0 (by omega), if_pos (by omega)] at hI; exact hI) | (rw [scan_0 (by omega), if_neg (by omega)] at hI; exact hI))⟩
            ·
              have J85 : ∀ (z2 : Int) (hc2 : 0 ≤ z2 ∧ z2 ≤ u + 1) (hK : scanR (fitB a b c d) (fun n => (n : Int)) e (1000 - (u + 1)).toNat (u + 1).toNat z2 = sp_fits a b c d e) , zG x LM 85 [some (zr 0), some (zi a), some (zi b), some (zi c), some (zi d), some (zi e), some (zi z2), some (zi u)] ([] : List zV) S := by
                intro z2 hc2 hK
                refine z_iinc (pc := 85) (loc' := [some (zr 0), some (zi a), some (zi b), some (zi c), some (zi d), some (zi e), some (zi z2), some (zi (u + 1))]) h dX11_fits_85 rfl (Nat.le_of_ble_eq_true rfl) rfl rfl ?_
                refine z_goto (pc := 88) (tgt := 41) h dX11_fits_88 (by decide) ?_
                exact ih41 _ (by omega) z2 (u + 1) (by omega) (by omega) (by exact hK) rfl
              rw [scan_s (r' := (1000 - (u + 1)).toNat) (t' := (u + 1).toNat) (by omega) (by omega)] at hI
              refine z_iload_n (pc := 49) h dX11_fits_49 rfl ?_
              refine z_iload_n (pc := 50) h dX11_fits_50 rfl ?_
              refine z_iload_n (pc := 51) h dX11_fits_51 rfl ?_
              refine z_iload (pc := 52) h dX11_fits_52 rfl ?_
              refine z_callS (pc := 54) (rest := ([] : List zV)) h (m_X11_fitsBy a b c u S (by first | assumption | omega) (by first | assumption | omega) (by first | assumption | omega) (by first | assumption | omega)) dX11_fits_54 mcX11_fitsBy msX11_fitsBy mlX11_128 rfl rfl ⟨by decide, by decide⟩ rfl (Nat.le_of_ble_eq_true rfl) ?_
              rintro _ _ ⟨rfl, ⟨hr54, rfl⟩ | ⟨hr54, rfl⟩⟩
              ·
                show zG x LM 57 [some (zr 0), some (zi a), some (zi b), some (zi c), some (zi d), some (zi e), some (zi z), some (zi u)] [zi 1] S
                refine z_if_eq (pc := 57) (tgt := 85) h dX11_fits_57 (by decide) ⟨by decide, by decide⟩ (fun hc57 => absurd hc57 (by decide)) (fun hc57 => ?_)
                refine z_iload_n (pc := 60) h dX11_fits_60 rfl ?_
                refine z_iload_n (pc := 61) h dX11_fits_61 rfl ?_
                refine z_iload (pc := 62) h dX11_fits_62 rfl ?_
                refine z_iload (pc := 64) h dX11_fits_64 rfl ?_
                refine z_callS (pc := 66) (rest := ([] : List zV)) h (m_X11_fitsBy a b d u S (by first | assumption | omega) (by first | assumption | omega) (by first | assumption | omega) (by first | assumption | omega)) dX11_fits_66 mcX11_fitsBy msX11_fitsBy mlX11_128 rfl rfl ⟨by decide, by decide⟩ rfl (Nat.le_of_ble_eq_true rfl) ?_
                rintro _ _ ⟨rfl, ⟨hr66, rfl⟩ | ⟨hr66, rfl⟩⟩
                ·
                  show zG x LM 69 [some (zr 0), some (zi a), some (zi b), some (zi c), some (zi d), some (zi e), some (zi z), some (zi u)] [zi 1] S
                  refine z_if_eq (pc := 69) (tgt := 85) h dX11_fits_69 (by decide) ⟨by decide, by decide⟩ (fun hc69 => absurd hc69 (by decide)) (fun hc69 => ?_)
                  refine z_iload (pc := 72) h dX11_fits_72 rfl ?_
                  refine z_iload (pc := 74) h dX11_fits_74 rfl ?_
                  refine z_icmp_ne (pc := 76) (tgt := 82) h dX11_fits_76 (by decide) ⟨by omega, by omega⟩ ⟨by omega, by omega⟩ (fun hc76 => ?_) (fun hc76 => ?_)
                  ·
                    refine z_iinc (pc := 82) (loc' := [some (zr 0), some (zi a), some (zi b), some (zi c), some (zi d), some (zi e), some (zi (z + 1)), some (zi u)]) h dX11_fits_82 rfl (Nat.le_of_ble_eq_true rfl) rfl rfl ?_
                    exact J85 (z + 1) (by omega) (by first | (rw [if_pos ((fitB_t (by omega)).mpr ⟨hr54.resolve_left (by omega), hr66⟩), if_neg (by omega)] at hI; exact hI) | (rw [if_neg (fun q => hr54 (Or.inr ((fitB_t (by omega)).mp q).1))] at hI; exact hI) | (rw [if_neg (fun q => hr66 ((fitB_t (by omega)).mp q).2)] at hI; exact hI))
                  ·
                    refine z_iload (pc := 79) h dX11_fits_79 rfl ?_
                    exact z_iret (pc := 81) h dX11_fits_81 rfl ⟨rfl, congrArg (fun z => some (zi z)) (by first | (rw [sp_fits, if_neg (by omega)]) | (rw [if_pos ((fitB_t (by omega)).mpr ⟨hr54.resolve_left (by omega), hr66⟩), if_pos (by omega)] at hI; rw [← hI]; omega) | (rw [scan_0 (by omega), if_pos (by omega)] at hI; exact hI) | (rw [scan_0 (by omega), if_neg (by omega)] at hI; exact hI))⟩
                ·
                  show zG x LM 69 [some (zr 0), some (zi a), some (zi b), some (zi c), some (zi d), some (zi e), some (zi z), some (zi u)] [zi 0] S
                  refine z_if_eq (pc := 69) (tgt := 85) h dX11_fits_69 (by decide) ⟨by decide, by decide⟩ (fun hc69 => ?_) (fun hc69 => absurd hc69 (by decide))
                  exact J85 z (by omega) (by first | (rw [if_pos ((fitB_t (by omega)).mpr ⟨hr54.resolve_left (by omega), hr66⟩), if_neg (by omega)] at hI; exact hI) | (rw [if_neg (fun q => hr54 (Or.inr ((fitB_t (by omega)).mp q).1))] at hI; exact hI) | (rw [if_neg (fun q => hr66 ((fitB_t (by omega)).mp q).2)] at hI; exact hI))
              ·
                show zG x LM 57 [some (zr 0), some (zi a), some (zi b), some (zi c), some (zi d), some (zi e), some (zi z), some (zi u)] [zi 0] S
                refine z_if_eq (pc := 57) (tgt := 85) h dX11_fits_57 (by decide) ⟨by decide, by decide⟩ (fun hc57 => ?_) (fun hc57 => absurd hc57 (by decide))
                exact J85 z (by omega) (by first | (rw [if_pos ((fitB_t (by omega)).mpr ⟨hr54.resolve_left (by omega), hr66⟩), if_neg (by omega)] at hI; exact hI) | (rw [if_neg (fun q => hr54 (Or.inr ((fitB_t (by omega)).mp q).1))] at hI; exact hI) | (rw [if_neg (fun q => hr66 ((fitB_t (by omega)).mp q).2)] at hI; exact hI))
          refine z_iconst (pc := 35) h dX11_fits_35 ?_
          refine z_istore (pc := 36) (loc' := [some (zr 0), some (zi a), some (zi b), some (zi c), some (zi d), some (zi e), some (zi 0), none]) h dX11_fits_36 (Nat.le_of_ble_eq_true rfl) rfl rfl ?_
          refine z_iconst (pc := 38) h dX11_fits_38 ?_
          refine z_istore (pc := 39) (loc' := [some (zr 0), some (zi a), some (zi b), some (zi c), some (zi d), some (zi e), some (zi 0), some (zi 0)]) h dX11_fits_39 (Nat.le_of_ble_eq_true rfl) rfl rfl ?_
          exact J41 _ 0 0 (by omega) (by omega) (by rw [sp_fits, if_pos (by omega)]; rfl) rfl
        ·
          refine z_bipush (pc := 32) h dX11_fits_32 rfl ?_
          exact z_iret (pc := 34) h dX11_fits_34 rfl ⟨rfl, congrArg (fun z => some (zi z)) (by first | (rw [sp_fits, if_neg (by omega)]) | (rw [if_pos ((fitB_t (by omega)).mpr ⟨hr54.resolve_left (by omega), hr66⟩), if_pos (by omega)] at hI; rw [← hI]; omega) | (rw [scan_0 (by omega), if_pos (by omega)] at hI; exact hI) | (rw [scan_0 (by omega), if_neg (by omega)] at hI; exact hI))⟩
      ·
        show zG x LM 23 [some (zr 0), some (zi a), some (zi b), some (zi c), some (zi d), some (zi e), none, none] [zi 0] S
        refine z_if_eq (pc := 23) (tgt := 32) h dX11_fits_23 (by decide) ⟨by decide, by decide⟩ (fun hc23 => ?_) (fun hc23 => absurd hc23 (by decide))
        refine z_bipush (pc := 32) h dX11_fits_32 rfl ?_
        exact z_iret (pc := 34) h dX11_fits_34 rfl ⟨rfl, congrArg (fun z => some (zi z)) (by first | (rw [sp_fits, if_neg (by omega)]) | (rw [if_pos ((fitB_t (by omega)).mpr ⟨hr54.resolve_left (by omega), hr66⟩), if_pos (by omega)] at hI; rw [← hI]; omega) | (rw [scan_0 (by omega), if_pos (by omega)] at hI; exact hI) | (rw [scan_0 (by omega), if_neg (by omega)] at hI; exact hI))⟩
  ·
    show zG x LM 6 [some (zr 0), some (zi a), some (zi b), some (zi c), some (zi d), some (zi e), none, none] [zi 0] S
    refine z_if_eq (pc := 6) (tgt := 32) h dX11_fits_6 (by decide) ⟨by decide, by decide⟩ (fun hc6 => ?_) (fun hc6 => absurd hc6 (by decide))
    refine z_bipush (pc := 32) h dX11_fits_32 rfl ?_
    exact z_iret (pc := 34) h dX11_fits_34 rfl ⟨rfl, congrArg (fun z => some (zi z)) (by first | (rw [sp_fits, if_neg (by omega)]) | (rw [if_pos ((fitB_t (by omega)).mpr ⟨hr54.resolve_left (by omega), hr66⟩), if_pos (by omega)] at hI; rw [← hI]; omega) | (rw [scan_0 (by omega), if_pos (by omega)] at hI; exact hI) | (rw [scan_0 (by omega), if_neg (by omega)] at hI; exact hI))⟩

set_option maxRecDepth 100000 in
set_option maxHeartbeats 4000000 in
theorem m_X11_upTo (a b c d e : Int) (S : SS) (ha : r32 a) (hb : r32 b) (hc : r32 c) (hd : r32 d) (he : r32 e) : zM LM yX11_upTo cX11_upTo 8 (some .int) 2 44 [zr 0, zi a, zi b, zi c, zi d, zi e] S (fun r S' => S = S' ∧ r = some (zi (sp_upTo a b c d e))) := by
  refine zM_of (own := RX11) rfl (by decide +kernel) [some (zr 0), some (zi a), some (zi b), some (zi c), some (zi d), some (zi e), none, none] (Nat.le_of_ble_eq_true rfl) rfl ?_
  intro x h
  refine z_iload_n (pc := 0) h dX11_upTo_0 rfl ?_
  refine z_iload_n (pc := 1) h dX11_upTo_1 rfl ?_
  refine z_iload_n (pc := 2) h dX11_upTo_2 rfl ?_
  refine z_callS (pc := 3) (rest := ([] : List zV)) h (m_X11_isWheel a b c S ⟨by omega, by omega⟩ ⟨by omega, by omega⟩ ⟨by omega, by omega⟩) dX11_upTo_3 mcX11_isWheel msX11_isWheel mlX11_125 rfl rfl ⟨by decide, by decide⟩ rfl (Nat.le_of_ble_eq_true rfl) ?_
  rintro _ _ ⟨rfl, ⟨hr3, rfl⟩ | ⟨hr3, rfl⟩⟩
  ·
    show zG x LM 6 [some (zr 0), some (zi a), some (zi b), some (zi c), some (zi d), some (zi e), none, none] [zi 1] S
    refine z_if_eq (pc := 6) (tgt := 38) h dX11_upTo_6 (by decide) ⟨by decide, by decide⟩ (fun hc6 => absurd hc6 (by decide)) (fun hc6 => ?_)
    refine z_iload (pc := 9) h dX11_upTo_9 rfl ?_
    refine z_iconst (pc := 11) h dX11_upTo_11 ?_
    refine z_icmp_eq (pc := 12) (tgt := 26) h dX11_upTo_12 (by decide) ⟨by omega, by omega⟩ ⟨by decide, by decide⟩ (fun hc12 => ?_) (fun hc12 => ?_)
    ·
      refine z_iload (pc := 26) h dX11_upTo_26 rfl ?_
      refine z_iconst (pc := 28) h dX11_upTo_28 ?_
      refine z_sipush (pc := 29) h dX11_upTo_29 rfl ?_
      refine z_callS (pc := 32) (rest := ([] : List zV)) h (m_X11_in e 0 999 S ⟨by omega, by omega⟩ ⟨by decide, by decide⟩ ⟨by decide, by decide⟩) dX11_upTo_32 mcX11_in msX11_in mlX11_75 rfl rfl ⟨by decide, by decide⟩ rfl (Nat.le_of_ble_eq_true rfl) ?_
      rintro _ _ ⟨rfl, ⟨hr32, rfl⟩ | ⟨hr32, rfl⟩⟩
      ·
        show zG x LM 35 [some (zr 0), some (zi a), some (zi b), some (zi c), some (zi d), some (zi e), none, none] [zi 1] S
        refine z_if_ne (pc := 35) (tgt := 41) h dX11_upTo_35 (by decide) ⟨by decide, by decide⟩ (fun hc35 => ?_) (fun hc35 => absurd hc35 (by decide))
        have J47 : ∀ (N : Nat) (z u : Int) (hu : 0 ≤ u ∧ u ≤ e + 1) (hz : 0 ≤ z ∧ z ≤ u) (hI : scanR (fitB a b c d) (fun n => (n : Int)) (-1) (e + 1 - u).toNat u.toNat z = sp_upTo a b c d e) , (e + 1 - u).toNat = N → zG x LM 47 [some (zr 0), some (zi a), some (zi b), some (zi c), some (zi d), some (zi e), some (zi z), some (zi u)] ([] : List zV) S := by
          intro N
          induction N using Nat.strongRecOn with
          | _ N ih47 => ?_
          intro z u hu hz hI hN47
          refine z_iload (pc := 47) h dX11_upTo_47 rfl ?_
          refine z_iload (pc := 49) h dX11_upTo_49 rfl ?_
          refine z_icmp_gt (pc := 51) (tgt := 93) h dX11_upTo_51 (by decide) ⟨by omega, by omega⟩ ⟨by omega, by omega⟩ (fun hc51 => ?_) (fun hc51 => ?_)
          ·
            refine z_iload (pc := 93) h dX11_upTo_93 rfl ?_
            exact z_iret (pc := 95) h dX11_upTo_95 rfl ⟨rfl, congrArg (fun z => some (zi z)) (by first | (rw [sp_upTo, if_neg (by omega)]) | (rw [scan_0 (by omega), if_pos rfl] at hI; exact hI))⟩
          ·
            have J84 : ∀ (y : Int) (hy : 0 ≤ y ∧ y ≤ 1) (hK : scanR (fitB a b c d) (fun n => (n : Int)) (-1) (e + 1 - (u + 1)).toNat (u + 1).toNat (z + y) = sp_upTo a b c d e) , zG x LM 84 [some (zr 0), some (zi a), some (zi b), some (zi c), some (zi d), some (zi e), some (zi z), some (zi u)] [zi y, zi z] S := by
              intro y hy hK
              refine z_iadd (pc := 84) h dX11_upTo_84 ?_
              refine z_istore (pc := 85) (loc' := [some (zr 0), some (zi a), some (zi b), some (zi c), some (zi d), some (zi e), some (zi (z + y)), some (zi u)]) h dX11_upTo_85 (Nat.le_of_ble_eq_true rfl) rfl rfl ?_
              refine z_iinc (pc := 87) (loc' := [some (zr 0), some (zi a), some (zi b), some (zi c), some (zi d), some (zi e), some (zi (z + y)), some (zi (u + 1))]) h dX11_upTo_87 rfl (Nat.le_of_ble_eq_true rfl) rfl rfl ?_
              refine z_goto (pc := 90) (tgt := 47) h dX11_upTo_90 (by decide) ?_
              exact ih47 _ (by omega) (z + y) (u + 1) (by omega) (by omega) (by exact hK) rfl
            rw [scan_s (r' := (e + 1 - (u + 1)).toNat) (t' := (u + 1).toNat) (by omega) (by omega)] at hI
            refine z_iload (pc := 54) h dX11_upTo_54 rfl ?_
            refine z_iload_n (pc := 56) h dX11_upTo_56 rfl ?_
            refine z_iload_n (pc := 57) h dX11_upTo_57 rfl ?_
            refine z_iload_n (pc := 58) h dX11_upTo_58 rfl ?_
            refine z_iload (pc := 59) h dX11_upTo_59 rfl ?_
            refine z_callS (pc := 61) (rest := [zi z]) h (m_X11_fitsBy a b c u S (by first | assumption | omega) (by first | assumption | omega) (by first | assumption | omega) (by first | assumption | omega)) dX11_upTo_61 mcX11_fitsBy msX11_fitsBy mlX11_128 rfl rfl ⟨by decide, by decide⟩ rfl (Nat.le_of_ble_eq_true rfl) ?_
            rintro _ _ ⟨rfl, ⟨hr61, rfl⟩ | ⟨hr61, rfl⟩⟩
            ·
              show zG x LM 64 [some (zr 0), some (zi a), some (zi b), some (zi c), some (zi d), some (zi e), some (zi z), some (zi u)] [zi 1, zi z] S
              refine z_if_eq (pc := 64) (tgt := 83) h dX11_upTo_64 (by decide) ⟨by decide, by decide⟩ (fun hc64 => absurd hc64 (by decide)) (fun hc64 => ?_)
              refine z_iload_n (pc := 67) h dX11_upTo_67 rfl ?_
              refine z_iload_n (pc := 68) h dX11_upTo_68 rfl ?_
              refine z_iload (pc := 69) h dX11_upTo_69 rfl ?_
              refine z_iload (pc := 71) h dX11_upTo_71 rfl ?_
              refine z_callS (pc := 73) (rest := [zi z]) h (m_X11_fitsBy a b d u S (by first | assumption | omega) (by first | assumption | omega) (by first | assumption | omega) (by first | assumption | omega)) dX11_upTo_73 mcX11_fitsBy msX11_fitsBy mlX11_128 rfl rfl ⟨by decide, by decide⟩ rfl (Nat.le_of_ble_eq_true rfl) ?_
              rintro _ _ ⟨rfl, ⟨hr73, rfl⟩ | ⟨hr73, rfl⟩⟩
              ·
                show zG x LM 76 [some (zr 0), some (zi a), some (zi b), some (zi c), some (zi d), some (zi e), some (zi z), some (zi u)] [zi 1, zi z] S
                refine z_if_eq (pc := 76) (tgt := 83) h dX11_upTo_76 (by decide) ⟨by decide, by decide⟩ (fun hc76 => absurd hc76 (by decide)) (fun hc76 => ?_)
                refine z_iconst (pc := 79) h dX11_upTo_79 ?_
                refine z_goto (pc := 80) (tgt := 84) h dX11_upTo_80 (by decide) ?_
                exact J84 1 (by omega) (by first | (rw [if_pos ((fitB_t (by omega)).mpr ⟨hr61.resolve_left (by omega), hr73⟩), if_neg (by omega)] at hI; exact hI) | (rw [if_neg (fun q => hr61 (Or.inr ((fitB_t (by omega)).mp q).1))] at hI; rw [Int.add_zero]; exact hI) | (rw [if_neg (fun q => hr73 ((fitB_t (by omega)).mp q).2)] at hI; rw [Int.add_zero]; exact hI))
              ·
                show zG x LM 76 [some (zr 0), some (zi a), some (zi b), some (zi c), some (zi d), some (zi e), some (zi z), some (zi u)] [zi 0, zi z] S
                refine z_if_eq (pc := 76) (tgt := 83) h dX11_upTo_76 (by decide) ⟨by decide, by decide⟩ (fun hc76 => ?_) (fun hc76 => absurd hc76 (by decide))
                refine z_iconst (pc := 83) h dX11_upTo_83 ?_
                exact J84 0 (by omega) (by first | (rw [if_pos ((fitB_t (by omega)).mpr ⟨hr61.resolve_left (by omega), hr73⟩), if_neg (by omega)] at hI; exact hI) | (rw [if_neg (fun q => hr61 (Or.inr ((fitB_t (by omega)).mp q).1))] at hI; rw [Int.add_zero]; exact hI) | (rw [if_neg (fun q => hr73 ((fitB_t (by omega)).mp q).2)] at hI; rw [Int.add_zero]; exact hI))
            ·
              show zG x LM 64 [some (zr 0), some (zi a), some (zi b), some (zi c), some (zi d), some (zi e), some (zi z), some (zi u)] [zi 0, zi z] S
              refine z_if_eq (pc := 64) (tgt := 83) h dX11_upTo_64 (by decide) ⟨by decide, by decide⟩ (fun hc64 => ?_) (fun hc64 => absurd hc64 (by decide))
              refine z_iconst (pc := 83) h dX11_upTo_83 ?_
              exact J84 0 (by omega) (by first | (rw [if_pos ((fitB_t (by omega)).mpr ⟨hr61.resolve_left (by omega), hr73⟩), if_neg (by omega)] at hI; exact hI) | (rw [if_neg (fun q => hr61 (Or.inr ((fitB_t (by omega)).mp q).1))] at hI; rw [Int.add_zero]; exact hI) | (rw [if_neg (fun q => hr73 ((fitB_t (by omega)).mp q).2)] at hI; rw [Int.add_zero]; exact hI))
        refine z_iconst (pc := 41) h dX11_upTo_41 ?_
        refine z_istore (pc := 42) (loc' := [some (zr 0), some (zi a), some (zi b), some (zi c), some (zi d), some (zi e), some (zi 0), none]) h dX11_upTo_42 (Nat.le_of_ble_eq_true rfl) rfl rfl ?_
        refine z_iconst (pc := 44) h dX11_upTo_44 ?_
        refine z_istore (pc := 45) (loc' := [some (zr 0), some (zi a), some (zi b), some (zi c), some (zi d), some (zi e), some (zi 0), some (zi 0)]) h dX11_upTo_45 (Nat.le_of_ble_eq_true rfl) rfl rfl ?_
        exact J47 _ 0 0 (by omega) (by omega) (by rw [sp_upTo, if_pos (by omega)]; unfold upToF; congr 1 <;> omega) rfl
      ·
        show zG x LM 35 [some (zr 0), some (zi a), some (zi b), some (zi c), some (zi d), some (zi e), none, none] [zi 0] S
        refine z_if_ne (pc := 35) (tgt := 41) h dX11_upTo_35 (by decide) ⟨by decide, by decide⟩ (fun hc35 => absurd hc35 (by decide)) (fun hc35 => ?_)
        refine z_bipush (pc := 38) h dX11_upTo_38 rfl ?_
        exact z_iret (pc := 40) h dX11_upTo_40 rfl ⟨rfl, congrArg (fun z => some (zi z)) (by first | (rw [sp_upTo, if_neg (by omega)]) | (rw [scan_0 (by omega), if_pos rfl] at hI; exact hI))⟩
    ·
      refine z_iload (pc := 15) h dX11_upTo_15 rfl ?_
      refine z_iconst (pc := 17) h dX11_upTo_17 ?_
      refine z_bipush (pc := 18) h dX11_upTo_18 rfl ?_
      refine z_callS (pc := 20) (rest := ([] : List zV)) h (m_X11_in d 1 99 S ⟨by omega, by omega⟩ ⟨by decide, by decide⟩ ⟨by decide, by decide⟩) dX11_upTo_20 mcX11_in msX11_in mlX11_75 rfl rfl ⟨by decide, by decide⟩ rfl (Nat.le_of_ble_eq_true rfl) ?_
      rintro _ _ ⟨rfl, ⟨hr20, rfl⟩ | ⟨hr20, rfl⟩⟩
      ·
        show zG x LM 23 [some (zr 0), some (zi a), some (zi b), some (zi c), some (zi d), some (zi e), none, none] [zi 1] S
        refine z_if_eq (pc := 23) (tgt := 38) h dX11_upTo_23 (by decide) ⟨by decide, by decide⟩ (fun hc23 => absurd hc23 (by decide)) (fun hc23 => ?_)
        refine z_iload (pc := 26) h dX11_upTo_26 rfl ?_
        refine z_iconst (pc := 28) h dX11_upTo_28 ?_
        refine z_sipush (pc := 29) h dX11_upTo_29 rfl ?_
        refine z_callS (pc := 32) (rest := ([] : List zV)) h (m_X11_in e 0 999 S ⟨by omega, by omega⟩ ⟨by decide, by decide⟩ ⟨by decide, by decide⟩) dX11_upTo_32 mcX11_in msX11_in mlX11_75 rfl rfl ⟨by decide, by decide⟩ rfl (Nat.le_of_ble_eq_true rfl) ?_
        rintro _ _ ⟨rfl, ⟨hr32, rfl⟩ | ⟨hr32, rfl⟩⟩
        ·
          show zG x LM 35 [some (zr 0), some (zi a), some (zi b), some (zi c), some (zi d), some (zi e), none, none] [zi 1] S
          refine z_if_ne (pc := 35) (tgt := 41) h dX11_upTo_35 (by decide) ⟨by decide, by decide⟩ (fun hc35 => ?_) (fun hc35 => absurd hc35 (by decide))
          have J47 : ∀ (N : Nat) (z u : Int) (hu : 0 ≤ u ∧ u ≤ e + 1) (hz : 0 ≤ z ∧ z ≤ u) (hI : scanR (fitB a b c d) (fun n => (n : Int)) (-1) (e + 1 - u).toNat u.toNat z = sp_upTo a b c d e) , (e + 1 - u).toNat = N → zG x LM 47 [some (zr 0), some (zi a), some (zi b), some (zi c), some (zi d), some (zi e), some (zi z), some (zi u)] ([] : List zV) S := by
            intro N
            induction N using Nat.strongRecOn with
            | _ N ih47 => ?_
            intro z u hu hz hI hN47
            refine z_iload (pc := 47) h dX11_upTo_47 rfl ?_
            refine z_iload (pc := 49) h dX11_upTo_49 rfl ?_
            refine z_icmp_gt (pc := 51) (tgt := 93) h dX11_upTo_51 (by decide) ⟨by omega, by omega⟩ ⟨by omega, by omega⟩ (fun hc51 => ?_) (fun hc51 => ?_)
            ·
              refine z_iload (pc := 93) h dX11_upTo_93 rfl ?_
              exact z_iret (pc := 95) h dX11_upTo_95 rfl ⟨rfl, congrArg (fun z => some (zi z)) (by first | (rw [sp_upTo, if_neg (by omega)]) | (rw [scan_0 (by omega), if_pos rfl] at hI; exact hI))⟩
            ·
              have J84 : ∀ (y : Int) (hy : 0 ≤ y ∧ y ≤ 1) (hK : scanR (fitB a b c d) (fun n => (n : Int)) (-1) (e + 1 - (u + 1)).toNat (u + 1).toNat (z + y) = sp_upTo a b c d e) , zG x LM 84 [some (zr 0), some (zi a), some (zi b), some (zi c), some (zi d), some (zi e), some (zi z), some (zi u)] [zi y, zi z] S := by
                intro y hy hK
                refine z_iadd (pc := 84) h dX11_upTo_84 ?_
                refine z_istore (pc := 85) (loc' := [some (zr 0), some (zi a), some (zi b), some (zi c), some (zi d), some (zi e), some (zi (z + y)), some (zi u)]) h dX11_upTo_85 (Nat.le_of_ble_eq_true rfl) rfl rfl ?_
                refine z_iinc (pc := 87) (loc' := [some (zr 0), some (zi a), some (zi b), some (zi c), some (zi d), some (zi e), some (zi (z + y)), some (zi (u + 1))]) h dX11_upTo_87 rfl (Nat.le_of_ble_eq_true rfl) rfl rfl ?_
                refine z_goto (pc := 90) (tgt := 47) h dX11_upTo_90 (by decide) ?_
                exact ih47 _ (by omega) (z + y) (u + 1) (by omega) (by omega) (by exact hK) rfl
              rw [scan_s (r' := (e + 1 - (u + 1)).toNat) (t' := (u + 1).toNat) (by omega) (by omega)] at hI
              refine z_iload (pc := 54) h dX11_upTo_54 rfl ?_
              refine z_iload_n (pc := 56) h dX11_upTo_56 rfl ?_
              refine z_iload_n (pc := 57) h dX11_upTo_57 rfl ?_
              refine z_iload_n (pc := 58) h dX11_upTo_58 rfl ?_
              refine z_iload (pc := 59) h dX11_upTo_59 rfl ?_
              refine z_callS (pc := 61) (rest := [zi z]) h (m_X11_fitsBy a b c u S (by first | assumption | omega) (by first | assumption | omega) (by first | assumption | omega) (by first | assumption | omega)) dX11_upTo_61 mcX11_fitsBy msX11_fitsBy mlX11_128 rfl rfl ⟨by decide, by decide⟩ rfl (Nat.le_of_ble_eq_true rfl) ?_
              rintro _ _ ⟨rfl, ⟨hr61, rfl⟩ | ⟨hr61, rfl⟩⟩
              ·
                show zG x LM 64 [some (zr 0), some (zi a), some (zi b), some (zi c), some (zi d), some (zi e), some (zi z), some (zi u)] [zi 1, zi z] S
                refine z_if_eq (pc := 64) (tgt := 83) h dX11_upTo_64 (by decide) ⟨by decide, by decide⟩ (fun hc64 => absurd hc64 (by decide)) (fun hc64 => ?_)
                refine z_iload_n (pc := 67) h dX11_upTo_67 rfl ?_
                refine z_iload_n (pc := 68) h dX11_upTo_68 rfl ?_
                refine z_iload (pc := 69) h dX11_upTo_69 rfl ?_
                refine z_iload (pc := 71) h dX11_upTo_71 rfl ?_
                refine z_callS (pc := 73) (rest := [zi z]) h (m_X11_fitsBy a b d u S (by first | assumption | omega) (by first | assumption | omega) (by first | assumption | omega) (by first | assumption | omega)) dX11_upTo_73 mcX11_fitsBy msX11_fitsBy mlX11_128 rfl rfl ⟨by decide, by decide⟩ rfl (Nat.le_of_ble_eq_true rfl) ?_
                rintro _ _ ⟨rfl, ⟨hr73, rfl⟩ | ⟨hr73, rfl⟩⟩
                ·
                  show zG x LM 76 [some (zr 0), some (zi a), some (zi b), some (zi c), some (zi d), some (zi e), some (zi z), some (zi u)] [zi 1, zi z] S
                  refine z_if_eq (pc := 76) (tgt := 83) h dX11_upTo_76 (by decide) ⟨by decide, by decide⟩ (fun hc76 => absurd hc76 (by decide)) (fun hc76 => ?_)
                  refine z_iconst (pc := 79) h dX11_upTo_79 ?_
                  refine z_goto (pc := 80) (tgt := 84) h dX11_upTo_80 (by decide) ?_
                  exact J84 1 (by omega) (by first | (rw [if_pos ((fitB_t (by omega)).mpr ⟨hr61.resolve_left (by omega), hr73⟩), if_neg (by omega)] at hI; exact hI) | (rw [if_neg (fun q => hr61 (Or.inr ((fitB_t (by omega)).mp q).1))] at hI; rw [Int.add_zero]; exact hI) | (rw [if_neg (fun q => hr73 ((fitB_t (by omega)).mp q).2)] at hI; rw [Int.add_zero]; exact hI))
                ·
                  show zG x LM 76 [some (zr 0), some (zi a), some (zi b), some (zi c), some (zi d), some (zi e), some (zi z), some (zi u)] [zi 0, zi z] S
                  refine z_if_eq (pc := 76) (tgt := 83) h dX11_upTo_76 (by decide) ⟨by decide, by decide⟩ (fun hc76 => ?_) (fun hc76 => absurd hc76 (by decide))
                  refine z_iconst (pc := 83) h dX11_upTo_83 ?_
                  exact J84 0 (by omega) (by first | (rw [if_pos ((fitB_t (by omega)).mpr ⟨hr61.resolve_left (by omega), hr73⟩), if_neg (by omega)] at hI; exact hI) | (rw [if_neg (fun q => hr61 (Or.inr ((fitB_t (by omega)).mp q).1))] at hI; rw [Int.add_zero]; exact hI) | (rw [if_neg (fun q => hr73 ((fitB_t (by omega)).mp q).2)] at hI; rw [Int.add_zero]; exact hI))
              ·
                show zG x LM 64 [some (zr 0), some (zi a), some (zi b), some (zi c), some (zi d), some (zi e), some (zi z), some (zi u)] [zi 0, zi z] S
                refine z_if_eq (pc := 64) (tgt := 83) h dX11_upTo_64 (by decide) ⟨by decide, by decide⟩ (fun hc64 => ?_) (fun hc64 => absurd hc64 (by decide))
                refine z_iconst (pc := 83) h dX11_upTo_83 ?_
                exact J84 0 (by omega) (by first | (rw [if_pos ((fitB_t (by omega)).mpr ⟨hr61.resolve_left (by omega), hr73⟩), if_neg (by omega)] at hI; exact hI) | (rw [if_neg (fun q => hr61 (Or.inr ((fitB_t (by omega)).mp q).1))] at hI; rw [Int.add_zero]; exact hI) | (rw [if_neg (fun q => hr73 ((fitB_t (by omega)).mp q).2)] at hI; rw [Int.add_zero]; exact hI))
          refine z_iconst (pc := 41) h dX11_upTo_41 ?_
          refine z_istore (pc := 42) (loc' := [some (zr 0), some (zi a), some (zi b), some (zi c), some (zi d), some (zi e), some (zi 0), none]) h dX11_upTo_42 (Nat.le_of_ble_eq_true rfl) rfl rfl ?_
          refine z_iconst (pc := 44) h dX11_upTo_44 ?_
          refine z_istore (pc := 45) (loc' := [some (zr 0), some (zi a), some (zi b), some (zi c), some (zi d), some (zi e), some (zi 0), some (zi 0)]) h dX11_upTo_45 (Nat.le_of_ble_eq_true rfl) rfl rfl ?_
          exact J47 _ 0 0 (by omega) (by omega) (by rw [sp_upTo, if_pos (by omega)]; unfold upToF; congr 1 <;> omega) rfl
        ·
          show zG x LM 35 [some (zr 0), some (zi a), some (zi b), some (zi c), some (zi d), some (zi e), none, none] [zi 0] S
          refine z_if_ne (pc := 35) (tgt := 41) h dX11_upTo_35 (by decide) ⟨by decide, by decide⟩ (fun hc35 => absurd hc35 (by decide)) (fun hc35 => ?_)
          refine z_bipush (pc := 38) h dX11_upTo_38 rfl ?_
          exact z_iret (pc := 40) h dX11_upTo_40 rfl ⟨rfl, congrArg (fun z => some (zi z)) (by first | (rw [sp_upTo, if_neg (by omega)]) | (rw [scan_0 (by omega), if_pos rfl] at hI; exact hI))⟩
      ·
        show zG x LM 23 [some (zr 0), some (zi a), some (zi b), some (zi c), some (zi d), some (zi e), none, none] [zi 0] S
        refine z_if_eq (pc := 23) (tgt := 38) h dX11_upTo_23 (by decide) ⟨by decide, by decide⟩ (fun hc23 => ?_) (fun hc23 => absurd hc23 (by decide))
        refine z_bipush (pc := 38) h dX11_upTo_38 rfl ?_
        exact z_iret (pc := 40) h dX11_upTo_40 rfl ⟨rfl, congrArg (fun z => some (zi z)) (by first | (rw [sp_upTo, if_neg (by omega)]) | (rw [scan_0 (by omega), if_pos rfl] at hI; exact hI))⟩
  ·
    show zG x LM 6 [some (zr 0), some (zi a), some (zi b), some (zi c), some (zi d), some (zi e), none, none] [zi 0] S
    refine z_if_eq (pc := 6) (tgt := 38) h dX11_upTo_6 (by decide) ⟨by decide, by decide⟩ (fun hc6 => ?_) (fun hc6 => absurd hc6 (by decide))
    refine z_bipush (pc := 38) h dX11_upTo_38 rfl ?_
    exact z_iret (pc := 40) h dX11_upTo_40 rfl ⟨rfl, congrArg (fun z => some (zi z)) (by first | (rw [sp_upTo, if_neg (by omega)]) | (rw [scan_0 (by omega), if_pos rfl] at hI; exact hI))⟩

set_option maxRecDepth 100000 in
set_option maxHeartbeats 4000000 in
theorem m_X11_drum (a b c : Int) (S : SS) (ha : r32 a) (hb : r32 b) (hc : r32 c) : zM LM yX11_drum cX11_drum 4 (some .int) 2 44 [zr 0, zi a, zi b, zi c] S (fun r S' => S = S' ∧ r = some (zi (sp_drum a b c))) := by
  refine zM_of (own := RX11) rfl (by decide +kernel) [some (zr 0), some (zi a), some (zi b), some (zi c)] (Nat.le_of_ble_eq_true rfl) rfl ?_
  intro x h
  refine z_iload_n (pc := 0) h dX11_drum_0 rfl ?_
  refine z_callS (pc := 1) (rest := ([] : List zV)) h (m_X11_isDrum a S ⟨by omega, by omega⟩) dX11_drum_1 mcX11_isDrum msX11_isDrum mlX11_105 rfl rfl ⟨by decide, by decide⟩ rfl (Nat.le_of_ble_eq_true rfl) ?_
  rintro _ _ ⟨rfl, ⟨hr1, rfl⟩ | ⟨hr1, rfl⟩⟩
  ·
    show zG x LM 4 [some (zr 0), some (zi a), some (zi b), some (zi c)] [zi 1] S
    refine z_if_eq (pc := 4) (tgt := 23) h dX11_drum_4 (by decide) ⟨by decide, by decide⟩ (fun hc4 => absurd hc4 (by decide)) (fun hc4 => ?_)
    refine z_iload_n (pc := 7) h dX11_drum_7 rfl ?_
    refine z_callS (pc := 8) (rest := ([] : List zV)) h (m_X11_isDrum b S ⟨by omega, by omega⟩) dX11_drum_8 mcX11_isDrum msX11_isDrum mlX11_105 rfl rfl ⟨by decide, by decide⟩ rfl (Nat.le_of_ble_eq_true rfl) ?_
    rintro _ _ ⟨rfl, ⟨hr8, rfl⟩ | ⟨hr8, rfl⟩⟩
    ·
      show zG x LM 11 [some (zr 0), some (zi a), some (zi b), some (zi c)] [zi 1] S
      refine z_if_eq (pc := 11) (tgt := 23) h dX11_drum_11 (by decide) ⟨by decide, by decide⟩ (fun hc11 => absurd hc11 (by decide)) (fun hc11 => ?_)
      refine z_iload_n (pc := 14) h dX11_drum_14 rfl ?_
      refine z_iconst (pc := 15) h dX11_drum_15 ?_
      refine z_iconst (pc := 16) h dX11_drum_16 ?_
      refine z_callS (pc := 17) (rest := ([] : List zV)) h (m_X11_in c 0 1 S ⟨by omega, by omega⟩ ⟨by decide, by decide⟩ ⟨by decide, by decide⟩) dX11_drum_17 mcX11_in msX11_in mlX11_75 rfl rfl ⟨by decide, by decide⟩ rfl (Nat.le_of_ble_eq_true rfl) ?_
      rintro _ _ ⟨rfl, ⟨hr17, rfl⟩ | ⟨hr17, rfl⟩⟩
      ·
        show zG x LM 20 [some (zr 0), some (zi a), some (zi b), some (zi c)] [zi 1] S
        refine z_if_ne (pc := 20) (tgt := 26) h dX11_drum_20 (by decide) ⟨by decide, by decide⟩ (fun hc20 => ?_) (fun hc20 => absurd hc20 (by decide))
        refine z_iload_n (pc := 26) h dX11_drum_26 rfl ?_
        refine z_if_ne (pc := 27) (tgt := 38) h dX11_drum_27 (by decide) ⟨by omega, by omega⟩ (fun hc27 => ?_) (fun hc27 => ?_)
        ·
          refine z_iload_n (pc := 38) h dX11_drum_38 rfl ?_
          refine z_iload_n (pc := 39) h dX11_drum_39 rfl ?_
          refine z_callS (pc := 40) (rest := ([] : List zV)) h (m_X11_seeming a b S (by first | assumption | omega) (by first | assumption | omega)) dX11_drum_40 mcX11_seeming msX11_seeming mlX11_108 rfl rfl ⟨by decide, by decide⟩ rfl (Nat.le_of_ble_eq_true rfl) ?_
          rintro _ _ ⟨rfl, rfl⟩
          show zG x LM 43 [some (zr 0), some (zi a), some (zi b), some (zi c)] [zi (seemF a b)] S
          exact z_iret (pc := 43) h dX11_drum_43 rfl ⟨rfl, congrArg (fun z => some (zi z)) (by unfold sp_drum; (repeat' split) <;> first | rfl | omega)⟩
        ·
          refine z_iload_n (pc := 30) h dX11_drum_30 rfl ?_
          refine z_iload_n (pc := 31) h dX11_drum_31 rfl ?_
          refine z_callS (pc := 32) (rest := ([] : List zV)) h (m_X11_nearest b a S (by first | assumption | omega) (by first | assumption | omega)) dX11_drum_32 mcX11_nearest msX11_nearest mlX11_102 rfl rfl ⟨by decide, by decide⟩ rfl (Nat.le_of_ble_eq_true rfl) ?_
          rintro _ _ ⟨rfl, rfl⟩
          show zG x LM 35 [some (zr 0), some (zi a), some (zi b), some (zi c)] [zi (nearF b a)] S
          refine z_goto (pc := 35) (tgt := 43) h dX11_drum_35 (by decide) ?_
          exact z_iret (pc := 43) h dX11_drum_43 rfl ⟨rfl, congrArg (fun z => some (zi z)) (by unfold sp_drum; (repeat' split) <;> first | rfl | omega)⟩
      ·
        show zG x LM 20 [some (zr 0), some (zi a), some (zi b), some (zi c)] [zi 0] S
        refine z_if_ne (pc := 20) (tgt := 26) h dX11_drum_20 (by decide) ⟨by decide, by decide⟩ (fun hc20 => absurd hc20 (by decide)) (fun hc20 => ?_)
        refine z_bipush (pc := 23) h dX11_drum_23 rfl ?_
        exact z_iret (pc := 25) h dX11_drum_25 rfl ⟨rfl, congrArg (fun z => some (zi z)) (by unfold sp_drum; (repeat' split) <;> first | rfl | omega)⟩
    ·
      show zG x LM 11 [some (zr 0), some (zi a), some (zi b), some (zi c)] [zi 0] S
      refine z_if_eq (pc := 11) (tgt := 23) h dX11_drum_11 (by decide) ⟨by decide, by decide⟩ (fun hc11 => ?_) (fun hc11 => absurd hc11 (by decide))
      refine z_bipush (pc := 23) h dX11_drum_23 rfl ?_
      exact z_iret (pc := 25) h dX11_drum_25 rfl ⟨rfl, congrArg (fun z => some (zi z)) (by unfold sp_drum; (repeat' split) <;> first | rfl | omega)⟩
  ·
    show zG x LM 4 [some (zr 0), some (zi a), some (zi b), some (zi c)] [zi 0] S
    refine z_if_eq (pc := 4) (tgt := 23) h dX11_drum_4 (by decide) ⟨by decide, by decide⟩ (fun hc4 => ?_) (fun hc4 => absurd hc4 (by decide))
    refine z_bipush (pc := 23) h dX11_drum_23 rfl ?_
    exact z_iret (pc := 25) h dX11_drum_25 rfl ⟨rfl, congrArg (fun z => some (zi z)) (by unfold sp_drum; (repeat' split) <;> first | rfl | omega)⟩

set_option maxRecDepth 100000 in
set_option maxHeartbeats 4000000 in
theorem m_X11_drift (a b c : Int) (S : SS) (ha : r32 a) (hb : r32 b) (hc : r32 c) : zM LM yX11_drift cX11_drift 4 (some .long) 2 47 [zr 0, zi a, zi b, zi c] S (fun r S' => S = S' ∧ r = some (zl (sp_drift a b c))) := by
  refine zM_of (own := RX11) rfl (by decide +kernel) [some (zr 0), some (zi a), some (zi b), some (zi c)] (Nat.le_of_ble_eq_true rfl) rfl ?_
  intro x h
  refine z_iload_n (pc := 0) h dX11_drift_0 rfl ?_
  refine z_callS (pc := 1) (rest := ([] : List zV)) h (m_X11_isDrum a S ⟨by omega, by omega⟩) dX11_drift_1 mcX11_isDrum msX11_isDrum mlX11_105 rfl rfl ⟨by decide, by decide⟩ rfl (Nat.le_of_ble_eq_true rfl) ?_
  rintro _ _ ⟨rfl, ⟨hr1, rfl⟩ | ⟨hr1, rfl⟩⟩
  ·
    show zG x LM 4 [some (zr 0), some (zi a), some (zi b), some (zi c)] [zi 1] S
    refine z_if_eq (pc := 4) (tgt := 23) h dX11_drift_4 (by decide) ⟨by decide, by decide⟩ (fun hc4 => absurd hc4 (by decide)) (fun hc4 => ?_)
    refine z_iload_n (pc := 7) h dX11_drift_7 rfl ?_
    refine z_callS (pc := 8) (rest := ([] : List zV)) h (m_X11_isDrum b S ⟨by omega, by omega⟩) dX11_drift_8 mcX11_isDrum msX11_isDrum mlX11_105 rfl rfl ⟨by decide, by decide⟩ rfl (Nat.le_of_ble_eq_true rfl) ?_
    rintro _ _ ⟨rfl, ⟨hr8, rfl⟩ | ⟨hr8, rfl⟩⟩
    ·
      show zG x LM 11 [some (zr 0), some (zi a), some (zi b), some (zi c)] [zi 1] S
      refine z_if_eq (pc := 11) (tgt := 23) h dX11_drift_11 (by decide) ⟨by decide, by decide⟩ (fun hc11 => absurd hc11 (by decide)) (fun hc11 => ?_)
      refine z_iload_n (pc := 14) h dX11_drift_14 rfl ?_
      refine z_iconst (pc := 15) h dX11_drift_15 ?_
      refine z_iconst (pc := 16) h dX11_drift_16 ?_
      refine z_callS (pc := 17) (rest := ([] : List zV)) h (m_X11_in c 0 1 S ⟨by omega, by omega⟩ ⟨by decide, by decide⟩ ⟨by decide, by decide⟩) dX11_drift_17 mcX11_in msX11_in mlX11_75 rfl rfl ⟨by decide, by decide⟩ rfl (Nat.le_of_ble_eq_true rfl) ?_
      rintro _ _ ⟨rfl, ⟨hr17, rfl⟩ | ⟨hr17, rfl⟩⟩
      ·
        show zG x LM 20 [some (zr 0), some (zi a), some (zi b), some (zi c)] [zi 1] S
        refine z_if_ne (pc := 20) (tgt := 29) h dX11_drift_20 (by decide) ⟨by decide, by decide⟩ (fun hc20 => ?_) (fun hc20 => absurd hc20 (by decide))
        refine z_iload_n (pc := 29) h dX11_drift_29 rfl ?_
        refine z_iload_n (pc := 30) h dX11_drift_30 rfl ?_
        refine z_iload_n (pc := 31) h dX11_drift_31 rfl ?_
        refine z_callS (pc := 32) (rest := [zi b]) h (m_X11_nearest b a S (by first | assumption | omega) (by first | assumption | omega)) dX11_drift_32 mcX11_nearest msX11_nearest mlX11_102 rfl rfl ⟨by decide, by decide⟩ rfl (Nat.le_of_ble_eq_true rfl) ?_
        rintro _ _ ⟨rfl, rfl⟩
        show zG x LM 35 [some (zr 0), some (zi a), some (zi b), some (zi c)] [zi (nearF b a), zi b] S
        refine z_iload_n (pc := 35) h dX11_drift_35 rfl ?_
        refine z_imul (pc := 36) h dX11_drift_36 ?_
        refine z_isub (pc := 37) h dX11_drift_37 ?_
        have hB := near_b b (b := a) (by omega)
        refine z_iload_n (pc := 38) h dX11_drift_38 rfl ?_
        refine z_iload_n (pc := 39) h dX11_drift_39 rfl ?_
        refine z_callS (pc := 40) (rest := ([] : List zV)) h (m_X11_lowest (b - ((nearF b a) * a)) a c S (by first | assumption | omega) (by first | assumption | omega) ⟨by omega, by omega⟩) dX11_drift_40 mcX11_lowest msX11_lowest mlX11_115 rfl rfl ⟨by decide, by decide⟩ rfl (Nat.le_of_ble_eq_true rfl) ?_
        rintro _ _ ⟨rfl, rfl⟩
        show zG x LM 43 [some (zr 0), some (zi a), some (zi b), some (zi c)] [zl (toldF (b - ((nearF b a) * a)) a c)] S
        exact z_lret (pc := 43) h dX11_drift_43 rfl ⟨rfl, congrArg (fun z => some (zl z)) (by unfold sp_drift; (repeat' split) <;> first | rfl | omega)⟩
      ·
        show zG x LM 20 [some (zr 0), some (zi a), some (zi b), some (zi c)] [zi 0] S
        refine z_if_ne (pc := 20) (tgt := 29) h dX11_drift_20 (by decide) ⟨by decide, by decide⟩ (fun hc20 => absurd hc20 (by decide)) (fun hc20 => ?_)
        refine z_bipush (pc := 23) h dX11_drift_23 rfl ?_
        refine z_callS (pc := 25) (rest := ([] : List zV)) h (m_X11_no (-2) S ⟨by decide, by decide⟩) dX11_drift_25 mcX11_no msX11_no mlX11_111 rfl rfl ⟨by decide, by decide⟩ rfl (Nat.le_of_ble_eq_true rfl) ?_
        rintro _ _ ⟨rfl, rfl⟩
        show zG x LM 28 [some (zr 0), some (zi a), some (zi b), some (zi c)] [zl (-9223372036854775808 - (-2))] S
        exact z_lret (pc := 28) h dX11_drift_28 rfl ⟨rfl, congrArg (fun z => some (zl z)) (by unfold sp_drift; (repeat' split) <;> first | rfl | omega)⟩
    ·
      show zG x LM 11 [some (zr 0), some (zi a), some (zi b), some (zi c)] [zi 0] S
      refine z_if_eq (pc := 11) (tgt := 23) h dX11_drift_11 (by decide) ⟨by decide, by decide⟩ (fun hc11 => ?_) (fun hc11 => absurd hc11 (by decide))
      refine z_bipush (pc := 23) h dX11_drift_23 rfl ?_
      refine z_callS (pc := 25) (rest := ([] : List zV)) h (m_X11_no (-2) S ⟨by decide, by decide⟩) dX11_drift_25 mcX11_no msX11_no mlX11_111 rfl rfl ⟨by decide, by decide⟩ rfl (Nat.le_of_ble_eq_true rfl) ?_
      rintro _ _ ⟨rfl, rfl⟩
      show zG x LM 28 [some (zr 0), some (zi a), some (zi b), some (zi c)] [zl (-9223372036854775808 - (-2))] S
      exact z_lret (pc := 28) h dX11_drift_28 rfl ⟨rfl, congrArg (fun z => some (zl z)) (by unfold sp_drift; (repeat' split) <;> first | rfl | omega)⟩
  ·
    show zG x LM 4 [some (zr 0), some (zi a), some (zi b), some (zi c)] [zi 0] S
    refine z_if_eq (pc := 4) (tgt := 23) h dX11_drift_4 (by decide) ⟨by decide, by decide⟩ (fun hc4 => ?_) (fun hc4 => absurd hc4 (by decide))
    refine z_bipush (pc := 23) h dX11_drift_23 rfl ?_
    refine z_callS (pc := 25) (rest := ([] : List zV)) h (m_X11_no (-2) S ⟨by decide, by decide⟩) dX11_drift_25 mcX11_no msX11_no mlX11_111 rfl rfl ⟨by decide, by decide⟩ rfl (Nat.le_of_ble_eq_true rfl) ?_
    rintro _ _ ⟨rfl, rfl⟩
    show zG x LM 28 [some (zr 0), some (zi a), some (zi b), some (zi c)] [zl (-9223372036854775808 - (-2))] S
    exact z_lret (pc := 28) h dX11_drift_28 rfl ⟨rfl, congrArg (fun z => some (zl z)) (by unfold sp_drift; (repeat' split) <;> first | rfl | omega)⟩

set_option maxRecDepth 100000 in
set_option maxHeartbeats 4000000 in
theorem m_X11_numbers (a b c : Int) (S : SS) (ha : r32 a) (hb : r32 b) (hc : r32 c) : zM LM yX11_numbers cX11_numbers 4 (some .int) 3 69 [zr 0, zi a, zi b, zi c] S (fun r S' => S = S' ∧ r = some (zi (sp_numbers a b c))) := by
  refine zM_of (own := RX11) rfl (by decide +kernel) [some (zr 0), some (zi a), some (zi b), some (zi c)] (Nat.le_of_ble_eq_true rfl) rfl ?_
  intro x h
  refine z_iload_n (pc := 0) h dX11_numbers_0 rfl ?_
  refine z_iconst (pc := 1) h dX11_numbers_1 ?_
  refine z_bipush (pc := 2) h dX11_numbers_2 rfl ?_
  refine z_callS (pc := 4) (rest := ([] : List zV)) h (m_X11_in a 0 24 S ⟨by omega, by omega⟩ ⟨by decide, by decide⟩ ⟨by decide, by decide⟩) dX11_numbers_4 mcX11_in msX11_in mlX11_75 rfl rfl ⟨by decide, by decide⟩ rfl (Nat.le_of_ble_eq_true rfl) ?_
  rintro _ _ ⟨rfl, ⟨hr4, rfl⟩ | ⟨hr4, rfl⟩⟩
  ·
    show zG x LM 7 [some (zr 0), some (zi a), some (zi b), some (zi c)] [zi 1] S
    refine z_if_eq (pc := 7) (tgt := 33) h dX11_numbers_7 (by decide) ⟨by decide, by decide⟩ (fun hc7 => absurd hc7 (by decide)) (fun hc7 => ?_)
    refine z_iload_n (pc := 10) h dX11_numbers_10 rfl ?_
    refine z_iconst (pc := 11) h dX11_numbers_11 ?_
    refine z_iconst (pc := 12) h dX11_numbers_12 ?_
    refine z_callS (pc := 13) (rest := ([] : List zV)) h (m_X11_in b 0 3 S ⟨by omega, by omega⟩ ⟨by decide, by decide⟩ ⟨by decide, by decide⟩) dX11_numbers_13 mcX11_in msX11_in mlX11_75 rfl rfl ⟨by decide, by decide⟩ rfl (Nat.le_of_ble_eq_true rfl) ?_
    rintro _ _ ⟨rfl, ⟨hr13, rfl⟩ | ⟨hr13, rfl⟩⟩
    ·
      show zG x LM 16 [some (zr 0), some (zi a), some (zi b), some (zi c)] [zi 1] S
      refine z_if_eq (pc := 16) (tgt := 33) h dX11_numbers_16 (by decide) ⟨by decide, by decide⟩ (fun hc16 => absurd hc16 (by decide)) (fun hc16 => ?_)
      refine z_iload_n (pc := 19) h dX11_numbers_19 rfl ?_
      refine z_iconst (pc := 20) h dX11_numbers_20 ?_
      refine z_icmp_lt (pc := 21) (tgt := 33) h dX11_numbers_21 (by decide) ⟨by omega, by omega⟩ ⟨by decide, by decide⟩ (fun hc21 => ?_) (fun hc21 => ?_)
      ·
        refine z_bipush (pc := 33) h dX11_numbers_33 rfl ?_
        exact z_iret (pc := 35) h dX11_numbers_35 rfl ⟨rfl, congrArg (fun z => some (zi z)) (by unfold sp_numbers; (repeat' split) <;> first | rfl | omega)⟩
      ·
        refine z_iload_n (pc := 24) h dX11_numbers_24 rfl ?_
        refine z_iload_n (pc := 25) h dX11_numbers_25 rfl ?_
        refine z_iload_n (pc := 26) h dX11_numbers_26 rfl ?_
        refine z_callS (pc := 27) (rest := ([] : List zV)) h (m_X11_numbersOf a b c S ⟨by omega, by omega⟩ ⟨by omega, by omega⟩ ⟨by omega, by omega⟩) dX11_numbers_27 mcX11_numbersOf msX11_numbersOf mlX11_122 rfl rfl ⟨by decide, by decide⟩ rfl (Nat.le_of_ble_eq_true rfl) ?_
        rintro _ _ ⟨rfl, rfl⟩
        show zG x LM 30 [some (zr 0), some (zi a), some (zi b), some (zi c)] [zi (pairsF a b c)] S
        refine z_goto (pc := 30) (tgt := 35) h dX11_numbers_30 (by decide) ?_
        exact z_iret (pc := 35) h dX11_numbers_35 rfl ⟨rfl, congrArg (fun z => some (zi z)) (by unfold sp_numbers; (repeat' split) <;> first | rfl | omega)⟩
    ·
      show zG x LM 16 [some (zr 0), some (zi a), some (zi b), some (zi c)] [zi 0] S
      refine z_if_eq (pc := 16) (tgt := 33) h dX11_numbers_16 (by decide) ⟨by decide, by decide⟩ (fun hc16 => ?_) (fun hc16 => absurd hc16 (by decide))
      refine z_bipush (pc := 33) h dX11_numbers_33 rfl ?_
      exact z_iret (pc := 35) h dX11_numbers_35 rfl ⟨rfl, congrArg (fun z => some (zi z)) (by unfold sp_numbers; (repeat' split) <;> first | rfl | omega)⟩
  ·
    show zG x LM 7 [some (zr 0), some (zi a), some (zi b), some (zi c)] [zi 0] S
    refine z_if_eq (pc := 7) (tgt := 33) h dX11_numbers_7 (by decide) ⟨by decide, by decide⟩ (fun hc7 => ?_) (fun hc7 => absurd hc7 (by decide))
    refine z_bipush (pc := 33) h dX11_numbers_33 rfl ?_
    exact z_iret (pc := 35) h dX11_numbers_35 rfl ⟨rfl, congrArg (fun z => some (zi z)) (by unfold sp_numbers; (repeat' split) <;> first | rfl | omega)⟩

set_option maxRecDepth 100000 in
set_option maxHeartbeats 4000000 in
theorem m_X11_wheel (a b c d : Int) (S : SS) (ha : r32 a) (hb : r32 b) (hc : r32 c) (hd : r32 d) : zM LM yX11_wheel cX11_wheel 7 (some .long) 2 47 [zr 0, zi a, zi b, zi c, zi d] S (fun r S' => S = S' ∧ r = some (zl (sp_wheel a b c d))) := by
  refine zM_of (own := RX11) rfl (by decide +kernel) [some (zr 0), some (zi a), some (zi b), some (zi c), some (zi d), none, none] (Nat.le_of_ble_eq_true rfl) rfl ?_
  intro x h
  refine z_iload_n (pc := 0) h dX11_wheel_0 rfl ?_
  refine z_iload_n (pc := 1) h dX11_wheel_1 rfl ?_
  refine z_iload_n (pc := 2) h dX11_wheel_2 rfl ?_
  refine z_callS (pc := 3) (rest := ([] : List zV)) h (m_X11_isWheel a b c S ⟨by omega, by omega⟩ ⟨by omega, by omega⟩ ⟨by omega, by omega⟩) dX11_wheel_3 mcX11_isWheel msX11_isWheel mlX11_125 rfl rfl ⟨by decide, by decide⟩ rfl (Nat.le_of_ble_eq_true rfl) ?_
  rintro _ _ ⟨rfl, ⟨hr3, rfl⟩ | ⟨hr3, rfl⟩⟩
  ·
    show zG x LM 6 [some (zr 0), some (zi a), some (zi b), some (zi c), some (zi d), none, none] [zi 1] S
    refine z_if_eq (pc := 6) (tgt := 19) h dX11_wheel_6 (by decide) ⟨by decide, by decide⟩ (fun hc6 => absurd hc6 (by decide)) (fun hc6 => ?_)
    refine z_iload (pc := 9) h dX11_wheel_9 rfl ?_
    refine z_iconst (pc := 11) h dX11_wheel_11 ?_
    refine z_iconst (pc := 12) h dX11_wheel_12 ?_
    refine z_callS (pc := 13) (rest := ([] : List zV)) h (m_X11_in d 0 1 S ⟨by omega, by omega⟩ ⟨by decide, by decide⟩ ⟨by decide, by decide⟩) dX11_wheel_13 mcX11_in msX11_in mlX11_75 rfl rfl ⟨by decide, by decide⟩ rfl (Nat.le_of_ble_eq_true rfl) ?_
    rintro _ _ ⟨rfl, ⟨hr13, rfl⟩ | ⟨hr13, rfl⟩⟩
    ·
      show zG x LM 16 [some (zr 0), some (zi a), some (zi b), some (zi c), some (zi d), none, none] [zi 1] S
      refine z_if_ne (pc := 16) (tgt := 25) h dX11_wheel_16 (by decide) ⟨by decide, by decide⟩ (fun hc16 => ?_) (fun hc16 => absurd hc16 (by decide))
      refine z_iload_n (pc := 25) h dX11_wheel_25 rfl ?_
      refine z_iload_n (pc := 26) h dX11_wheel_26 rfl ?_
      refine z_imul (pc := 27) h dX11_wheel_27 ?_
      refine z_istore (pc := 28) (loc' := [some (zr 0), some (zi a), some (zi b), some (zi c), some (zi d), some (zi (a * b)), none]) h dX11_wheel_28 (Nat.le_of_ble_eq_true rfl) rfl rfl ?_
      refine z_bipush (pc := 30) h dX11_wheel_30 rfl ?_
      refine z_iload_n (pc := 32) h dX11_wheel_32 rfl ?_
      refine z_imul (pc := 33) h dX11_wheel_33 ?_
      refine z_istore (pc := 34) (loc' := [some (zr 0), some (zi a), some (zi b), some (zi c), some (zi d), some (zi (a * b)), some (zi (60 * c))]) h dX11_wheel_34 (Nat.le_of_ble_eq_true rfl) rfl rfl ?_
      have hM := mul_bd (a := a) (A := 36) (b := b) (B := 999) (by omega) (by omega)
      refine z_iload (pc := 36) h dX11_wheel_36 rfl ?_
      refine z_iload (pc := 38) h dX11_wheel_38 rfl ?_
      refine z_iload (pc := 40) h dX11_wheel_40 rfl ?_
      refine z_callS (pc := 42) (rest := [zi (a * b)]) h (m_X11_nearest (a * b) (60 * c) S (by first | assumption | omega) (by first | assumption | omega)) dX11_wheel_42 mcX11_nearest msX11_nearest mlX11_102 rfl rfl ⟨by decide, by decide⟩ rfl (Nat.le_of_ble_eq_true rfl) ?_
      rintro _ _ ⟨rfl, rfl⟩
      show zG x LM 45 [some (zr 0), some (zi a), some (zi b), some (zi c), some (zi d), some (zi (a * b)), some (zi (60 * c))] [zi (nearF (a * b) (60 * c)), zi (a * b)] S
      refine z_iload (pc := 45) h dX11_wheel_45 rfl ?_
      refine z_imul (pc := 47) h dX11_wheel_47 ?_
      refine z_isub (pc := 48) h dX11_wheel_48 ?_
      have hB := seemW_b a b (f := c) (by omega)
      refine zG_eq (st' := [zi (seemW a b c)]) ?_ rfl rfl rfl rfl
      refine z_iload (pc := 49) h dX11_wheel_49 rfl ?_
      refine z_iload (pc := 51) h dX11_wheel_51 rfl ?_
      refine z_callS (pc := 53) (rest := ([] : List zV)) h (m_X11_lowest (seemW a b c) (60 * c) d S (by first | assumption | omega) (by first | assumption | omega) ⟨by omega, by omega⟩) dX11_wheel_53 mcX11_lowest msX11_lowest mlX11_115 rfl rfl ⟨by decide, by decide⟩ rfl (Nat.le_of_ble_eq_true rfl) ?_
      rintro _ _ ⟨rfl, rfl⟩
      show zG x LM 56 [some (zr 0), some (zi a), some (zi b), some (zi c), some (zi d), some (zi (a * b)), some (zi (60 * c))] [zl (toldF (seemW a b c) (60 * c) d)] S
      exact z_lret (pc := 56) h dX11_wheel_56 rfl ⟨rfl, congrArg (fun z => some (zl z)) (by unfold sp_wheel; (repeat' split) <;> first | rfl | omega)⟩
    ·
      show zG x LM 16 [some (zr 0), some (zi a), some (zi b), some (zi c), some (zi d), none, none] [zi 0] S
      refine z_if_ne (pc := 16) (tgt := 25) h dX11_wheel_16 (by decide) ⟨by decide, by decide⟩ (fun hc16 => absurd hc16 (by decide)) (fun hc16 => ?_)
      refine z_bipush (pc := 19) h dX11_wheel_19 rfl ?_
      refine z_callS (pc := 21) (rest := ([] : List zV)) h (m_X11_no (-2) S ⟨by decide, by decide⟩) dX11_wheel_21 mcX11_no msX11_no mlX11_111 rfl rfl ⟨by decide, by decide⟩ rfl (Nat.le_of_ble_eq_true rfl) ?_
      rintro _ _ ⟨rfl, rfl⟩
      show zG x LM 24 [some (zr 0), some (zi a), some (zi b), some (zi c), some (zi d), none, none] [zl (-9223372036854775808 - (-2))] S
      exact z_lret (pc := 24) h dX11_wheel_24 rfl ⟨rfl, congrArg (fun z => some (zl z)) (by unfold sp_wheel; (repeat' split) <;> first | rfl | omega)⟩
  ·
    show zG x LM 6 [some (zr 0), some (zi a), some (zi b), some (zi c), some (zi d), none, none] [zi 0] S
    refine z_if_eq (pc := 6) (tgt := 19) h dX11_wheel_6 (by decide) ⟨by decide, by decide⟩ (fun hc6 => ?_) (fun hc6 => absurd hc6 (by decide))
    refine z_bipush (pc := 19) h dX11_wheel_19 rfl ?_
    refine z_callS (pc := 21) (rest := ([] : List zV)) h (m_X11_no (-2) S ⟨by decide, by decide⟩) dX11_wheel_21 mcX11_no msX11_no mlX11_111 rfl rfl ⟨by decide, by decide⟩ rfl (Nat.le_of_ble_eq_true rfl) ?_
    rintro _ _ ⟨rfl, rfl⟩
    show zG x LM 24 [some (zr 0), some (zi a), some (zi b), some (zi c), some (zi d), none, none] [zl (-9223372036854775808 - (-2))] S
    exact z_lret (pc := 24) h dX11_wheel_24 rfl ⟨rfl, congrArg (fun z => some (zl z)) (by unfold sp_wheel; (repeat' split) <;> first | rfl | omega)⟩

set_option maxRecDepth 100000 in
set_option maxHeartbeats 4000000 in
theorem m_X11_isFar (a : Int) (S : SS) (ha : r32 a) : zM LM yX11_isFar cX11_isFar 1 (some .boolean) 1 22 [zi a] S (fun r S' => S = S' ∧ ((1 ≤ a ∧ a ≤ 99) ∧ r = some (zi 1) ∨ ¬ (1 ≤ a ∧ a ≤ 99) ∧ r = some (zi 0))) := by
  refine zM_of (own := RX11) rfl (by decide +kernel) [some (zi a)] (Nat.le_of_ble_eq_true rfl) rfl ?_
  intro x h
  refine z_iload_n (pc := 0) h dX11_isFar_0 rfl ?_
  refine z_iconst (pc := 1) h dX11_isFar_1 ?_
  refine z_bipush (pc := 2) h dX11_isFar_2 rfl ?_
  refine z_callS (pc := 4) (rest := ([] : List zV)) h (m_X11_in a 1 99 S ⟨by omega, by omega⟩ ⟨by decide, by decide⟩ ⟨by decide, by decide⟩) dX11_isFar_4 mcX11_in msX11_in mlX11_75 rfl rfl ⟨by decide, by decide⟩ rfl (Nat.le_of_ble_eq_true rfl) ?_
  rintro _ _ ⟨rfl, ⟨hr4, rfl⟩ | ⟨hr4, rfl⟩⟩
  ·
    show zG x LM 7 [some (zi a)] [zi 1] S
    exact z_zret (pc := 7) h dX11_isFar_7 rfl (by decide) ⟨rfl, Or.inl ⟨by omega, rfl⟩⟩
  ·
    show zG x LM 7 [some (zi a)] [zi 0] S
    exact z_zret (pc := 7) h dX11_isFar_7 rfl (by decide) ⟨rfl, Or.inr ⟨by omega, rfl⟩⟩

set_option maxRecDepth 100000 in
set_option maxHeartbeats 4000000 in
theorem m_X11_narrow (a b c d : Int) (S : SS) (ha : r32 a) (hb : r32 b) (hc : r32 c) (hd : r32 d) : zM LM yX11_narrow cX11_narrow 5 (some .long) 2 47 [zr 0, zi a, zi b, zi c, zi d] S (fun r S' => S = S' ∧ r = some (zl (sp_narrow a b c d))) := by
  refine zM_of (own := RX11) rfl (by decide +kernel) [some (zr 0), some (zi a), some (zi b), some (zi c), some (zi d)] (Nat.le_of_ble_eq_true rfl) rfl ?_
  intro x h
  refine z_iload_n (pc := 0) h dX11_narrow_0 rfl ?_
  refine z_callS (pc := 1) (rest := ([] : List zV)) h (m_X11_isFar a S ⟨by omega, by omega⟩) dX11_narrow_1 mcX11_isFar msX11_isFar mlX11_175 rfl rfl ⟨by decide, by decide⟩ rfl (Nat.le_of_ble_eq_true rfl) ?_
  rintro _ _ ⟨rfl, ⟨hr1, rfl⟩ | ⟨hr1, rfl⟩⟩
  ·
    show zG x LM 4 [some (zr 0), some (zi a), some (zi b), some (zi c), some (zi d)] [zi 1] S
    refine z_if_eq (pc := 4) (tgt := 45) h dX11_narrow_4 (by decide) ⟨by decide, by decide⟩ (fun hc4 => absurd hc4 (by decide)) (fun hc4 => ?_)
    refine z_iload_n (pc := 7) h dX11_narrow_7 rfl ?_
    refine z_callS (pc := 8) (rest := ([] : List zV)) h (m_X11_isFar b S ⟨by omega, by omega⟩) dX11_narrow_8 mcX11_isFar msX11_isFar mlX11_175 rfl rfl ⟨by decide, by decide⟩ rfl (Nat.le_of_ble_eq_true rfl) ?_
    rintro _ _ ⟨rfl, ⟨hr8, rfl⟩ | ⟨hr8, rfl⟩⟩
    ·
      show zG x LM 11 [some (zr 0), some (zi a), some (zi b), some (zi c), some (zi d)] [zi 1] S
      refine z_if_eq (pc := 11) (tgt := 45) h dX11_narrow_11 (by decide) ⟨by decide, by decide⟩ (fun hc11 => absurd hc11 (by decide)) (fun hc11 => ?_)
      refine z_iload_n (pc := 14) h dX11_narrow_14 rfl ?_
      refine z_callS (pc := 15) (rest := ([] : List zV)) h (m_X11_isFar c S ⟨by omega, by omega⟩) dX11_narrow_15 mcX11_isFar msX11_isFar mlX11_175 rfl rfl ⟨by decide, by decide⟩ rfl (Nat.le_of_ble_eq_true rfl) ?_
      rintro _ _ ⟨rfl, ⟨hr15, rfl⟩ | ⟨hr15, rfl⟩⟩
      ·
        show zG x LM 18 [some (zr 0), some (zi a), some (zi b), some (zi c), some (zi d)] [zi 1] S
        refine z_if_eq (pc := 18) (tgt := 45) h dX11_narrow_18 (by decide) ⟨by decide, by decide⟩ (fun hc18 => absurd hc18 (by decide)) (fun hc18 => ?_)
        refine z_iload (pc := 21) h dX11_narrow_21 rfl ?_
        refine z_iconst (pc := 23) h dX11_narrow_23 ?_
        refine z_iconst (pc := 24) h dX11_narrow_24 ?_
        refine z_callS (pc := 25) (rest := ([] : List zV)) h (m_X11_in d 0 1 S ⟨by omega, by omega⟩ ⟨by decide, by decide⟩ ⟨by decide, by decide⟩) dX11_narrow_25 mcX11_in msX11_in mlX11_75 rfl rfl ⟨by decide, by decide⟩ rfl (Nat.le_of_ble_eq_true rfl) ?_
        rintro _ _ ⟨rfl, ⟨hr25, rfl⟩ | ⟨hr25, rfl⟩⟩
        ·
          show zG x LM 28 [some (zr 0), some (zi a), some (zi b), some (zi c), some (zi d)] [zi 1] S
          refine z_if_eq (pc := 28) (tgt := 45) h dX11_narrow_28 (by decide) ⟨by decide, by decide⟩ (fun hc28 => absurd hc28 (by decide)) (fun hc28 => ?_)
          have hM := mul_bd (a := a) (A := 99) (b := c) (B := 99) (by omega) (by omega)
          refine z_iload_n (pc := 31) h dX11_narrow_31 rfl ?_
          refine z_iload_n (pc := 32) h dX11_narrow_32 rfl ?_
          refine z_imul (pc := 33) h dX11_narrow_33 ?_
          refine z_iload_n (pc := 34) h dX11_narrow_34 rfl ?_
          refine z_iload_n (pc := 35) h dX11_narrow_35 rfl ?_
          refine z_iadd (pc := 36) h dX11_narrow_36 ?_
          refine z_iload (pc := 37) h dX11_narrow_37 rfl ?_
          refine z_callS (pc := 39) (rest := ([] : List zV)) h (m_X11_lowest (a * c) (b + c) d S (by first | assumption | omega) (by first | assumption | omega) ⟨by omega, by omega⟩) dX11_narrow_39 mcX11_lowest msX11_lowest mlX11_115 rfl rfl ⟨by decide, by decide⟩ rfl (Nat.le_of_ble_eq_true rfl) ?_
          rintro _ _ ⟨rfl, rfl⟩
          show zG x LM 42 [some (zr 0), some (zi a), some (zi b), some (zi c), some (zi d)] [zl (toldF (a * c) (b + c) d)] S
          refine z_goto (pc := 42) (tgt := 50) h dX11_narrow_42 (by decide) ?_
          exact z_lret (pc := 50) h dX11_narrow_50 rfl ⟨rfl, congrArg (fun z => some (zl z)) (by unfold sp_narrow; (repeat' split) <;> first | rfl | omega)⟩
        ·
          show zG x LM 28 [some (zr 0), some (zi a), some (zi b), some (zi c), some (zi d)] [zi 0] S
          refine z_if_eq (pc := 28) (tgt := 45) h dX11_narrow_28 (by decide) ⟨by decide, by decide⟩ (fun hc28 => ?_) (fun hc28 => absurd hc28 (by decide))
          refine z_bipush (pc := 45) h dX11_narrow_45 rfl ?_
          refine z_callS (pc := 47) (rest := ([] : List zV)) h (m_X11_no (-2) S ⟨by decide, by decide⟩) dX11_narrow_47 mcX11_no msX11_no mlX11_111 rfl rfl ⟨by decide, by decide⟩ rfl (Nat.le_of_ble_eq_true rfl) ?_
          rintro _ _ ⟨rfl, rfl⟩
          show zG x LM 50 [some (zr 0), some (zi a), some (zi b), some (zi c), some (zi d)] [zl (-9223372036854775808 - (-2))] S
          exact z_lret (pc := 50) h dX11_narrow_50 rfl ⟨rfl, congrArg (fun z => some (zl z)) (by unfold sp_narrow; (repeat' split) <;> first | rfl | omega)⟩
      ·
        show zG x LM 18 [some (zr 0), some (zi a), some (zi b), some (zi c), some (zi d)] [zi 0] S
        refine z_if_eq (pc := 18) (tgt := 45) h dX11_narrow_18 (by decide) ⟨by decide, by decide⟩ (fun hc18 => ?_) (fun hc18 => absurd hc18 (by decide))
        refine z_bipush (pc := 45) h dX11_narrow_45 rfl ?_
        refine z_callS (pc := 47) (rest := ([] : List zV)) h (m_X11_no (-2) S ⟨by decide, by decide⟩) dX11_narrow_47 mcX11_no msX11_no mlX11_111 rfl rfl ⟨by decide, by decide⟩ rfl (Nat.le_of_ble_eq_true rfl) ?_
        rintro _ _ ⟨rfl, rfl⟩
        show zG x LM 50 [some (zr 0), some (zi a), some (zi b), some (zi c), some (zi d)] [zl (-9223372036854775808 - (-2))] S
        exact z_lret (pc := 50) h dX11_narrow_50 rfl ⟨rfl, congrArg (fun z => some (zl z)) (by unfold sp_narrow; (repeat' split) <;> first | rfl | omega)⟩
    ·
      show zG x LM 11 [some (zr 0), some (zi a), some (zi b), some (zi c), some (zi d)] [zi 0] S
      refine z_if_eq (pc := 11) (tgt := 45) h dX11_narrow_11 (by decide) ⟨by decide, by decide⟩ (fun hc11 => ?_) (fun hc11 => absurd hc11 (by decide))
      refine z_bipush (pc := 45) h dX11_narrow_45 rfl ?_
      refine z_callS (pc := 47) (rest := ([] : List zV)) h (m_X11_no (-2) S ⟨by decide, by decide⟩) dX11_narrow_47 mcX11_no msX11_no mlX11_111 rfl rfl ⟨by decide, by decide⟩ rfl (Nat.le_of_ble_eq_true rfl) ?_
      rintro _ _ ⟨rfl, rfl⟩
      show zG x LM 50 [some (zr 0), some (zi a), some (zi b), some (zi c), some (zi d)] [zl (-9223372036854775808 - (-2))] S
      exact z_lret (pc := 50) h dX11_narrow_50 rfl ⟨rfl, congrArg (fun z => some (zl z)) (by unfold sp_narrow; (repeat' split) <;> first | rfl | omega)⟩
  ·
    show zG x LM 4 [some (zr 0), some (zi a), some (zi b), some (zi c), some (zi d)] [zi 0] S
    refine z_if_eq (pc := 4) (tgt := 45) h dX11_narrow_4 (by decide) ⟨by decide, by decide⟩ (fun hc4 => ?_) (fun hc4 => absurd hc4 (by decide))
    refine z_bipush (pc := 45) h dX11_narrow_45 rfl ?_
    refine z_callS (pc := 47) (rest := ([] : List zV)) h (m_X11_no (-2) S ⟨by decide, by decide⟩) dX11_narrow_47 mcX11_no msX11_no mlX11_111 rfl rfl ⟨by decide, by decide⟩ rfl (Nat.le_of_ble_eq_true rfl) ?_
    rintro _ _ ⟨rfl, rfl⟩
    show zG x LM 50 [some (zr 0), some (zi a), some (zi b), some (zi c), some (zi d)] [zl (-9223372036854775808 - (-2))] S
    exact z_lret (pc := 50) h dX11_narrow_50 rfl ⟨rfl, congrArg (fun z => some (zl z)) (by unfold sp_narrow; (repeat' split) <;> first | rfl | omega)⟩

set_option maxRecDepth 100000 in
set_option maxHeartbeats 4000000 in
theorem m_X11_wide (a b c : Int) (S : SS) (ha : r32 a) (hb : r32 b) (hc : r32 c) : zM LM yX11_wide cX11_wide 5 (some .int) 2 42 [zr 0, zi a, zi b, zi c] S (fun r S' => S = S' ∧ r = some (zi (sp_wide a b c))) := by
  refine zM_of (own := RX11) rfl (by decide +kernel) [some (zr 0), some (zi a), some (zi b), some (zi c), none] (Nat.le_of_ble_eq_true rfl) rfl ?_
  intro x h
  refine z_iload_n (pc := 0) h dX11_wide_0 rfl ?_
  refine z_iconst (pc := 1) h dX11_wide_1 ?_
  refine z_bipush (pc := 2) h dX11_wide_2 rfl ?_
  refine z_callS (pc := 4) (rest := ([] : List zV)) h (m_X11_in a 0 99 S ⟨by omega, by omega⟩ ⟨by decide, by decide⟩ ⟨by decide, by decide⟩) dX11_wide_4 mcX11_in msX11_in mlX11_75 rfl rfl ⟨by decide, by decide⟩ rfl (Nat.le_of_ble_eq_true rfl) ?_
  rintro _ _ ⟨rfl, ⟨hr4, rfl⟩ | ⟨hr4, rfl⟩⟩
  ·
    show zG x LM 7 [some (zr 0), some (zi a), some (zi b), some (zi c), none] [zi 1] S
    refine z_if_eq (pc := 7) (tgt := 24) h dX11_wide_7 (by decide) ⟨by decide, by decide⟩ (fun hc7 => absurd hc7 (by decide)) (fun hc7 => ?_)
    refine z_iload_n (pc := 10) h dX11_wide_10 rfl ?_
    refine z_callS (pc := 11) (rest := ([] : List zV)) h (m_X11_isFar b S ⟨by omega, by omega⟩) dX11_wide_11 mcX11_isFar msX11_isFar mlX11_175 rfl rfl ⟨by decide, by decide⟩ rfl (Nat.le_of_ble_eq_true rfl) ?_
    rintro _ _ ⟨rfl, ⟨hr11, rfl⟩ | ⟨hr11, rfl⟩⟩
    ·
      show zG x LM 14 [some (zr 0), some (zi a), some (zi b), some (zi c), none] [zi 1] S
      refine z_if_eq (pc := 14) (tgt := 24) h dX11_wide_14 (by decide) ⟨by decide, by decide⟩ (fun hc14 => absurd hc14 (by decide)) (fun hc14 => ?_)
      refine z_iload_n (pc := 17) h dX11_wide_17 rfl ?_
      refine z_callS (pc := 18) (rest := ([] : List zV)) h (m_X11_isFar c S ⟨by omega, by omega⟩) dX11_wide_18 mcX11_isFar msX11_isFar mlX11_175 rfl rfl ⟨by decide, by decide⟩ rfl (Nat.le_of_ble_eq_true rfl) ?_
      rintro _ _ ⟨rfl, ⟨hr18, rfl⟩ | ⟨hr18, rfl⟩⟩
      ·
        show zG x LM 21 [some (zr 0), some (zi a), some (zi b), some (zi c), none] [zi 1] S
        refine z_if_ne (pc := 21) (tgt := 27) h dX11_wide_21 (by decide) ⟨by decide, by decide⟩ (fun hc21 => ?_) (fun hc21 => absurd hc21 (by decide))
        refine z_iconst (pc := 27) h dX11_wide_27 ?_
        refine z_istore (pc := 28) (loc' := [some (zr 0), some (zi a), some (zi b), some (zi c), some (zi 1)]) h dX11_wide_28 (Nat.le_of_ble_eq_true rfl) rfl rfl ?_
        have J30 : ∀ (N : Nat) (w : Int) (hw : 1 ≤ w ∧ w ≤ 1000) (hI : wideR a b c (1000 - w).toNat w = sp_wide a b c) , (1000 - w).toNat = N → zG x LM 30 [some (zr 0), some (zi a), some (zi b), some (zi c), some (zi w)] ([] : List zV) S := by
          intro N
          induction N using Nat.strongRecOn with
          | _ N ih30 => ?_
          intro w hw hI hN30
          refine z_iload (pc := 30) h dX11_wide_30 rfl ?_
          refine z_sipush (pc := 32) h dX11_wide_32 rfl ?_
          refine z_icmp_ge (pc := 35) (tgt := 59) h dX11_wide_35 (by decide) ⟨by omega, by omega⟩ ⟨by decide, by decide⟩ (fun hc35 => ?_) (fun hc35 => ?_)
          ·
            refine z_iconst (pc := 59) h dX11_wide_59 ?_
            exact z_iret (pc := 60) h dX11_wide_60 rfl ⟨rfl, congrArg (fun z => some (zi z)) (by first | (rw [sp_wide, if_neg (by omega)]) | (rw [if_pos (by omega)] at hI; exact hI) | (rw [wide_0 (by omega)] at hI; exact hI))⟩
          ·
            rw [wide_s (r' := (1000 - (w + 1)).toNat) (w' := w + 1) (by omega) rfl] at hI
            have hM := mul_bd (a := w) (A := 999) (b := c) (B := 99) (by omega) (by omega)
            have hM2 := mul_bd (a := a) (A := 99) (b := b + c) (B := 198) (by omega) (by omega)
            refine z_iload (pc := 38) h dX11_wide_38 rfl ?_
            refine z_iload_n (pc := 40) h dX11_wide_40 rfl ?_
            refine z_imul (pc := 41) h dX11_wide_41 ?_
            refine z_iload_n (pc := 42) h dX11_wide_42 rfl ?_
            refine z_iload_n (pc := 43) h dX11_wide_43 rfl ?_
            refine z_iload_n (pc := 44) h dX11_wide_44 rfl ?_
            refine z_iadd (pc := 45) h dX11_wide_45 ?_
            refine z_imul (pc := 46) h dX11_wide_46 ?_
            refine z_icmp_lt (pc := 47) (tgt := 53) h dX11_wide_47 (by decide) ⟨by omega, by omega⟩ ⟨by omega, by omega⟩ (fun hc47 => ?_) (fun hc47 => ?_)
            ·
              refine z_iinc (pc := 53) (loc' := [some (zr 0), some (zi a), some (zi b), some (zi c), some (zi (w + 1))]) h dX11_wide_53 rfl (Nat.le_of_ble_eq_true rfl) rfl rfl ?_
              refine z_goto (pc := 56) (tgt := 30) h dX11_wide_56 (by decide) ?_
              exact ih30 _ (by omega) (w + 1) (by omega) (by rw [if_neg (by omega)] at hI; exact hI) rfl
            ·
              refine z_iload (pc := 50) h dX11_wide_50 rfl ?_
              exact z_iret (pc := 52) h dX11_wide_52 rfl ⟨rfl, congrArg (fun z => some (zi z)) (by first | (rw [sp_wide, if_neg (by omega)]) | (rw [if_pos (by omega)] at hI; exact hI) | (rw [wide_0 (by omega)] at hI; exact hI))⟩
        exact J30 _ 1 (by omega) (by rw [sp_wide, if_pos (by omega)]; rfl) rfl
      ·
        show zG x LM 21 [some (zr 0), some (zi a), some (zi b), some (zi c), none] [zi 0] S
        refine z_if_ne (pc := 21) (tgt := 27) h dX11_wide_21 (by decide) ⟨by decide, by decide⟩ (fun hc21 => absurd hc21 (by decide)) (fun hc21 => ?_)
        refine z_bipush (pc := 24) h dX11_wide_24 rfl ?_
        exact z_iret (pc := 26) h dX11_wide_26 rfl ⟨rfl, congrArg (fun z => some (zi z)) (by first | (rw [sp_wide, if_neg (by omega)]) | (rw [if_pos (by omega)] at hI; exact hI) | (rw [wide_0 (by omega)] at hI; exact hI))⟩
    ·
      show zG x LM 14 [some (zr 0), some (zi a), some (zi b), some (zi c), none] [zi 0] S
      refine z_if_eq (pc := 14) (tgt := 24) h dX11_wide_14 (by decide) ⟨by decide, by decide⟩ (fun hc14 => ?_) (fun hc14 => absurd hc14 (by decide))
      refine z_bipush (pc := 24) h dX11_wide_24 rfl ?_
      exact z_iret (pc := 26) h dX11_wide_26 rfl ⟨rfl, congrArg (fun z => some (zi z)) (by first | (rw [sp_wide, if_neg (by omega)]) | (rw [if_pos (by omega)] at hI; exact hI) | (rw [wide_0 (by omega)] at hI; exact hI))⟩
  ·
    show zG x LM 7 [some (zr 0), some (zi a), some (zi b), some (zi c), none] [zi 0] S
    refine z_if_eq (pc := 7) (tgt := 24) h dX11_wide_7 (by decide) ⟨by decide, by decide⟩ (fun hc7 => ?_) (fun hc7 => absurd hc7 (by decide))
    refine z_bipush (pc := 24) h dX11_wide_24 rfl ?_
    exact z_iret (pc := 26) h dX11_wide_26 rfl ⟨rfl, congrArg (fun z => some (zi z)) (by first | (rw [sp_wide, if_neg (by omega)]) | (rw [if_pos (by omega)] at hI; exact hI) | (rw [wide_0 (by omega)] at hI; exact hI))⟩

set_option maxRecDepth 100000 in
set_option maxHeartbeats 4000000 in
theorem m_X11_slit (a b : Int) (S : SS) (ha : r32 a) (hb : r32 b) : zM LM yX11_slit cX11_slit 5 (some .int) 1 22 [zr 0, zi a, zi b] S (fun r S' => S = S' ∧ r = some (zi (sp_slit a b))) := by
  refine zM_of (own := RX11) rfl (by decide +kernel) [some (zr 0), some (zi a), some (zi b), none, none] (Nat.le_of_ble_eq_true rfl) rfl ?_
  intro x h
  refine z_iload_n (pc := 0) h dX11_slit_0 rfl ?_
  refine z_iconst (pc := 1) h dX11_slit_1 ?_
  refine z_bipush (pc := 2) h dX11_slit_2 rfl ?_
  refine z_callS (pc := 4) (rest := ([] : List zV)) h (m_X11_in a 0 99 S ⟨by omega, by omega⟩ ⟨by decide, by decide⟩ ⟨by decide, by decide⟩) dX11_slit_4 mcX11_in msX11_in mlX11_75 rfl rfl ⟨by decide, by decide⟩ rfl (Nat.le_of_ble_eq_true rfl) ?_
  rintro _ _ ⟨rfl, ⟨hr4, rfl⟩ | ⟨hr4, rfl⟩⟩
  ·
    show zG x LM 7 [some (zr 0), some (zi a), some (zi b), none, none] [zi 1] S
    refine z_if_eq (pc := 7) (tgt := 20) h dX11_slit_7 (by decide) ⟨by decide, by decide⟩ (fun hc7 => absurd hc7 (by decide)) (fun hc7 => ?_)
    refine z_iload_n (pc := 10) h dX11_slit_10 rfl ?_
    refine z_iconst (pc := 11) h dX11_slit_11 ?_
    refine z_bipush (pc := 12) h dX11_slit_12 rfl ?_
    refine z_callS (pc := 14) (rest := ([] : List zV)) h (m_X11_in b 0 99 S ⟨by omega, by omega⟩ ⟨by decide, by decide⟩ ⟨by decide, by decide⟩) dX11_slit_14 mcX11_in msX11_in mlX11_75 rfl rfl ⟨by decide, by decide⟩ rfl (Nat.le_of_ble_eq_true rfl) ?_
    rintro _ _ ⟨rfl, ⟨hr14, rfl⟩ | ⟨hr14, rfl⟩⟩
    ·
      show zG x LM 17 [some (zr 0), some (zi a), some (zi b), none, none] [zi 1] S
      refine z_if_ne (pc := 17) (tgt := 23) h dX11_slit_17 (by decide) ⟨by decide, by decide⟩ (fun hc17 => ?_) (fun hc17 => absurd hc17 (by decide))
      refine z_iconst (pc := 23) h dX11_slit_23 ?_
      refine z_istore_n (pc := 24) (loc' := [some (zr 0), some (zi a), some (zi b), some (zi 1), none]) h dX11_slit_24 rfl (Nat.le_of_ble_eq_true rfl) rfl rfl ?_
      refine z_iconst (pc := 25) h dX11_slit_25 ?_
      refine z_istore (pc := 26) (loc' := [some (zr 0), some (zi a), some (zi b), some (zi 1), some (zi 2)]) h dX11_slit_26 (Nat.le_of_ble_eq_true rfl) rfl rfl ?_
      have J28 : ∀ (N : Nat) (w z : Int) (hw : 2 ≤ w ∧ w ≤ 21) (hz : 1 ≤ z ∧ z ≤ 20) (hI : slitR a b (21 - w).toNat w z = sp_slit a b) , (21 - w).toNat = N → zG x LM 28 [some (zr 0), some (zi a), some (zi b), some (zi z), some (zi w)] ([] : List zV) S := by
        intro N
        induction N using Nat.strongRecOn with
        | _ N ih28 => ?_
        intro w z hw hz hI hN28
        refine z_iload (pc := 28) h dX11_slit_28 rfl ?_
        refine z_bipush (pc := 30) h dX11_slit_30 rfl ?_
        refine z_icmp_ge (pc := 32) (tgt := 72) h dX11_slit_32 (by decide) ⟨by omega, by omega⟩ ⟨by decide, by decide⟩ (fun hc32 => ?_) (fun hc32 => ?_)
        ·
          refine z_iload_n (pc := 72) h dX11_slit_72 rfl ?_
          exact z_iret (pc := 73) h dX11_slit_73 rfl ⟨rfl, congrArg (fun z => some (zi z)) (by first | (rw [sp_slit, if_neg (by omega)]) | (rw [slit_0 (by omega)] at hI; exact hI))⟩
        ·
          rw [slit_s (r' := (21 - (w + 1)).toNat) (w' := w + 1) (by omega) rfl] at hI
          have hW1 := worth_b (l := a) (b := b) (w := w) (by omega) (by omega) (by omega)
          have hW2 := worth_b (l := a) (b := b) (w := z) (by omega) (by omega) (by omega)
          refine z_iload_n (pc := 35) h dX11_slit_35 rfl ?_
          refine z_iload (pc := 36) h dX11_slit_36 rfl ?_
          refine z_imul (pc := 38) h dX11_slit_38 ?_
          refine z_iload_n (pc := 39) h dX11_slit_39 rfl ?_
          refine z_iload (pc := 40) h dX11_slit_40 rfl ?_
          refine z_imul (pc := 42) h dX11_slit_42 ?_
          refine z_iload (pc := 43) h dX11_slit_43 rfl ?_
          refine z_imul (pc := 45) h dX11_slit_45 ?_
          refine z_isub (pc := 46) h dX11_slit_46 ?_
          refine z_iload_n (pc := 47) h dX11_slit_47 rfl ?_
          refine z_iload_n (pc := 48) h dX11_slit_48 rfl ?_
          refine z_imul (pc := 49) h dX11_slit_49 ?_
          refine z_iload_n (pc := 50) h dX11_slit_50 rfl ?_
          refine z_iload_n (pc := 51) h dX11_slit_51 rfl ?_
          refine z_imul (pc := 52) h dX11_slit_52 ?_
          refine z_iload_n (pc := 53) h dX11_slit_53 rfl ?_
          refine z_imul (pc := 54) h dX11_slit_54 ?_
          refine z_isub (pc := 55) h dX11_slit_55 ?_
          refine zG_eq (st' := [zi (worthF a b z), zi (worthF a b w)]) ?_ rfl rfl rfl rfl
          refine z_icmp_le (pc := 56) (tgt := 64) h dX11_slit_56 (by decide) ⟨by omega, by omega⟩ ⟨by omega, by omega⟩ (fun hc56 => ?_) (fun hc56 => ?_)
          ·
            refine z_iload_n (pc := 64) h dX11_slit_64 rfl ?_
            refine z_istore_n (pc := 65) (loc' := [some (zr 0), some (zi a), some (zi b), some (zi z), some (zi w)]) h dX11_slit_65 rfl (Nat.le_of_ble_eq_true rfl) rfl rfl ?_
            refine z_iinc (pc := 66) (loc' := [some (zr 0), some (zi a), some (zi b), some (zi z), some (zi (w + 1))]) h dX11_slit_66 rfl (Nat.le_of_ble_eq_true rfl) rfl rfl ?_
            refine z_goto (pc := 69) (tgt := 28) h dX11_slit_69 (by decide) ?_
            exact ih28 _ (by omega) (w + 1) z (by omega) (by omega) (by first | (rw [if_pos (by assumption)] at hI; exact hI) | (rw [if_neg (by omega)] at hI; exact hI)) rfl
          ·
            refine z_iload (pc := 59) h dX11_slit_59 rfl ?_
            refine z_goto (pc := 61) (tgt := 65) h dX11_slit_61 (by decide) ?_
            refine z_istore_n (pc := 65) (loc' := [some (zr 0), some (zi a), some (zi b), some (zi w), some (zi w)]) h dX11_slit_65 rfl (Nat.le_of_ble_eq_true rfl) rfl rfl ?_
            refine z_iinc (pc := 66) (loc' := [some (zr 0), some (zi a), some (zi b), some (zi w), some (zi (w + 1))]) h dX11_slit_66 rfl (Nat.le_of_ble_eq_true rfl) rfl rfl ?_
            refine z_goto (pc := 69) (tgt := 28) h dX11_slit_69 (by decide) ?_
            exact ih28 _ (by omega) (w + 1) w (by omega) (by omega) (by first | (rw [if_pos (by assumption)] at hI; exact hI) | (rw [if_neg (by omega)] at hI; exact hI)) rfl
      exact J28 _ 2 1 (by omega) (by omega) (by rw [sp_slit, if_pos (by omega)]; rfl) rfl
    ·
      show zG x LM 17 [some (zr 0), some (zi a), some (zi b), none, none] [zi 0] S
      refine z_if_ne (pc := 17) (tgt := 23) h dX11_slit_17 (by decide) ⟨by decide, by decide⟩ (fun hc17 => absurd hc17 (by decide)) (fun hc17 => ?_)
      refine z_bipush (pc := 20) h dX11_slit_20 rfl ?_
      exact z_iret (pc := 22) h dX11_slit_22 rfl ⟨rfl, congrArg (fun z => some (zi z)) (by first | (rw [sp_slit, if_neg (by omega)]) | (rw [slit_0 (by omega)] at hI; exact hI))⟩
  ·
    show zG x LM 7 [some (zr 0), some (zi a), some (zi b), none, none] [zi 0] S
    refine z_if_eq (pc := 7) (tgt := 20) h dX11_slit_7 (by decide) ⟨by decide, by decide⟩ (fun hc7 => ?_) (fun hc7 => absurd hc7 (by decide))
    refine z_bipush (pc := 20) h dX11_slit_20 rfl ?_
    exact z_iret (pc := 22) h dX11_slit_22 rfl ⟨rfl, congrArg (fun z => some (zi z)) (by first | (rw [sp_slit, if_neg (by omega)]) | (rw [slit_0 (by omega)] at hI; exact hI))⟩

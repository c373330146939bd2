/-! the class's strips -/

set_option maxRecDepth 100000 in
set_option maxHeartbeats 4000000 in
theorem m_X7_goesOn (p b : Int) (S : SS) (hp : r32 p) (hb : r32 b) : zM LX yX7_goesOn cX7_goesOn 2 (some .boolean) 1 22 [zi p, zi b] S (fun r S' => S = S' ∧ ((goodF p b) ∧ r = some (zi 1) ∨ ¬ (goodF p b) ∧ r = some (zi 0))) := by
  refine zM_of (own := RX7) rfl (by decide +kernel) [some (zi p), some (zi b)] (Nat.le_of_ble_eq_true rfl) rfl ?_
  intro x h
  refine z_iload_n (pc := 0) h dX7_goesOn_0 rfl ?_
  refine z_iconst (pc := 1) h dX7_goesOn_1 ?_
  refine z_icmp_ne (pc := 2) (tgt := 17) h dX7_goesOn_2 (by decide) ⟨by omega, by omega⟩ ⟨by decide, by decide⟩ (fun hc2 => ?_) (fun hc2 => ?_)
  ·
    refine z_iload_n (pc := 17) h dX7_goesOn_17 rfl ?_
    refine z_bipush (pc := 18) h dX7_goesOn_18 rfl ?_
    refine z_icmp_eq (pc := 20) (tgt := 34) h dX7_goesOn_20 (by decide) ⟨by omega, by omega⟩ ⟨by decide, by decide⟩ (fun hc20 => ?_) (fun hc20 => ?_)
    ·
      refine z_iconst (pc := 34) h dX7_goesOn_34 ?_
      refine z_goto (pc := 35) (tgt := 39) h dX7_goesOn_35 (by decide) ?_
      exact z_zret (pc := 39) h dX7_goesOn_39 rfl (by decide) ⟨rfl, Or.inl ⟨by omega, rfl⟩⟩
    ·
      refine z_iload_n (pc := 23) h dX7_goesOn_23 rfl ?_
      refine z_bipush (pc := 24) h dX7_goesOn_24 rfl ?_
      refine z_bipush (pc := 26) h dX7_goesOn_26 rfl ?_
      refine z_callS (pc := 28) (rest := ([] : List zV)) h (m_X10_within b 48 57 S ⟨by omega, by omega⟩ ⟨by decide, by decide⟩ ⟨by decide, by decide⟩) dX7_goesOn_28 mcX10_within msX10_within mlX7_42 rfl rfl ⟨by decide, by decide⟩ rfl (Nat.le_of_ble_eq_true rfl) ?_
      rintro _ _ ⟨rfl, ⟨hr28, rfl⟩ | ⟨hr28, rfl⟩⟩
      ·
        show zG x LX 31 [some (zi p), some (zi b)] [zi 1] S
        refine z_if_eq (pc := 31) (tgt := 38) h dX7_goesOn_31 (by decide) ⟨by decide, by decide⟩ (fun hc31 => absurd hc31 (by decide)) (fun hc31 => ?_)
        refine z_iconst (pc := 34) h dX7_goesOn_34 ?_
        refine z_goto (pc := 35) (tgt := 39) h dX7_goesOn_35 (by decide) ?_
        exact z_zret (pc := 39) h dX7_goesOn_39 rfl (by decide) ⟨rfl, Or.inl ⟨by omega, rfl⟩⟩
      ·
        show zG x LX 31 [some (zi p), some (zi b)] [zi 0] S
        refine z_if_eq (pc := 31) (tgt := 38) h dX7_goesOn_31 (by decide) ⟨by decide, by decide⟩ (fun hc31 => ?_) (fun hc31 => absurd hc31 (by decide))
        refine z_iconst (pc := 38) h dX7_goesOn_38 ?_
        exact z_zret (pc := 39) h dX7_goesOn_39 rfl (by decide) ⟨rfl, Or.inr ⟨by omega, rfl⟩⟩
  ·
    refine z_iload_n (pc := 5) h dX7_goesOn_5 rfl ?_
    refine z_bipush (pc := 6) h dX7_goesOn_6 rfl ?_
    refine z_icmp_ne (pc := 8) (tgt := 15) h dX7_goesOn_8 (by decide) ⟨by omega, by omega⟩ ⟨by decide, by decide⟩ (fun hc8 => ?_) (fun hc8 => ?_)
    ·
      refine z_iconst (pc := 15) h dX7_goesOn_15 ?_
      exact z_zret (pc := 16) h dX7_goesOn_16 rfl (by decide) ⟨rfl, Or.inr ⟨by omega, rfl⟩⟩
    ·
      refine z_iconst (pc := 11) h dX7_goesOn_11 ?_
      refine z_goto (pc := 12) (tgt := 16) h dX7_goesOn_12 (by decide) ?_
      exact z_zret (pc := 16) h dX7_goesOn_16 rfl (by decide) ⟨rfl, Or.inl ⟨by omega, rfl⟩⟩

set_option maxRecDepth 100000 in
set_option maxHeartbeats 4000000 in
theorem m_X7_firstFault (k : Nat) (S : SS) (hk : isStrip k) (hl : 0 ≤ S k 3 ∧ S k 3 ≤ 80) (hb : ∀ j, 0 ≤ S (k + 1) j ∧ S (k + 1) j ≤ 255) : zM LX yX7_firstFault cX7_firstFault 2 (some .int) 2 43 [zr k] S (fun r S' => S = S' ∧ r = some (zi (faultF (S (k + 1)) (S k 3)))) := by
  refine zM_of (own := RX7) rfl (by decide +kernel) [some (zr k), none] (Nat.le_of_ble_eq_true rfl) rfl ?_
  intro x h
  refine z_iconst (pc := 0) h dX7_firstFault_0 ?_
  refine z_istore_n (pc := 1) (loc' := [some (zr k), some (zi 0)]) h dX7_firstFault_1 rfl (Nat.le_of_ble_eq_true rfl) rfl rfl ?_
  have J2 : ∀ (N : Nat) (i : Int) (hi : 0 ≤ i ∧ i ≤ S k 3) (hI : faultR (S (k + 1)) (S k 3) (S k 3 - i).toNat i = faultF (S (k + 1)) (S k 3)) , (S k 3 - i).toNat = N → zG x LX 2 [some (zr k), some (zi i)] ([] : List zV) S := by
    intro N
    induction N using Nat.strongRecOn with
    | _ N ih2 => ?_
    intro i hi hI hN2
    refine z_iload_n (pc := 2) h dX7_firstFault_2 rfl ?_
    refine z_aload_n (pc := 3) h dX7_firstFault_3 rfl ?_
    refine z_getI (pc := 4) h dX7_firstFault_4 clX7 lkX7_25 (by decide) hk.1 rfl ?_
    refine z_icmp_ge (pc := 7) (tgt := 48) h dX7_firstFault_7 (by decide) ⟨by omega, by omega⟩ ⟨by omega, by omega⟩ (fun hc7 => ?_) (fun hc7 => ?_)
    ·
      refine z_aload_n (pc := 48) h dX7_firstFault_48 rfl ?_
      refine z_getI (pc := 49) h dX7_firstFault_49 clX7 lkX7_25 (by decide) hk.1 rfl ?_
      refine z_if_eq (pc := 52) (tgt := 65) h dX7_firstFault_52 (by decide) ⟨by omega, by omega⟩ (fun hc52 => ?_) (fun hc52 => ?_)
      ·
        refine z_iconst (pc := 65) h dX7_firstFault_65 ?_
        refine z_goto (pc := 66) (tgt := 70) h dX7_firstFault_66 (by decide) ?_
        refine z_istore_n (pc := 70) (loc' := [some (zr k), some (zi 1)]) h dX7_firstFault_70 rfl (Nat.le_of_ble_eq_true rfl) rfl rfl ?_
        refine z_iload_n (pc := 71) h dX7_firstFault_71 rfl ?_
        refine z_if_eq (pc := 72) (tgt := 79) h dX7_firstFault_72 (by decide) ⟨by decide, by decide⟩ (fun hc72 => absurd hc72 (by decide)) (fun hc72 => ?_)
        refine z_iconst (pc := 75) h dX7_firstFault_75 ?_
        refine z_goto (pc := 76) (tgt := 83) h dX7_firstFault_76 (by decide) ?_
        exact z_iret (pc := 83) h dX7_firstFault_83 rfl ⟨rfl, congrArg (fun z => some (zi z)) (by first | (rw [if_pos (by omega)] at hI; exact hI) | (rw [if_neg (by omega), if_neg (by assumption)] at hI; exact hI) | (rw [fault_0 (by omega), if_pos (by omega)] at hI; exact hI) | (rw [fault_0 (by omega), if_neg (by omega)] at hI; exact hI))⟩
      ·
        refine z_aload_n (pc := 55) h dX7_firstFault_55 rfl ?_
        refine z_getI (pc := 56) h dX7_firstFault_56 clX7 lkX7_25 (by decide) hk.1 rfl ?_
        refine z_iconst (pc := 59) h dX7_firstFault_59 ?_
        refine z_iremN (pc := 60) h dX7_firstFault_60 ⟨by omega, by omega⟩ ⟨by decide, by decide⟩ ?_
        refine z_iconst (pc := 61) h dX7_firstFault_61 ?_
        refine z_icmp_ne (pc := 62) (tgt := 69) h dX7_firstFault_62 (by decide) ⟨by omega, by omega⟩ ⟨by decide, by decide⟩ (fun hc62 => ?_) (fun hc62 => ?_)
        ·
          refine z_iconst (pc := 69) h dX7_firstFault_69 ?_
          refine z_istore_n (pc := 70) (loc' := [some (zr k), some (zi 0)]) h dX7_firstFault_70 rfl (Nat.le_of_ble_eq_true rfl) rfl rfl ?_
          refine z_iload_n (pc := 71) h dX7_firstFault_71 rfl ?_
          refine z_if_eq (pc := 72) (tgt := 79) h dX7_firstFault_72 (by decide) ⟨by decide, by decide⟩ (fun hc72 => ?_) (fun hc72 => absurd hc72 (by decide))
          refine z_aload_n (pc := 79) h dX7_firstFault_79 rfl ?_
          refine z_getI (pc := 80) h dX7_firstFault_80 clX7 lkX7_25 (by decide) hk.1 rfl ?_
          exact z_iret (pc := 83) h dX7_firstFault_83 rfl ⟨rfl, congrArg (fun z => some (zi z)) (by first | (rw [if_pos (by omega)] at hI; exact hI) | (rw [if_neg (by omega), if_neg (by assumption)] at hI; exact hI) | (rw [fault_0 (by omega), if_pos (by omega)] at hI; exact hI) | (rw [fault_0 (by omega), if_neg (by omega)] at hI; exact hI))⟩
        ·
          refine z_iconst (pc := 65) h dX7_firstFault_65 ?_
          refine z_goto (pc := 66) (tgt := 70) h dX7_firstFault_66 (by decide) ?_
          refine z_istore_n (pc := 70) (loc' := [some (zr k), some (zi 1)]) h dX7_firstFault_70 rfl (Nat.le_of_ble_eq_true rfl) rfl rfl ?_
          refine z_iload_n (pc := 71) h dX7_firstFault_71 rfl ?_
          refine z_if_eq (pc := 72) (tgt := 79) h dX7_firstFault_72 (by decide) ⟨by decide, by decide⟩ (fun hc72 => absurd hc72 (by decide)) (fun hc72 => ?_)
          refine z_iconst (pc := 75) h dX7_firstFault_75 ?_
          refine z_goto (pc := 76) (tgt := 83) h dX7_firstFault_76 (by decide) ?_
          exact z_iret (pc := 83) h dX7_firstFault_83 rfl ⟨rfl, congrArg (fun z => some (zi z)) (by first | (rw [if_pos (by omega)] at hI; exact hI) | (rw [if_neg (by omega), if_neg (by assumption)] at hI; exact hI) | (rw [fault_0 (by omega), if_pos (by omega)] at hI; exact hI) | (rw [fault_0 (by omega), if_neg (by omega)] at hI; exact hI))⟩
    ·
      rw [fault_s (r' := (S k 3 - (i + 1)).toNat) (by omega)] at hI
      have hbb := hb i.toNat
      have hm5 : 0 ≤ i % 5 ∧ i % 5 ≤ 4 := by omega
      refine z_iload_n (pc := 10) h dX7_firstFault_10 rfl ?_
      refine z_aload_n (pc := 11) h dX7_firstFault_11 rfl ?_
      refine z_getR (a := k + 1) (pc := 12) h dX7_firstFault_12 clX7 lkX7_9 (by decide) hk.1 rfl ?_
      refine z_alen (pc := 15) h dX7_firstFault_15 hk.2.1 ?_
      refine z_icmp_ge (pc := 16) (tgt := 48) h dX7_firstFault_16 (by decide) ⟨by omega, by omega⟩ ⟨by decide, by decide⟩ (fun hc16 => absurd hc16 (by omega)) (fun hc16 => ?_)
      refine z_iload_n (pc := 19) h dX7_firstFault_19 rfl ?_
      refine z_bipush (pc := 20) h dX7_firstFault_20 rfl ?_
      refine z_icmp_eq (pc := 22) (tgt := 40) h dX7_firstFault_22 (by decide) ⟨by omega, by omega⟩ ⟨by decide, by decide⟩ (fun hc22 => ?_) (fun hc22 => ?_)
      ·
        refine z_iload_n (pc := 40) h dX7_firstFault_40 rfl ?_
        exact z_iret (pc := 41) h dX7_firstFault_41 rfl ⟨rfl, congrArg (fun z => some (zi z)) (by first | (rw [if_pos (by omega)] at hI; exact hI) | (rw [if_neg (by omega), if_neg (by assumption)] at hI; exact hI) | (rw [fault_0 (by omega), if_pos (by omega)] at hI; exact hI) | (rw [fault_0 (by omega), if_neg (by omega)] at hI; exact hI))⟩
      ·
        refine z_iload_n (pc := 25) h dX7_firstFault_25 rfl ?_
        refine z_iconst (pc := 26) h dX7_firstFault_26 ?_
        refine z_iremN (pc := 27) h dX7_firstFault_27 ⟨by omega, by omega⟩ ⟨by decide, by decide⟩ ?_
        refine z_aload_n (pc := 28) h dX7_firstFault_28 rfl ?_
        refine z_getR (a := k + 1) (pc := 29) h dX7_firstFault_29 clX7 lkX7_9 (by decide) hk.1 rfl ?_
        refine z_iload_n (pc := 32) h dX7_firstFault_32 rfl ?_
        refine z_iald (pc := 33) h dX7_firstFault_33 hk.2.1 (by decide) (by omega) (by omega) ?_
        refine z_callS (pc := 34) (rest := ([] : List zV)) h (m_X7_goesOn (i % 5) (S (k + 1) i.toNat) S ⟨by omega, by omega⟩ ⟨by omega, by omega⟩) dX7_firstFault_34 mcX7_goesOn msX7_goesOn mlX7_38 rfl rfl ⟨by decide, by decide⟩ rfl (Nat.le_of_ble_eq_true rfl) ?_
        rintro _ _ ⟨rfl, ⟨hr34, rfl⟩ | ⟨hr34, rfl⟩⟩
        ·
          show zG x LX 37 [some (zr k), some (zi i)] [zi 1] S
          refine z_if_ne (pc := 37) (tgt := 42) h dX7_firstFault_37 (by decide) ⟨by decide, by decide⟩ (fun hc37 => ?_) (fun hc37 => absurd hc37 (by decide))
          refine z_iinc (pc := 42) (loc' := [some (zr k), some (zi (i + 1))]) h dX7_firstFault_42 rfl (Nat.le_of_ble_eq_true rfl) rfl rfl ?_
          refine z_goto (pc := 45) (tgt := 2) h dX7_firstFault_45 (by decide) ?_
          exact ih2 _ (by omega) (i + 1) (by omega) (by rw [if_neg (by omega), if_pos (by assumption)] at hI; exact hI) rfl
        ·
          show zG x LX 37 [some (zr k), some (zi i)] [zi 0] S
          refine z_if_ne (pc := 37) (tgt := 42) h dX7_firstFault_37 (by decide) ⟨by decide, by decide⟩ (fun hc37 => absurd hc37 (by decide)) (fun hc37 => ?_)
          refine z_iload_n (pc := 40) h dX7_firstFault_40 rfl ?_
          exact z_iret (pc := 41) h dX7_firstFault_41 rfl ⟨rfl, congrArg (fun z => some (zi z)) (by first | (rw [if_pos (by omega)] at hI; exact hI) | (rw [if_neg (by omega), if_neg (by assumption)] at hI; exact hI) | (rw [fault_0 (by omega), if_pos (by omega)] at hI; exact hI) | (rw [fault_0 (by omega), if_neg (by omega)] at hI; exact hI))⟩
  exact J2 _ 0 (by omega) (by unfold faultF; congr 1; omega) rfl

set_option maxRecDepth 100000 in
set_option maxHeartbeats 4000000 in
theorem m_X7_parse (k : Nat) (S : SS) (hk : isStrip k) (hl : 0 ≤ S k 3 ∧ S k 3 ≤ 80) (hb : ∀ j, 0 ≤ S (k + 1) j ∧ S (k + 1) j ≤ 255) (hc : ∀ j, -1 ≤ S (k + 2) j ∧ S (k + 2) j ≤ 9) : zM LX yX7_parse cX7_parse 4 none 3 64 [zr k] S (fun r S' => r = none ∧ (∀ a b, ¬ (a = k ∧ (b = 4 ∨ b = 5)) → a ≠ k + 2 → S' a b = S a b) ∧ S' k 5 = faultF (S (k + 1)) (S k 3) ∧ S' k 4 = picsF (S (k + 1)) (S k 3) ∧ (∀ j : Nat, (j : Int) < 4 * picsF (S (k + 1)) (S k 3) → S' (k + 2) j = placeF (S (k + 1)) j) ∧ (∀ j, -1 ≤ S' (k + 2) j ∧ S' (k + 2) j ≤ 9)) := by
  refine zM_of (own := RX7) rfl (by decide +kernel) [some (zr k), none, none, none] (Nat.le_of_ble_eq_true rfl) rfl ?_
  intro x h
  have hF := faultF_b (S (k + 1)) hl.1
  have hPb := picsF_b (S (k + 1)) hl.1
  refine z_aload_n (pc := 0) h dX7_parse_0 rfl ?_
  refine z_aload_n (pc := 1) h dX7_parse_1 rfl ?_
  refine z_callV (pc := 2) (rest := [zr k]) h (m_X7_firstFault k S (by assumption) (by first | assumption | omega) (by first | assumption | omega)) dX7_parse_2 mcX7_firstFault miX7_firstFault mlX7_31 rfl rfl ⟨by decide, by decide⟩ clX7 hk.1 rfl rfl (Nat.le_of_ble_eq_true rfl) ?_
  rintro _ _ ⟨rfl, rfl⟩
  show zG x LX 5 [some (zr k), none, none, none] [zi (faultF (S (k + 1)) (S k 3)), zr k] S
  refine z_putI (pc := 5) h dX7_parse_5 clX7 lkX7_21 (by decide) hk.1 rfl rfl rfl ?_
  refine z_nmS (fun S1 h_S1 => ?_)
  have a5 : S1 k 5 = faultF (S (k + 1)) (S k 3) := by rw [h_S1, up2_s]
  have a3 : S1 k 3 = S k 3 := by rw [h_S1, up2_j _ _ (by omega)]
  have aO : ∀ a b, ¬ (a = k ∧ b = 5) → S1 a b = S a b := fun a b q => by rw [h_S1, up2_e, if_neg q]
  have J29 : ∀ (z : Int) (hz : z = picsF (S (k + 1)) (S k 3)) , zG x LX 29 [some (zr k), none, none, none] [zi z, zr k] S1 := by
    intro z hz
    refine z_putI (pc := 29) h dX7_parse_29 clX7 lkX7_35 (by decide) hk.1 rfl rfl rfl ?_
    refine z_iconst (pc := 32) h dX7_parse_32 ?_
    refine z_istore_n (pc := 33) (loc' := [some (zr k), some (zi 0), none, none]) h dX7_parse_33 rfl (Nat.le_of_ble_eq_true rfl) rfl rfl ?_
    have J34 : ∀ (N : Nat) (i : Int) (S3 : SS) (hi : 0 ≤ i ∧ i ≤ 4 * picsF (S (k + 1)) (S k 3)) (p1 : ∀ a b, ¬ (a = k ∧ (b = 4 ∨ b = 5)) → a ≠ k + 2 → S3 a b = S a b) (p2 : S3 k 5 = faultF (S (k + 1)) (S k 3)) (p3 : S3 k 4 = picsF (S (k + 1)) (S k 3)) (p4 : ∀ j : Nat, (j : Int) < i → S3 (k + 2) j = placeF (S (k + 1)) j) (p5 : ∀ j, -1 ≤ S3 (k + 2) j ∧ S3 (k + 2) j ≤ 9) , (4 * picsF (S (k + 1)) (S k 3) - i).toNat = N → zG x LX 34 [some (zr k), some (zi i), none, none] ([] : List zV) S3 := by
      intro N
      induction N using Nat.strongRecOn with
      | _ N ih34 => ?_
      intro i S3 hi p1 p2 p3 p4 p5 hN34
      refine z_iload_n (pc := 34) h dX7_parse_34 rfl ?_
      refine z_aload_n (pc := 35) h dX7_parse_35 rfl ?_
      refine z_getI (pc := 36) h dX7_parse_36 clX7 lkX7_35 (by decide) hk.1 rfl ?_
      refine z_iconst (pc := 39) h dX7_parse_39 ?_
      refine z_imul (pc := 40) h dX7_parse_40 ?_
      refine z_icmp_ge (pc := 41) (tgt := 110) h dX7_parse_41 (by decide) ⟨by omega, by omega⟩ ⟨by omega, by omega⟩ (fun hc41 => ?_) (fun hc41 => ?_)
      ·
        exact z_vret (pc := 110) h dX7_parse_110 rfl (⟨rfl, p1, p2, p3, fun j hj => p4 j (by omega), p5⟩)
      ·
        have hx : S3 (k + 1) (i / 4 * 5 + i % 4).toNat = S (k + 1) (i / 4 * 5 + i % 4).toNat := p1 _ _ (by omega) (by omega)
        have hpb := placeF_b (t := S (k + 1)) (n := S k 3) (i := i) hl.1 hi.1 (by omega)
        have hbb := hb (i / 4 * 5 + i % 4).toNat
        refine z_iload_n (pc := 44) h dX7_parse_44 rfl ?_
        refine z_aload_n (pc := 45) h dX7_parse_45 rfl ?_
        refine z_getR (a := k + 2) (pc := 46) h dX7_parse_46 clX7 lkX7_15 (by decide) hk.1 rfl ?_
        refine z_alen (pc := 49) h dX7_parse_49 hk.2.2.1 ?_
        refine z_icmp_ge (pc := 50) (tgt := 110) h dX7_parse_50 (by decide) ⟨by omega, by omega⟩ ⟨by decide, by decide⟩ (fun hc50 => absurd hc50 (by omega)) (fun hc50 => ?_)
        refine z_iload_n (pc := 53) h dX7_parse_53 rfl ?_
        refine z_iconst (pc := 54) h dX7_parse_54 ?_
        refine z_idivN (pc := 55) h dX7_parse_55 ⟨by omega, by omega⟩ ⟨by decide, by decide⟩ ?_
        refine z_iconst (pc := 56) h dX7_parse_56 ?_
        refine z_imul (pc := 57) h dX7_parse_57 ?_
        refine z_iload_n (pc := 58) h dX7_parse_58 rfl ?_
        refine z_iconst (pc := 59) h dX7_parse_59 ?_
        refine z_iremN (pc := 60) h dX7_parse_60 ⟨by omega, by omega⟩ ⟨by decide, by decide⟩ ?_
        refine z_iadd (pc := 61) h dX7_parse_61 ?_
        refine z_istore_n (pc := 62) (loc' := [some (zr k), some (zi i), some (zi (((i / 4) * 5) + (i % 4))), none]) h dX7_parse_62 rfl (Nat.le_of_ble_eq_true rfl) rfl rfl ?_
        have hd1 : 0 ≤ i / 4 * 5 + i % 4 ∧ i / 4 * 5 + i % 4 < 59 := by omega
        refine z_iload_n (pc := 63) h dX7_parse_63 rfl ?_
        refine z_aload_n (pc := 64) h dX7_parse_64 rfl ?_
        refine z_getR (a := k + 1) (pc := 65) h dX7_parse_65 clX7 lkX7_9 (by decide) hk.1 rfl ?_
        refine z_alen (pc := 68) h dX7_parse_68 hk.2.1 ?_
        refine z_icmp_ge (pc := 69) (tgt := 81) h dX7_parse_69 (by decide) ⟨by omega, by omega⟩ ⟨by decide, by decide⟩ (fun hc69 => absurd hc69 (by omega)) (fun hc69 => ?_)
        refine z_aload_n (pc := 72) h dX7_parse_72 rfl ?_
        refine z_getR (a := k + 1) (pc := 73) h dX7_parse_73 clX7 lkX7_9 (by decide) hk.1 rfl ?_
        refine z_iload_n (pc := 76) h dX7_parse_76 rfl ?_
        refine z_iald (pc := 77) h dX7_parse_77 hk.2.1 (by decide) (by omega) (by omega) ?_
        refine z_nm (b := (S3 (k + 1) (Int.toNat (((i / 4) * 5) + (i % 4))))) (fun v83 h_v83 => ?_)
        refine z_goto (pc := 78) (tgt := 83) h dX7_parse_78 (by decide) ?_
        refine z_istore_n (pc := 83) (loc' := [some (zr k), some (zi i), some (zi (((i / 4) * 5) + (i % 4))), some (zi v83)]) h dX7_parse_83 rfl (Nat.le_of_ble_eq_true rfl) rfl rfl ?_
        have hv : S (k + 1) (i / 4 * 5 + i % 4).toNat = v83 := by rw [h_v83, hx]
        unfold placeF at hpb
        rw [hv] at hpb hbb
        refine z_aload_n (pc := 84) h dX7_parse_84 rfl ?_
        refine z_getR (a := k + 2) (pc := 85) h dX7_parse_85 clX7 lkX7_15 (by decide) hk.1 rfl ?_
        refine z_iload_n (pc := 88) h dX7_parse_88 rfl ?_
        refine z_iload_n (pc := 89) h dX7_parse_89 rfl ?_
        refine z_bipush (pc := 90) h dX7_parse_90 rfl ?_
        refine z_icmp_ne (pc := 92) (tgt := 99) h dX7_parse_92 (by decide) ⟨by omega, by omega⟩ ⟨by decide, by decide⟩ (fun hc92 => ?_) (fun hc92 => ?_)
        ·
          refine z_iload_n (pc := 99) h dX7_parse_99 rfl ?_
          refine z_bipush (pc := 100) h dX7_parse_100 rfl ?_
          refine z_isub (pc := 102) h dX7_parse_102 ?_
          refine z_iast (pc := 103) h dX7_parse_103 hk.2.2.1 (by decide) (by omega) (by omega) ?_
          refine z_iinc (pc := 104) (loc' := [some (zr k), some (zi (i + 1)), some (zi (((i / 4) * 5) + (i % 4))), some (zi v83)]) h dX7_parse_104 rfl (Nat.le_of_ble_eq_true rfl) rfl rfl ?_
          refine z_goto (pc := 107) (tgt := 34) h dX7_parse_107 (by decide) ?_
          refine z_forget [true, true, false, false] (loc' := [some (zr k), some (zi (i + 1)), none, none]) rfl ?_
          exact ih34 _ (by omega) (i + 1) (up2 S3 (k + 2) i.toNat (v83 - 48)) (by omega) (by intro a b q1 q2; rw [up2_k _ _ q2]; exact p1 a b q1 q2) (by rw [up2_k _ _ (by omega)]; exact p2) (by rw [up2_k _ _ (by omega)]; exact p3) (by intro j hj; by_cases hji : j = i.toNat; (subst hji; rw [up2_s, show ((i.toNat : Nat) : Int) = i by omega]; unfold placeF; rw [hv]; first | (rw [if_pos (by assumption)]) | (rw [if_neg (by assumption)])); (rw [up2_j _ _ hji]; exact p4 j (by omega))) (by intro j; by_cases hji : j = i.toNat; (subst hji; rw [up2_s]; omega); (rw [up2_j _ _ hji]; exact p5 j)) rfl
        ·
          refine z_iconst (pc := 95) h dX7_parse_95 ?_
          refine z_goto (pc := 96) (tgt := 103) h dX7_parse_96 (by decide) ?_
          refine z_iast (pc := 103) h dX7_parse_103 hk.2.2.1 (by decide) (by omega) (by omega) ?_
          refine z_iinc (pc := 104) (loc' := [some (zr k), some (zi (i + 1)), some (zi (((i / 4) * 5) + (i % 4))), some (zi v83)]) h dX7_parse_104 rfl (Nat.le_of_ble_eq_true rfl) rfl rfl ?_
          refine z_goto (pc := 107) (tgt := 34) h dX7_parse_107 (by decide) ?_
          refine z_forget [true, true, false, false] (loc' := [some (zr k), some (zi (i + 1)), none, none]) rfl ?_
          exact ih34 _ (by omega) (i + 1) (up2 S3 (k + 2) i.toNat (-1)) (by omega) (by intro a b q1 q2; rw [up2_k _ _ q2]; exact p1 a b q1 q2) (by rw [up2_k _ _ (by omega)]; exact p2) (by rw [up2_k _ _ (by omega)]; exact p3) (by intro j hj; by_cases hji : j = i.toNat; (subst hji; rw [up2_s, show ((i.toNat : Nat) : Int) = i by omega]; unfold placeF; rw [hv]; first | (rw [if_pos (by assumption)]) | (rw [if_neg (by assumption)])); (rw [up2_j _ _ hji]; exact p4 j (by omega))) (by intro j; by_cases hji : j = i.toNat; (subst hji; rw [up2_s]; omega); (rw [up2_j _ _ hji]; exact p5 j)) rfl
    exact J34 _ 0 (up2 S1 k 4 z) (by omega) (by intro a b q1 q2; rw [up2_e, if_neg (by omega)]; exact aO a b (by omega)) (by rw [up2_j _ _ (by omega)]; exact a5) (by rw [up2_s]; exact hz) (by intro j hj; omega) (by intro j; rw [up2_k _ _ (by omega), aO _ _ (by omega)]; exact hc j) rfl
  refine z_aload_n (pc := 8) h dX7_parse_8 rfl ?_
  refine z_aload_n (pc := 9) h dX7_parse_9 rfl ?_
  refine z_getI (pc := 10) h dX7_parse_10 clX7 lkX7_21 (by decide) hk.1 rfl ?_
  refine z_iconst (pc := 13) h dX7_parse_13 ?_
  refine z_icmp_ne (pc := 14) (tgt := 28) h dX7_parse_14 (by decide) ⟨by omega, by omega⟩ ⟨by decide, by decide⟩ (fun hc14 => ?_) (fun hc14 => ?_)
  ·
    refine z_iconst (pc := 28) h dX7_parse_28 ?_
    exact J29 0 (by unfold picsF; first | (rw [if_pos (by omega), a3]) | (rw [if_neg (by omega)]))
  ·
    refine z_aload_n (pc := 17) h dX7_parse_17 rfl ?_
    refine z_getI (pc := 18) h dX7_parse_18 clX7 lkX7_25 (by decide) hk.1 rfl ?_
    refine z_iconst (pc := 21) h dX7_parse_21 ?_
    refine z_iadd (pc := 22) h dX7_parse_22 ?_
    refine z_iconst (pc := 23) h dX7_parse_23 ?_
    refine z_idivN (pc := 24) h dX7_parse_24 ⟨by omega, by omega⟩ ⟨by decide, by decide⟩ ?_
    refine z_goto (pc := 25) (tgt := 29) h dX7_parse_25 (by decide) ?_
    exact J29 (((S1 k 3) + 1) / 5) (by unfold picsF; first | (rw [if_pos (by omega), a3]) | (rw [if_neg (by omega)]))

set_option maxRecDepth 100000 in
set_option maxHeartbeats 4000000 in
theorem m_X7_has (k : Nat) (p : Int) (S : SS) (hk : isStrip k) (ho : okS S k) (hp : r32 p) : zM LX yX7_has cX7_has 2 (some .boolean) 1 22 [zr k, zi p] S (fun r S' => S = S' ∧ ((0 ≤ p ∧ p < S k 4) ∧ r = some (zi 1) ∨ ¬ (0 ≤ p ∧ p < S k 4) ∧ r = some (zi 0))) := by
  refine zM_of (own := RX7) rfl (by decide +kernel) [some (zr k), some (zi p)] (Nat.le_of_ble_eq_true rfl) rfl ?_
  intro x h
  have ho1 := ho.1
  have ho2 := ho.2.1
  have ho3 := ho.2.2.1
  have hQ := pvX_b ho
  refine z_iload_n (pc := 0) h dX7_has_0 rfl ?_
  refine z_iconst (pc := 1) h dX7_has_1 ?_
  refine z_aload_n (pc := 2) h dX7_has_2 rfl ?_
  refine z_getI (pc := 3) h dX7_has_3 clX7 lkX7_35 (by decide) hk.1 rfl ?_
  refine z_iconst (pc := 6) h dX7_has_6 ?_
  refine z_isub (pc := 7) h dX7_has_7 ?_
  refine z_callS (pc := 8) (rest := ([] : List zV)) h (m_X10_within p 0 ((S k 4) - 1) S ⟨by omega, by omega⟩ ⟨by decide, by decide⟩ ⟨by omega, by omega⟩) dX7_has_8 mcX10_within msX10_within mlX7_42 rfl rfl ⟨by decide, by decide⟩ rfl (Nat.le_of_ble_eq_true rfl) ?_
  rintro _ _ ⟨rfl, ⟨hr8, rfl⟩ | ⟨hr8, rfl⟩⟩
  ·
    show zG x LX 11 [some (zr k), some (zi p)] [zi 1] S
    exact z_zret (pc := 11) h dX7_has_11 rfl (by decide) ⟨rfl, Or.inl ⟨by omega, rfl⟩⟩
  ·
    show zG x LX 11 [some (zr k), some (zi p)] [zi 0] S
    exact z_zret (pc := 11) h dX7_has_11 rfl (by decide) ⟨rfl, Or.inr ⟨by omega, rfl⟩⟩

set_option maxRecDepth 100000 in
set_option maxHeartbeats 4000000 in
theorem m_X7_placeAt (k : Nat) (p q : Int) (S : SS) (hk : isStrip k) (ho : okS S k) (hp : r32 p) (hq : r32 q) : zM LX yX7_placeAt cX7_placeAt 4 (some .int) 0 0 [zr k, zi p, zi q] S (fun r S' => S = S' ∧ r = some (zi (pvX S k p q))) := by
  refine zM_of (own := RX7) rfl (by decide +kernel) [some (zr k), some (zi p), some (zi q), none] (Nat.le_of_ble_eq_true rfl) rfl ?_
  intro x h
  have ho1 := ho.1
  have ho2 := ho.2.1
  have ho3 := ho.2.2.1
  have hQ := pvX_b ho
  refine z_iload_n (pc := 0) h dX7_placeAt_0 rfl ?_
  refine z_if_lt (pc := 1) (tgt := 21) h dX7_placeAt_1 (by decide) ⟨by omega, by omega⟩ (fun hc1 => ?_) (fun hc1 => ?_)
  ·
    refine z_iconst (pc := 21) h dX7_placeAt_21 ?_
    exact z_iret (pc := 22) h dX7_placeAt_22 rfl ⟨rfl, congrArg (fun z => some (zi z)) (by first | (unfold pvX; rw [if_pos (by omega)]) | (unfold pvX; rw [if_neg (by omega)]))⟩
  ·
    refine z_iload_n (pc := 4) h dX7_placeAt_4 rfl ?_
    refine z_aload_n (pc := 5) h dX7_placeAt_5 rfl ?_
    refine z_getI (pc := 6) h dX7_placeAt_6 clX7 lkX7_35 (by decide) hk.1 rfl ?_
    refine z_icmp_ge (pc := 9) (tgt := 21) h dX7_placeAt_9 (by decide) ⟨by omega, by omega⟩ ⟨by omega, by omega⟩ (fun hc9 => ?_) (fun hc9 => ?_)
    ·
      refine z_iconst (pc := 21) h dX7_placeAt_21 ?_
      exact z_iret (pc := 22) h dX7_placeAt_22 rfl ⟨rfl, congrArg (fun z => some (zi z)) (by first | (unfold pvX; rw [if_pos (by omega)]) | (unfold pvX; rw [if_neg (by omega)]))⟩
    ·
      refine z_iload_n (pc := 12) h dX7_placeAt_12 rfl ?_
      refine z_if_lt (pc := 13) (tgt := 21) h dX7_placeAt_13 (by decide) ⟨by omega, by omega⟩ (fun hc13 => ?_) (fun hc13 => ?_)
      ·
        refine z_iconst (pc := 21) h dX7_placeAt_21 ?_
        exact z_iret (pc := 22) h dX7_placeAt_22 rfl ⟨rfl, congrArg (fun z => some (zi z)) (by first | (unfold pvX; rw [if_pos (by omega)]) | (unfold pvX; rw [if_neg (by omega)]))⟩
      ·
        refine z_iload_n (pc := 16) h dX7_placeAt_16 rfl ?_
        refine z_iconst (pc := 17) h dX7_placeAt_17 ?_
        refine z_icmp_lt (pc := 18) (tgt := 23) h dX7_placeAt_18 (by decide) ⟨by omega, by omega⟩ ⟨by decide, by decide⟩ (fun hc18 => ?_) (fun hc18 => ?_)
        ·
          refine z_iload_n (pc := 23) h dX7_placeAt_23 rfl ?_
          refine z_iconst (pc := 24) h dX7_placeAt_24 ?_
          refine z_imul (pc := 25) h dX7_placeAt_25 ?_
          refine z_iload_n (pc := 26) h dX7_placeAt_26 rfl ?_
          refine z_iadd (pc := 27) h dX7_placeAt_27 ?_
          refine z_istore_n (pc := 28) (loc' := [some (zr k), some (zi p), some (zi q), some (zi ((p * 4) + q))]) h dX7_placeAt_28 rfl (Nat.le_of_ble_eq_true rfl) rfl rfl ?_
          refine z_iload_n (pc := 29) h dX7_placeAt_29 rfl ?_
          refine z_aload_n (pc := 30) h dX7_placeAt_30 rfl ?_
          refine z_getR (a := k + 2) (pc := 31) h dX7_placeAt_31 clX7 lkX7_15 (by decide) hk.1 rfl ?_
          refine z_alen (pc := 34) h dX7_placeAt_34 hk.2.2.1 ?_
          refine z_icmp_ge (pc := 35) (tgt := 47) h dX7_placeAt_35 (by decide) ⟨by omega, by omega⟩ ⟨by decide, by decide⟩ (fun hc35 => absurd hc35 (by omega)) (fun hc35 => ?_)
          refine z_aload_n (pc := 38) h dX7_placeAt_38 rfl ?_
          refine z_getR (a := k + 2) (pc := 39) h dX7_placeAt_39 clX7 lkX7_15 (by decide) hk.1 rfl ?_
          refine z_iload_n (pc := 42) h dX7_placeAt_42 rfl ?_
          refine z_iald (pc := 43) h dX7_placeAt_43 hk.2.2.1 (by decide) (by omega) (by omega) ?_
          refine z_goto (pc := 44) (tgt := 48) h dX7_placeAt_44 (by decide) ?_
          exact z_iret (pc := 48) h dX7_placeAt_48 rfl ⟨rfl, congrArg (fun z => some (zi z)) (by first | (unfold pvX; rw [if_pos (by omega)]) | (unfold pvX; rw [if_neg (by omega)]))⟩
        ·
          refine z_iconst (pc := 21) h dX7_placeAt_21 ?_
          exact z_iret (pc := 22) h dX7_placeAt_22 rfl ⟨rfl, congrArg (fun z => some (zi z)) (by first | (unfold pvX; rw [if_pos (by omega)]) | (unfold pvX; rw [if_neg (by omega)]))⟩

set_option maxRecDepth 100000 in
set_option maxHeartbeats 4000000 in
theorem m_X7_partStep (u v g : Int) (S : SS) (hu : -1 ≤ u ∧ u ≤ 9) (hv : -1 ≤ v ∧ v ≤ 9) (hg : 0 ≤ g ∧ g ≤ 9) : zM LX yX7_partStep cX7_partStep 3 (some .int) 1 20 [zi u, zi v, zi g] S (fun r S' => S = S' ∧ r = some (zi (partF g u v))) := by
  refine zM_of (own := RX7) rfl (by decide +kernel) [some (zi u), some (zi v), some (zi g)] (Nat.le_of_ble_eq_true rfl) rfl ?_
  intro x h
  refine z_iload_n (pc := 0) h dX7_partStep_0 rfl ?_
  refine z_iconst (pc := 1) h dX7_partStep_1 ?_
  refine z_icmp_eq (pc := 2) (tgt := 10) h dX7_partStep_2 (by decide) ⟨by omega, by omega⟩ ⟨by decide, by decide⟩ (fun hc2 => ?_) (fun hc2 => ?_)
  ·
    refine z_iload_n (pc := 10) h dX7_partStep_10 rfl ?_
    refine z_iload_n (pc := 11) h dX7_partStep_11 rfl ?_
    refine z_icmp_ne (pc := 12) (tgt := 19) h dX7_partStep_12 (by decide) ⟨by omega, by omega⟩ ⟨by omega, by omega⟩ (fun hc12 => ?_) (fun hc12 => ?_)
    ·
      refine z_iload_n (pc := 19) h dX7_partStep_19 rfl ?_
      exact z_iret (pc := 20) h dX7_partStep_20 rfl ⟨rfl, congrArg (fun z => some (zi z)) (by unfold partF; (repeat' split) <;> first | rfl | omega)⟩
    ·
      refine z_iconst (pc := 15) h dX7_partStep_15 ?_
      refine z_goto (pc := 16) (tgt := 20) h dX7_partStep_16 (by decide) ?_
      exact z_iret (pc := 20) h dX7_partStep_20 rfl ⟨rfl, congrArg (fun z => some (zi z)) (by unfold partF; (repeat' split) <;> first | rfl | omega)⟩
  ·
    refine z_iload_n (pc := 5) h dX7_partStep_5 rfl ?_
    refine z_iconst (pc := 6) h dX7_partStep_6 ?_
    refine z_icmp_ne (pc := 7) (tgt := 21) h dX7_partStep_7 (by decide) ⟨by omega, by omega⟩ ⟨by decide, by decide⟩ (fun hc7 => ?_) (fun hc7 => ?_)
    ·
      refine z_iload_n (pc := 21) h dX7_partStep_21 rfl ?_
      refine z_iload_n (pc := 22) h dX7_partStep_22 rfl ?_
      refine z_isub (pc := 23) h dX7_partStep_23 ?_
      refine z_callS (pc := 24) (rest := ([] : List zV)) h (m_J9_abs_0f7a4 (u - v) S ⟨by omega, by omega⟩) dX7_partStep_24 mcJ9_abs_0f7a4 msJ9_abs_0f7a4 mlX7_54 rfl rfl ⟨by decide, by decide⟩ rfl (Nat.le_of_ble_eq_true rfl) ?_
      rintro _ _ ⟨rfl, rfl⟩
      show zG x LX 27 [some (zi u), some (zi v), some (zi g)] [zi (absI (u - v))] S
      exact z_iret (pc := 27) h dX7_partStep_27 rfl ⟨rfl, congrArg (fun z => some (zi z)) (by unfold partF; (repeat' split) <;> first | rfl | omega)⟩
    ·
      refine z_iload_n (pc := 10) h dX7_partStep_10 rfl ?_
      refine z_iload_n (pc := 11) h dX7_partStep_11 rfl ?_
      refine z_icmp_ne (pc := 12) (tgt := 19) h dX7_partStep_12 (by decide) ⟨by omega, by omega⟩ ⟨by omega, by omega⟩ (fun hc12 => ?_) (fun hc12 => ?_)
      ·
        refine z_iload_n (pc := 19) h dX7_partStep_19 rfl ?_
        exact z_iret (pc := 20) h dX7_partStep_20 rfl ⟨rfl, congrArg (fun z => some (zi z)) (by unfold partF; (repeat' split) <;> first | rfl | omega)⟩
      ·
        refine z_iconst (pc := 15) h dX7_partStep_15 ?_
        refine z_goto (pc := 16) (tgt := 20) h dX7_partStep_16 (by decide) ?_
        exact z_iret (pc := 20) h dX7_partStep_20 rfl ⟨rfl, congrArg (fun z => some (zi z)) (by unfold partF; (repeat' split) <;> first | rfl | omega)⟩

set_option maxRecDepth 100000 in
set_option maxHeartbeats 4000000 in
theorem m_X7_behind (k : Nat) (p : Int) (S : SS) (hk : isStrip k) (ho : okS S k) (hp : 0 ≤ p ∧ p ≤ 1000) : zM LX yX7_behind cX7_behind 2 (some .int) 0 0 [zr k, zi p] S (fun r S' => S = S' ∧ r = some (zi (behF (S k 4) p))) := by
  refine zM_of (own := RX7) rfl (by decide +kernel) [some (zr k), some (zi p)] (Nat.le_of_ble_eq_true rfl) rfl ?_
  intro x h
  have ho1 := ho.1
  have ho2 := ho.2.1
  have ho3 := ho.2.2.1
  have hQ := pvX_b ho
  refine z_iload_n (pc := 0) h dX7_behind_0 rfl ?_
  refine z_iconst (pc := 1) h dX7_behind_1 ?_
  refine z_iadd (pc := 2) h dX7_behind_2 ?_
  refine z_aload_n (pc := 3) h dX7_behind_3 rfl ?_
  refine z_getI (pc := 4) h dX7_behind_4 clX7 lkX7_35 (by decide) hk.1 rfl ?_
  refine z_icmp_ge (pc := 7) (tgt := 16) h dX7_behind_7 (by decide) ⟨by omega, by omega⟩ ⟨by omega, by omega⟩ (fun hc7 => ?_) (fun hc7 => ?_)
  ·
    refine z_iconst (pc := 16) h dX7_behind_16 ?_
    exact z_iret (pc := 17) h dX7_behind_17 rfl ⟨rfl, congrArg (fun z => some (zi z)) (by unfold behF; first | (rw [if_pos (by omega)]) | (rw [if_neg (by omega)]))⟩
  ·
    refine z_iload_n (pc := 10) h dX7_behind_10 rfl ?_
    refine z_iconst (pc := 11) h dX7_behind_11 ?_
    refine z_iadd (pc := 12) h dX7_behind_12 ?_
    refine z_goto (pc := 13) (tgt := 17) h dX7_behind_13 (by decide) ?_
    exact z_iret (pc := 17) h dX7_behind_17 rfl ⟨rfl, congrArg (fun z => some (zi z)) (by unfold behF; first | (rw [if_pos (by omega)]) | (rw [if_neg (by omega)]))⟩

set_option maxRecDepth 100000 in
set_option maxHeartbeats 4000000 in
theorem m_X7_stepBetween (k : Nat) (a b g : Int) (S : SS) (hk : isStrip k) (ho : okS S k) (ha : r32 a) (hb : r32 b) (hg : 0 ≤ g ∧ g ≤ 9) : zM LX yX7_stepBetween cX7_stepBetween 6 (some .int) 2 42 [zr k, zi a, zi b, zi g] S (fun r S' => S = S' ∧ r = some (zi (stepF g (pvX S k) a b))) := by
  refine zM_of (own := RX7) rfl (by decide +kernel) [some (zr k), some (zi a), some (zi b), some (zi g), none, none] (Nat.le_of_ble_eq_true rfl) rfl ?_
  intro x h
  have ho1 := ho.1
  have ho2 := ho.2.1
  have ho3 := ho.2.2.1
  have hQ := pvX_b ho
  refine z_iconst (pc := 0) h dX7_stepBetween_0 ?_
  refine z_istore (pc := 1) (loc' := [some (zr k), some (zi a), some (zi b), some (zi g), some (zi 0), none]) h dX7_stepBetween_1 (Nat.le_of_ble_eq_true rfl) rfl rfl ?_
  refine z_iconst (pc := 3) h dX7_stepBetween_3 ?_
  refine z_istore (pc := 4) (loc' := [some (zr k), some (zi a), some (zi b), some (zi g), some (zi 0), some (zi 0)]) h dX7_stepBetween_4 (Nat.le_of_ble_eq_true rfl) rfl rfl ?_
  refine z_iload (pc := 6) h dX7_stepBetween_6 rfl ?_
  refine z_iconst (pc := 8) h dX7_stepBetween_8 ?_
  refine z_icmp_ge (pc := 9) (tgt := 41) h dX7_stepBetween_9 (by decide) ⟨by decide, by decide⟩ ⟨by decide, by decide⟩ (fun hc9 => absurd hc9 (by decide)) (fun hc9 => ?_)
  refine z_iload (pc := 12) h dX7_stepBetween_12 rfl ?_
  refine z_aload_n (pc := 14) h dX7_stepBetween_14 rfl ?_
  refine z_iload_n (pc := 15) h dX7_stepBetween_15 rfl ?_
  refine z_iload (pc := 16) h dX7_stepBetween_16 rfl ?_
  refine z_callV (pc := 18) (rest := [zi 0]) h (m_X7_placeAt k a 0 S (by assumption) (by first | assumption | omega) ⟨by omega, by omega⟩ ⟨by decide, by decide⟩) dX7_stepBetween_18 mcX7_placeAt miX7_placeAt mlX7_46 rfl rfl ⟨by decide, by decide⟩ clX7 hk.1 rfl rfl (Nat.le_of_ble_eq_true rfl) ?_
  rintro _ _ ⟨rfl, rfl⟩
  show zG x LX 21 [some (zr k), some (zi a), some (zi b), some (zi g), some (zi 0), some (zi 0)] [zi (pvX S k a 0), zi 0] S
  refine z_aload_n (pc := 21) h dX7_stepBetween_21 rfl ?_
  refine z_iload_n (pc := 22) h dX7_stepBetween_22 rfl ?_
  refine z_iload (pc := 23) h dX7_stepBetween_23 rfl ?_
  refine z_callV (pc := 25) (rest := [zi (pvX S k a 0), zi 0]) h (m_X7_placeAt k b 0 S (by assumption) (by first | assumption | omega) ⟨by omega, by omega⟩ ⟨by decide, by decide⟩) dX7_stepBetween_25 mcX7_placeAt miX7_placeAt mlX7_46 rfl rfl ⟨by decide, by decide⟩ clX7 hk.1 rfl rfl (Nat.le_of_ble_eq_true rfl) ?_
  rintro _ _ ⟨rfl, rfl⟩
  show zG x LX 28 [some (zr k), some (zi a), some (zi b), some (zi g), some (zi 0), some (zi 0)] [zi (pvX S k b 0), zi (pvX S k a 0), zi 0] S
  refine z_iload_n (pc := 28) h dX7_stepBetween_28 rfl ?_
  refine z_callS (pc := 29) (rest := [zi 0]) h (m_X7_partStep (pvX S k a 0) (pvX S k b 0) g S (hQ _ _) (hQ _ _) (by first | assumption | omega)) dX7_stepBetween_29 mcX7_partStep msX7_partStep mlX7_50 rfl rfl ⟨by decide, by decide⟩ rfl (Nat.le_of_ble_eq_true rfl) ?_
  rintro _ _ ⟨rfl, rfl⟩
  show zG x LX 32 [some (zr k), some (zi a), some (zi b), some (zi g), some (zi 0), some (zi 0)] [zi (partF g (pvX S k a 0) (pvX S k b 0)), zi 0] S
  refine z_iadd (pc := 32) h dX7_stepBetween_32 ?_
  refine z_istore (pc := 33) (loc' := [some (zr k), some (zi a), some (zi b), some (zi g), some (zi (0 + (partF g (pvX S k a 0) (pvX S k b 0)))), some (zi 0)]) h dX7_stepBetween_33 (Nat.le_of_ble_eq_true rfl) rfl rfl ?_
  refine z_iinc (pc := 35) (loc' := [some (zr k), some (zi a), some (zi b), some (zi g), some (zi (0 + (partF g (pvX S k a 0) (pvX S k b 0)))), some (zi 1)]) h dX7_stepBetween_35 rfl (Nat.le_of_ble_eq_true rfl) rfl rfl ?_
  refine z_goto (pc := 38) (tgt := 6) h dX7_stepBetween_38 (by decide) ?_
  refine z_iload (pc := 6) h dX7_stepBetween_6 rfl ?_
  refine z_iconst (pc := 8) h dX7_stepBetween_8 ?_
  refine z_icmp_ge (pc := 9) (tgt := 41) h dX7_stepBetween_9 (by decide) ⟨by decide, by decide⟩ ⟨by decide, by decide⟩ (fun hc9 => absurd hc9 (by decide)) (fun hc9 => ?_)
  refine z_iload (pc := 12) h dX7_stepBetween_12 rfl ?_
  refine z_aload_n (pc := 14) h dX7_stepBetween_14 rfl ?_
  refine z_iload_n (pc := 15) h dX7_stepBetween_15 rfl ?_
  refine z_iload (pc := 16) h dX7_stepBetween_16 rfl ?_
  refine z_callV (pc := 18) (rest := [zi (0 + (partF g (pvX S k a 0) (pvX S k b 0)))]) h (m_X7_placeAt k a 1 S (by assumption) (by first | assumption | omega) ⟨by omega, by omega⟩ ⟨by decide, by decide⟩) dX7_stepBetween_18 mcX7_placeAt miX7_placeAt mlX7_46 rfl rfl ⟨by decide, by decide⟩ clX7 hk.1 rfl rfl (Nat.le_of_ble_eq_true rfl) ?_
  rintro _ _ ⟨rfl, rfl⟩
  show zG x LX 21 [some (zr k), some (zi a), some (zi b), some (zi g), some (zi (0 + (partF g (pvX S k a 0) (pvX S k b 0)))), some (zi 1)] [zi (pvX S k a 1), zi (0 + (partF g (pvX S k a 0) (pvX S k b 0)))] S
  refine z_aload_n (pc := 21) h dX7_stepBetween_21 rfl ?_
  refine z_iload_n (pc := 22) h dX7_stepBetween_22 rfl ?_
  refine z_iload (pc := 23) h dX7_stepBetween_23 rfl ?_
  refine z_callV (pc := 25) (rest := [zi (pvX S k a 1), zi (0 + (partF g (pvX S k a 0) (pvX S k b 0)))]) h (m_X7_placeAt k b 1 S (by assumption) (by first | assumption | omega) ⟨by omega, by omega⟩ ⟨by decide, by decide⟩) dX7_stepBetween_25 mcX7_placeAt miX7_placeAt mlX7_46 rfl rfl ⟨by decide, by decide⟩ clX7 hk.1 rfl rfl (Nat.le_of_ble_eq_true rfl) ?_
  rintro _ _ ⟨rfl, rfl⟩
  show zG x LX 28 [some (zr k), some (zi a), some (zi b), some (zi g), some (zi (0 + (partF g (pvX S k a 0) (pvX S k b 0)))), some (zi 1)] [zi (pvX S k b 1), zi (pvX S k a 1), zi (0 + (partF g (pvX S k a 0) (pvX S k b 0)))] S
  refine z_iload_n (pc := 28) h dX7_stepBetween_28 rfl ?_
  refine z_callS (pc := 29) (rest := [zi (0 + (partF g (pvX S k a 0) (pvX S k b 0)))]) h (m_X7_partStep (pvX S k a 1) (pvX S k b 1) g S (hQ _ _) (hQ _ _) (by first | assumption | omega)) dX7_stepBetween_29 mcX7_partStep msX7_partStep mlX7_50 rfl rfl ⟨by decide, by decide⟩ rfl (Nat.le_of_ble_eq_true rfl) ?_
  rintro _ _ ⟨rfl, rfl⟩
  show zG x LX 32 [some (zr k), some (zi a), some (zi b), some (zi g), some (zi (0 + (partF g (pvX S k a 0) (pvX S k b 0)))), some (zi 1)] [zi (partF g (pvX S k a 1) (pvX S k b 1)), zi (0 + (partF g (pvX S k a 0) (pvX S k b 0)))] S
  refine z_iadd (pc := 32) h dX7_stepBetween_32 ?_
  refine z_istore (pc := 33) (loc' := [some (zr k), some (zi a), some (zi b), some (zi g), some (zi ((0 + (partF g (pvX S k a 0) (pvX S k b 0))) + (partF g (pvX S k a 1) (pvX S k b 1)))), some (zi 1)]) h dX7_stepBetween_33 (Nat.le_of_ble_eq_true rfl) rfl rfl ?_
  refine z_iinc (pc := 35) (loc' := [some (zr k), some (zi a), some (zi b), some (zi g), some (zi ((0 + (partF g (pvX S k a 0) (pvX S k b 0))) + (partF g (pvX S k a 1) (pvX S k b 1)))), some (zi 2)]) h dX7_stepBetween_35 rfl (Nat.le_of_ble_eq_true rfl) rfl rfl ?_
  refine z_goto (pc := 38) (tgt := 6) h dX7_stepBetween_38 (by decide) ?_
  refine z_iload (pc := 6) h dX7_stepBetween_6 rfl ?_
  refine z_iconst (pc := 8) h dX7_stepBetween_8 ?_
  refine z_icmp_ge (pc := 9) (tgt := 41) h dX7_stepBetween_9 (by decide) ⟨by decide, by decide⟩ ⟨by decide, by decide⟩ (fun hc9 => absurd hc9 (by decide)) (fun hc9 => ?_)
  refine z_iload (pc := 12) h dX7_stepBetween_12 rfl ?_
  refine z_aload_n (pc := 14) h dX7_stepBetween_14 rfl ?_
  refine z_iload_n (pc := 15) h dX7_stepBetween_15 rfl ?_
  refine z_iload (pc := 16) h dX7_stepBetween_16 rfl ?_
  refine z_callV (pc := 18) (rest := [zi ((0 + (partF g (pvX S k a 0) (pvX S k b 0))) + (partF g (pvX S k a 1) (pvX S k b 1)))]) h (m_X7_placeAt k a 2 S (by assumption) (by first | assumption | omega) ⟨by omega, by omega⟩ ⟨by decide, by decide⟩) dX7_stepBetween_18 mcX7_placeAt miX7_placeAt mlX7_46 rfl rfl ⟨by decide, by decide⟩ clX7 hk.1 rfl rfl (Nat.le_of_ble_eq_true rfl) ?_
  rintro _ _ ⟨rfl, rfl⟩
  show zG x LX 21 [some (zr k), some (zi a), some (zi b), some (zi g), some (zi ((0 + (partF g (pvX S k a 0) (pvX S k b 0))) + (partF g (pvX S k a 1) (pvX S k b 1)))), some (zi 2)] [zi (pvX S k a 2), zi ((0 + (partF g (pvX S k a 0) (pvX S k b 0))) + (partF g (pvX S k a 1) (pvX S k b 1)))] S
  refine z_aload_n (pc := 21) h dX7_stepBetween_21 rfl ?_
  refine z_iload_n (pc := 22) h dX7_stepBetween_22 rfl ?_
  refine z_iload (pc := 23) h dX7_stepBetween_23 rfl ?_
  refine z_callV (pc := 25) (rest := [zi (pvX S k a 2), zi ((0 + (partF g (pvX S k a 0) (pvX S k b 0))) + (partF g (pvX S k a 1) (pvX S k b 1)))]) h (m_X7_placeAt k b 2 S (by assumption) (by first | assumption | omega) ⟨by omega, by omega⟩ ⟨by decide, by decide⟩) dX7_stepBetween_25 mcX7_placeAt miX7_placeAt mlX7_46 rfl rfl ⟨by decide, by decide⟩ clX7 hk.1 rfl rfl (Nat.le_of_ble_eq_true rfl) ?_
  rintro _ _ ⟨rfl, rfl⟩
  show zG x LX 28 [some (zr k), some (zi a), some (zi b), some (zi g), some (zi ((0 + (partF g (pvX S k a 0) (pvX S k b 0))) + (partF g (pvX S k a 1) (pvX S k b 1)))), some (zi 2)] [zi (pvX S k b 2), zi (pvX S k a 2), zi ((0 + (partF g (pvX S k a 0) (pvX S k b 0))) + (partF g (pvX S k a 1) (pvX S k b 1)))] S
  refine z_iload_n (pc := 28) h dX7_stepBetween_28 rfl ?_
  refine z_callS (pc := 29) (rest := [zi ((0 + (partF g (pvX S k a 0) (pvX S k b 0))) + (partF g (pvX S k a 1) (pvX S k b 1)))]) h (m_X7_partStep (pvX S k a 2) (pvX S k b 2) g S (hQ _ _) (hQ _ _) (by first | assumption | omega)) dX7_stepBetween_29 mcX7_partStep msX7_partStep mlX7_50 rfl rfl ⟨by decide, by decide⟩ rfl (Nat.le_of_ble_eq_true rfl) ?_
  rintro _ _ ⟨rfl, rfl⟩
  show zG x LX 32 [some (zr k), some (zi a), some (zi b), some (zi g), some (zi ((0 + (partF g (pvX S k a 0) (pvX S k b 0))) + (partF g (pvX S k a 1) (pvX S k b 1)))), some (zi 2)] [zi (partF g (pvX S k a 2) (pvX S k b 2)), zi ((0 + (partF g (pvX S k a 0) (pvX S k b 0))) + (partF g (pvX S k a 1) (pvX S k b 1)))] S
  refine z_iadd (pc := 32) h dX7_stepBetween_32 ?_
  refine z_istore (pc := 33) (loc' := [some (zr k), some (zi a), some (zi b), some (zi g), some (zi (((0 + (partF g (pvX S k a 0) (pvX S k b 0))) + (partF g (pvX S k a 1) (pvX S k b 1))) + (partF g (pvX S k a 2) (pvX S k b 2)))), some (zi 2)]) h dX7_stepBetween_33 (Nat.le_of_ble_eq_true rfl) rfl rfl ?_
  refine z_iinc (pc := 35) (loc' := [some (zr k), some (zi a), some (zi b), some (zi g), some (zi (((0 + (partF g (pvX S k a 0) (pvX S k b 0))) + (partF g (pvX S k a 1) (pvX S k b 1))) + (partF g (pvX S k a 2) (pvX S k b 2)))), some (zi 3)]) h dX7_stepBetween_35 rfl (Nat.le_of_ble_eq_true rfl) rfl rfl ?_
  refine z_goto (pc := 38) (tgt := 6) h dX7_stepBetween_38 (by decide) ?_
  refine z_iload (pc := 6) h dX7_stepBetween_6 rfl ?_
  refine z_iconst (pc := 8) h dX7_stepBetween_8 ?_
  refine z_icmp_ge (pc := 9) (tgt := 41) h dX7_stepBetween_9 (by decide) ⟨by decide, by decide⟩ ⟨by decide, by decide⟩ (fun hc9 => absurd hc9 (by decide)) (fun hc9 => ?_)
  refine z_iload (pc := 12) h dX7_stepBetween_12 rfl ?_
  refine z_aload_n (pc := 14) h dX7_stepBetween_14 rfl ?_
  refine z_iload_n (pc := 15) h dX7_stepBetween_15 rfl ?_
  refine z_iload (pc := 16) h dX7_stepBetween_16 rfl ?_
  refine z_callV (pc := 18) (rest := [zi (((0 + (partF g (pvX S k a 0) (pvX S k b 0))) + (partF g (pvX S k a 1) (pvX S k b 1))) + (partF g (pvX S k a 2) (pvX S k b 2)))]) h (m_X7_placeAt k a 3 S (by assumption) (by first | assumption | omega) ⟨by omega, by omega⟩ ⟨by decide, by decide⟩) dX7_stepBetween_18 mcX7_placeAt miX7_placeAt mlX7_46 rfl rfl ⟨by decide, by decide⟩ clX7 hk.1 rfl rfl (Nat.le_of_ble_eq_true rfl) ?_
  rintro _ _ ⟨rfl, rfl⟩
  show zG x LX 21 [some (zr k), some (zi a), some (zi b), some (zi g), some (zi (((0 + (partF g (pvX S k a 0) (pvX S k b 0))) + (partF g (pvX S k a 1) (pvX S k b 1))) + (partF g (pvX S k a 2) (pvX S k b 2)))), some (zi 3)] [zi (pvX S k a 3), zi (((0 + (partF g (pvX S k a 0) (pvX S k b 0))) + (partF g (pvX S k a 1) (pvX S k b 1))) + (partF g (pvX S k a 2) (pvX S k b 2)))] S
  refine z_aload_n (pc := 21) h dX7_stepBetween_21 rfl ?_
  refine z_iload_n (pc := 22) h dX7_stepBetween_22 rfl ?_
  refine z_iload (pc := 23) h dX7_stepBetween_23 rfl ?_
  refine z_callV (pc := 25) (rest := [zi (pvX S k a 3), zi (((0 + (partF g (pvX S k a 0) (pvX S k b 0))) + (partF g (pvX S k a 1) (pvX S k b 1))) + (partF g (pvX S k a 2) (pvX S k b 2)))]) h (m_X7_placeAt k b 3 S (by assumption) (by first | assumption | omega) ⟨by omega, by omega⟩ ⟨by decide, by decide⟩) dX7_stepBetween_25 mcX7_placeAt miX7_placeAt mlX7_46 rfl rfl ⟨by decide, by decide⟩ clX7 hk.1 rfl rfl (Nat.le_of_ble_eq_true rfl) ?_
  rintro _ _ ⟨rfl, rfl⟩
  show zG x LX 28 [some (zr k), some (zi a), some (zi b), some (zi g), some (zi (((0 + (partF g (pvX S k a 0) (pvX S k b 0))) + (partF g (pvX S k a 1) (pvX S k b 1))) + (partF g (pvX S k a 2) (pvX S k b 2)))), some (zi 3)] [zi (pvX S k b 3), zi (pvX S k a 3), zi (((0 + (partF g (pvX S k a 0) (pvX S k b 0))) + (partF g (pvX S k a 1) (pvX S k b 1))) + (partF g (pvX S k a 2) (pvX S k b 2)))] S
  refine z_iload_n (pc := 28) h dX7_stepBetween_28 rfl ?_
  refine z_callS (pc := 29) (rest := [zi (((0 + (partF g (pvX S k a 0) (pvX S k b 0))) + (partF g (pvX S k a 1) (pvX S k b 1))) + (partF g (pvX S k a 2) (pvX S k b 2)))]) h (m_X7_partStep (pvX S k a 3) (pvX S k b 3) g S (hQ _ _) (hQ _ _) (by first | assumption | omega)) dX7_stepBetween_29 mcX7_partStep msX7_partStep mlX7_50 rfl rfl ⟨by decide, by decide⟩ rfl (Nat.le_of_ble_eq_true rfl) ?_
  rintro _ _ ⟨rfl, rfl⟩
  show zG x LX 32 [some (zr k), some (zi a), some (zi b), some (zi g), some (zi (((0 + (partF g (pvX S k a 0) (pvX S k b 0))) + (partF g (pvX S k a 1) (pvX S k b 1))) + (partF g (pvX S k a 2) (pvX S k b 2)))), some (zi 3)] [zi (partF g (pvX S k a 3) (pvX S k b 3)), zi (((0 + (partF g (pvX S k a 0) (pvX S k b 0))) + (partF g (pvX S k a 1) (pvX S k b 1))) + (partF g (pvX S k a 2) (pvX S k b 2)))] S
  refine z_iadd (pc := 32) h dX7_stepBetween_32 ?_
  refine z_istore (pc := 33) (loc' := [some (zr k), some (zi a), some (zi b), some (zi g), some (zi ((((0 + (partF g (pvX S k a 0) (pvX S k b 0))) + (partF g (pvX S k a 1) (pvX S k b 1))) + (partF g (pvX S k a 2) (pvX S k b 2))) + (partF g (pvX S k a 3) (pvX S k b 3)))), some (zi 3)]) h dX7_stepBetween_33 (Nat.le_of_ble_eq_true rfl) rfl rfl ?_
  refine z_iinc (pc := 35) (loc' := [some (zr k), some (zi a), some (zi b), some (zi g), some (zi ((((0 + (partF g (pvX S k a 0) (pvX S k b 0))) + (partF g (pvX S k a 1) (pvX S k b 1))) + (partF g (pvX S k a 2) (pvX S k b 2))) + (partF g (pvX S k a 3) (pvX S k b 3)))), some (zi 4)]) h dX7_stepBetween_35 rfl (Nat.le_of_ble_eq_true rfl) rfl rfl ?_
  refine z_goto (pc := 38) (tgt := 6) h dX7_stepBetween_38 (by decide) ?_
  refine z_iload (pc := 6) h dX7_stepBetween_6 rfl ?_
  refine z_iconst (pc := 8) h dX7_stepBetween_8 ?_
  refine z_icmp_ge (pc := 9) (tgt := 41) h dX7_stepBetween_9 (by decide) ⟨by decide, by decide⟩ ⟨by decide, by decide⟩ (fun hc9 => ?_) (fun hc9 => absurd hc9 (by decide))
  refine z_iload (pc := 41) h dX7_stepBetween_41 rfl ?_
  exact z_iret (pc := 43) h dX7_stepBetween_43 rfl ⟨rfl, congrArg (fun z => some (zi z)) (by rfl)⟩

set_option maxRecDepth 100000 in
set_option maxHeartbeats 4000000 in
theorem m_X7_stepsRound (k : Nat) (g : Int) (S : SS) (hk : isStrip k) (ho : okS S k) (hg : 0 ≤ g ∧ g ≤ 9) : zM LX yX7_stepsRound cX7_stepsRound 4 (some .int) 3 67 [zr k, zi g] S (fun r S' => S = S' ∧ r = some (zi (wholeF g (pvX S k) (S k 4)))) := by
  refine zM_of (own := RX7) rfl (by decide +kernel) [some (zr k), some (zi g), none, none] (Nat.le_of_ble_eq_true rfl) rfl ?_
  intro x h
  have ho1 := ho.1
  have ho2 := ho.2.1
  have ho3 := ho.2.2.1
  have hQ := pvX_b ho
  refine z_iconst (pc := 0) h dX7_stepsRound_0 ?_
  refine z_istore_n (pc := 1) (loc' := [some (zr k), some (zi g), some (zi 0), none]) h dX7_stepsRound_1 rfl (Nat.le_of_ble_eq_true rfl) rfl rfl ?_
  refine z_iconst (pc := 2) h dX7_stepsRound_2 ?_
  refine z_istore_n (pc := 3) (loc' := [some (zr k), some (zi g), some (zi 0), some (zi 0)]) h dX7_stepsRound_3 rfl (Nat.le_of_ble_eq_true rfl) rfl rfl ?_
  have J4 : ∀ (N : Nat) (z p : Int) (hp : 0 ≤ p ∧ p ≤ S k 4) (hz : 0 ≤ z ∧ z ≤ 36 * p) (hI : wholeR g (pvX S k) (S k 4) (S k 4 - p).toNat p z = wholeF g (pvX S k) (S k 4)) , (S k 4 - p).toNat = N → zG x LX 4 [some (zr k), some (zi g), some (zi z), some (zi p)] ([] : List zV) S := by
    intro N
    induction N using Nat.strongRecOn with
    | _ N ih4 => ?_
    intro z p hp hz hI hN4
    refine z_iload_n (pc := 4) h dX7_stepsRound_4 rfl ?_
    refine z_aload_n (pc := 5) h dX7_stepsRound_5 rfl ?_
    refine z_getI (pc := 6) h dX7_stepsRound_6 clX7 lkX7_35 (by decide) hk.1 rfl ?_
    refine z_icmp_ge (pc := 9) (tgt := 32) h dX7_stepsRound_9 (by decide) ⟨by omega, by omega⟩ ⟨by omega, by omega⟩ (fun hc9 => ?_) (fun hc9 => ?_)
    ·
      refine z_iload_n (pc := 32) h dX7_stepsRound_32 rfl ?_
      exact z_iret (pc := 33) h dX7_stepsRound_33 rfl ⟨rfl, congrArg (fun z => some (zi z)) (by rw [whole_0 (by omega)] at hI; exact hI)⟩
    ·
      rw [whole_s (r' := (S k 4 - (p + 1)).toNat) (by omega)] at hI
      have hs := stepF_b hg hQ p (behF (S k 4) p)
      have hB : 0 ≤ behF (S k 4) p ∧ behF (S k 4) p ≤ 12 := by unfold behF; split <;> omega
      refine z_iload_n (pc := 12) h dX7_stepsRound_12 rfl ?_
      refine z_aload_n (pc := 13) h dX7_stepsRound_13 rfl ?_
      refine z_iload_n (pc := 14) h dX7_stepsRound_14 rfl ?_
      refine z_aload_n (pc := 15) h dX7_stepsRound_15 rfl ?_
      refine z_iload_n (pc := 16) h dX7_stepsRound_16 rfl ?_
      refine z_callV (pc := 17) (rest := [zi p, zr k, zi z]) h (m_X7_behind k p S (by assumption) (by first | assumption | omega) (by first | assumption | omega)) dX7_stepsRound_17 mcX7_behind miX7_behind mlX7_60 rfl rfl ⟨by decide, by decide⟩ clX7 hk.1 rfl rfl (Nat.le_of_ble_eq_true rfl) ?_
      rintro _ _ ⟨rfl, rfl⟩
      show zG x LX 20 [some (zr k), some (zi g), some (zi z), some (zi p)] [zi (behF (S k 4) p), zi p, zr k, zi z] S
      refine z_iload_n (pc := 20) h dX7_stepsRound_20 rfl ?_
      refine z_callV (pc := 21) (rest := [zi z]) h (m_X7_stepBetween k p (behF (S k 4) p) g S (by assumption) (by first | assumption | omega) ⟨by omega, by omega⟩ ⟨by omega, by omega⟩ (by first | assumption | omega)) dX7_stepsRound_21 mcX7_stepBetween miX7_stepBetween mlX7_63 rfl rfl ⟨by decide, by decide⟩ clX7 hk.1 rfl rfl (Nat.le_of_ble_eq_true rfl) ?_
      rintro _ _ ⟨rfl, rfl⟩
      show zG x LX 24 [some (zr k), some (zi g), some (zi z), some (zi p)] [zi (stepF g (pvX S k) p (behF (S k 4) p)), zi z] S
      refine z_iadd (pc := 24) h dX7_stepsRound_24 ?_
      refine z_istore_n (pc := 25) (loc' := [some (zr k), some (zi g), some (zi (z + (stepF g (pvX S k) p (behF (S k 4) p)))), some (zi p)]) h dX7_stepsRound_25 rfl (Nat.le_of_ble_eq_true rfl) rfl rfl ?_
      refine z_iinc (pc := 26) (loc' := [some (zr k), some (zi g), some (zi (z + (stepF g (pvX S k) p (behF (S k 4) p)))), some (zi (p + 1))]) h dX7_stepsRound_26 rfl (Nat.le_of_ble_eq_true rfl) rfl rfl ?_
      refine z_goto (pc := 29) (tgt := 4) h dX7_stepsRound_29 (by decide) ?_
      exact ih4 _ (by omega) (z + (stepF g (pvX S k) p (behF (S k 4) p))) (p + 1) (by omega) (by omega) (by exact hI) rfl
  exact J4 _ 0 0 (by omega) (by omega) (by unfold wholeF; congr 1; omega) rfl

set_option maxRecDepth 100000 in
set_option maxHeartbeats 4000000 in
theorem m_X7_halfAt (k : Nat) (p q : Int) (S : SS) (hk : isStrip k) (ho : okS S k) (hp : 0 ≤ p ∧ p ≤ 1000) (hq : r32 q) : zM LX yX7_halfAt cX7_halfAt 5 (some .int) 1 23 [zr k, zi p, zi q] S (fun r S' => S = S' ∧ r = some (zi (halfF (pvX S k) (S k 4) p q))) := by
  refine zM_of (own := RX7) rfl (by decide +kernel) [some (zr k), some (zi p), some (zi q), none, none] (Nat.le_of_ble_eq_true rfl) rfl ?_
  intro x h
  have ho1 := ho.1
  have ho2 := ho.2.1
  have ho3 := ho.2.2.1
  have hQ := pvX_b ho
  have hB : 0 ≤ behF (S k 4) p ∧ behF (S k 4) p ≤ 1001 := by unfold behF; split <;> omega
  have hu := hQ p q
  have hv := hQ (behF (S k 4) p) q
  refine z_aload_n (pc := 0) h dX7_halfAt_0 rfl ?_
  refine z_iload_n (pc := 1) h dX7_halfAt_1 rfl ?_
  refine z_iload_n (pc := 2) h dX7_halfAt_2 rfl ?_
  refine z_callV (pc := 3) (rest := ([] : List zV)) h (m_X7_placeAt k p q S (by assumption) (by first | assumption | omega) ⟨by omega, by omega⟩ ⟨by omega, by omega⟩) dX7_halfAt_3 mcX7_placeAt miX7_placeAt mlX7_46 rfl rfl ⟨by decide, by decide⟩ clX7 hk.1 rfl rfl (Nat.le_of_ble_eq_true rfl) ?_
  rintro _ _ ⟨rfl, rfl⟩
  show zG x LX 6 [some (zr k), some (zi p), some (zi q), none, none] [zi (pvX S k p q)] S
  refine z_istore_n (pc := 6) (loc' := [some (zr k), some (zi p), some (zi q), some (zi (pvX S k p q)), none]) h dX7_halfAt_6 rfl (Nat.le_of_ble_eq_true rfl) rfl rfl ?_
  refine z_aload_n (pc := 7) h dX7_halfAt_7 rfl ?_
  refine z_aload_n (pc := 8) h dX7_halfAt_8 rfl ?_
  refine z_iload_n (pc := 9) h dX7_halfAt_9 rfl ?_
  refine z_callV (pc := 10) (rest := [zr k]) h (m_X7_behind k p S (by assumption) (by first | assumption | omega) (by first | assumption | omega)) dX7_halfAt_10 mcX7_behind miX7_behind mlX7_60 rfl rfl ⟨by decide, by decide⟩ clX7 hk.1 rfl rfl (Nat.le_of_ble_eq_true rfl) ?_
  rintro _ _ ⟨rfl, rfl⟩
  show zG x LX 13 [some (zr k), some (zi p), some (zi q), some (zi (pvX S k p q)), none] [zi (behF (S k 4) p), zr k] S
  refine z_iload_n (pc := 13) h dX7_halfAt_13 rfl ?_
  refine z_callV (pc := 14) (rest := ([] : List zV)) h (m_X7_placeAt k (behF (S k 4) p) q S (by assumption) (by first | assumption | omega) ⟨by omega, by omega⟩ ⟨by omega, by omega⟩) dX7_halfAt_14 mcX7_placeAt miX7_placeAt mlX7_46 rfl rfl ⟨by decide, by decide⟩ clX7 hk.1 rfl rfl (Nat.le_of_ble_eq_true rfl) ?_
  rintro _ _ ⟨rfl, rfl⟩
  show zG x LX 17 [some (zr k), some (zi p), some (zi q), some (zi (pvX S k p q)), none] [zi (pvX S k (behF (S k 4) p) q)] S
  refine z_istore (pc := 17) (loc' := [some (zr k), some (zi p), some (zi q), some (zi (pvX S k p q)), some (zi (pvX S k (behF (S k 4) p) q))]) h dX7_halfAt_17 (Nat.le_of_ble_eq_true rfl) rfl rfl ?_
  refine z_iload_n (pc := 19) h dX7_halfAt_19 rfl ?_
  refine z_iconst (pc := 20) h dX7_halfAt_20 ?_
  refine z_icmp_ne (pc := 21) (tgt := 27) h dX7_halfAt_21 (by decide) ⟨by omega, by omega⟩ ⟨by decide, by decide⟩ (fun hc21 => ?_) (fun hc21 => ?_)
  ·
    refine z_iload (pc := 27) h dX7_halfAt_27 rfl ?_
    refine z_iconst (pc := 29) h dX7_halfAt_29 ?_
    refine z_icmp_ne (pc := 30) (tgt := 37) h dX7_halfAt_30 (by decide) ⟨by omega, by omega⟩ ⟨by decide, by decide⟩ (fun hc30 => ?_) (fun hc30 => ?_)
    ·
      refine z_iload_n (pc := 37) h dX7_halfAt_37 rfl ?_
      refine z_iload (pc := 38) h dX7_halfAt_38 rfl ?_
      refine z_iadd (pc := 40) h dX7_halfAt_40 ?_
      refine z_iconst (pc := 41) h dX7_halfAt_41 ?_
      refine z_idivN (pc := 42) h dX7_halfAt_42 ⟨by omega, by omega⟩ ⟨by decide, by decide⟩ ?_
      exact z_iret (pc := 43) h dX7_halfAt_43 rfl ⟨rfl, congrArg (fun z => some (zi z)) (by unfold halfF halfV; (repeat' split) <;> first | rfl | omega)⟩
    ·
      refine z_iload_n (pc := 33) h dX7_halfAt_33 rfl ?_
      refine z_goto (pc := 34) (tgt := 43) h dX7_halfAt_34 (by decide) ?_
      exact z_iret (pc := 43) h dX7_halfAt_43 rfl ⟨rfl, congrArg (fun z => some (zi z)) (by unfold halfF halfV; (repeat' split) <;> first | rfl | omega)⟩
  ·
    refine z_iload (pc := 24) h dX7_halfAt_24 rfl ?_
    exact z_iret (pc := 26) h dX7_halfAt_26 rfl ⟨rfl, congrArg (fun z => some (zi z)) (by unfold halfF halfV; (repeat' split) <;> first | rfl | omega)⟩

set_option maxRecDepth 100000 in
set_option maxHeartbeats 4000000 in
theorem m_X7_lowering (k : Nat) (p g : Int) (S : SS) (hk : isStrip k) (ho : okS S k) (hp : 0 ≤ p ∧ p ≤ 12) (hg : 0 ≤ g ∧ g ≤ 9) : zM LX yX7_lowering cX7_lowering 9 (some .int) 3 67 [zr k, zi p, zi g] S (fun r S' => S = S' ∧ r = some (zi (lowF g (pvX S k) (S k 4) p))) := by
  refine zM_of (own := RX7) rfl (by decide +kernel) [some (zr k), some (zi p), some (zi g), none, none, none, none, none, none] (Nat.le_of_ble_eq_true rfl) rfl ?_
  intro x h
  have ho1 := ho.1
  have ho2 := ho.2.1
  have ho3 := ho.2.2.1
  have hQ := pvX_b ho
  have hB : 0 ≤ behF (S k 4) p ∧ behF (S k 4) p ≤ 13 := by unfold behF; split <;> omega
  refine z_aload_n (pc := 0) h dX7_lowering_0 rfl ?_
  refine z_iload_n (pc := 1) h dX7_lowering_1 rfl ?_
  refine z_callV (pc := 2) (rest := ([] : List zV)) h (m_X7_behind k p S (by assumption) (by first | assumption | omega) (by first | assumption | omega)) dX7_lowering_2 mcX7_behind miX7_behind mlX7_60 rfl rfl ⟨by decide, by decide⟩ clX7 hk.1 rfl rfl (Nat.le_of_ble_eq_true rfl) ?_
  rintro _ _ ⟨rfl, rfl⟩
  show zG x LX 5 [some (zr k), some (zi p), some (zi g), none, none, none, none, none, none] [zi (behF (S k 4) p)] S
  refine z_istore_n (pc := 5) (loc' := [some (zr k), some (zi p), some (zi g), some (zi (behF (S k 4) p)), none, none, none, none, none]) h dX7_lowering_5 rfl (Nat.le_of_ble_eq_true rfl) rfl rfl ?_
  refine z_aload_n (pc := 6) h dX7_lowering_6 rfl ?_
  refine z_iload_n (pc := 7) h dX7_lowering_7 rfl ?_
  refine z_iload_n (pc := 8) h dX7_lowering_8 rfl ?_
  refine z_iload_n (pc := 9) h dX7_lowering_9 rfl ?_
  refine z_callV (pc := 10) (rest := ([] : List zV)) h (m_X7_stepBetween k p (behF (S k 4) p) g S (by assumption) (by first | assumption | omega) ⟨by omega, by omega⟩ ⟨by omega, by omega⟩ (by first | assumption | omega)) dX7_lowering_10 mcX7_stepBetween miX7_stepBetween mlX7_63 rfl rfl ⟨by decide, by decide⟩ clX7 hk.1 rfl rfl (Nat.le_of_ble_eq_true rfl) ?_
  rintro _ _ ⟨rfl, rfl⟩
  show zG x LX 13 [some (zr k), some (zi p), some (zi g), some (zi (behF (S k 4) p)), none, none, none, none, none] [zi (stepF g (pvX S k) p (behF (S k 4) p))] S
  refine z_istore (pc := 13) (loc' := [some (zr k), some (zi p), some (zi g), some (zi (behF (S k 4) p)), some (zi (stepF g (pvX S k) p (behF (S k 4) p))), none, none, none, none]) h dX7_lowering_13 (Nat.le_of_ble_eq_true rfl) rfl rfl ?_
  refine z_iconst (pc := 15) h dX7_lowering_15 ?_
  refine z_istore (pc := 16) (loc' := [some (zr k), some (zi p), some (zi g), some (zi (behF (S k 4) p)), some (zi (stepF g (pvX S k) p (behF (S k 4) p))), some (zi 0), none, none, none]) h dX7_lowering_16 (Nat.le_of_ble_eq_true rfl) rfl rfl ?_
  refine z_iconst (pc := 18) h dX7_lowering_18 ?_
  refine z_istore (pc := 19) (loc' := [some (zr k), some (zi p), some (zi g), some (zi (behF (S k 4) p)), some (zi (stepF g (pvX S k) p (behF (S k 4) p))), some (zi 0), some (zi 0), none, none]) h dX7_lowering_19 (Nat.le_of_ble_eq_true rfl) rfl rfl ?_
  refine z_iconst (pc := 21) h dX7_lowering_21 ?_
  refine z_istore (pc := 22) (loc' := [some (zr k), some (zi p), some (zi g), some (zi (behF (S k 4) p)), some (zi (stepF g (pvX S k) p (behF (S k 4) p))), some (zi 0), some (zi 0), some (zi 0), none]) h dX7_lowering_22 (Nat.le_of_ble_eq_true rfl) rfl rfl ?_
  refine z_iload (pc := 24) h dX7_lowering_24 rfl ?_
  refine z_iconst (pc := 26) h dX7_lowering_26 ?_
  refine z_icmp_ge (pc := 27) (tgt := 81) h dX7_lowering_27 (by decide) ⟨by decide, by decide⟩ ⟨by decide, by decide⟩ (fun hc27 => absurd hc27 (by decide)) (fun hc27 => ?_)
  refine z_aload_n (pc := 30) h dX7_lowering_30 rfl ?_
  refine z_iload_n (pc := 31) h dX7_lowering_31 rfl ?_
  refine z_iload (pc := 32) h dX7_lowering_32 rfl ?_
  refine z_callV (pc := 34) (rest := ([] : List zV)) h (m_X7_halfAt k p 0 S (by assumption) (by first | assumption | omega) (by first | assumption | omega) ⟨by decide, by decide⟩) dX7_lowering_34 mcX7_halfAt miX7_halfAt mlX7_66 rfl rfl ⟨by decide, by decide⟩ clX7 hk.1 rfl rfl (Nat.le_of_ble_eq_true rfl) ?_
  rintro _ _ ⟨rfl, rfl⟩
  show zG x LX 37 [some (zr k), some (zi p), some (zi g), some (zi (behF (S k 4) p)), some (zi (stepF g (pvX S k) p (behF (S k 4) p))), some (zi 0), some (zi 0), some (zi 0), none] [zi (halfF (pvX S k) (S k 4) p 0)] S
  refine z_istore (pc := 37) (loc' := [some (zr k), some (zi p), some (zi g), some (zi (behF (S k 4) p)), some (zi (stepF g (pvX S k) p (behF (S k 4) p))), some (zi 0), some (zi 0), some (zi 0), some (zi (halfF (pvX S k) (S k 4) p 0))]) h dX7_lowering_37 (Nat.le_of_ble_eq_true rfl) rfl rfl ?_
  refine z_iload (pc := 39) h dX7_lowering_39 rfl ?_
  refine z_aload_n (pc := 41) h dX7_lowering_41 rfl ?_
  refine z_iload_n (pc := 42) h dX7_lowering_42 rfl ?_
  refine z_iload (pc := 43) h dX7_lowering_43 rfl ?_
  refine z_callV (pc := 45) (rest := [zi 0]) h (m_X7_placeAt k p 0 S (by assumption) (by first | assumption | omega) ⟨by omega, by omega⟩ ⟨by decide, by decide⟩) dX7_lowering_45 mcX7_placeAt miX7_placeAt mlX7_46 rfl rfl ⟨by decide, by decide⟩ clX7 hk.1 rfl rfl (Nat.le_of_ble_eq_true rfl) ?_
  rintro _ _ ⟨rfl, rfl⟩
  show zG x LX 48 [some (zr k), some (zi p), some (zi g), some (zi (behF (S k 4) p)), some (zi (stepF g (pvX S k) p (behF (S k 4) p))), some (zi 0), some (zi 0), some (zi 0), some (zi (halfF (pvX S k) (S k 4) p 0))] [zi (pvX S k p 0), zi 0] S
  refine z_iload (pc := 48) h dX7_lowering_48 rfl ?_
  refine z_iload_n (pc := 50) h dX7_lowering_50 rfl ?_
  refine z_callS (pc := 51) (rest := [zi 0]) h (m_X7_partStep (pvX S k p 0) (halfF (pvX S k) (S k 4) p 0) g S (hQ _ _) (halfF_b hQ _ _ _) (by first | assumption | omega)) dX7_lowering_51 mcX7_partStep msX7_partStep mlX7_50 rfl rfl ⟨by decide, by decide⟩ rfl (Nat.le_of_ble_eq_true rfl) ?_
  rintro _ _ ⟨rfl, rfl⟩
  show zG x LX 54 [some (zr k), some (zi p), some (zi g), some (zi (behF (S k 4) p)), some (zi (stepF g (pvX S k) p (behF (S k 4) p))), some (zi 0), some (zi 0), some (zi 0), some (zi (halfF (pvX S k) (S k 4) p 0))] [zi (partF g (pvX S k p 0) (halfF (pvX S k) (S k 4) p 0)), zi 0] S
  refine z_iadd (pc := 54) h dX7_lowering_54 ?_
  refine z_istore (pc := 55) (loc' := [some (zr k), some (zi p), some (zi g), some (zi (behF (S k 4) p)), some (zi (stepF g (pvX S k) p (behF (S k 4) p))), some (zi (0 + (partF g (pvX S k p 0) (halfF (pvX S k) (S k 4) p 0)))), some (zi 0), some (zi 0), some (zi (halfF (pvX S k) (S k 4) p 0))]) h dX7_lowering_55 (Nat.le_of_ble_eq_true rfl) rfl rfl ?_
  refine z_iload (pc := 57) h dX7_lowering_57 rfl ?_
  refine z_iload (pc := 59) h dX7_lowering_59 rfl ?_
  refine z_aload_n (pc := 61) h dX7_lowering_61 rfl ?_
  refine z_iload_n (pc := 62) h dX7_lowering_62 rfl ?_
  refine z_iload (pc := 63) h dX7_lowering_63 rfl ?_
  refine z_callV (pc := 65) (rest := [zi (halfF (pvX S k) (S k 4) p 0), zi 0]) h (m_X7_placeAt k (behF (S k 4) p) 0 S (by assumption) (by first | assumption | omega) ⟨by omega, by omega⟩ ⟨by decide, by decide⟩) dX7_lowering_65 mcX7_placeAt miX7_placeAt mlX7_46 rfl rfl ⟨by decide, by decide⟩ clX7 hk.1 rfl rfl (Nat.le_of_ble_eq_true rfl) ?_
  rintro _ _ ⟨rfl, rfl⟩
  show zG x LX 68 [some (zr k), some (zi p), some (zi g), some (zi (behF (S k 4) p)), some (zi (stepF g (pvX S k) p (behF (S k 4) p))), some (zi (0 + (partF g (pvX S k p 0) (halfF (pvX S k) (S k 4) p 0)))), some (zi 0), some (zi 0), some (zi (halfF (pvX S k) (S k 4) p 0))] [zi (pvX S k (behF (S k 4) p) 0), zi (halfF (pvX S k) (S k 4) p 0), zi 0] S
  refine z_iload_n (pc := 68) h dX7_lowering_68 rfl ?_
  refine z_callS (pc := 69) (rest := [zi 0]) h (m_X7_partStep (halfF (pvX S k) (S k 4) p 0) (pvX S k (behF (S k 4) p) 0) g S (halfF_b hQ _ _ _) (hQ _ _) (by first | assumption | omega)) dX7_lowering_69 mcX7_partStep msX7_partStep mlX7_50 rfl rfl ⟨by decide, by decide⟩ rfl (Nat.le_of_ble_eq_true rfl) ?_
  rintro _ _ ⟨rfl, rfl⟩
  show zG x LX 72 [some (zr k), some (zi p), some (zi g), some (zi (behF (S k 4) p)), some (zi (stepF g (pvX S k) p (behF (S k 4) p))), some (zi (0 + (partF g (pvX S k p 0) (halfF (pvX S k) (S k 4) p 0)))), some (zi 0), some (zi 0), some (zi (halfF (pvX S k) (S k 4) p 0))] [zi (partF g (halfF (pvX S k) (S k 4) p 0) (pvX S k (behF (S k 4) p) 0)), zi 0] S
  refine z_iadd (pc := 72) h dX7_lowering_72 ?_
  refine z_istore (pc := 73) (loc' := [some (zr k), some (zi p), some (zi g), some (zi (behF (S k 4) p)), some (zi (stepF g (pvX S k) p (behF (S k 4) p))), some (zi (0 + (partF g (pvX S k p 0) (halfF (pvX S k) (S k 4) p 0)))), some (zi (0 + (partF g (halfF (pvX S k) (S k 4) p 0) (pvX S k (behF (S k 4) p) 0)))), some (zi 0), some (zi (halfF (pvX S k) (S k 4) p 0))]) h dX7_lowering_73 (Nat.le_of_ble_eq_true rfl) rfl rfl ?_
  refine z_iinc (pc := 75) (loc' := [some (zr k), some (zi p), some (zi g), some (zi (behF (S k 4) p)), some (zi (stepF g (pvX S k) p (behF (S k 4) p))), some (zi (0 + (partF g (pvX S k p 0) (halfF (pvX S k) (S k 4) p 0)))), some (zi (0 + (partF g (halfF (pvX S k) (S k 4) p 0) (pvX S k (behF (S k 4) p) 0)))), some (zi 1), some (zi (halfF (pvX S k) (S k 4) p 0))]) h dX7_lowering_75 rfl (Nat.le_of_ble_eq_true rfl) rfl rfl ?_
  refine z_goto (pc := 78) (tgt := 24) h dX7_lowering_78 (by decide) ?_
  refine z_iload (pc := 24) h dX7_lowering_24 rfl ?_
  refine z_iconst (pc := 26) h dX7_lowering_26 ?_
  refine z_icmp_ge (pc := 27) (tgt := 81) h dX7_lowering_27 (by decide) ⟨by decide, by decide⟩ ⟨by decide, by decide⟩ (fun hc27 => absurd hc27 (by decide)) (fun hc27 => ?_)
  refine z_aload_n (pc := 30) h dX7_lowering_30 rfl ?_
  refine z_iload_n (pc := 31) h dX7_lowering_31 rfl ?_
  refine z_iload (pc := 32) h dX7_lowering_32 rfl ?_
  refine z_callV (pc := 34) (rest := ([] : List zV)) h (m_X7_halfAt k p 1 S (by assumption) (by first | assumption | omega) (by first | assumption | omega) ⟨by decide, by decide⟩) dX7_lowering_34 mcX7_halfAt miX7_halfAt mlX7_66 rfl rfl ⟨by decide, by decide⟩ clX7 hk.1 rfl rfl (Nat.le_of_ble_eq_true rfl) ?_
  rintro _ _ ⟨rfl, rfl⟩
  show zG x LX 37 [some (zr k), some (zi p), some (zi g), some (zi (behF (S k 4) p)), some (zi (stepF g (pvX S k) p (behF (S k 4) p))), some (zi (0 + (partF g (pvX S k p 0) (halfF (pvX S k) (S k 4) p 0)))), some (zi (0 + (partF g (halfF (pvX S k) (S k 4) p 0) (pvX S k (behF (S k 4) p) 0)))), some (zi 1), some (zi (halfF (pvX S k) (S k 4) p 0))] [zi (halfF (pvX S k) (S k 4) p 1)] S
  refine z_istore (pc := 37) (loc' := [some (zr k), some (zi p), some (zi g), some (zi (behF (S k 4) p)), some (zi (stepF g (pvX S k) p (behF (S k 4) p))), some (zi (0 + (partF g (pvX S k p 0) (halfF (pvX S k) (S k 4) p 0)))), some (zi (0 + (partF g (halfF (pvX S k) (S k 4) p 0) (pvX S k (behF (S k 4) p) 0)))), some (zi 1), some (zi (halfF (pvX S k) (S k 4) p 1))]) h dX7_lowering_37 (Nat.le_of_ble_eq_true rfl) rfl rfl ?_
  refine z_iload (pc := 39) h dX7_lowering_39 rfl ?_
  refine z_aload_n (pc := 41) h dX7_lowering_41 rfl ?_
  refine z_iload_n (pc := 42) h dX7_lowering_42 rfl ?_
  refine z_iload (pc := 43) h dX7_lowering_43 rfl ?_
  refine z_callV (pc := 45) (rest := [zi (0 + (partF g (pvX S k p 0) (halfF (pvX S k) (S k 4) p 0)))]) h (m_X7_placeAt k p 1 S (by assumption) (by first | assumption | omega) ⟨by omega, by omega⟩ ⟨by decide, by decide⟩) dX7_lowering_45 mcX7_placeAt miX7_placeAt mlX7_46 rfl rfl ⟨by decide, by decide⟩ clX7 hk.1 rfl rfl (Nat.le_of_ble_eq_true rfl) ?_
  rintro _ _ ⟨rfl, rfl⟩
  show zG x LX 48 [some (zr k), some (zi p), some (zi g), some (zi (behF (S k 4) p)), some (zi (stepF g (pvX S k) p (behF (S k 4) p))), some (zi (0 + (partF g (pvX S k p 0) (halfF (pvX S k) (S k 4) p 0)))), some (zi (0 + (partF g (halfF (pvX S k) (S k 4) p 0) (pvX S k (behF (S k 4) p) 0)))), some (zi 1), some (zi (halfF (pvX S k) (S k 4) p 1))] [zi (pvX S k p 1), zi (0 + (partF g (pvX S k p 0) (halfF (pvX S k) (S k 4) p 0)))] S
  refine z_iload (pc := 48) h dX7_lowering_48 rfl ?_
  refine z_iload_n (pc := 50) h dX7_lowering_50 rfl ?_
  refine z_callS (pc := 51) (rest := [zi (0 + (partF g (pvX S k p 0) (halfF (pvX S k) (S k 4) p 0)))]) h (m_X7_partStep (pvX S k p 1) (halfF (pvX S k) (S k 4) p 1) g S (hQ _ _) (halfF_b hQ _ _ _) (by first | assumption | omega)) dX7_lowering_51 mcX7_partStep msX7_partStep mlX7_50 rfl rfl ⟨by decide, by decide⟩ rfl (Nat.le_of_ble_eq_true rfl) ?_
  rintro _ _ ⟨rfl, rfl⟩
  show zG x LX 54 [some (zr k), some (zi p), some (zi g), some (zi (behF (S k 4) p)), some (zi (stepF g (pvX S k) p (behF (S k 4) p))), some (zi (0 + (partF g (pvX S k p 0) (halfF (pvX S k) (S k 4) p 0)))), some (zi (0 + (partF g (halfF (pvX S k) (S k 4) p 0) (pvX S k (behF (S k 4) p) 0)))), some (zi 1), some (zi (halfF (pvX S k) (S k 4) p 1))] [zi (partF g (pvX S k p 1) (halfF (pvX S k) (S k 4) p 1)), zi (0 + (partF g (pvX S k p 0) (halfF (pvX S k) (S k 4) p 0)))] S
  refine z_iadd (pc := 54) h dX7_lowering_54 ?_
  refine z_istore (pc := 55) (loc' := [some (zr k), some (zi p), some (zi g), some (zi (behF (S k 4) p)), some (zi (stepF g (pvX S k) p (behF (S k 4) p))), some (zi ((0 + (partF g (pvX S k p 0) (halfF (pvX S k) (S k 4) p 0))) + (partF g (pvX S k p 1) (halfF (pvX S k) (S k 4) p 1)))), some (zi (0 + (partF g (halfF (pvX S k) (S k 4) p 0) (pvX S k (behF (S k 4) p) 0)))), some (zi 1), some (zi (halfF (pvX S k) (S k 4) p 1))]) h dX7_lowering_55 (Nat.le_of_ble_eq_true rfl) rfl rfl ?_
  refine z_iload (pc := 57) h dX7_lowering_57 rfl ?_
  refine z_iload (pc := 59) h dX7_lowering_59 rfl ?_
  refine z_aload_n (pc := 61) h dX7_lowering_61 rfl ?_
  refine z_iload_n (pc := 62) h dX7_lowering_62 rfl ?_
  refine z_iload (pc := 63) h dX7_lowering_63 rfl ?_
  refine z_callV (pc := 65) (rest := [zi (halfF (pvX S k) (S k 4) p 1), zi (0 + (partF g (halfF (pvX S k) (S k 4) p 0) (pvX S k (behF (S k 4) p) 0)))]) h (m_X7_placeAt k (behF (S k 4) p) 1 S (by assumption) (by first | assumption | omega) ⟨by omega, by omega⟩ ⟨by decide, by decide⟩) dX7_lowering_65 mcX7_placeAt miX7_placeAt mlX7_46 rfl rfl ⟨by decide, by decide⟩ clX7 hk.1 rfl rfl (Nat.le_of_ble_eq_true rfl) ?_
  rintro _ _ ⟨rfl, rfl⟩
  show zG x LX 68 [some (zr k), some (zi p), some (zi g), some (zi (behF (S k 4) p)), some (zi (stepF g (pvX S k) p (behF (S k 4) p))), some (zi ((0 + (partF g (pvX S k p 0) (halfF (pvX S k) (S k 4) p 0))) + (partF g (pvX S k p 1) (halfF (pvX S k) (S k 4) p 1)))), some (zi (0 + (partF g (halfF (pvX S k) (S k 4) p 0) (pvX S k (behF (S k 4) p) 0)))), some (zi 1), some (zi (halfF (pvX S k) (S k 4) p 1))] [zi (pvX S k (behF (S k 4) p) 1), zi (halfF (pvX S k) (S k 4) p 1), zi (0 + (partF g (halfF (pvX S k) (S k 4) p 0) (pvX S k (behF (S k 4) p) 0)))] S
  refine z_iload_n (pc := 68) h dX7_lowering_68 rfl ?_
  refine z_callS (pc := 69) (rest := [zi (0 + (partF g (halfF (pvX S k) (S k 4) p 0) (pvX S k (behF (S k 4) p) 0)))]) h (m_X7_partStep (halfF (pvX S k) (S k 4) p 1) (pvX S k (behF (S k 4) p) 1) g S (halfF_b hQ _ _ _) (hQ _ _) (by first | assumption | omega)) dX7_lowering_69 mcX7_partStep msX7_partStep mlX7_50 rfl rfl ⟨by decide, by decide⟩ rfl (Nat.le_of_ble_eq_true rfl) ?_
  rintro _ _ ⟨rfl, rfl⟩
  show zG x LX 72 [some (zr k), some (zi p), some (zi g), some (zi (behF (S k 4) p)), some (zi (stepF g (pvX S k) p (behF (S k 4) p))), some (zi ((0 + (partF g (pvX S k p 0) (halfF (pvX S k) (S k 4) p 0))) + (partF g (pvX S k p 1) (halfF (pvX S k) (S k 4) p 1)))), some (zi (0 + (partF g (halfF (pvX S k) (S k 4) p 0) (pvX S k (behF (S k 4) p) 0)))), some (zi 1), some (zi (halfF (pvX S k) (S k 4) p 1))] [zi (partF g (halfF (pvX S k) (S k 4) p 1) (pvX S k (behF (S k 4) p) 1)), zi (0 + (partF g (halfF (pvX S k) (S k 4) p 0) (pvX S k (behF (S k 4) p) 0)))] S
  refine z_iadd (pc := 72) h dX7_lowering_72 ?_
  refine z_istore (pc := 73) (loc' := [some (zr k), some (zi p), some (zi g), some (zi (behF (S k 4) p)), some (zi (stepF g (pvX S k) p (behF (S k 4) p))), some (zi ((0 + (partF g (pvX S k p 0) (halfF (pvX S k) (S k 4) p 0))) + (partF g (pvX S k p 1) (halfF (pvX S k) (S k 4) p 1)))), some (zi ((0 + (partF g (halfF (pvX S k) (S k 4) p 0) (pvX S k (behF (S k 4) p) 0))) + (partF g (halfF (pvX S k) (S k 4) p 1) (pvX S k (behF (S k 4) p) 1)))), some (zi 1), some (zi (halfF (pvX S k) (S k 4) p 1))]) h dX7_lowering_73 (Nat.le_of_ble_eq_true rfl) rfl rfl ?_
  refine z_iinc (pc := 75) (loc' := [some (zr k), some (zi p), some (zi g), some (zi (behF (S k 4) p)), some (zi (stepF g (pvX S k) p (behF (S k 4) p))), some (zi ((0 + (partF g (pvX S k p 0) (halfF (pvX S k) (S k 4) p 0))) + (partF g (pvX S k p 1) (halfF (pvX S k) (S k 4) p 1)))), some (zi ((0 + (partF g (halfF (pvX S k) (S k 4) p 0) (pvX S k (behF (S k 4) p) 0))) + (partF g (halfF (pvX S k) (S k 4) p 1) (pvX S k (behF (S k 4) p) 1)))), some (zi 2), some (zi (halfF (pvX S k) (S k 4) p 1))]) h dX7_lowering_75 rfl (Nat.le_of_ble_eq_true rfl) rfl rfl ?_
  refine z_goto (pc := 78) (tgt := 24) h dX7_lowering_78 (by decide) ?_
  refine z_iload (pc := 24) h dX7_lowering_24 rfl ?_
  refine z_iconst (pc := 26) h dX7_lowering_26 ?_
  refine z_icmp_ge (pc := 27) (tgt := 81) h dX7_lowering_27 (by decide) ⟨by decide, by decide⟩ ⟨by decide, by decide⟩ (fun hc27 => absurd hc27 (by decide)) (fun hc27 => ?_)
  refine z_aload_n (pc := 30) h dX7_lowering_30 rfl ?_
  refine z_iload_n (pc := 31) h dX7_lowering_31 rfl ?_
  refine z_iload (pc := 32) h dX7_lowering_32 rfl ?_
  refine z_callV (pc := 34) (rest := ([] : List zV)) h (m_X7_halfAt k p 2 S (by assumption) (by first | assumption | omega) (by first | assumption | omega) ⟨by decide, by decide⟩) dX7_lowering_34 mcX7_halfAt miX7_halfAt mlX7_66 rfl rfl ⟨by decide, by decide⟩ clX7 hk.1 rfl rfl (Nat.le_of_ble_eq_true rfl) ?_
  rintro _ _ ⟨rfl, rfl⟩
  show zG x LX 37 [some (zr k), some (zi p), some (zi g), some (zi (behF (S k 4) p)), some (zi (stepF g (pvX S k) p (behF (S k 4) p))), some (zi ((0 + (partF g (pvX S k p 0) (halfF (pvX S k) (S k 4) p 0))) + (partF g (pvX S k p 1) (halfF (pvX S k) (S k 4) p 1)))), some (zi ((0 + (partF g (halfF (pvX S k) (S k 4) p 0) (pvX S k (behF (S k 4) p) 0))) + (partF g (halfF (pvX S k) (S k 4) p 1) (pvX S k (behF (S k 4) p) 1)))), some (zi 2), some (zi (halfF (pvX S k) (S k 4) p 1))] [zi (halfF (pvX S k) (S k 4) p 2)] S
  refine z_istore (pc := 37) (loc' := [some (zr k), some (zi p), some (zi g), some (zi (behF (S k 4) p)), some (zi (stepF g (pvX S k) p (behF (S k 4) p))), some (zi ((0 + (partF g (pvX S k p 0) (halfF (pvX S k) (S k 4) p 0))) + (partF g (pvX S k p 1) (halfF (pvX S k) (S k 4) p 1)))), some (zi ((0 + (partF g (halfF (pvX S k) (S k 4) p 0) (pvX S k (behF (S k 4) p) 0))) + (partF g (halfF (pvX S k) (S k 4) p 1) (pvX S k (behF (S k 4) p) 1)))), some (zi 2), some (zi (halfF (pvX S k) (S k 4) p 2))]) h dX7_lowering_37 (Nat.le_of_ble_eq_true rfl) rfl rfl ?_
  refine z_iload (pc := 39) h dX7_lowering_39 rfl ?_
  refine z_aload_n (pc := 41) h dX7_lowering_41 rfl ?_
  refine z_iload_n (pc := 42) h dX7_lowering_42 rfl ?_
  refine z_iload (pc := 43) h dX7_lowering_43 rfl ?_
  refine z_callV (pc := 45) (rest := [zi ((0 + (partF g (pvX S k p 0) (halfF (pvX S k) (S k 4) p 0))) + (partF g (pvX S k p 1) (halfF (pvX S k) (S k 4) p 1)))]) h (m_X7_placeAt k p 2 S (by assumption) (by first | assumption | omega) ⟨by omega, by omega⟩ ⟨by decide, by decide⟩) dX7_lowering_45 mcX7_placeAt miX7_placeAt mlX7_46 rfl rfl ⟨by decide, by decide⟩ clX7 hk.1 rfl rfl (Nat.le_of_ble_eq_true rfl) ?_
  rintro _ _ ⟨rfl, rfl⟩
  show zG x LX 48 [some (zr k), some (zi p), some (zi g), some (zi (behF (S k 4) p)), some (zi (stepF g (pvX S k) p (behF (S k 4) p))), some (zi ((0 + (partF g (pvX S k p 0) (halfF (pvX S k) (S k 4) p 0))) + (partF g (pvX S k p 1) (halfF (pvX S k) (S k 4) p 1)))), some (zi ((0 + (partF g (halfF (pvX S k) (S k 4) p 0) (pvX S k (behF (S k 4) p) 0))) + (partF g (halfF (pvX S k) (S k 4) p 1) (pvX S k (behF (S k 4) p) 1)))), some (zi 2), some (zi (halfF (pvX S k) (S k 4) p 2))] [zi (pvX S k p 2), zi ((0 + (partF g (pvX S k p 0) (halfF (pvX S k) (S k 4) p 0))) + (partF g (pvX S k p 1) (halfF (pvX S k) (S k 4) p 1)))] S
  refine z_iload (pc := 48) h dX7_lowering_48 rfl ?_
  refine z_iload_n (pc := 50) h dX7_lowering_50 rfl ?_
  refine z_callS (pc := 51) (rest := [zi ((0 + (partF g (pvX S k p 0) (halfF (pvX S k) (S k 4) p 0))) + (partF g (pvX S k p 1) (halfF (pvX S k) (S k 4) p 1)))]) h (m_X7_partStep (pvX S k p 2) (halfF (pvX S k) (S k 4) p 2) g S (hQ _ _) (halfF_b hQ _ _ _) (by first | assumption | omega)) dX7_lowering_51 mcX7_partStep msX7_partStep mlX7_50 rfl rfl ⟨by decide, by decide⟩ rfl (Nat.le_of_ble_eq_true rfl) ?_
  rintro _ _ ⟨rfl, rfl⟩
  show zG x LX 54 [some (zr k), some (zi p), some (zi g), some (zi (behF (S k 4) p)), some (zi (stepF g (pvX S k) p (behF (S k 4) p))), some (zi ((0 + (partF g (pvX S k p 0) (halfF (pvX S k) (S k 4) p 0))) + (partF g (pvX S k p 1) (halfF (pvX S k) (S k 4) p 1)))), some (zi ((0 + (partF g (halfF (pvX S k) (S k 4) p 0) (pvX S k (behF (S k 4) p) 0))) + (partF g (halfF (pvX S k) (S k 4) p 1) (pvX S k (behF (S k 4) p) 1)))), some (zi 2), some (zi (halfF (pvX S k) (S k 4) p 2))] [zi (partF g (pvX S k p 2) (halfF (pvX S k) (S k 4) p 2)), zi ((0 + (partF g (pvX S k p 0) (halfF (pvX S k) (S k 4) p 0))) + (partF g (pvX S k p 1) (halfF (pvX S k) (S k 4) p 1)))] S
  refine z_iadd (pc := 54) h dX7_lowering_54 ?_
  refine z_istore (pc := 55) (loc' := [some (zr k), some (zi p), some (zi g), some (zi (behF (S k 4) p)), some (zi (stepF g (pvX S k) p (behF (S k 4) p))), some (zi (((0 + (partF g (pvX S k p 0) (halfF (pvX S k) (S k 4) p 0))) + (partF g (pvX S k p 1) (halfF (pvX S k) (S k 4) p 1))) + (partF g (pvX S k p 2) (halfF (pvX S k) (S k 4) p 2)))), some (zi ((0 + (partF g (halfF (pvX S k) (S k 4) p 0) (pvX S k (behF (S k 4) p) 0))) + (partF g (halfF (pvX S k) (S k 4) p 1) (pvX S k (behF (S k 4) p) 1)))), some (zi 2), some (zi (halfF (pvX S k) (S k 4) p 2))]) h dX7_lowering_55 (Nat.le_of_ble_eq_true rfl) rfl rfl ?_
  refine z_iload (pc := 57) h dX7_lowering_57 rfl ?_
  refine z_iload (pc := 59) h dX7_lowering_59 rfl ?_
  refine z_aload_n (pc := 61) h dX7_lowering_61 rfl ?_
  refine z_iload_n (pc := 62) h dX7_lowering_62 rfl ?_
  refine z_iload (pc := 63) h dX7_lowering_63 rfl ?_
  refine z_callV (pc := 65) (rest := [zi (halfF (pvX S k) (S k 4) p 2), zi ((0 + (partF g (halfF (pvX S k) (S k 4) p 0) (pvX S k (behF (S k 4) p) 0))) + (partF g (halfF (pvX S k) (S k 4) p 1) (pvX S k (behF (S k 4) p) 1)))]) h (m_X7_placeAt k (behF (S k 4) p) 2 S (by assumption) (by first | assumption | omega) ⟨by omega, by omega⟩ ⟨by decide, by decide⟩) dX7_lowering_65 mcX7_placeAt miX7_placeAt mlX7_46 rfl rfl ⟨by decide, by decide⟩ clX7 hk.1 rfl rfl (Nat.le_of_ble_eq_true rfl) ?_
  rintro _ _ ⟨rfl, rfl⟩
  show zG x LX 68 [some (zr k), some (zi p), some (zi g), some (zi (behF (S k 4) p)), some (zi (stepF g (pvX S k) p (behF (S k 4) p))), some (zi (((0 + (partF g (pvX S k p 0) (halfF (pvX S k) (S k 4) p 0))) + (partF g (pvX S k p 1) (halfF (pvX S k) (S k 4) p 1))) + (partF g (pvX S k p 2) (halfF (pvX S k) (S k 4) p 2)))), some (zi ((0 + (partF g (halfF (pvX S k) (S k 4) p 0) (pvX S k (behF (S k 4) p) 0))) + (partF g (halfF (pvX S k) (S k 4) p 1) (pvX S k (behF (S k 4) p) 1)))), some (zi 2), some (zi (halfF (pvX S k) (S k 4) p 2))] [zi (pvX S k (behF (S k 4) p) 2), zi (halfF (pvX S k) (S k 4) p 2), zi ((0 + (partF g (halfF (pvX S k) (S k 4) p 0) (pvX S k (behF (S k 4) p) 0))) + (partF g (halfF (pvX S k) (S k 4) p 1) (pvX S k (behF (S k 4) p) 1)))] S
  refine z_iload_n (pc := 68) h dX7_lowering_68 rfl ?_
  refine z_callS (pc := 69) (rest := [zi ((0 + (partF g (halfF (pvX S k) (S k 4) p 0) (pvX S k (behF (S k 4) p) 0))) + (partF g (halfF (pvX S k) (S k 4) p 1) (pvX S k (behF (S k 4) p) 1)))]) h (m_X7_partStep (halfF (pvX S k) (S k 4) p 2) (pvX S k (behF (S k 4) p) 2) g S (halfF_b hQ _ _ _) (hQ _ _) (by first | assumption | omega)) dX7_lowering_69 mcX7_partStep msX7_partStep mlX7_50 rfl rfl ⟨by decide, by decide⟩ rfl (Nat.le_of_ble_eq_true rfl) ?_
  rintro _ _ ⟨rfl, rfl⟩
  show zG x LX 72 [some (zr k), some (zi p), some (zi g), some (zi (behF (S k 4) p)), some (zi (stepF g (pvX S k) p (behF (S k 4) p))), some (zi (((0 + (partF g (pvX S k p 0) (halfF (pvX S k) (S k 4) p 0))) + (partF g (pvX S k p 1) (halfF (pvX S k) (S k 4) p 1))) + (partF g (pvX S k p 2) (halfF (pvX S k) (S k 4) p 2)))), some (zi ((0 + (partF g (halfF (pvX S k) (S k 4) p 0) (pvX S k (behF (S k 4) p) 0))) + (partF g (halfF (pvX S k) (S k 4) p 1) (pvX S k (behF (S k 4) p) 1)))), some (zi 2), some (zi (halfF (pvX S k) (S k 4) p 2))] [zi (partF g (halfF (pvX S k) (S k 4) p 2) (pvX S k (behF (S k 4) p) 2)), zi ((0 + (partF g (halfF (pvX S k) (S k 4) p 0) (pvX S k (behF (S k 4) p) 0))) + (partF g (halfF (pvX S k) (S k 4) p 1) (pvX S k (behF (S k 4) p) 1)))] S
  refine z_iadd (pc := 72) h dX7_lowering_72 ?_
  refine z_istore (pc := 73) (loc' := [some (zr k), some (zi p), some (zi g), some (zi (behF (S k 4) p)), some (zi (stepF g (pvX S k) p (behF (S k 4) p))), some (zi (((0 + (partF g (pvX S k p 0) (halfF (pvX S k) (S k 4) p 0))) + (partF g (pvX S k p 1) (halfF (pvX S k) (S k 4) p 1))) + (partF g (pvX S k p 2) (halfF (pvX S k) (S k 4) p 2)))), some (zi (((0 + (partF g (halfF (pvX S k) (S k 4) p 0) (pvX S k (behF (S k 4) p) 0))) + (partF g (halfF (pvX S k) (S k 4) p 1) (pvX S k (behF (S k 4) p) 1))) + (partF g (halfF (pvX S k) (S k 4) p 2) (pvX S k (behF (S k 4) p) 2)))), some (zi 2), some (zi (halfF (pvX S k) (S k 4) p 2))]) h dX7_lowering_73 (Nat.le_of_ble_eq_true rfl) rfl rfl ?_
  refine z_iinc (pc := 75) (loc' := [some (zr k), some (zi p), some (zi g), some (zi (behF (S k 4) p)), some (zi (stepF g (pvX S k) p (behF (S k 4) p))), some (zi (((0 + (partF g (pvX S k p 0) (halfF (pvX S k) (S k 4) p 0))) + (partF g (pvX S k p 1) (halfF (pvX S k) (S k 4) p 1))) + (partF g (pvX S k p 2) (halfF (pvX S k) (S k 4) p 2)))), some (zi (((0 + (partF g (halfF (pvX S k) (S k 4) p 0) (pvX S k (behF (S k 4) p) 0))) + (partF g (halfF (pvX S k) (S k 4) p 1) (pvX S k (behF (S k 4) p) 1))) + (partF g (halfF (pvX S k) (S k 4) p 2) (pvX S k (behF (S k 4) p) 2)))), some (zi 3), some (zi (halfF (pvX S k) (S k 4) p 2))]) h dX7_lowering_75 rfl (Nat.le_of_ble_eq_true rfl) rfl rfl ?_
  refine z_goto (pc := 78) (tgt := 24) h dX7_lowering_78 (by decide) ?_
  refine z_iload (pc := 24) h dX7_lowering_24 rfl ?_
  refine z_iconst (pc := 26) h dX7_lowering_26 ?_
  refine z_icmp_ge (pc := 27) (tgt := 81) h dX7_lowering_27 (by decide) ⟨by decide, by decide⟩ ⟨by decide, by decide⟩ (fun hc27 => absurd hc27 (by decide)) (fun hc27 => ?_)
  refine z_aload_n (pc := 30) h dX7_lowering_30 rfl ?_
  refine z_iload_n (pc := 31) h dX7_lowering_31 rfl ?_
  refine z_iload (pc := 32) h dX7_lowering_32 rfl ?_
  refine z_callV (pc := 34) (rest := ([] : List zV)) h (m_X7_halfAt k p 3 S (by assumption) (by first | assumption | omega) (by first | assumption | omega) ⟨by decide, by decide⟩) dX7_lowering_34 mcX7_halfAt miX7_halfAt mlX7_66 rfl rfl ⟨by decide, by decide⟩ clX7 hk.1 rfl rfl (Nat.le_of_ble_eq_true rfl) ?_
  rintro _ _ ⟨rfl, rfl⟩
  show zG x LX 37 [some (zr k), some (zi p), some (zi g), some (zi (behF (S k 4) p)), some (zi (stepF g (pvX S k) p (behF (S k 4) p))), some (zi (((0 + (partF g (pvX S k p 0) (halfF (pvX S k) (S k 4) p 0))) + (partF g (pvX S k p 1) (halfF (pvX S k) (S k 4) p 1))) + (partF g (pvX S k p 2) (halfF (pvX S k) (S k 4) p 2)))), some (zi (((0 + (partF g (halfF (pvX S k) (S k 4) p 0) (pvX S k (behF (S k 4) p) 0))) + (partF g (halfF (pvX S k) (S k 4) p 1) (pvX S k (behF (S k 4) p) 1))) + (partF g (halfF (pvX S k) (S k 4) p 2) (pvX S k (behF (S k 4) p) 2)))), some (zi 3), some (zi (halfF (pvX S k) (S k 4) p 2))] [zi (halfF (pvX S k) (S k 4) p 3)] S
  refine z_istore (pc := 37) (loc' := [some (zr k), some (zi p), some (zi g), some (zi (behF (S k 4) p)), some (zi (stepF g (pvX S k) p (behF (S k 4) p))), some (zi (((0 + (partF g (pvX S k p 0) (halfF (pvX S k) (S k 4) p 0))) + (partF g (pvX S k p 1) (halfF (pvX S k) (S k 4) p 1))) + (partF g (pvX S k p 2) (halfF (pvX S k) (S k 4) p 2)))), some (zi (((0 + (partF g (halfF (pvX S k) (S k 4) p 0) (pvX S k (behF (S k 4) p) 0))) + (partF g (halfF (pvX S k) (S k 4) p 1) (pvX S k (behF (S k 4) p) 1))) + (partF g (halfF (pvX S k) (S k 4) p 2) (pvX S k (behF (S k 4) p) 2)))), some (zi 3), some (zi (halfF (pvX S k) (S k 4) p 3))]) h dX7_lowering_37 (Nat.le_of_ble_eq_true rfl) rfl rfl ?_
  refine z_iload (pc := 39) h dX7_lowering_39 rfl ?_
  refine z_aload_n (pc := 41) h dX7_lowering_41 rfl ?_
  refine z_iload_n (pc := 42) h dX7_lowering_42 rfl ?_
  refine z_iload (pc := 43) h dX7_lowering_43 rfl ?_
  refine z_callV (pc := 45) (rest := [zi (((0 + (partF g (pvX S k p 0) (halfF (pvX S k) (S k 4) p 0))) + (partF g (pvX S k p 1) (halfF (pvX S k) (S k 4) p 1))) + (partF g (pvX S k p 2) (halfF (pvX S k) (S k 4) p 2)))]) h (m_X7_placeAt k p 3 S (by assumption) (by first | assumption | omega) ⟨by omega, by omega⟩ ⟨by decide, by decide⟩) dX7_lowering_45 mcX7_placeAt miX7_placeAt mlX7_46 rfl rfl ⟨by decide, by decide⟩ clX7 hk.1 rfl rfl (Nat.le_of_ble_eq_true rfl) ?_
  rintro _ _ ⟨rfl, rfl⟩
  show zG x LX 48 [some (zr k), some (zi p), some (zi g), some (zi (behF (S k 4) p)), some (zi (stepF g (pvX S k) p (behF (S k 4) p))), some (zi (((0 + (partF g (pvX S k p 0) (halfF (pvX S k) (S k 4) p 0))) + (partF g (pvX S k p 1) (halfF (pvX S k) (S k 4) p 1))) + (partF g (pvX S k p 2) (halfF (pvX S k) (S k 4) p 2)))), some (zi (((0 + (partF g (halfF (pvX S k) (S k 4) p 0) (pvX S k (behF (S k 4) p) 0))) + (partF g (halfF (pvX S k) (S k 4) p 1) (pvX S k (behF (S k 4) p) 1))) + (partF g (halfF (pvX S k) (S k 4) p 2) (pvX S k (behF (S k 4) p) 2)))), some (zi 3), some (zi (halfF (pvX S k) (S k 4) p 3))] [zi (pvX S k p 3), zi (((0 + (partF g (pvX S k p 0) (halfF (pvX S k) (S k 4) p 0))) + (partF g (pvX S k p 1) (halfF (pvX S k) (S k 4) p 1))) + (partF g (pvX S k p 2) (halfF (pvX S k) (S k 4) p 2)))] S
  refine z_iload (pc := 48) h dX7_lowering_48 rfl ?_
  refine z_iload_n (pc := 50) h dX7_lowering_50 rfl ?_
  refine z_callS (pc := 51) (rest := [zi (((0 + (partF g (pvX S k p 0) (halfF (pvX S k) (S k 4) p 0))) + (partF g (pvX S k p 1) (halfF (pvX S k) (S k 4) p 1))) + (partF g (pvX S k p 2) (halfF (pvX S k) (S k 4) p 2)))]) h (m_X7_partStep (pvX S k p 3) (halfF (pvX S k) (S k 4) p 3) g S (hQ _ _) (halfF_b hQ _ _ _) (by first | assumption | omega)) dX7_lowering_51 mcX7_partStep msX7_partStep mlX7_50 rfl rfl ⟨by decide, by decide⟩ rfl (Nat.le_of_ble_eq_true rfl) ?_
  rintro _ _ ⟨rfl, rfl⟩
  show zG x LX 54 [some (zr k), some (zi p), some (zi g), some (zi (behF (S k 4) p)), some (zi (stepF g (pvX S k) p (behF (S k 4) p))), some (zi (((0 + (partF g (pvX S k p 0) (halfF (pvX S k) (S k 4) p 0))) + (partF g (pvX S k p 1) (halfF (pvX S k) (S k 4) p 1))) + (partF g (pvX S k p 2) (halfF (pvX S k) (S k 4) p 2)))), some (zi (((0 + (partF g (halfF (pvX S k) (S k 4) p 0) (pvX S k (behF (S k 4) p) 0))) + (partF g (halfF (pvX S k) (S k 4) p 1) (pvX S k (behF (S k 4) p) 1))) + (partF g (halfF (pvX S k) (S k 4) p 2) (pvX S k (behF (S k 4) p) 2)))), some (zi 3), some (zi (halfF (pvX S k) (S k 4) p 3))] [zi (partF g (pvX S k p 3) (halfF (pvX S k) (S k 4) p 3)), zi (((0 + (partF g (pvX S k p 0) (halfF (pvX S k) (S k 4) p 0))) + (partF g (pvX S k p 1) (halfF (pvX S k) (S k 4) p 1))) + (partF g (pvX S k p 2) (halfF (pvX S k) (S k 4) p 2)))] S
  refine z_iadd (pc := 54) h dX7_lowering_54 ?_
  refine z_istore (pc := 55) (loc' := [some (zr k), some (zi p), some (zi g), some (zi (behF (S k 4) p)), some (zi (stepF g (pvX S k) p (behF (S k 4) p))), some (zi ((((0 + (partF g (pvX S k p 0) (halfF (pvX S k) (S k 4) p 0))) + (partF g (pvX S k p 1) (halfF (pvX S k) (S k 4) p 1))) + (partF g (pvX S k p 2) (halfF (pvX S k) (S k 4) p 2))) + (partF g (pvX S k p 3) (halfF (pvX S k) (S k 4) p 3)))), some (zi (((0 + (partF g (halfF (pvX S k) (S k 4) p 0) (pvX S k (behF (S k 4) p) 0))) + (partF g (halfF (pvX S k) (S k 4) p 1) (pvX S k (behF (S k 4) p) 1))) + (partF g (halfF (pvX S k) (S k 4) p 2) (pvX S k (behF (S k 4) p) 2)))), some (zi 3), some (zi (halfF (pvX S k) (S k 4) p 3))]) h dX7_lowering_55 (Nat.le_of_ble_eq_true rfl) rfl rfl ?_
  refine z_iload (pc := 57) h dX7_lowering_57 rfl ?_
  refine z_iload (pc := 59) h dX7_lowering_59 rfl ?_
  refine z_aload_n (pc := 61) h dX7_lowering_61 rfl ?_
  refine z_iload_n (pc := 62) h dX7_lowering_62 rfl ?_
  refine z_iload (pc := 63) h dX7_lowering_63 rfl ?_
  refine z_callV (pc := 65) (rest := [zi (halfF (pvX S k) (S k 4) p 3), zi (((0 + (partF g (halfF (pvX S k) (S k 4) p 0) (pvX S k (behF (S k 4) p) 0))) + (partF g (halfF (pvX S k) (S k 4) p 1) (pvX S k (behF (S k 4) p) 1))) + (partF g (halfF (pvX S k) (S k 4) p 2) (pvX S k (behF (S k 4) p) 2)))]) h (m_X7_placeAt k (behF (S k 4) p) 3 S (by assumption) (by first | assumption | omega) ⟨by omega, by omega⟩ ⟨by decide, by decide⟩) dX7_lowering_65 mcX7_placeAt miX7_placeAt mlX7_46 rfl rfl ⟨by decide, by decide⟩ clX7 hk.1 rfl rfl (Nat.le_of_ble_eq_true rfl) ?_
  rintro _ _ ⟨rfl, rfl⟩
  show zG x LX 68 [some (zr k), some (zi p), some (zi g), some (zi (behF (S k 4) p)), some (zi (stepF g (pvX S k) p (behF (S k 4) p))), some (zi ((((0 + (partF g (pvX S k p 0) (halfF (pvX S k) (S k 4) p 0))) + (partF g (pvX S k p 1) (halfF (pvX S k) (S k 4) p 1))) + (partF g (pvX S k p 2) (halfF (pvX S k) (S k 4) p 2))) + (partF g (pvX S k p 3) (halfF (pvX S k) (S k 4) p 3)))), some (zi (((0 + (partF g (halfF (pvX S k) (S k 4) p 0) (pvX S k (behF (S k 4) p) 0))) + (partF g (halfF (pvX S k) (S k 4) p 1) (pvX S k (behF (S k 4) p) 1))) + (partF g (halfF (pvX S k) (S k 4) p 2) (pvX S k (behF (S k 4) p) 2)))), some (zi 3), some (zi (halfF (pvX S k) (S k 4) p 3))] [zi (pvX S k (behF (S k 4) p) 3), zi (halfF (pvX S k) (S k 4) p 3), zi (((0 + (partF g (halfF (pvX S k) (S k 4) p 0) (pvX S k (behF (S k 4) p) 0))) + (partF g (halfF (pvX S k) (S k 4) p 1) (pvX S k (behF (S k 4) p) 1))) + (partF g (halfF (pvX S k) (S k 4) p 2) (pvX S k (behF (S k 4) p) 2)))] S
  refine z_iload_n (pc := 68) h dX7_lowering_68 rfl ?_
  refine z_callS (pc := 69) (rest := [zi (((0 + (partF g (halfF (pvX S k) (S k 4) p 0) (pvX S k (behF (S k 4) p) 0))) + (partF g (halfF (pvX S k) (S k 4) p 1) (pvX S k (behF (S k 4) p) 1))) + (partF g (halfF (pvX S k) (S k 4) p 2) (pvX S k (behF (S k 4) p) 2)))]) h (m_X7_partStep (halfF (pvX S k) (S k 4) p 3) (pvX S k (behF (S k 4) p) 3) g S (halfF_b hQ _ _ _) (hQ _ _) (by first | assumption | omega)) dX7_lowering_69 mcX7_partStep msX7_partStep mlX7_50 rfl rfl ⟨by decide, by decide⟩ rfl (Nat.le_of_ble_eq_true rfl) ?_
  rintro _ _ ⟨rfl, rfl⟩
  show zG x LX 72 [some (zr k), some (zi p), some (zi g), some (zi (behF (S k 4) p)), some (zi (stepF g (pvX S k) p (behF (S k 4) p))), some (zi ((((0 + (partF g (pvX S k p 0) (halfF (pvX S k) (S k 4) p 0))) + (partF g (pvX S k p 1) (halfF (pvX S k) (S k 4) p 1))) + (partF g (pvX S k p 2) (halfF (pvX S k) (S k 4) p 2))) + (partF g (pvX S k p 3) (halfF (pvX S k) (S k 4) p 3)))), some (zi (((0 + (partF g (halfF (pvX S k) (S k 4) p 0) (pvX S k (behF (S k 4) p) 0))) + (partF g (halfF (pvX S k) (S k 4) p 1) (pvX S k (behF (S k 4) p) 1))) + (partF g (halfF (pvX S k) (S k 4) p 2) (pvX S k (behF (S k 4) p) 2)))), some (zi 3), some (zi (halfF (pvX S k) (S k 4) p 3))] [zi (partF g (halfF (pvX S k) (S k 4) p 3) (pvX S k (behF (S k 4) p) 3)), zi (((0 + (partF g (halfF (pvX S k) (S k 4) p 0) (pvX S k (behF (S k 4) p) 0))) + (partF g (halfF (pvX S k) (S k 4) p 1) (pvX S k (behF (S k 4) p) 1))) + (partF g (halfF (pvX S k) (S k 4) p 2) (pvX S k (behF (S k 4) p) 2)))] S
  refine z_iadd (pc := 72) h dX7_lowering_72 ?_
  refine z_istore (pc := 73) (loc' := [some (zr k), some (zi p), some (zi g), some (zi (behF (S k 4) p)), some (zi (stepF g (pvX S k) p (behF (S k 4) p))), some (zi ((((0 + (partF g (pvX S k p 0) (halfF (pvX S k) (S k 4) p 0))) + (partF g (pvX S k p 1) (halfF (pvX S k) (S k 4) p 1))) + (partF g (pvX S k p 2) (halfF (pvX S k) (S k 4) p 2))) + (partF g (pvX S k p 3) (halfF (pvX S k) (S k 4) p 3)))), some (zi ((((0 + (partF g (halfF (pvX S k) (S k 4) p 0) (pvX S k (behF (S k 4) p) 0))) + (partF g (halfF (pvX S k) (S k 4) p 1) (pvX S k (behF (S k 4) p) 1))) + (partF g (halfF (pvX S k) (S k 4) p 2) (pvX S k (behF (S k 4) p) 2))) + (partF g (halfF (pvX S k) (S k 4) p 3) (pvX S k (behF (S k 4) p) 3)))), some (zi 3), some (zi (halfF (pvX S k) (S k 4) p 3))]) h dX7_lowering_73 (Nat.le_of_ble_eq_true rfl) rfl rfl ?_
  refine z_iinc (pc := 75) (loc' := [some (zr k), some (zi p), some (zi g), some (zi (behF (S k 4) p)), some (zi (stepF g (pvX S k) p (behF (S k 4) p))), some (zi ((((0 + (partF g (pvX S k p 0) (halfF (pvX S k) (S k 4) p 0))) + (partF g (pvX S k p 1) (halfF (pvX S k) (S k 4) p 1))) + (partF g (pvX S k p 2) (halfF (pvX S k) (S k 4) p 2))) + (partF g (pvX S k p 3) (halfF (pvX S k) (S k 4) p 3)))), some (zi ((((0 + (partF g (halfF (pvX S k) (S k 4) p 0) (pvX S k (behF (S k 4) p) 0))) + (partF g (halfF (pvX S k) (S k 4) p 1) (pvX S k (behF (S k 4) p) 1))) + (partF g (halfF (pvX S k) (S k 4) p 2) (pvX S k (behF (S k 4) p) 2))) + (partF g (halfF (pvX S k) (S k 4) p 3) (pvX S k (behF (S k 4) p) 3)))), some (zi 4), some (zi (halfF (pvX S k) (S k 4) p 3))]) h dX7_lowering_75 rfl (Nat.le_of_ble_eq_true rfl) rfl rfl ?_
  refine z_goto (pc := 78) (tgt := 24) h dX7_lowering_78 (by decide) ?_
  refine z_iload (pc := 24) h dX7_lowering_24 rfl ?_
  refine z_iconst (pc := 26) h dX7_lowering_26 ?_
  refine z_icmp_ge (pc := 27) (tgt := 81) h dX7_lowering_27 (by decide) ⟨by decide, by decide⟩ ⟨by decide, by decide⟩ (fun hc27 => ?_) (fun hc27 => absurd hc27 (by decide))
  refine z_iload (pc := 81) h dX7_lowering_81 rfl ?_
  refine z_iload (pc := 83) h dX7_lowering_83 rfl ?_
  refine z_imul (pc := 85) h dX7_lowering_85 ?_
  refine z_iload (pc := 86) h dX7_lowering_86 rfl ?_
  refine z_iload (pc := 88) h dX7_lowering_88 rfl ?_
  refine z_imul (pc := 90) h dX7_lowering_90 ?_
  refine z_isub (pc := 91) h dX7_lowering_91 ?_
  refine z_iload (pc := 92) h dX7_lowering_92 rfl ?_
  refine z_iload (pc := 94) h dX7_lowering_94 rfl ?_
  refine z_imul (pc := 96) h dX7_lowering_96 ?_
  refine z_isub (pc := 97) h dX7_lowering_97 ?_
  exact z_iret (pc := 98) h dX7_lowering_98 rfl ⟨rfl, congrArg (fun z => some (zi z)) (by rfl)⟩

set_option maxRecDepth 100000 in
set_option maxHeartbeats 4000000 in
theorem m_X7_missingBehind (k : Nat) (g : Int) (S : SS) (hk : isStrip k) (ho : okS S k) (hg : 0 ≤ g ∧ g ≤ 9) : zM LX yX7_missingBehind cX7_missingBehind 6 (some .int) 4 95 [zr k, zi g] S (fun r S' => S = S' ∧ r = some (zi ((missF g (pvX S k) (S k 4)).1))) := by
  refine zM_of (own := RX7) rfl (by decide +kernel) [some (zr k), some (zi g), none, none, none, none] (Nat.le_of_ble_eq_true rfl) rfl ?_
  intro x h
  have ho1 := ho.1
  have ho2 := ho.2.1
  have ho3 := ho.2.2.1
  have hQ := pvX_b ho
  refine z_iconst (pc := 0) h dX7_missingBehind_0 ?_
  refine z_istore_n (pc := 1) (loc' := [some (zr k), some (zi g), some (zi (-1)), none, none, none]) h dX7_missingBehind_1 rfl (Nat.le_of_ble_eq_true rfl) rfl rfl ?_
  refine z_iconst (pc := 2) h dX7_missingBehind_2 ?_
  refine z_istore_n (pc := 3) (loc' := [some (zr k), some (zi g), some (zi (-1)), some (zi 0), none, none]) h dX7_missingBehind_3 rfl (Nat.le_of_ble_eq_true rfl) rfl rfl ?_
  refine z_iconst (pc := 4) h dX7_missingBehind_4 ?_
  refine z_istore (pc := 5) (loc' := [some (zr k), some (zi g), some (zi (-1)), some (zi 0), some (zi 0), none]) h dX7_missingBehind_5 (Nat.le_of_ble_eq_true rfl) rfl rfl ?_
  have J7 : ∀ (N : Nat) (z y p : Int) (hp : 0 ≤ p ∧ p ≤ S k 4) (hy : 0 ≤ y ∧ y ≤ 5000) (hz : -1 ≤ z ∧ z ≤ 12) (hI : missR g (pvX S k) (S k 4) (S k 4 - p).toNat p (z, y) = missF g (pvX S k) (S k 4)) , (S k 4 - p).toNat = N → zG x LX 7 [some (zr k), some (zi g), some (zi z), some (zi y), some (zi p), none] ([] : List zV) S := by
    intro N
    induction N using Nat.strongRecOn with
    | _ N ih7 => ?_
    intro z y p hp hy hz hI hN7
    refine z_iload (pc := 7) h dX7_missingBehind_7 rfl ?_
    refine z_aload_n (pc := 9) h dX7_missingBehind_9 rfl ?_
    refine z_getI (pc := 10) h dX7_missingBehind_10 clX7 lkX7_35 (by decide) hk.1 rfl ?_
    refine z_icmp_ge (pc := 13) (tgt := 43) h dX7_missingBehind_13 (by decide) ⟨by omega, by omega⟩ ⟨by omega, by omega⟩ (fun hc13 => ?_) (fun hc13 => ?_)
    ·
      refine z_iload_n (pc := 43) h dX7_missingBehind_43 rfl ?_
      exact z_iret (pc := 44) h dX7_missingBehind_44 rfl ⟨rfl, congrArg (fun z => some (zi z)) (by rw [miss_0 (by omega)] at hI; rw [← hI])⟩
    ·
      rw [miss_s (r' := (S k 4 - (p + 1)).toNat) (by omega)] at hI
      have hl := lowF_b hg hQ (S k 4) p
      refine z_aload_n (pc := 16) h dX7_missingBehind_16 rfl ?_
      refine z_iload (pc := 17) h dX7_missingBehind_17 rfl ?_
      refine z_iload_n (pc := 19) h dX7_missingBehind_19 rfl ?_
      refine z_callV (pc := 20) (rest := ([] : List zV)) h (m_X7_lowering k p g S (by assumption) (by first | assumption | omega) (by first | assumption | omega) (by first | assumption | omega)) dX7_missingBehind_20 mcX7_lowering miX7_lowering mlX7_69 rfl rfl ⟨by decide, by decide⟩ clX7 hk.1 rfl rfl (Nat.le_of_ble_eq_true rfl) ?_
      rintro _ _ ⟨rfl, rfl⟩
      show zG x LX 23 [some (zr k), some (zi g), some (zi z), some (zi y), some (zi p), none] [zi (lowF g (pvX S k) (S k 4) p)] S
      refine z_istore (pc := 23) (loc' := [some (zr k), some (zi g), some (zi z), some (zi y), some (zi p), some (zi (lowF g (pvX S k) (S k 4) p))]) h dX7_missingBehind_23 (Nat.le_of_ble_eq_true rfl) rfl rfl ?_
      refine z_iload (pc := 25) h dX7_missingBehind_25 rfl ?_
      refine z_iload_n (pc := 27) h dX7_missingBehind_27 rfl ?_
      refine z_icmp_le (pc := 28) (tgt := 37) h dX7_missingBehind_28 (by decide) ⟨by omega, by omega⟩ ⟨by omega, by omega⟩ (fun hc28 => ?_) (fun hc28 => ?_)
      ·
        refine z_iinc (pc := 37) (loc' := [some (zr k), some (zi g), some (zi z), some (zi y), some (zi (p + 1)), some (zi (lowF g (pvX S k) (S k 4) p))]) h dX7_missingBehind_37 rfl (Nat.le_of_ble_eq_true rfl) rfl rfl ?_
        refine z_goto (pc := 40) (tgt := 7) h dX7_missingBehind_40 (by decide) ?_
        refine z_forget [true, true, true, true, true, false] (loc' := [some (zr k), some (zi g), some (zi z), some (zi y), some (zi (p + 1)), none]) rfl ?_
        exact ih7 _ (by omega) z y (p + 1) (by omega) (by omega) (by omega) (by first | (rw [if_pos (by assumption)] at hI; exact hI) | (rw [if_neg (by show ¬ (y < _); omega)] at hI; exact hI)) rfl
      ·
        refine z_iload (pc := 31) h dX7_missingBehind_31 rfl ?_
        refine z_istore_n (pc := 33) (loc' := [some (zr k), some (zi g), some (zi z), some (zi (lowF g (pvX S k) (S k 4) p)), some (zi p), some (zi (lowF g (pvX S k) (S k 4) p))]) h dX7_missingBehind_33 rfl (Nat.le_of_ble_eq_true rfl) rfl rfl ?_
        refine z_iload (pc := 34) h dX7_missingBehind_34 rfl ?_
        refine z_istore_n (pc := 36) (loc' := [some (zr k), some (zi g), some (zi p), some (zi (lowF g (pvX S k) (S k 4) p)), some (zi p), some (zi (lowF g (pvX S k) (S k 4) p))]) h dX7_missingBehind_36 rfl (Nat.le_of_ble_eq_true rfl) rfl rfl ?_
        refine z_iinc (pc := 37) (loc' := [some (zr k), some (zi g), some (zi p), some (zi (lowF g (pvX S k) (S k 4) p)), some (zi (p + 1)), some (zi (lowF g (pvX S k) (S k 4) p))]) h dX7_missingBehind_37 rfl (Nat.le_of_ble_eq_true rfl) rfl rfl ?_
        refine z_goto (pc := 40) (tgt := 7) h dX7_missingBehind_40 (by decide) ?_
        refine z_forget [true, true, true, true, true, false] (loc' := [some (zr k), some (zi g), some (zi p), some (zi (lowF g (pvX S k) (S k 4) p)), some (zi (p + 1)), none]) rfl ?_
        exact ih7 _ (by omega) p (lowF g (pvX S k) (S k 4) p) (p + 1) (by omega) (by omega) (by omega) (by first | (rw [if_pos (by assumption)] at hI; exact hI) | (rw [if_neg (by show ¬ (y < _); omega)] at hI; exact hI)) rfl
  exact J7 _ (-1) 0 0 (by omega) (by omega) (by omega) (by unfold missF; congr 1; omega) rfl

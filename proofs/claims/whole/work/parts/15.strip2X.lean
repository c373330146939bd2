def nrB (v : Int) (g : Int) (Q : PL) (t i j : Int) : Prop := ∃ m : Nat, v = (m : Int) ∧ m < 4096 ∧ ∀ b : Nat, m.testBit b = decide ((b : Int) < j ∧ stepF g Q i b ≤ t)
theorem nrB_0 (g : Int) (Q : PL) (t i : Int) : nrB 0 g Q t i 0 := ⟨0, rfl, by omega, fun b => by rw [Nat.zero_testBit]; symm; apply decide_eq_false; omega⟩
theorem nrB_skip {v g : Int} {Q : PL} {t i j : Int} (h : nrB v g Q t i j) (hs : t < stepF g Q i j) : nrB v g Q t i (j + 1) := by
  obtain ⟨m, h1, h2, h3⟩ := h
  refine ⟨m, h1, h2, fun b => ?_⟩
  rw [h3]
  by_cases hb : (b : Int) = j
  · rw [hb, decide_eq_false (by omega), decide_eq_false (by omega)]
  · exact decide_eq_decide.mpr (by omega)
theorem nrB_or {v g : Int} {Q : PL} {t i j : Int} (h : nrB v g Q t i j) (hj : 0 ≤ j ∧ j < 12) (hs : stepF g Q i j ≤ t) : nrB ((v.toNat ||| (1 * 2 ^ j.toNat : Int).toNat : Nat) : Int) g Q t i (j + 1) := by
  obtain ⟨m, h1, h2, h3⟩ := h
  have hcast : ((1 : Int) * 2 ^ j.toNat).toNat = 2 ^ j.toNat := by
    rw [Int.one_mul]
    have : ((2 : Int) ^ j.toNat) = ((2 ^ j.toNat : Nat) : Int) := (Int.natCast_pow 2 j.toNat).symm
    rw [this, Int.toNat_natCast]
  rw [hcast, h1, Int.toNat_natCast]
  refine ⟨_, rfl, Nat.or_lt_two_pow (n := 12) h2 (Nat.pow_lt_pow_right (by decide) (by omega)), fun b => ?_⟩
  rw [Nat.testBit_or, h3, Nat.testBit_two_pow, ← Bool.decide_or]
  apply decide_eq_decide.mpr
  by_cases hb : (b : Int) = j
  · rw [hb]
    constructor
    · intro _; exact ⟨by omega, hs⟩
    · intro _; right; omega
  · omega
theorem nrB_b {v g : Int} {Q : PL} {t i j : Int} (h : nrB v g Q t i j) : 0 ≤ v ∧ v ≤ 4095 := by
  obtain ⟨m, h1, h2, h3⟩ := h
  omega
theorem pw_b {j : Int} (hj : 0 ≤ j ∧ j < 13) : 0 ≤ (1 * 2 ^ j.toNat : Int) ∧ (1 * 2 ^ j.toNat : Int) ≤ 4096 := by
  rw [Int.one_mul, show ((2 : Int) ^ j.toNat) = ((2 ^ j.toNat : Nat) : Int) from (Int.natCast_pow 2 j.toNat).symm]
  have h : 2 ^ j.toNat ≤ 2 ^ 12 := Nat.pow_le_pow_right (by decide) (by omega)
  generalize 2 ^ j.toNat = z at h ⊢
  omega
def nearP (S : SS) (k : Nat) (g : Int) (Q : PL) (n t : Int) (i : Int) : Prop := ∀ p : Nat, (p : Int) < i → nrB (S (k + 3) p) g Q t p n
theorem and_t {m c : Nat} : m &&& c ≠ 0 ↔ ∃ j, m.testBit j = true ∧ c.testBit j = true := by
  constructor
  · intro h
    obtain ⟨j, hj⟩ := Nat.exists_testBit_of_ne_zero h
    rw [Nat.testBit_and, Bool.and_eq_true] at hj
    exact ⟨j, hj⟩
  · rintro ⟨j, h1, h2⟩ h
    have h3 : (m &&& c).testBit j = true := by rw [Nat.testBit_and, h1, h2]; rfl
    rw [h, Nat.zero_testBit] at h3
    cases h3

set_option maxRecDepth 100000 in
set_option maxHeartbeats 4000000 in
theorem m_X10_stripAt (a : Int) (S : SS) (ha : r32 a) : zM LX yX10_stripAt cX10_stripAt 2 (some (.object "DrumSlits$Strip")) 0 0 [zr 0, zi a] S (fun r S' => S = S' ∧ (a = 0 ∧ r = some (zr 1) ∨ a = 1 ∧ r = some (zr 5) ∨ ¬ (a = 0 ∨ a = 1) ∧ r = some zn)) := by
  refine zM_of (own := RX10) rfl (by decide +kernel) [some (zr 0), some (zi a)] (Nat.le_of_ble_eq_true rfl) rfl ?_
  intro x h
  refine z_iload_n (pc := 0) h dX10_stripAt_0 rfl ?_
  refine z_if_ne (pc := 1) (tgt := 11) h dX10_stripAt_1 (by decide) ⟨by omega, by omega⟩ (fun hc1 => ?_) (fun hc1 => ?_)
  ·
    refine z_iload_n (pc := 11) h dX10_stripAt_11 rfl ?_
    refine z_iconst (pc := 12) h dX10_stripAt_12 ?_
    refine z_icmp_ne (pc := 13) (tgt := 23) h dX10_stripAt_13 (by decide) ⟨by omega, by omega⟩ ⟨by decide, by decide⟩ (fun hc13 => ?_) (fun hc13 => ?_)
    ·
      refine z_null (pc := 23) h dX10_stripAt_23 ?_
      exact z_aret (pc := 24) h dX10_stripAt_24 rfl (Or.inl rfl) (⟨rfl, by first | exact Or.inl ⟨by omega, rfl⟩ | exact Or.inr (Or.inl ⟨by omega, rfl⟩) | exact Or.inr (Or.inr ⟨by omega, rfl⟩)⟩)
    ·
      refine z_aload_n (pc := 16) h dX10_stripAt_16 rfl ?_
      refine z_getR (a := 5) (pc := 17) h dX10_stripAt_17 clX10 lkX10_16 (by decide) rfl rfl ?_
      refine z_goto (pc := 20) (tgt := 24) h dX10_stripAt_20 (by decide) ?_
      exact z_aret (pc := 24) h dX10_stripAt_24 rfl (Or.inr ⟨_, rfl⟩) (⟨rfl, by first | exact Or.inl ⟨by omega, rfl⟩ | exact Or.inr (Or.inl ⟨by omega, rfl⟩) | exact Or.inr (Or.inr ⟨by omega, rfl⟩)⟩)
  ·
    refine z_aload_n (pc := 4) h dX10_stripAt_4 rfl ?_
    refine z_getR (a := 1) (pc := 5) h dX10_stripAt_5 clX10 lkX10_10 (by decide) rfl rfl ?_
    refine z_goto (pc := 8) (tgt := 24) h dX10_stripAt_8 (by decide) ?_
    exact z_aret (pc := 24) h dX10_stripAt_24 rfl (Or.inr ⟨_, rfl⟩) (⟨rfl, by first | exact Or.inl ⟨by omega, rfl⟩ | exact Or.inr (Or.inl ⟨by omega, rfl⟩) | exact Or.inr (Or.inr ⟨by omega, rfl⟩)⟩)

set_option maxRecDepth 100000 in
set_option maxHeartbeats 4000000 in
theorem m_X10_lookAt (a : Int) (S : SS) (ha : r32 a) : zM LX yX10_lookAt cX10_lookAt 2 (some (.object "DrumSlits$Look")) 0 0 [zr 0, zi a] S (fun r S' => S = S' ∧ (a = 0 ∧ r = some (zr 9) ∨ a = 1 ∧ r = some (zr 12) ∨ ¬ (a = 0 ∨ a = 1) ∧ r = some zn)) := by
  refine zM_of (own := RX10) rfl (by decide +kernel) [some (zr 0), some (zi a)] (Nat.le_of_ble_eq_true rfl) rfl ?_
  intro x h
  refine z_iload_n (pc := 0) h dX10_lookAt_0 rfl ?_
  refine z_if_ne (pc := 1) (tgt := 11) h dX10_lookAt_1 (by decide) ⟨by omega, by omega⟩ (fun hc1 => ?_) (fun hc1 => ?_)
  ·
    refine z_iload_n (pc := 11) h dX10_lookAt_11 rfl ?_
    refine z_iconst (pc := 12) h dX10_lookAt_12 ?_
    refine z_icmp_ne (pc := 13) (tgt := 23) h dX10_lookAt_13 (by decide) ⟨by omega, by omega⟩ ⟨by decide, by decide⟩ (fun hc13 => ?_) (fun hc13 => ?_)
    ·
      refine z_null (pc := 23) h dX10_lookAt_23 ?_
      exact z_aret (pc := 24) h dX10_lookAt_24 rfl (Or.inl rfl) (⟨rfl, by first | exact Or.inl ⟨by omega, rfl⟩ | exact Or.inr (Or.inl ⟨by omega, rfl⟩) | exact Or.inr (Or.inr ⟨by omega, rfl⟩)⟩)
    ·
      refine z_aload_n (pc := 16) h dX10_lookAt_16 rfl ?_
      refine z_getR (a := 12) (pc := 17) h dX10_lookAt_17 clX10 lkX10_26 (by decide) rfl rfl ?_
      refine z_goto (pc := 20) (tgt := 24) h dX10_lookAt_20 (by decide) ?_
      exact z_aret (pc := 24) h dX10_lookAt_24 rfl (Or.inr ⟨_, rfl⟩) (⟨rfl, by first | exact Or.inl ⟨by omega, rfl⟩ | exact Or.inr (Or.inl ⟨by omega, rfl⟩) | exact Or.inr (Or.inr ⟨by omega, rfl⟩)⟩)
  ·
    refine z_aload_n (pc := 4) h dX10_lookAt_4 rfl ?_
    refine z_getR (a := 9) (pc := 5) h dX10_lookAt_5 clX10 lkX10_22 (by decide) rfl rfl ?_
    refine z_goto (pc := 8) (tgt := 24) h dX10_lookAt_8 (by decide) ?_
    exact z_aret (pc := 24) h dX10_lookAt_24 rfl (Or.inr ⟨_, rfl⟩) (⟨rfl, by first | exact Or.inl ⟨by omega, rfl⟩ | exact Or.inr (Or.inl ⟨by omega, rfl⟩) | exact Or.inr (Or.inr ⟨by omega, rfl⟩)⟩)

theorem sheet_at {a : Int} (h : 0 ≤ a ∧ a ≤ 3) : isSheet (16 + 2 * a.toNat) ∧ ([16, 18, 20, 22] : List Nat)[a.toNat]? = some (16 + 2 * a.toNat) := by
  rcases (show a = 0 ∨ a = 1 ∨ a = 2 ∨ a = 3 by omega) with e | e | e | e <;> subst e
  · exact ⟨isSheet16, rfl⟩
  · exact ⟨isSheet18, rfl⟩
  · exact ⟨isSheet20, rfl⟩
  · exact ⟨isSheet22, rfl⟩

set_option maxRecDepth 100000 in
set_option maxHeartbeats 4000000 in
theorem m_X10_sheetAt (a : Int) (S : SS) (ha : r32 a) : zM LX yX10_sheetAt cX10_sheetAt 2 (some (.object "DrumSlits$Sheet")) 1 22 [zr 0, zi a] S (fun r S' => S = S' ∧ ((0 ≤ a ∧ a ≤ 3) ∧ (∃ k, isSheet k ∧ k = 16 + 2 * a.toNat ∧ r = some (zr k)) ∨ ¬ (0 ≤ a ∧ a ≤ 3) ∧ r = some zn)) := by
  refine zM_of (own := RX10) rfl (by decide +kernel) [some (zr 0), some (zi a)] (Nat.le_of_ble_eq_true rfl) rfl ?_
  intro x h
  refine z_iload_n (pc := 0) h dX10_sheetAt_0 rfl ?_
  refine z_iconst (pc := 1) h dX10_sheetAt_1 ?_
  refine z_aload_n (pc := 2) h dX10_sheetAt_2 rfl ?_
  refine z_getR (a := 15) (pc := 3) h dX10_sheetAt_3 clX10 lkX10_32 (by decide) rfl rfl ?_
  refine z_alenA (pc := 6) h dX10_sheetAt_6 rfl ?_
  refine z_iconst (pc := 7) h dX10_sheetAt_7 ?_
  refine z_isub (pc := 8) h dX10_sheetAt_8 ?_
  refine z_callS (pc := 9) (rest := ([] : List zV)) h (m_X10_within a 0 3 S ⟨by omega, by omega⟩ ⟨by decide, by decide⟩ ⟨by decide, by decide⟩) dX10_sheetAt_9 mcX10_within msX10_within mlX10_75 rfl rfl ⟨by decide, by decide⟩ rfl (Nat.le_of_ble_eq_true rfl) ?_
  rintro _ _ ⟨rfl, ⟨hr9, rfl⟩ | ⟨hr9, rfl⟩⟩
  ·
    show zG x LX 12 [some (zr 0), some (zi a)] [zi 1] S
    refine z_if_eq (pc := 12) (tgt := 24) h dX10_sheetAt_12 (by decide) ⟨by decide, by decide⟩ (fun hc12 => absurd hc12 (by decide)) (fun hc12 => ?_)
    refine z_aload_n (pc := 15) h dX10_sheetAt_15 rfl ?_
    refine z_getR (a := 15) (pc := 16) h dX10_sheetAt_16 clX10 lkX10_32 (by decide) rfl rfl ?_
    refine z_iload_n (pc := 19) h dX10_sheetAt_19 rfl ?_
    refine z_aald (pc := 20) (a := 16 + 2 * a.toNat) h dX10_sheetAt_20 rfl (by decide) (by omega) (sheet_at (by omega)).2 ?_
    refine z_goto (pc := 21) (tgt := 25) h dX10_sheetAt_21 (by decide) ?_
    exact z_aret (pc := 25) h dX10_sheetAt_25 rfl (Or.inr ⟨_, rfl⟩) (⟨rfl, by first | exact Or.inl ⟨by omega, _, (sheet_at (by omega)).1, rfl, rfl⟩ | exact Or.inr ⟨by omega, rfl⟩⟩)
  ·
    show zG x LX 12 [some (zr 0), some (zi a)] [zi 0] S
    refine z_if_eq (pc := 12) (tgt := 24) h dX10_sheetAt_12 (by decide) ⟨by decide, by decide⟩ (fun hc12 => ?_) (fun hc12 => absurd hc12 (by decide))
    refine z_null (pc := 24) h dX10_sheetAt_24 ?_
    exact z_aret (pc := 25) h dX10_sheetAt_25 rfl (Or.inl rfl) (⟨rfl, by first | exact Or.inl ⟨by omega, _, (sheet_at (by omega)).1, rfl, rfl⟩ | exact Or.inr ⟨by omega, rfl⟩⟩)

set_option maxRecDepth 100000 in
set_option maxHeartbeats 4000000 in
theorem m_X10_finding (a : Int) (S : SS)  : zM LX yX10_finding cX10_finding 2 (some .int) 0 0 [zr 0, zi a] S (fun r S' => up2 S 0 11 a = S' ∧ r = some (zi (-10 - a))) := by
  refine zM_of (own := RX10) rfl (by decide +kernel) [some (zr 0), some (zi a)] (Nat.le_of_ble_eq_true rfl) rfl ?_
  intro x h
  refine z_aload_n (pc := 0) h dX10_finding_0 rfl ?_
  refine z_iload_n (pc := 1) h dX10_finding_1 rfl ?_
  refine z_putI (pc := 2) h dX10_finding_2 clX10 lkX10_281 (by decide) rfl rfl rfl rfl ?_
  refine z_bipush (pc := 5) h dX10_finding_5 rfl ?_
  refine z_iload_n (pc := 7) h dX10_finding_7 rfl ?_
  refine z_isub (pc := 8) h dX10_finding_8 ?_
  exact z_iret (pc := 9) h dX10_finding_9 rfl (⟨rfl, rfl⟩)

set_option maxRecDepth 100000 in
set_option maxHeartbeats 4000000 in
theorem m_X7_append (k : Nat) (b : Int) (S : SS) (hk : isStrip k) (ho : okS S k) (hb : 0 ≤ b ∧ b ≤ 255) : zM LX yX7_append cX7_append 2 (some .int) 4 87 [zr k, zi b] S (fun r S' => (80 ≤ S k 3 ∧ r = some (zi (-4)) ∧ S = S') ∨ (S k 3 < 80 ∧ r = some (zi (S k 3 + 1)) ∧ prsd k (up2 (up2 S (k + 1) (S k 3).toNat b) k 3 (S k 3 + 1)) S')) := by
  refine zM_of (own := RX7) rfl (by decide +kernel) [some (zr k), some (zi b)] (Nat.le_of_ble_eq_true rfl) rfl ?_
  intro x h
  have ho1 := ho.1
  have ho2 := ho.2.1
  have ho3 := ho.2.2.1
  have hQ := pvX_b ho
  refine z_aload_n (pc := 0) h dX7_append_0 rfl ?_
  refine z_getI (pc := 1) h dX7_append_1 clX7 lkX7_25 (by decide) hk.1 rfl ?_
  refine z_if_lt (pc := 4) (tgt := 19) h dX7_append_4 (by decide) ⟨by omega, by omega⟩ (fun hc4 => absurd hc4 (by omega)) (fun hc4 => ?_)
  refine z_aload_n (pc := 7) h dX7_append_7 rfl ?_
  refine z_getI (pc := 8) h dX7_append_8 clX7 lkX7_25 (by decide) hk.1 rfl ?_
  refine z_aload_n (pc := 11) h dX7_append_11 rfl ?_
  refine z_getR (a := k + 1) (pc := 12) h dX7_append_12 clX7 lkX7_9 (by decide) hk.1 rfl ?_
  refine z_alen (pc := 15) h dX7_append_15 hk.2.1 ?_
  refine z_icmp_lt (pc := 16) (tgt := 22) h dX7_append_16 (by decide) ⟨by omega, by omega⟩ ⟨by decide, by decide⟩ (fun hc16 => ?_) (fun hc16 => ?_)
  ·
    refine z_aload_n (pc := 22) h dX7_append_22 rfl ?_
    refine z_getR (a := k + 1) (pc := 23) h dX7_append_23 clX7 lkX7_9 (by decide) hk.1 rfl ?_
    refine z_aload_n (pc := 26) h dX7_append_26 rfl ?_
    refine z_getI (pc := 27) h dX7_append_27 clX7 lkX7_25 (by decide) hk.1 rfl ?_
    refine z_iload_n (pc := 30) h dX7_append_30 rfl ?_
    refine z_iast (pc := 31) h dX7_append_31 hk.2.1 (by decide) (by omega) (by omega) ?_
    refine z_nmS (fun S1 h_S1 => ?_)
    have a1 : S1 k 3 = S k 3 := by rw [h_S1, up2_k _ _ (by omega)]
    refine z_aload_n (pc := 32) h dX7_append_32 rfl ?_
    refine z_dup (pc := 33) h dX7_append_33 rfl ?_
    refine z_getI (pc := 34) h dX7_append_34 clX7 lkX7_25 (by decide) hk.1 rfl ?_
    refine z_iconst (pc := 37) h dX7_append_37 ?_
    refine z_iadd (pc := 38) h dX7_append_38 ?_
    refine z_putI (pc := 39) h dX7_append_39 clX7 lkX7_25 (by decide) hk.1 rfl rfl rfl ?_
    refine z_nmS (fun S2 h_S2 => ?_)
    have a2 : S2 = up2 (up2 S (k + 1) (S k 3).toNat b) k 3 (S k 3 + 1) := by rw [h_S2, a1, h_S1]
    have a3 : S2 k 3 = S k 3 + 1 := by rw [a2, up2_s]
    have b1 : ∀ j, 0 ≤ S2 (k + 1) j ∧ S2 (k + 1) j ≤ 255 := fun j => by rw [a2, up2_k _ _ (by omega), up2_e]; split; exact hb; exact ho.2.2.2.1 j
    have b2 : ∀ j, -1 ≤ S2 (k + 2) j ∧ S2 (k + 2) j ≤ 9 := fun j => by rw [a2, up2_k _ _ (by omega), up2_k _ _ (by omega)]; exact ho.2.2.2.2 j
    refine z_aload_n (pc := 42) h dX7_append_42 rfl ?_
    refine z_callV (pc := 43) (rest := ([] : List zV)) h (m_X7_parse k S2 (by assumption) (by first | assumption | omega) (by first | assumption | omega) (by first | assumption | omega)) dX7_append_43 mcX7_parse miX7_parse mlX7_28 rfl rfl ⟨by decide, by decide⟩ clX7 hk.1 rfl rfl (Nat.le_of_ble_eq_true rfl) ?_
    rintro _ S43 ⟨rfl, hr43a, hr43b, hr43c, hr43d, hr43e⟩
    show zG x LX 46 [some (zr k), some (zi b)] ([] : List zV) S43
    refine z_aload_n (pc := 46) h dX7_append_46 rfl ?_
    refine z_getI (pc := 47) h dX7_append_47 clX7 lkX7_25 (by decide) hk.1 rfl ?_
    have e3 : S43 k 3 = S k 3 + 1 := by rw [hr43a _ _ (by omega) (by omega)]; exact a3
    exact z_iret (pc := 50) h dX7_append_50 rfl (Or.inr ⟨by omega, congrArg (fun z => some (zi z)) e3, by rw [← a2]; exact ⟨hr43a, hr43b, hr43c, hr43d, hr43e⟩⟩)
  ·
    refine z_bipush (pc := 19) h dX7_append_19 rfl ?_
    exact z_iret (pc := 21) h dX7_append_21 rfl (Or.inl ⟨by omega, rfl, rfl⟩)

set_option maxRecDepth 100000 in
set_option maxHeartbeats 4000000 in
theorem m_X7_clear (k : Nat) (S : SS) (hk : isStrip k) (ho : okS S k) : zM LX yX7_clear cX7_clear 2 (some .int) 4 87 [zr k] S (fun r S' => r = some (zi (S k 3)) ∧ prsd k (up2 S k 3 0) S') := by
  refine zM_of (own := RX7) rfl (by decide +kernel) [some (zr k), none] (Nat.le_of_ble_eq_true rfl) rfl ?_
  intro x h
  have ho1 := ho.1
  have ho2 := ho.2.1
  have ho3 := ho.2.2.1
  have hQ := pvX_b ho
  refine z_aload_n (pc := 0) h dX7_clear_0 rfl ?_
  refine z_getI (pc := 1) h dX7_clear_1 clX7 lkX7_25 (by decide) hk.1 rfl ?_
  refine z_istore_n (pc := 4) (loc' := [some (zr k), some (zi (S k 3))]) h dX7_clear_4 rfl (Nat.le_of_ble_eq_true rfl) rfl rfl ?_
  refine z_aload_n (pc := 5) h dX7_clear_5 rfl ?_
  refine z_iconst (pc := 6) h dX7_clear_6 ?_
  refine z_putI (pc := 7) h dX7_clear_7 clX7 lkX7_25 (by decide) hk.1 rfl rfl rfl ?_
  refine z_nmS (fun S2 h_S2 => ?_)
  have a3 : S2 k 3 = 0 := by rw [h_S2, up2_s]
  have b1 : ∀ j, 0 ≤ S2 (k + 1) j ∧ S2 (k + 1) j ≤ 255 := fun j => by rw [h_S2, up2_k _ _ (by omega)]; exact ho.2.2.2.1 j
  have b2 : ∀ j, -1 ≤ S2 (k + 2) j ∧ S2 (k + 2) j ≤ 9 := fun j => by rw [h_S2, up2_k _ _ (by omega)]; exact ho.2.2.2.2 j
  refine z_aload_n (pc := 10) h dX7_clear_10 rfl ?_
  refine z_callV (pc := 11) (rest := ([] : List zV)) h (m_X7_parse k S2 (by assumption) (by first | assumption | omega) (by first | assumption | omega) (by first | assumption | omega)) dX7_clear_11 mcX7_parse miX7_parse mlX7_28 rfl rfl ⟨by decide, by decide⟩ clX7 hk.1 rfl rfl (Nat.le_of_ble_eq_true rfl) ?_
  rintro _ S11 ⟨rfl, hr11a, hr11b, hr11c, hr11d, hr11e⟩
  show zG x LX 14 [some (zr k), some (zi (S k 3))] ([] : List zV) S11
  refine z_iload_n (pc := 14) h dX7_clear_14 rfl ?_
  exact z_iret (pc := 15) h dX7_clear_15 rfl (⟨rfl, by rw [← h_S2]; exact ⟨hr11a, hr11b, hr11c, hr11d, hr11e⟩⟩)

set_option maxRecDepth 100000 in
set_option maxHeartbeats 4000000 in
theorem m_X7_reaches (k : Nat) (c : Int) (g : Int) (Q : PL) (t : Int) (S : SS) (hk : isStrip k) (ho : okS S k) (hN : nearP S k g Q (S k 4) t (S k 4)) (hc : 0 ≤ c ∧ c < 4096) : zM LX yX7_reaches cX7_reaches 3 (some .boolean) 0 0 [zr k, zi c] S (fun r S' => S = S' ∧ ((reachB g Q (S k 4) t c.toNat = true) ∧ r = some (zi 1) ∨ ¬ (reachB g Q (S k 4) t c.toNat = true) ∧ r = some (zi 0))) := by
  refine zM_of (own := RX7) rfl (by decide +kernel) [some (zr k), some (zi c), none] (Nat.le_of_ble_eq_true rfl) rfl ?_
  intro x h
  have ho1 := ho.1
  have ho2 := ho.2.1
  have ho3 := ho.2.2.1
  have hQ := pvX_b ho
  refine z_iconst (pc := 0) h dX7_reaches_0 ?_
  refine z_istore_n (pc := 1) (loc' := [some (zr k), some (zi c), some (zi 0)]) h dX7_reaches_1 rfl (Nat.le_of_ble_eq_true rfl) rfl rfl ?_
  have J2 : ∀ (N : Nat) (p : Int) (hp : 0 ≤ p ∧ p ≤ S k 4) (hI : ∀ q : Nat, (q : Int) < p → ∃ j : Nat, (j : Int) < S k 4 ∧ c.toNat.testBit j = true ∧ stepF g Q q j ≤ t) , (S k 4 - p).toNat = N → zG x LX 2 [some (zr k), some (zi c), some (zi p)] ([] : List zV) S := by
    intro N
    induction N using Nat.strongRecOn with
    | _ N ih2 => ?_
    intro p hp hI hN2
    refine z_iload_n (pc := 2) h dX7_reaches_2 rfl ?_
    refine z_aload_n (pc := 3) h dX7_reaches_3 rfl ?_
    refine z_getI (pc := 4) h dX7_reaches_4 clX7 lkX7_35 (by decide) hk.1 rfl ?_
    refine z_icmp_ge (pc := 7) (tgt := 38) h dX7_reaches_7 (by decide) ⟨by omega, by omega⟩ ⟨by omega, by omega⟩ (fun hc7 => ?_) (fun hc7 => ?_)
    ·
      refine z_iconst (pc := 38) h dX7_reaches_38 ?_
      exact z_zret (pc := 39) h dX7_reaches_39 rfl (by decide) ⟨rfl, Or.inl ⟨by first | (rw [reachB_t]; intro q hq; exact hI q (by omega)) | (rw [reachB_t]; intro hA; obtain ⟨j, j1, j2, j3⟩ := hA p.toNat (by omega); exact and_t.mpr ⟨j, by rw [hm3, decide_eq_true_iff]; exact ⟨j1, j3⟩, j2⟩ (by rw [hm1, Int.toNat_natCast] at hc27; omega)), rfl⟩⟩
    ·
      have hNp := hN p.toNat (by omega)
      obtain ⟨m, hm1, hm2, hm3⟩ := hNp
      refine z_iload_n (pc := 10) h dX7_reaches_10 rfl ?_
      refine z_aload_n (pc := 11) h dX7_reaches_11 rfl ?_
      refine z_getR (a := k + 3) (pc := 12) h dX7_reaches_12 clX7 lkX7_18 (by decide) hk.1 rfl ?_
      refine z_alen (pc := 15) h dX7_reaches_15 hk.2.2.2 ?_
      refine z_icmp_ge (pc := 16) (tgt := 38) h dX7_reaches_16 (by decide) ⟨by omega, by omega⟩ ⟨by decide, by decide⟩ (fun hc16 => absurd hc16 (by omega)) (fun hc16 => ?_)
      refine z_aload_n (pc := 19) h dX7_reaches_19 rfl ?_
      refine z_getR (a := k + 3) (pc := 20) h dX7_reaches_20 clX7 lkX7_18 (by decide) hk.1 rfl ?_
      refine z_iload_n (pc := 23) h dX7_reaches_23 rfl ?_
      refine z_iald (pc := 24) h dX7_reaches_24 hk.2.2.2 (by decide) (by omega) (by omega) ?_
      refine z_iload_n (pc := 25) h dX7_reaches_25 rfl ?_
      refine z_iand (pc := 26) h dX7_reaches_26 ⟨by omega, by omega⟩ ⟨by omega, by omega⟩ ?_
      have hle : ((S (k + 3) p.toNat).toNat &&& c.toNat) ≤ c.toNat := Nat.and_le_right
      refine z_if_ne (pc := 27) (tgt := 32) h dX7_reaches_27 (by decide) ⟨by omega, by omega⟩ (fun hc27 => ?_) (fun hc27 => ?_)
      ·
        refine z_iinc (pc := 32) (loc' := [some (zr k), some (zi c), some (zi (p + 1))]) h dX7_reaches_32 rfl (Nat.le_of_ble_eq_true rfl) rfl rfl ?_
        refine z_goto (pc := 35) (tgt := 2) h dX7_reaches_35 (by decide) ?_
        exact ih2 _ (by omega) (p + 1) (by omega) (by intro q hq; by_cases hqp : q = p.toNat; (subst hqp; obtain ⟨j, j1, j2⟩ := and_t.mp (show m &&& c.toNat ≠ 0 by intro q0; exact hc27 (by rw [hm1, Int.toNat_natCast, q0]; rfl)); rw [hm3, decide_eq_true_iff] at j1; exact ⟨j, j1.1, j2, j1.2⟩); exact hI q (by omega)) rfl
      ·
        refine z_iconst (pc := 30) h dX7_reaches_30 ?_
        exact z_zret (pc := 31) h dX7_reaches_31 rfl (by decide) ⟨rfl, Or.inr ⟨by first | (rw [reachB_t]; intro q hq; exact hI q (by omega)) | (rw [reachB_t]; intro hA; obtain ⟨j, j1, j2, j3⟩ := hA p.toNat (by omega); exact and_t.mpr ⟨j, by rw [hm3, decide_eq_true_iff]; exact ⟨j1, j3⟩, j2⟩ (by rw [hm1, Int.toNat_natCast] at hc27; omega)), rfl⟩⟩
  exact J2 _ 0 (by omega) (by intro q hq; omega) rfl

set_option maxRecDepth 100000 in
set_option maxHeartbeats 4000000 in
theorem m_X7_findNear (k : Nat) (t g : Int) (S : SS) (hk : isStrip k) (ho : okS S k) (ht : 0 ≤ t ∧ t ≤ 60) (hg : 0 ≤ g ∧ g ≤ 9) : zM LX yX7_findNear cX7_findNear 5 none 3 67 [zr k, zi t, zi g] S (fun r S' => r = none ∧ (∀ a b, a ≠ k + 3 → S' a b = S a b) ∧ nearP S' k g (pvX S k) (S k 4) t (S k 4)) := by
  refine zM_of (own := RX7) rfl (by decide +kernel) [some (zr k), some (zi t), some (zi g), none, none] (Nat.le_of_ble_eq_true rfl) rfl ?_
  intro x h
  have ho1 := ho.1
  have ho2 := ho.2.1
  have ho3 := ho.2.2.1
  have hQ := pvX_b ho
  refine z_iconst (pc := 0) h dX7_findNear_0 ?_
  refine z_istore_n (pc := 1) (loc' := [some (zr k), some (zi t), some (zi g), some (zi 0), none]) h dX7_findNear_1 rfl (Nat.le_of_ble_eq_true rfl) rfl rfl ?_
  have J2 : ∀ (N : Nat) (i : Int) (S1 : SS) (hi : 0 ≤ i ∧ i ≤ S k 4) (hF : ∀ a b, a ≠ k + 3 → S1 a b = S a b) (hn : nearP S1 k g (pvX S k) (S k 4) t i) , (S k 4 - i).toNat = N → zG x LX 2 [some (zr k), some (zi t), some (zi g), some (zi i), none] ([] : List zV) S1 := by
    intro N
    induction N using Nat.strongRecOn with
    | _ N ih2 => ?_
    intro i S1 hi hF hn hN2
    have h4 := hF k 4 (by omega)
    refine z_iload_n (pc := 2) h dX7_findNear_2 rfl ?_
    refine z_aload_n (pc := 3) h dX7_findNear_3 rfl ?_
    refine z_getI (pc := 4) h dX7_findNear_4 clX7 lkX7_35 (by decide) hk.1 rfl ?_
    refine z_icmp_ge (pc := 7) (tgt := 75) h dX7_findNear_7 (by decide) ⟨by omega, by omega⟩ ⟨by omega, by omega⟩ (fun hc7 => ?_) (fun hc7 => ?_)
    ·
      exact z_vret (pc := 75) h dX7_findNear_75 rfl (⟨rfl, hF, fun p hp => hn p (by omega)⟩)
    ·
      refine z_iload_n (pc := 10) h dX7_findNear_10 rfl ?_
      refine z_aload_n (pc := 11) h dX7_findNear_11 rfl ?_
      refine z_getR (a := k + 3) (pc := 12) h dX7_findNear_12 clX7 lkX7_18 (by decide) hk.1 rfl ?_
      refine z_alen (pc := 15) h dX7_findNear_15 hk.2.2.2 ?_
      refine z_icmp_ge (pc := 16) (tgt := 75) h dX7_findNear_16 (by decide) ⟨by omega, by omega⟩ ⟨by decide, by decide⟩ (fun hc16 => absurd hc16 (by omega)) (fun hc16 => ?_)
      refine z_aload_n (pc := 19) h dX7_findNear_19 rfl ?_
      refine z_getR (a := k + 3) (pc := 20) h dX7_findNear_20 clX7 lkX7_18 (by decide) hk.1 rfl ?_
      refine z_iload_n (pc := 23) h dX7_findNear_23 rfl ?_
      refine z_iconst (pc := 24) h dX7_findNear_24 ?_
      refine z_iast (pc := 25) h dX7_findNear_25 hk.2.2.2 (by decide) (by omega) (by omega) ?_
      refine z_iconst (pc := 26) h dX7_findNear_26 ?_
      refine z_istore (pc := 27) (loc' := [some (zr k), some (zi t), some (zi g), some (zi i), some (zi 0)]) h dX7_findNear_27 (Nat.le_of_ble_eq_true rfl) rfl rfl ?_
      have J29 : ∀ (N : Nat) (j2 : Int) (S2 : SS) (hj : 0 ≤ j2 ∧ j2 ≤ S k 4) (hF2 : ∀ a b, a ≠ k + 3 → S2 a b = S a b) (hn2 : nearP S2 k g (pvX S k) (S k 4) t i) (hM : nrB (S2 (k + 3) i.toNat) g (pvX S k) t i j2) , (S k 4 - j2).toNat = N → zG x LX 29 [some (zr k), some (zi t), some (zi g), some (zi i), some (zi j2)] ([] : List zV) S2 := by
        intro N
        induction N using Nat.strongRecOn with
        | _ N ih29 => ?_
        intro j2 S2 hj hF2 hn2 hM hN29
        have h42 := hF2 k 4 (by omega)
        refine z_iload (pc := 29) h dX7_findNear_29 rfl ?_
        refine z_aload_n (pc := 31) h dX7_findNear_31 rfl ?_
        refine z_getI (pc := 32) h dX7_findNear_32 clX7 lkX7_35 (by decide) hk.1 rfl ?_
        refine z_icmp_ge (pc := 35) (tgt := 69) h dX7_findNear_35 (by decide) ⟨by omega, by omega⟩ ⟨by omega, by omega⟩ (fun hc35 => ?_) (fun hc35 => ?_)
        ·
          refine z_iinc (pc := 69) (loc' := [some (zr k), some (zi t), some (zi g), some (zi (i + 1)), some (zi j2)]) h dX7_findNear_69 rfl (Nat.le_of_ble_eq_true rfl) rfl rfl ?_
          refine z_goto (pc := 72) (tgt := 2) h dX7_findNear_72 (by decide) ?_
          refine z_forget [true, true, true, true, false] (loc' := [some (zr k), some (zi t), some (zi g), some (zi (i + 1)), none]) rfl ?_
          exact ih2 _ (by omega) (i + 1) S2 (by omega) (by exact hF2) (by intro p hp; by_cases hpi : p = i.toNat; (subst hpi; rw [show ((i.toNat : Nat) : Int) = i by omega, show S k 4 = j2 by omega]; exact hM); exact hn2 p (by omega)) rfl
        ·
          have hE := pvX_e (S := S) (S1 := S2) (k := k) h42 (fun j => hF2 _ _ (by omega))
          have ho9 : okS S2 k := ⟨by rw [hF2 _ _ (by omega)]; exact ho1, by rw [hF2 _ _ (by omega)]; exact ho2, by rw [hF2 _ _ (by omega)]; exact ho3, fun j => by rw [hF2 _ _ (by omega)]; exact ho.2.2.2.1 j, fun j => by rw [hF2 _ _ (by omega)]; exact ho.2.2.2.2 j⟩
          have hsb := stepF_b hg hQ i j2
          refine z_aload_n (pc := 38) h dX7_findNear_38 rfl ?_
          refine z_iload_n (pc := 39) h dX7_findNear_39 rfl ?_
          refine z_iload (pc := 40) h dX7_findNear_40 rfl ?_
          refine z_iload_n (pc := 42) h dX7_findNear_42 rfl ?_
          refine z_callV (pc := 43) (rest := ([] : List zV)) h (m_X7_stepBetween k i j2 g S2 (by assumption) (by first | assumption | omega) ⟨by omega, by omega⟩ ⟨by omega, by omega⟩ (by first | assumption | omega)) dX7_findNear_43 mcX7_stepBetween miX7_stepBetween mlX7_63 rfl rfl ⟨by decide, by decide⟩ clX7 hk.1 rfl rfl (Nat.le_of_ble_eq_true rfl) ?_
          rintro _ _ ⟨rfl, rfl⟩
          show zG x LX 46 [some (zr k), some (zi t), some (zi g), some (zi i), some (zi j2)] [zi (stepF g (pvX S2 k) i j2)] S2
          rw [hE]
          refine zG_eq (st' := [zi (stepF g (pvX S k) i j2)]) ?_ rfl rfl rfl rfl
          have hMb := nrB_b hM
          have hpw := pw_b (j := j2) (by omega)
          refine z_iload_n (pc := 46) h dX7_findNear_46 rfl ?_
          refine z_icmp_gt (pc := 47) (tgt := 63) h dX7_findNear_47 (by decide) ⟨by omega, by omega⟩ ⟨by omega, by omega⟩ (fun hc47 => ?_) (fun hc47 => ?_)
          ·
            refine z_iinc (pc := 63) (loc' := [some (zr k), some (zi t), some (zi g), some (zi i), some (zi (j2 + 1))]) h dX7_findNear_63 rfl (Nat.le_of_ble_eq_true rfl) rfl rfl ?_
            refine z_goto (pc := 66) (tgt := 29) h dX7_findNear_66 (by decide) ?_
            exact ih29 _ (by omega) (j2 + 1) S2 (by omega) (by first | (intro a b q; rw [up2_k _ _ q]; exact hF2 a b q) | exact hF2) (by first | (intro p hp; rw [up2_j _ _ (by omega)]; exact hn2 p hp) | exact hn2) (by first | (rw [up2_s]; exact nrB_or hM (by omega) (by assumption)) | exact nrB_skip hM (by assumption)) rfl
          ·
            refine z_aload_n (pc := 50) h dX7_findNear_50 rfl ?_
            refine z_getR (a := k + 3) (pc := 51) h dX7_findNear_51 clX7 lkX7_18 (by decide) hk.1 rfl ?_
            refine z_iload_n (pc := 54) h dX7_findNear_54 rfl ?_
            refine z_dup2 (pc := 55) h dX7_findNear_55 rfl rfl ?_
            refine z_iald (pc := 56) h dX7_findNear_56 hk.2.2.2 (by decide) (by omega) (by omega) ?_
            refine z_iconst (pc := 57) h dX7_findNear_57 ?_
            refine z_iload (pc := 58) h dX7_findNear_58 rfl ?_
            refine z_ishl (pc := 60) h dX7_findNear_60 ⟨by omega, by omega⟩ ?_
            refine z_ior (pc := 61) h dX7_findNear_61 ⟨by omega, by omega⟩ ⟨hpw.1, Int.le_trans hpw.2 (by decide)⟩ ?_
            refine z_iast (pc := 62) h dX7_findNear_62 hk.2.2.2 (by decide) (by omega) (by omega) ?_
            refine z_iinc (pc := 63) (loc' := [some (zr k), some (zi t), some (zi g), some (zi i), some (zi (j2 + 1))]) h dX7_findNear_63 rfl (Nat.le_of_ble_eq_true rfl) rfl rfl ?_
            refine z_goto (pc := 66) (tgt := 29) h dX7_findNear_66 (by decide) ?_
            exact ih29 _ (by omega) (j2 + 1) (up2 S2 (k + 3) i.toNat (((Int.toNat (S2 (k + 3) i.toNat)) ||| (Int.toNat (1 * 2 ^ j2.toNat)) : Nat) : Int)) (by omega) (by first | (intro a b q; rw [up2_k _ _ q]; exact hF2 a b q) | exact hF2) (by first | (intro p hp; rw [up2_j _ _ (by omega)]; exact hn2 p hp) | exact hn2) (by first | (rw [up2_s]; exact nrB_or hM (by omega) (by assumption)) | exact nrB_skip hM (by assumption)) rfl
      exact J29 _ 0 (up2 S1 (k + 3) i.toNat 0) (by omega) (by intro a b q; rw [up2_k _ _ q]; exact hF a b q) (by intro p hp; rw [up2_j _ _ (by omega)]; exact hn p hp) (by rw [up2_s]; exact nrB_0 _ _ _ _) rfl
  exact J2 _ 0 S (by omega) (by intro a b q; rfl) (by intro p hp; omega) rfl


set_option maxRecDepth 100000 in
set_option maxHeartbeats 4000000 in
theorem m_X7_fewest (k : Nat) (t g : Int) (S : SS) (hk : isStrip k) (ho : okS S k) (hn1 : 1 ≤ S k 4) (ht : 0 ≤ t ∧ t ≤ 60) (hg : 0 ≤ g ∧ g ≤ 9) : zM LX yX7_fewest cX7_fewest 6 (some .int) 4 91 [zr k, zi t, zi g] S (fun r S' => r = some (zi ((fewF g (pvX S k) (S k 4) t : Nat) : Int)) ∧ (∀ a b, a ≠ k + 3 → S' a b = S a b)) := by
  refine zM_of (own := RX7) rfl (by decide +kernel) [some (zr k), some (zi t), some (zi g), none, none, none] (Nat.le_of_ble_eq_true rfl) rfl ?_
  intro x h
  have ho1 := ho.1
  have ho2 := ho.2.1
  have ho3 := ho.2.2.1
  have hQ := pvX_b ho
  obtain ⟨n, hn⟩ : ∃ n : Nat, S k 4 = (n : Int) := ⟨(S k 4).toNat, by omega⟩
  have hpw : 2 ^ n ≤ 4096 := Nat.le_trans (Nat.pow_le_pow_right (by decide) (show n ≤ 12 by omega)) (by decide)
  have hpw1 : 2 ≤ 2 ^ n := Nat.le_trans (by decide) (Nat.pow_le_pow_right (by decide) (show 1 ≤ n by omega))
  obtain ⟨w, hw⟩ : ∃ w : Int, w = ((2 ^ n - 1 : Nat) : Int) := ⟨_, rfl⟩
  have hcast : ((2 : Int) ^ n) = ((2 ^ n : Nat) : Int) := (Int.natCast_pow 2 n).symm
  refine z_aload_n (pc := 0) h dX7_fewest_0 rfl ?_
  refine z_iload_n (pc := 1) h dX7_fewest_1 rfl ?_
  refine z_iload_n (pc := 2) h dX7_fewest_2 rfl ?_
  refine z_callV (pc := 3) (rest := ([] : List zV)) h (m_X7_findNear k t g S (by assumption) (by first | assumption | omega) (by first | assumption | omega) (by first | assumption | omega)) dX7_fewest_3 mcX7_findNear miX7_findNear mlX7_72 rfl rfl ⟨by decide, by decide⟩ clX7 hk.1 rfl rfl (Nat.le_of_ble_eq_true rfl) ?_
  rintro _ S3 ⟨rfl, hr3f, hr3n⟩
  show zG x LX 6 [some (zr k), some (zi t), some (zi g), none, none, none] ([] : List zV) S3
  have h4 := hr3f k 4 (by omega)
  have ho9 : okS S3 k := ⟨by rw [hr3f _ _ (by omega)]; exact ho1, by rw [hr3f _ _ (by omega)]; exact ho2, by rw [hr3f _ _ (by omega)]; exact ho3, fun j => by rw [hr3f _ _ (by omega)]; exact ho.2.2.2.1 j, fun j => by rw [hr3f _ _ (by omega)]; exact ho.2.2.2.2 j⟩
  have hN9 : nearP S3 k g (pvX S k) (S3 k 4) t (S3 k 4) := by rw [h4]; exact hr3n
  refine z_iconst (pc := 6) h dX7_fewest_6 ?_
  refine z_aload_n (pc := 7) h dX7_fewest_7 rfl ?_
  refine z_getI (pc := 8) h dX7_fewest_8 clX7 lkX7_35 (by decide) hk.1 rfl ?_
  refine z_ishl (pc := 11) h dX7_fewest_11 ⟨by omega, by omega⟩ ?_
  refine z_iconst (pc := 12) h dX7_fewest_12 ?_
  refine z_isub (pc := 13) h dX7_fewest_13 ?_
  refine z_cv (b := w) (by rw [h4, hn, Int.toNat_natCast, Int.one_mul, hcast, hw]; omega) ?_
  refine z_istore_n (pc := 14) (loc' := [some (zr k), some (zi t), some (zi g), some (zi w), none, none]) h dX7_fewest_14 rfl (Nat.le_of_ble_eq_true rfl) rfl rfl ?_
  refine z_iload_n (pc := 15) h dX7_fewest_15 rfl ?_
  refine z_istore (pc := 16) (loc' := [some (zr k), some (zi t), some (zi g), some (zi w), some (zi w), none]) h dX7_fewest_16 (Nat.le_of_ble_eq_true rfl) rfl rfl ?_
  refine z_iconst (pc := 18) h dX7_fewest_18 ?_
  refine z_istore (pc := 19) (loc' := [some (zr k), some (zi t), some (zi g), some (zi w), some (zi w), some (zi 1)]) h dX7_fewest_19 (Nat.le_of_ble_eq_true rfl) rfl rfl ?_
  have J21 : ∀ (N : Nat) (b c : Int) (hc : 1 ≤ c ∧ c ≤ w) (hb : 1 ≤ b ∧ b ≤ w) (hI : fewR (reachB g (pvX S k) (S k 4) t) (w - c).toNat c.toNat b.toNat = fewF g (pvX S k) (S k 4) t) , (w - c).toNat = N → zG x LX 21 [some (zr k), some (zi t), some (zi g), some (zi w), some (zi b), some (zi c)] ([] : List zV) S3 := by
    intro N
    induction N using Nat.strongRecOn with
    | _ N ih21 => ?_
    intro b c hc hb hI hN21
    refine z_iload (pc := 21) h dX7_fewest_21 rfl ?_
    refine z_iload_n (pc := 23) h dX7_fewest_23 rfl ?_
    refine z_icmp_ge (pc := 24) (tgt := 59) h dX7_fewest_24 (by decide) ⟨by omega, by omega⟩ ⟨by omega, by omega⟩ (fun hc24 => ?_) (fun hc24 => ?_)
    ·
      refine z_iload (pc := 59) h dX7_fewest_59 rfl ?_
      exact z_iret (pc := 61) h dX7_fewest_61 rfl (⟨congrArg (fun z => some (zi z)) (by rw [few_0 (by omega)] at hI; omega), hr3f⟩)
    ·
      have pb1 := popc_b c.toNat
      have pb2 := popc_b b.toNat
      rw [few_s (r' := (w - (c + 1)).toNat) (by omega)] at hI
      refine z_iload (pc := 27) h dX7_fewest_27 rfl ?_
      refine z_callS (pc := 29) (rest := ([] : List zV)) h (m_J6_bitCount_0f7a4 c S3 (by first | assumption | omega)) dX7_fewest_29 mcJ6_bitCount_0f7a4 msJ6_bitCount_0f7a4 mlX7_76 rfl rfl ⟨by decide, by decide⟩ rfl (Nat.le_of_ble_eq_true rfl) ?_
      rintro _ _ ⟨rfl, rfl⟩
      show zG x LX 32 [some (zr k), some (zi t), some (zi g), some (zi w), some (zi b), some (zi c)] [zi (popc c.toNat : Nat)] S3
      refine z_iload (pc := 32) h dX7_fewest_32 rfl ?_
      refine z_callS (pc := 34) (rest := [zi (popc c.toNat : Nat)]) h (m_J6_bitCount_0f7a4 b S3 (by first | assumption | omega)) dX7_fewest_34 mcJ6_bitCount_0f7a4 msJ6_bitCount_0f7a4 mlX7_76 rfl rfl ⟨by decide, by decide⟩ rfl (Nat.le_of_ble_eq_true rfl) ?_
      rintro _ _ ⟨rfl, rfl⟩
      show zG x LX 37 [some (zr k), some (zi t), some (zi g), some (zi w), some (zi b), some (zi c)] [zi (popc b.toNat : Nat), zi (popc c.toNat : Nat)] S3
      refine z_icmp_ge (pc := 37) (tgt := 53) h dX7_fewest_37 (by decide) ⟨by omega, by omega⟩ ⟨by omega, by omega⟩ (fun hc37 => ?_) (fun hc37 => ?_)
      ·
        refine z_iinc (pc := 53) (loc' := [some (zr k), some (zi t), some (zi g), some (zi w), some (zi b), some (zi (c + 1))]) h dX7_fewest_53 rfl (Nat.le_of_ble_eq_true rfl) rfl rfl ?_
        refine z_goto (pc := 56) (tgt := 21) h dX7_fewest_56 (by decide) ?_
        exact ih21 _ (by omega) b (c + 1) (by omega) (by omega) (by rw [show (c + 1).toNat = c.toNat + 1 by omega]; rw [h4] at *; first | (rw [if_pos ⟨by omega, by assumption⟩] at hI; exact hI) | (rw [if_neg (fun q => by omega)] at hI; exact hI) | (rw [if_neg (fun q => absurd q.2 (by assumption))] at hI; exact hI)) rfl
      ·
        refine z_aload_n (pc := 40) h dX7_fewest_40 rfl ?_
        refine z_iload (pc := 41) h dX7_fewest_41 rfl ?_
        refine z_callV (pc := 43) (rest := ([] : List zV)) h (m_X7_reaches k c g (pvX S k) t S3 (by assumption) (by first | assumption | omega) (by first | assumption | omega) (by first | assumption | omega)) dX7_fewest_43 mcX7_reaches miX7_reaches mlX7_81 rfl rfl ⟨by decide, by decide⟩ clX7 hk.1 rfl rfl (Nat.le_of_ble_eq_true rfl) ?_
        rintro _ _ ⟨rfl, ⟨hr43, rfl⟩ | ⟨hr43, rfl⟩⟩
        ·
          show zG x LX 46 [some (zr k), some (zi t), some (zi g), some (zi w), some (zi b), some (zi c)] [zi 1] S3
          refine z_if_eq (pc := 46) (tgt := 53) h dX7_fewest_46 (by decide) ⟨by decide, by decide⟩ (fun hc46 => absurd hc46 (by decide)) (fun hc46 => ?_)
          refine z_iload (pc := 49) h dX7_fewest_49 rfl ?_
          refine z_istore (pc := 51) (loc' := [some (zr k), some (zi t), some (zi g), some (zi w), some (zi c), some (zi c)]) h dX7_fewest_51 (Nat.le_of_ble_eq_true rfl) rfl rfl ?_
          refine z_iinc (pc := 53) (loc' := [some (zr k), some (zi t), some (zi g), some (zi w), some (zi c), some (zi (c + 1))]) h dX7_fewest_53 rfl (Nat.le_of_ble_eq_true rfl) rfl rfl ?_
          refine z_goto (pc := 56) (tgt := 21) h dX7_fewest_56 (by decide) ?_
          exact ih21 _ (by omega) c (c + 1) (by omega) (by omega) (by rw [show (c + 1).toNat = c.toNat + 1 by omega]; rw [h4] at *; first | (rw [if_pos ⟨by omega, by assumption⟩] at hI; exact hI) | (rw [if_neg (fun q => by omega)] at hI; exact hI) | (rw [if_neg (fun q => absurd q.2 (by assumption))] at hI; exact hI)) rfl
        ·
          show zG x LX 46 [some (zr k), some (zi t), some (zi g), some (zi w), some (zi b), some (zi c)] [zi 0] S3
          refine z_if_eq (pc := 46) (tgt := 53) h dX7_fewest_46 (by decide) ⟨by decide, by decide⟩ (fun hc46 => ?_) (fun hc46 => absurd hc46 (by decide))
          refine z_iinc (pc := 53) (loc' := [some (zr k), some (zi t), some (zi g), some (zi w), some (zi b), some (zi (c + 1))]) h dX7_fewest_53 rfl (Nat.le_of_ble_eq_true rfl) rfl rfl ?_
          refine z_goto (pc := 56) (tgt := 21) h dX7_fewest_56 (by decide) ?_
          exact ih21 _ (by omega) b (c + 1) (by omega) (by omega) (by rw [show (c + 1).toNat = c.toNat + 1 by omega]; rw [h4] at *; first | (rw [if_pos ⟨by omega, by assumption⟩] at hI; exact hI) | (rw [if_neg (fun q => by omega)] at hI; exact hI) | (rw [if_neg (fun q => absurd q.2 (by assumption))] at hI; exact hI)) rfl
  exact J21 _ w 1 (by omega) (by omega) (by unfold fewF; rw [hn, Int.toNat_natCast]; congr 1 <;> omega) rfl

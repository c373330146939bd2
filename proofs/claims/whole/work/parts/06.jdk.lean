/-! small functions -/
def absI (a : Int) : Int := if a < 0 then -a else a
theorem absI_0 (a : Int) : 0 ≤ absI a := by unfold absI; split <;> omega
theorem absI_n {a : Int} (h : a < 0) : absI a = -a := if_pos h
theorem absI_p {a : Int} (h : 0 ≤ a) : absI a = a := if_neg (by omega)
def nearF (a b : Int) : Int := (2 * a + b - 1) / (2 * b)

set_option maxRecDepth 100000 in
set_option maxHeartbeats 4000000 in
theorem m_J9_abs_0f7a4 (a : Int) (S : SS) (ha : r32 a) : zM LX yJ9_abs_0f7a4 cJ9_abs_0f7a4 1 (some .int) 0 0 [zi a] S (fun r S' => S = S' ∧ r = some (zi (absI a))) := by
  refine zM_ofF (own := RJ9) rfl (by decide +kernel) [some (zi a)] (Nat.le_of_ble_eq_true rfl) rfl ?_
  intro x h
  refine z_iload_n (pc := 0) h dJ9_abs_0f7a4_0 rfl ?_
  refine z_if_ge (pc := 1) (tgt := 9) h dJ9_abs_0f7a4_1 (by decide) ⟨by omega, by omega⟩ (fun hc1 => ?_) (fun hc1 => ?_)
  ·
    refine z_iload_n (pc := 9) h dJ9_abs_0f7a4_9 rfl ?_
    exact z_iret (pc := 10) h dJ9_abs_0f7a4_10 rfl ⟨rfl, congrArg (fun z => some (zi z)) (by first | exact (absI_n (by omega)).symm | exact (absI_p (by omega)).symm)⟩
  ·
    refine z_iload_n (pc := 4) h dJ9_abs_0f7a4_4 rfl ?_
    refine z_ineg (pc := 5) h dJ9_abs_0f7a4_5 ?_
    refine z_goto (pc := 6) (tgt := 10) h dJ9_abs_0f7a4_6 (by decide) ?_
    exact z_iret (pc := 10) h dJ9_abs_0f7a4_10 rfl ⟨rfl, congrArg (fun z => some (zi z)) (by first | exact (absI_n (by omega)).symm | exact (absI_p (by omega)).symm)⟩

set_option maxRecDepth 100000 in
set_option maxHeartbeats 4000000 in
theorem m_J9_max_7cf53 (a b : Int) (S : SS) (ha : r32 a) (hb : r32 b) : zM LX yJ9_max_7cf53 cJ9_max_7cf53 2 (some .int) 0 0 [zi a, zi b] S (fun r S' => S = S' ∧ r = some (zi (max a b))) := by
  refine zM_ofF (own := RJ9) rfl (by decide +kernel) [some (zi a), some (zi b)] (Nat.le_of_ble_eq_true rfl) rfl ?_
  intro x h
  refine z_iload_n (pc := 0) h dJ9_max_7cf53_0 rfl ?_
  refine z_iload_n (pc := 1) h dJ9_max_7cf53_1 rfl ?_
  refine z_icmp_lt (pc := 2) (tgt := 9) h dJ9_max_7cf53_2 (by decide) ⟨by omega, by omega⟩ ⟨by omega, by omega⟩ (fun hc2 => ?_) (fun hc2 => ?_)
  ·
    refine z_iload_n (pc := 9) h dJ9_max_7cf53_9 rfl ?_
    exact z_iret (pc := 10) h dJ9_max_7cf53_10 rfl ⟨rfl, congrArg (fun z => some (zi z)) (by omega)⟩
  ·
    refine z_iload_n (pc := 5) h dJ9_max_7cf53_5 rfl ?_
    refine z_goto (pc := 6) (tgt := 10) h dJ9_max_7cf53_6 (by decide) ?_
    exact z_iret (pc := 10) h dJ9_max_7cf53_10 rfl ⟨rfl, congrArg (fun z => some (zi z)) (by omega)⟩

set_option maxRecDepth 100000 in
set_option maxHeartbeats 4000000 in
theorem m_J9_min_7cf53 (a b : Int) (S : SS) (ha : r32 a) (hb : r32 b) : zM LX yJ9_min_7cf53 cJ9_min_7cf53 2 (some .int) 0 0 [zi a, zi b] S (fun r S' => S = S' ∧ r = some (zi (min a b))) := by
  refine zM_ofF (own := RJ9) rfl (by decide +kernel) [some (zi a), some (zi b)] (Nat.le_of_ble_eq_true rfl) rfl ?_
  intro x h
  refine z_iload_n (pc := 0) h dJ9_min_7cf53_0 rfl ?_
  refine z_iload_n (pc := 1) h dJ9_min_7cf53_1 rfl ?_
  refine z_icmp_gt (pc := 2) (tgt := 9) h dJ9_min_7cf53_2 (by decide) ⟨by omega, by omega⟩ ⟨by omega, by omega⟩ (fun hc2 => ?_) (fun hc2 => ?_)
  ·
    refine z_iload_n (pc := 9) h dJ9_min_7cf53_9 rfl ?_
    exact z_iret (pc := 10) h dJ9_min_7cf53_10 rfl ⟨rfl, congrArg (fun z => some (zi z)) (by omega)⟩
  ·
    refine z_iload_n (pc := 5) h dJ9_min_7cf53_5 rfl ?_
    refine z_goto (pc := 6) (tgt := 10) h dJ9_min_7cf53_6 (by decide) ?_
    exact z_iret (pc := 10) h dJ9_min_7cf53_10 rfl ⟨rfl, congrArg (fun z => some (zi z)) (by omega)⟩

theorem tmod_p {a b : Int} (hb : 0 < b) : (0 ≤ a → a.tmod b = a % b) ∧ (a < 0 → a.tmod b = 0 → a % b = 0) ∧ (a < 0 → a.tmod b ≠ 0 → a.tmod b + b = a % b) ∧ (a < 0 → a.tmod b ≤ 0) ∧ a.tdiv b * b = a - a.tmod b := by
  have h := @Int.tmod_eq_emod a b
  have h1 := Int.emod_nonneg a (by omega : b ≠ 0)
  have h2 := Int.emod_lt_of_pos a hb
  refine ⟨fun h0 => Int.tmod_eq_emod_of_nonneg h0, fun h0 h3 => ?_, fun h0 h3 => ?_, fun h0 => ?_, ?_⟩
  · split at h
    · omega
    · omega
  · split at h
    · next hc =>
      rcases hc with hc | hc
      · omega
      · have := Int.emod_eq_zero_of_dvd hc
        omega
    · omega
  · split at h
    · next hc =>
      rcases hc with hc | hc
      · omega
      · have := Int.emod_eq_zero_of_dvd hc
        omega
    · omega
  · rw [Int.tmod_def, Int.mul_comm b]
    omega
theorem tdiv_p {a b : Int} (hb : 0 < b) : (0 ≤ a → a.tdiv b = a / b) ∧ (a.tdiv b * b = a → a.tdiv b = a / b) ∧ (a < 0 → a.tdiv b * b ≠ a → a.tdiv b - 1 = a / b) := by
  have h := @Int.tdiv_eq_ediv a b
  refine ⟨fun h0 => Int.tdiv_eq_ediv_of_nonneg h0, fun h3 => ?_, fun h0 h3 => ?_⟩
  · have hd : b ∣ a := ⟨a.tdiv b, by rw [Int.mul_comm]; exact h3.symm⟩
    exact Int.tdiv_eq_ediv_of_dvd hd
  · have hs : b.sign = 1 := Int.sign_eq_one_of_pos hb
    split at h
    · next hc =>
      rcases hc with hc | hc
      · omega
      · exact absurd (Int.tdiv_mul_cancel hc) h3
    · omega

set_option maxRecDepth 100000 in
set_option maxHeartbeats 4000000 in
theorem m_J9_floorMod_7cf53 (a b : Int) (S : SS) (ha : r32 a) (hb : 0 < b ∧ b ≤ 2147483647) : zM LX yJ9_floorMod_7cf53 cJ9_floorMod_7cf53 3 (some .int) 0 0 [zi a, zi b] S (fun r S' => S = S' ∧ r = some (zi (a % b))) := by
  refine zM_ofF (own := RJ9) rfl (by decide +kernel) [some (zi a), some (zi b), none] (Nat.le_of_ble_eq_true rfl) rfl ?_
  intro x h
  have ht := tmod_p (a := a) hb.1
  have hu := tmod_bounds (a := a) hb.1
  refine z_iload_n (pc := 0) h dJ9_floorMod_7cf53_0 rfl ?_
  refine z_iload_n (pc := 1) h dJ9_floorMod_7cf53_1 rfl ?_
  refine z_irem (pc := 2) h dJ9_floorMod_7cf53_2 ⟨by omega, by omega⟩ ⟨by omega, by omega⟩ (by omega) ?_
  refine z_istore_n (pc := 3) (loc' := [some (zi a), some (zi b), some (zi (a.tmod b))]) h dJ9_floorMod_7cf53_3 rfl (Nat.le_of_ble_eq_true rfl) rfl rfl ?_
  refine z_iload_n (pc := 4) h dJ9_floorMod_7cf53_4 rfl ?_
  refine z_iload_n (pc := 5) h dJ9_floorMod_7cf53_5 rfl ?_
  refine z_ixor (pc := 6) h dJ9_floorMod_7cf53_6 ⟨by omega, by omega⟩ ⟨by omega, by omega⟩ (fun v6 hx6 hxr6 => ?_)
  refine z_if_ge (pc := 7) (tgt := 18) h dJ9_floorMod_7cf53_7 (by decide) hxr6 (fun hc7 => ?_) (fun hc7 => ?_)
  ·
    refine z_iload_n (pc := 18) h dJ9_floorMod_7cf53_18 rfl ?_
    exact z_iret (pc := 19) h dJ9_floorMod_7cf53_19 rfl ⟨rfl, congrArg (fun z => some (zi z)) (by omega)⟩
  ·
    refine z_iload_n (pc := 10) h dJ9_floorMod_7cf53_10 rfl ?_
    refine z_if_eq (pc := 11) (tgt := 18) h dJ9_floorMod_7cf53_11 (by decide) ⟨by omega, by omega⟩ (fun hc11 => ?_) (fun hc11 => ?_)
    ·
      refine z_iload_n (pc := 18) h dJ9_floorMod_7cf53_18 rfl ?_
      exact z_iret (pc := 19) h dJ9_floorMod_7cf53_19 rfl ⟨rfl, congrArg (fun z => some (zi z)) (by omega)⟩
    ·
      refine z_iload_n (pc := 14) h dJ9_floorMod_7cf53_14 rfl ?_
      refine z_iload_n (pc := 15) h dJ9_floorMod_7cf53_15 rfl ?_
      refine z_iadd (pc := 16) h dJ9_floorMod_7cf53_16 ?_
      exact z_iret (pc := 17) h dJ9_floorMod_7cf53_17 rfl ⟨rfl, congrArg (fun z => some (zi z)) (by omega)⟩

set_option maxRecDepth 100000 in
set_option maxHeartbeats 4000000 in
theorem m_J9_floorDiv_7cf53 (a b : Int) (S : SS) (ha : r32 a) (hb : 0 < b ∧ b ≤ 2147483647) : zM LX yJ9_floorDiv_7cf53 cJ9_floorDiv_7cf53 3 (some .int) 0 0 [zi a, zi b] S (fun r S' => S = S' ∧ r = some (zi (a / b))) := by
  refine zM_ofF (own := RJ9) rfl (by decide +kernel) [some (zi a), some (zi b), none] (Nat.le_of_ble_eq_true rfl) rfl ?_
  intro x h
  have ht := tdiv_p (a := a) hb.1
  have ht2 := tmod_p (a := a) hb.1
  have hu := tmod_bounds (a := a) hb.1
  refine z_iload_n (pc := 0) h dJ9_floorDiv_7cf53_0 rfl ?_
  refine z_iload_n (pc := 1) h dJ9_floorDiv_7cf53_1 rfl ?_
  refine z_idiv (pc := 2) h dJ9_floorDiv_7cf53_2 ⟨by omega, by omega⟩ ⟨by omega, by omega⟩ (by omega) ?_
  refine z_istore_n (pc := 3) (loc' := [some (zi a), some (zi b), some (zi (a.tdiv b))]) h dJ9_floorDiv_7cf53_3 rfl (Nat.le_of_ble_eq_true rfl) rfl rfl ?_
  refine z_iload_n (pc := 4) h dJ9_floorDiv_7cf53_4 rfl ?_
  refine z_iload_n (pc := 5) h dJ9_floorDiv_7cf53_5 rfl ?_
  refine z_ixor (pc := 6) h dJ9_floorDiv_7cf53_6 ⟨by omega, by omega⟩ ⟨by omega, by omega⟩ (fun v6 hx6 hxr6 => ?_)
  refine z_if_ge (pc := 7) (tgt := 21) h dJ9_floorDiv_7cf53_7 (by decide) hxr6 (fun hc7 => ?_) (fun hc7 => ?_)
  ·
    refine z_iload_n (pc := 21) h dJ9_floorDiv_7cf53_21 rfl ?_
    exact z_iret (pc := 22) h dJ9_floorDiv_7cf53_22 rfl ⟨rfl, congrArg (fun z => some (zi z)) (by omega)⟩
  ·
    refine z_iload_n (pc := 10) h dJ9_floorDiv_7cf53_10 rfl ?_
    refine z_iload_n (pc := 11) h dJ9_floorDiv_7cf53_11 rfl ?_
    refine z_imul (pc := 12) h dJ9_floorDiv_7cf53_12 ?_
    refine z_iload_n (pc := 13) h dJ9_floorDiv_7cf53_13 rfl ?_
    refine z_icmp_eq (pc := 14) (tgt := 21) h dJ9_floorDiv_7cf53_14 (by decide) ⟨by omega, by omega⟩ ⟨by omega, by omega⟩ (fun hc14 => ?_) (fun hc14 => ?_)
    ·
      refine z_iload_n (pc := 21) h dJ9_floorDiv_7cf53_21 rfl ?_
      exact z_iret (pc := 22) h dJ9_floorDiv_7cf53_22 rfl ⟨rfl, congrArg (fun z => some (zi z)) (by omega)⟩
    ·
      refine z_iload_n (pc := 17) h dJ9_floorDiv_7cf53_17 rfl ?_
      refine z_iconst (pc := 18) h dJ9_floorDiv_7cf53_18 ?_
      refine z_isub (pc := 19) h dJ9_floorDiv_7cf53_19 ?_
      exact z_iret (pc := 20) h dJ9_floorDiv_7cf53_20 rfl ⟨rfl, congrArg (fun z => some (zi z)) (by omega)⟩

def popc (n : Nat) : Nat := n % 2 + n / 2 % 2 + n / 4 % 2 + n / 8 % 2 + n / 16 % 2 + n / 32 % 2 + n / 64 % 2 + n / 128 % 2 + n / 256 % 2 + n / 512 % 2 + n / 1024 % 2 + n / 2048 % 2
def bc1 (n : Nat) : Nat := n - (n / 2 ^ 1 &&& 1431655765)
def bc2 (m : Nat) : Nat := (m &&& 858993459) + (m / 2 ^ 2 &&& 858993459)
def bc3 (m : Nat) : Nat := m + m / 2 ^ 4 &&& 252645135
def bc4 (m : Nat) : Nat := m + m / 2 ^ 8
def bc5 (m : Nat) : Nat := m + m / 2 ^ 16
theorem bc_all : (List.range 4096).all (fun n => decide ((n / 2 ^ 1 &&& 1431655765) ≤ n ∧ bc1 n < 100000 ∧ bc2 (bc1 n) < 100000 ∧ bc3 (bc2 (bc1 n)) < 100000 ∧ bc4 (bc3 (bc2 (bc1 n))) < 100000 ∧ (bc5 (bc4 (bc3 (bc2 (bc1 n)))) &&& 63) = popc n ∧ bc5 (bc4 (bc3 (bc2 (bc1 n)))) < 1000000)) = true := by decide +kernel
theorem bc_key {n : Nat} (h : n < 4096) : (n / 2 ^ 1 &&& 1431655765) ≤ n ∧ bc1 n < 100000 ∧ bc2 (bc1 n) < 100000 ∧ bc3 (bc2 (bc1 n)) < 100000 ∧ bc4 (bc3 (bc2 (bc1 n))) < 100000 ∧ (bc5 (bc4 (bc3 (bc2 (bc1 n)))) &&& 63) = popc n ∧ bc5 (bc4 (bc3 (bc2 (bc1 n)))) < 1000000 :=
  of_decide_eq_true (List.all_eq_true.mp bc_all n (List.mem_range.mpr h))

set_option maxRecDepth 100000 in
set_option maxHeartbeats 4000000 in
theorem m_J6_bitCount_0f7a4 (a : Int) (S : SS) (ha : 0 ≤ a ∧ a < 4096) : zM LX yJ6_bitCount_0f7a4 cJ6_bitCount_0f7a4 1 (some .int) 0 0 [zi a] S (fun r S' => S = S' ∧ r = some (zi ((popc a.toNat : Nat)))) := by
  refine zM_of (own := RJ6) rfl (by decide +kernel) [some (zi a)] (Nat.le_of_ble_eq_true rfl) rfl ?_
  intro x h
  obtain ⟨n, rfl⟩ : ∃ n : Nat, a = (n : Int) := ⟨a.toNat, by omega⟩
  obtain ⟨k1, k2, k3, k4, k5, k6, k7⟩ := bc_key (n := n) (by omega)
  refine z_iload_n (pc := 0) h dJ6_bitCount_0f7a4_0 rfl ?_
  refine z_iload_n (pc := 1) h dJ6_bitCount_0f7a4_1 rfl ?_
  refine z_iconst (pc := 2) h dJ6_bitCount_0f7a4_2 ?_
  refine z_iushr (pc := 3) (n := 1) h dJ6_bitCount_0f7a4_3 ⟨by omega, by omega⟩ (by decide) ?_
  refine z_ldcw (pc := 4) (a := 1431655765) h kcJ6_265 dJ6_bitCount_0f7a4_4 (by decide) ?_
  refine z_iand (pc := 7) h dJ6_bitCount_0f7a4_7 ⟨by omega, by omega⟩ ⟨by decide, by decide⟩ ?_
  refine z_isub (pc := 8) h dJ6_bitCount_0f7a4_8 ?_
  refine z_cv (b := ((bc1 n : Nat) : Int)) (by show (n : Int) - ((n / 2 ^ 1 &&& 1431655765 : Nat) : Int) = ((n - (n / 2 ^ 1 &&& 1431655765) : Nat) : Int); omega) ?_
  refine z_istore_n (pc := 9) (loc' := [some (zi ((bc1 n : Nat) : Int))]) h dJ6_bitCount_0f7a4_9 rfl (Nat.le_of_ble_eq_true rfl) rfl rfl ?_
  refine z_iload_n (pc := 10) h dJ6_bitCount_0f7a4_10 rfl ?_
  refine z_ldcw (pc := 11) (a := 858993459) h kcJ6_266 dJ6_bitCount_0f7a4_11 (by decide) ?_
  refine z_iand (pc := 14) h dJ6_bitCount_0f7a4_14 ⟨by omega, by omega⟩ ⟨by decide, by decide⟩ ?_
  refine z_iload_n (pc := 15) h dJ6_bitCount_0f7a4_15 rfl ?_
  refine z_iconst (pc := 16) h dJ6_bitCount_0f7a4_16 ?_
  refine z_iushr (pc := 17) (n := 2) h dJ6_bitCount_0f7a4_17 ⟨by omega, by omega⟩ (by decide) ?_
  refine z_ldcw (pc := 18) (a := 858993459) h kcJ6_266 dJ6_bitCount_0f7a4_18 (by decide) ?_
  refine z_iand (pc := 21) h dJ6_bitCount_0f7a4_21 ⟨by omega, by omega⟩ ⟨by decide, by decide⟩ ?_
  refine z_iadd (pc := 22) h dJ6_bitCount_0f7a4_22 ?_
  refine z_cv (b := ((bc2 (bc1 n) : Nat) : Int)) (by exact (Int.natCast_add _ _).symm) ?_
  refine z_istore_n (pc := 23) (loc' := [some (zi ((bc2 (bc1 n) : Nat) : Int))]) h dJ6_bitCount_0f7a4_23 rfl (Nat.le_of_ble_eq_true rfl) rfl rfl ?_
  refine z_iload_n (pc := 24) h dJ6_bitCount_0f7a4_24 rfl ?_
  refine z_iload_n (pc := 25) h dJ6_bitCount_0f7a4_25 rfl ?_
  refine z_iconst (pc := 26) h dJ6_bitCount_0f7a4_26 ?_
  refine z_iushr (pc := 27) (n := 4) h dJ6_bitCount_0f7a4_27 ⟨by omega, by omega⟩ (by decide) ?_
  refine z_iadd (pc := 28) h dJ6_bitCount_0f7a4_28 ?_
  refine z_cv (b := (((bc2 (bc1 n)) + (bc2 (bc1 n)) / 2 ^ 4 : Nat) : Int)) (by exact (Int.natCast_add _ _).symm) ?_
  refine z_ldcw (pc := 29) (a := 252645135) h kcJ6_267 dJ6_bitCount_0f7a4_29 (by decide) ?_
  refine z_iand (pc := 32) h dJ6_bitCount_0f7a4_32 ⟨Int.natCast_nonneg _, by have := k3; omega⟩ ⟨by decide, by decide⟩ ?_
  refine z_cv (b := ((bc3 (bc2 (bc1 n)) : Nat) : Int)) (by exact congrArg (fun z : Nat => (z : Int)) rfl) ?_
  refine z_istore_n (pc := 33) (loc' := [some (zi ((bc3 (bc2 (bc1 n)) : Nat) : Int))]) h dJ6_bitCount_0f7a4_33 rfl (Nat.le_of_ble_eq_true rfl) rfl rfl ?_
  refine z_iload_n (pc := 34) h dJ6_bitCount_0f7a4_34 rfl ?_
  refine z_iload_n (pc := 35) h dJ6_bitCount_0f7a4_35 rfl ?_
  refine z_bipush (pc := 36) h dJ6_bitCount_0f7a4_36 rfl ?_
  refine z_iushr (pc := 38) (n := 8) h dJ6_bitCount_0f7a4_38 ⟨by omega, by omega⟩ (by decide) ?_
  refine z_iadd (pc := 39) h dJ6_bitCount_0f7a4_39 ?_
  refine z_cv (b := ((bc4 (bc3 (bc2 (bc1 n))) : Nat) : Int)) (by exact (Int.natCast_add _ _).symm) ?_
  refine z_istore_n (pc := 40) (loc' := [some (zi ((bc4 (bc3 (bc2 (bc1 n))) : Nat) : Int))]) h dJ6_bitCount_0f7a4_40 rfl (Nat.le_of_ble_eq_true rfl) rfl rfl ?_
  refine z_iload_n (pc := 41) h dJ6_bitCount_0f7a4_41 rfl ?_
  refine z_iload_n (pc := 42) h dJ6_bitCount_0f7a4_42 rfl ?_
  refine z_bipush (pc := 43) h dJ6_bitCount_0f7a4_43 rfl ?_
  refine z_iushr (pc := 45) (n := 16) h dJ6_bitCount_0f7a4_45 ⟨by omega, by omega⟩ (by decide) ?_
  refine z_iadd (pc := 46) h dJ6_bitCount_0f7a4_46 ?_
  refine z_cv (b := ((bc5 (bc4 (bc3 (bc2 (bc1 n)))) : Nat) : Int)) (by exact (Int.natCast_add _ _).symm) ?_
  refine z_istore_n (pc := 47) (loc' := [some (zi ((bc5 (bc4 (bc3 (bc2 (bc1 n)))) : Nat) : Int))]) h dJ6_bitCount_0f7a4_47 rfl (Nat.le_of_ble_eq_true rfl) rfl rfl ?_
  refine z_iload_n (pc := 48) h dJ6_bitCount_0f7a4_48 rfl ?_
  refine z_bipush (pc := 49) h dJ6_bitCount_0f7a4_49 rfl ?_
  refine z_iand (pc := 51) h dJ6_bitCount_0f7a4_51 ⟨by omega, by omega⟩ ⟨by decide, by decide⟩ ?_
  exact z_iret (pc := 52) h dJ6_bitCount_0f7a4_52 rfl ⟨rfl, congrArg (fun z => some (zi z)) (by exact congrArg (fun z : Nat => (z : Int)) k6)⟩

set_option maxRecDepth 100000 in
set_option maxHeartbeats 4000000 in
theorem m_J7_fill_53178 (k : Nat) (v : Int) (S : SS) (hk : LX[k]? = some (1, 60, [])) : zM LX yJ7_fill_53178 cJ7_fill_53178 4 none 0 0 [zr k, zi v] S (fun r S' => r = none ∧ (∀ j, j < 60 → S' k j = v) ∧ ∀ a b, ¬ (a = k ∧ b < 60) → S' a b = S a b) := by
  refine zM_of (own := RJ7) rfl (by decide +kernel) [some (zr k), some (zi v), none, none] (Nat.le_of_ble_eq_true rfl) rfl ?_
  intro x h
  refine z_iconst (pc := 0) h dJ7_fill_53178_0 ?_
  refine z_istore_n (pc := 1) (loc' := [some (zr k), some (zi v), some (zi 0), none]) h dJ7_fill_53178_1 rfl (Nat.le_of_ble_eq_true rfl) rfl rfl ?_
  refine z_aload_n (pc := 2) h dJ7_fill_53178_2 rfl ?_
  refine z_alen (pc := 3) h dJ7_fill_53178_3 hk ?_
  refine z_istore_n (pc := 4) (loc' := [some (zr k), some (zi v), some (zi 0), some (zi 60)]) h dJ7_fill_53178_4 rfl (Nat.le_of_ble_eq_true rfl) rfl rfl ?_
  have J5 : ∀ (N : Nat) (i : Int) (S1 : SS) (h0 : 0 ≤ i) (h1 : i ≤ 60) (hS : ∀ j : Nat, (j : Int) < i → S1 k j = v) (hO : ∀ a b, ¬ (a = k ∧ b < 60) → S1 a b = S a b) , (60 - i).toNat = N → zG x LX 5 [some (zr k), some (zi v), some (zi i), some (zi 60)] ([] : List zV) S1 := by
    intro N
    induction N using Nat.strongRecOn with
    | _ N ih5 => ?_
    intro i S1 h0 h1 hS hO hN5
    refine z_iload_n (pc := 5) h dJ7_fill_53178_5 rfl ?_
    refine z_iload_n (pc := 6) h dJ7_fill_53178_6 rfl ?_
    refine z_icmp_ge (pc := 7) (tgt := 20) h dJ7_fill_53178_7 (by decide) ⟨by omega, by omega⟩ ⟨by decide, by decide⟩ (fun hc7 => ?_) (fun hc7 => ?_)
    ·
      exact z_vret (pc := 20) h dJ7_fill_53178_20 rfl (⟨rfl, fun j hj => hS j (by omega), hO⟩)
    ·
      refine z_aload_n (pc := 10) h dJ7_fill_53178_10 rfl ?_
      refine z_iload_n (pc := 11) h dJ7_fill_53178_11 rfl ?_
      refine z_iload_n (pc := 12) h dJ7_fill_53178_12 rfl ?_
      refine z_iast (pc := 13) h dJ7_fill_53178_13 hk (by decide) (by omega) (by omega) ?_
      refine z_iinc (pc := 14) (loc' := [some (zr k), some (zi v), some (zi (i + 1)), some (zi 60)]) h dJ7_fill_53178_14 rfl (Nat.le_of_ble_eq_true rfl) rfl rfl ?_
      refine z_goto (pc := 17) (tgt := 5) h dJ7_fill_53178_17 (by decide) ?_
      exact ih5 _ (by omega) (i + 1) (up2 S1 k i.toNat v) (by omega) (by omega) (fun j hj => by rw [up2_e]; split; exact rfl; next hne => exact hS j (by have h9 : ¬ j = i.toNat := fun e => hne ⟨rfl, e⟩; omega)) (fun a b hab => by rw [up2_e, if_neg (by omega)]; exact hO a b hab) rfl
  exact J5 _ 0 S (by decide) (by decide) (fun j hj => by omega) (fun a b hab => rfl) rfl

/-! ORDER: the class's row and search -/
abbrev rowO (g : Int) (Q : PL) (n r tk la : Nat) : List Nat := (oR g Q n r tk la).2.2.2.2.2
theorem popk_z : ∀ m : Nat, popk 0 m = 0
  | 0 => rfl
  | m + 1 => by
    unfold popk
    rw [popk_z m, Nat.zero_div]
theorem popk_one {m : Nat} (h : 1 ≤ m) : popk 1 m = 1 := by
  have h1 := popk_set (tk := 0) (d := 0) (Nat.zero_testBit 0) m (by omega)
  rw [popk_z] at h1
  exact h1
theorem drop_s {R rest : List Nat} {i d : Nat} (h : R.drop i = d :: rest) : R.getD i 0 = d ∧ R.drop (i + 1) = rest := by
  constructor
  · rw [List.getD_eq_getElem?_getD, ← Nat.add_zero i, ← List.getElem?_drop, h]
    rfl
  · rw [← List.drop_drop, h]
    rfl
def allS (g : Int) (Q : PL) (n : Nat) (S : SS) : Prop := ∀ tk la : Nat, tk < 2 ^ n → tk.testBit 0 = true → la < n → tk.testBit la = true → setl g Q n S tk la
theorem set_0 {tk d : Nat} (h : tk.testBit 0 = true) : (tk ||| 2 ^ d).testBit 0 = true := by rw [testBit_set, h, Bool.true_or]
theorem set_d (tk d : Nat) : (tk ||| 2 ^ d).testBit d = true := by rw [testBit_set, decide_eq_true rfl, Bool.or_true]
theorem odd_0 {t : Int} (h : 0 ≤ t) (h2 : t % 2 = 1) : t.toNat.testBit 0 = true := by rw [Nat.testBit_zero, decide_eq_true_iff]; omega
theorem odd_i {tk : Nat} (h : tk.testBit 0 = true) : tk % 2 = 1 := by rw [Nat.testBit_zero, decide_eq_true_iff] at h; exact h

set_option maxRecDepth 100000 in
set_option maxHeartbeats 4000000 in
theorem m_X5_firstBest (t l : Int) (g : Int) (Q : PL) (n : Nat) (r : Nat) (S : SS) (hn : 1 ≤ n ∧ n ≤ 8) (h4 : S 32 4 = (n : Int)) (hg : 0 ≤ g ∧ g ≤ 9) (hQ : okP Q) (hS : stpd g Q n S) (hr : n - popk t.toNat n = r + 1) (ht : 0 ≤ t ∧ t.toNat < 2 ^ n) (hl : 0 ≤ l ∧ l < n) (hA : allS g Q n S) (h0 : t.toNat.testBit 0 = true) (hlb : t.toNat.testBit l.toNat = true) : zM LX yX5_firstBest cX5_firstBest 4 (some .int) 1 23 [zr 32, zi t, zi l] S (fun rr S' => S = S' ∧ ∃ d : Nat, rr = some (zi (d : Int)) ∧ d < n ∧ t.toNat.testBit d = false ∧ rowO g Q n (r + 1) t.toNat l.toNat = d :: rowO g Q n r (t.toNat ||| 2 ^ d) d) := by
  refine zM_of (own := RX5) rfl (by decide +kernel) [some (zr 32), some (zi t), some (zi l), none] (Nat.le_of_ble_eq_true rfl) rfl ?_
  intro x h
  have hp8 := pow8 hn.2
  have hown := hA t.toNat l.toNat ht.2 h0 (by omega) hlb
  unfold setl at hown
  rw [hr] at hown
  have hcn : (tR n (oc g Q) ow (oe g Q) (fun d => d) (r + 1) t.toNat l.toNat).1 ≠ 0 := by have h9 := tR_pos n (oc g Q) ow (oe g Q) (fun d => d) (r + 1) t.toNat l.toNat (by omega); omega
  obtain ⟨d, d1, d2, d3, d4, d5, d6, d7⟩ := tR_first n (oc g Q) ow (oe g Q) (fun d => d) hcn
  have hK : ∀ d : Nat, d < n → t.toNat.testBit d = false → setl g Q n S (t.toNat ||| 2 ^ d) d := fun d q1 q2 => hA _ _ (set_lt ht.2 q1) (set_0 h0) q1 (set_d _ _)
  have hle : S 34 (t * 8 + l).toNat = (tR n (oc g Q) ow (oe g Q) (fun d => d) (r + 1) t.toNat l.toNat).2.1 := by rw [show (t * 8 + l).toNat = t.toNat * 8 + l.toNat by omega]; exact hown.1
  have hpn := popk_b t.toNat n
  have hlc : ((l.toNat : Nat) : Int) = l := by omega
  refine z_iconst (pc := 0) h dX5_firstBest_0 ?_
  refine z_istore_n (pc := 1) (loc' := [some (zr 32), some (zi t), some (zi l), some (zi 0)]) h dX5_firstBest_1 rfl (Nat.le_of_ble_eq_true rfl) rfl rfl ?_
  have J2 : ∀ (N : Nat) (j : Int) (hj : 0 ≤ j ∧ j ≤ d) , ((n : Int) - j).toNat = N → zG x LX 2 [some (zr 32), some (zi t), some (zi l), some (zi j)] ([] : List zV) S := by
    intro N
    induction N using Nat.strongRecOn with
    | _ N ih2 => ?_
    intro j hj hN2
    refine z_iload_n (pc := 2) h dX5_firstBest_2 rfl ?_
    refine z_aload_n (pc := 3) h dX5_firstBest_3 rfl ?_
    refine z_getI (pc := 4) h dX5_firstBest_4 clX5 lkX5_36 (by decide) rfl rfl ?_
    refine z_icmp_ge (pc := 7) (tgt := 47) h dX5_firstBest_7 (by decide) ⟨by omega, by omega⟩ ⟨by omega, by omega⟩ (fun hc7 => ?_) (fun hc7 => ?_)
    ·
      refine z_iconst (pc := 47) h dX5_firstBest_47 ?_
      refine z_iret (pc := 48) h dX5_firstBest_48 rfl ?_
      omega
    ·
      refine z_iload_n (pc := 10) h dX5_firstBest_10 rfl ?_
      refine z_iload_n (pc := 11) h dX5_firstBest_11 rfl ?_
      refine z_ishr (pc := 12) h dX5_firstBest_12 ⟨by omega, by omega⟩ ⟨by omega, by omega⟩ ?_
      refine z_iconst (pc := 13) h dX5_firstBest_13 ?_
      refine z_iand (pc := 14) h dX5_firstBest_14 ⟨(div_bb (N := 255) ⟨ht.1, by omega⟩ _).1, Int.le_trans (div_bb (N := 255) ⟨ht.1, by omega⟩ _).2 (by decide)⟩ ⟨by decide, by decide⟩ ?_
      refine z_nm (b := (((Int.toNat (t / 2 ^ j.toNat)) &&& 1 : Nat) : Int)) (fun bv h_bv => ?_)
      have hbv := bit_w ht.1 hj.1 h_bv
      refine z_if_ne (pc := 15) (tgt := 41) h dX5_firstBest_15 (by decide) ⟨by omega, by omega⟩ (fun hc15 => ?_) (fun hc15 => ?_)
      ·
        refine z_iinc (pc := 41) (loc' := [some (zr 32), some (zi t), some (zi l), some (zi (j + 1))]) h dX5_firstBest_41 rfl (Nat.le_of_ble_eq_true rfl) rfl rfl ?_
        refine z_goto (pc := 44) (tgt := 2) h dX5_firstBest_44 (by decide) ?_
        exact ih2 _ (by omega) (j + 1) (by refine ⟨by omega, ?_⟩; first | (have h9 : j.toNat ≠ d := (fun q => by subst q; rw [d2] at hbv; rcases hbv with h8 | h8; exact Bool.noConfusion h8.2; omega); omega) | (have h9 : j.toNat ≠ d := (fun q => hc36 (by subst q; have d4x : (oR g Q n (r + 1) t.toNat l.toNat).2.1 = stepF g Q ((l.toNat : Nat) : Int) ((j.toNat : Nat) : Int) + (oR g Q n r (t.toNat ||| 2 ^ j.toNat) j.toNat).2.1 := d4; rw [hlc, hjc] at d4x; exact d4x.symm)); omega)) rfl
      ·
        have hbf : t.toNat.testBit j.toNat = false := (hbv.resolve_left (fun q => by omega)).2
        have hob := oR_b hg hQ hn.2 (show r ≤ 8 by omega) (t.toNat ||| 2 ^ j.toNat) j.toNat
        have hob2 := oR_b hg hQ hn.2 (show r + 1 ≤ 8 by omega) t.toNat l.toNat
        have hstb := stepF_b hg hQ l j
        have hrr : n - (popk t.toNat n + 1) = r := by omega
        have hjc : ((j.toNat : Nat) : Int) = j := by omega
        have hpos := tR_pos n (oc g Q) ow (oe g Q) (fun d => d) r (t.toNat ||| 2 ^ j.toNat) j.toNat (by have := popk_set hbf n (by omega); omega)
        refine z_aload_n (pc := 18) h dX5_firstBest_18 rfl ?_
        refine z_iload_n (pc := 19) h dX5_firstBest_19 rfl ?_
        refine z_iload_n (pc := 20) h dX5_firstBest_20 rfl ?_
        refine z_iload_n (pc := 21) h dX5_firstBest_21 rfl ?_
        refine z_callV (pc := 22) (rest := ([] : List zV)) h (m_X5_sumBy t l j g Q n S (by first | assumption | omega) (by first | assumption | omega) (by first | assumption | omega) (by first | assumption | omega) (by first | assumption | omega) (by first | assumption | omega) (by first | assumption | omega) (by first | assumption | omega) hbf hK) dX5_firstBest_22 mcX5_sumBy miX5_sumBy mlX5_48 rfl rfl ⟨by decide, by decide⟩ clX5 rfl rfl rfl (Nat.le_of_ble_eq_true rfl) ?_
        rintro _ _ ⟨rfl, rfl⟩
        show zG x LX 25 [some (zr 32), some (zi t), some (zi l), some (zi j)] [zi (stepF g Q l j + (oR g Q n (n - (popk t.toNat n + 1)) (t.toNat ||| 2 ^ j.toNat) j.toNat).2.1)] S
        refine z_cv (b := (stepF g Q l j + (oR g Q n r (t.toNat ||| 2 ^ j.toNat) j.toNat).2.1)) (by rw [hrr]) ?_
        refine z_aload_n (pc := 25) h dX5_firstBest_25 rfl ?_
        refine z_getR (a := 34) (pc := 26) h dX5_firstBest_26 clX5 lkX5_15 (by decide) rfl rfl ?_
        refine z_iload_n (pc := 29) h dX5_firstBest_29 rfl ?_
        refine z_bipush (pc := 30) h dX5_firstBest_30 rfl ?_
        refine z_imul (pc := 32) h dX5_firstBest_32 ?_
        refine z_iload_n (pc := 33) h dX5_firstBest_33 rfl ?_
        refine z_iadd (pc := 34) h dX5_firstBest_34 ?_
        refine z_iald (pc := 35) h dX5_firstBest_35 rfl (by decide) (by omega) (by omega) ?_
        refine z_cv (b := ((oR g Q n (r + 1) t.toNat l.toNat).2.1)) (by exact hle) ?_
        refine z_icmp_ne (pc := 36) (tgt := 41) h dX5_firstBest_36 (by decide) ⟨by omega, by omega⟩ ⟨by omega, by omega⟩ (fun hc36 => ?_) (fun hc36 => ?_)
        ·
          refine z_iinc (pc := 41) (loc' := [some (zr 32), some (zi t), some (zi l), some (zi (j + 1))]) h dX5_firstBest_41 rfl (Nat.le_of_ble_eq_true rfl) rfl rfl ?_
          refine z_goto (pc := 44) (tgt := 2) h dX5_firstBest_44 (by decide) ?_
          exact ih2 _ (by omega) (j + 1) (by refine ⟨by omega, ?_⟩; first | (have h9 : j.toNat ≠ d := (fun q => by subst q; rw [d2] at hbv; rcases hbv with h8 | h8; exact Bool.noConfusion h8.2; omega); omega) | (have h9 : j.toNat ≠ d := (fun q => hc36 (by subst q; have d4x : (oR g Q n (r + 1) t.toNat l.toNat).2.1 = stepF g Q ((l.toNat : Nat) : Int) ((j.toNat : Nat) : Int) + (oR g Q n r (t.toNat ||| 2 ^ j.toNat) j.toNat).2.1 := d4; rw [hlc, hjc] at d4x; exact d4x.symm)); omega)) rfl
        ·
          refine z_iload_n (pc := 39) h dX5_firstBest_39 rfl ?_
          refine z_iret (pc := 40) h dX5_firstBest_40 rfl ?_
          have h9 : j.toNat = d := by
            rcases Nat.lt_or_ge j.toNat d with q | q
            · refine absurd ?_ (d7 j.toNat q hbf (by omega))
              have e9 : oc g Q t.toNat l.toNat j.toNat = stepF g Q l j := by unfold oc; rw [hlc, hjc]
              rw [e9]
              exact hc36
            · omega
          exact ⟨rfl, d, ap_some (by omega), d1, d2, d6⟩
  exact J2 _ 0 (by omega) rfl

set_option maxRecDepth 100000 in
set_option maxHeartbeats 4000000 in
theorem m_X5_layRow  (g : Int) (Q : PL) (n : Nat) (S : SS) (hn : 1 ≤ n ∧ n ≤ 8) (h4 : S 32 4 = (n : Int)) (hg : 0 ≤ g ∧ g ≤ 9) (hQ : okP Q) (hS : stpd g Q n S) (hA : allS g Q n S) : zM LX yX5_layRow cX5_layRow 5 none 2 46 [zr 32] S (fun r S' => r = none ∧ (∀ x y, x ≠ 36 → S' x y = S x y) ∧ ∀ j : Nat, j < n → S' 36 j = ((fx (oT g Q n).2.2.2.2.2 j : Nat) : Int)) := by
  refine zM_of (own := RX5) rfl (by decide +kernel) [some (zr 32), none, none, none, none] (Nat.le_of_ble_eq_true rfl) rfl ?_
  intro x h
  have hp8 := pow8 hn.2
  have hp1 := popk_one hn.1
  refine z_iconst (pc := 0) h dX5_layRow_0 ?_
  refine z_istore_n (pc := 1) (loc' := [some (zr 32), some (zi 1), none, none, none]) h dX5_layRow_1 rfl (Nat.le_of_ble_eq_true rfl) rfl rfl ?_
  refine z_iconst (pc := 2) h dX5_layRow_2 ?_
  refine z_istore_n (pc := 3) (loc' := [some (zr 32), some (zi 1), some (zi 0), none, none]) h dX5_layRow_3 rfl (Nat.le_of_ble_eq_true rfl) rfl rfl ?_
  refine z_aload_n (pc := 4) h dX5_layRow_4 rfl ?_
  refine z_getR (a := 36) (pc := 5) h dX5_layRow_5 clX5 lkX5_21 (by decide) rfl rfl ?_
  refine z_iconst (pc := 8) h dX5_layRow_8 ?_
  refine z_iconst (pc := 9) h dX5_layRow_9 ?_
  refine z_iast (pc := 10) h dX5_layRow_10 rfl (by decide) (by decide) (by decide) ?_
  refine z_iconst (pc := 11) h dX5_layRow_11 ?_
  refine z_istore_n (pc := 12) (loc' := [some (zr 32), some (zi 1), some (zi 0), some (zi 1), none]) h dX5_layRow_12 rfl (Nat.le_of_ble_eq_true rfl) rfl rfl ?_
  have J13 : ∀ (N : Nat) (t l k : Int) (S1 : SS) (hk : 1 ≤ k ∧ k ≤ n) (hF : ∀ x y, x ≠ 36 → S1 x y = S x y) (ht : 0 ≤ t ∧ t.toNat < 2 ^ n) (hl : 0 ≤ l ∧ l < n) (hpk : popk t.toNat n = k.toNat) (h0 : t.toNat.testBit 0 = true) (hlb : t.toNat.testBit l.toNat = true) (hD : (oT g Q n).2.2.2.2.2.drop (k - 1).toNat = rowO g Q n (n - k.toNat) t.toNat l.toNat) (hR : ∀ j : Nat, (j : Int) < k → S1 36 j = ((fx (oT g Q n).2.2.2.2.2 j : Nat) : Int)) , ((n : Int) - k).toNat = N → zG x LX 13 [some (zr 32), some (zi t), some (zi l), some (zi k), none] ([] : List zV) S1 := by
    intro N
    induction N using Nat.strongRecOn with
    | _ N ih13 => ?_
    intro t l k S1 hk hF ht hl hpk h0 hlb hD hR hN13
    have g4 : S1 32 4 = (n : Int) := by rw [hF _ _ (by decide)]; exact h4
    refine z_iload_n (pc := 13) h dX5_layRow_13 rfl ?_
    refine z_aload_n (pc := 14) h dX5_layRow_14 rfl ?_
    refine z_getI (pc := 15) h dX5_layRow_15 clX5 lkX5_36 (by decide) rfl rfl ?_
    refine z_icmp_ge (pc := 18) (tgt := 53) h dX5_layRow_18 (by decide) ⟨by omega, by omega⟩ ⟨by omega, by omega⟩ (fun hc18 => ?_) (fun hc18 => ?_)
    ·
      exact z_vret (pc := 53) h dX5_layRow_53 rfl (⟨rfl, hF, fun j hj => hR j (by omega)⟩)
    ·
      obtain ⟨r, hrn⟩ : ∃ r, n - k.toNat = r + 1 := ⟨n - k.toNat - 1, by omega⟩
      have hS1 : stpd g Q n S1 := fun p q p1 q1 => by rw [hF _ _ (by decide)]; exact hS p q p1 q1
      have hA1 : allS g Q n S1 := fun tk la q1 q2 q3 q4 => by unfold setl; rw [hF _ _ (by decide), hF _ _ (by decide)]; exact hA tk la q1 q2 q3 q4
      rw [hrn] at hD
      refine z_aload_n (pc := 21) h dX5_layRow_21 rfl ?_
      refine z_iload_n (pc := 22) h dX5_layRow_22 rfl ?_
      refine z_iload_n (pc := 23) h dX5_layRow_23 rfl ?_
      refine z_callV (pc := 24) (rest := ([] : List zV)) h (m_X5_firstBest t l g Q n r S1 (by first | assumption | omega) g4 (by first | assumption | omega) (by first | assumption | omega) hS1 (by rw [hpk]; exact hrn) (by first | assumption | omega) (by first | assumption | omega) hA1 (by first | assumption | omega) (by first | assumption | omega)) dX5_layRow_24 mcX5_firstBest miX5_firstBest mlX5_51 rfl rfl ⟨by decide, by decide⟩ clX5 rfl rfl rfl (Nat.le_of_ble_eq_true rfl) ?_
      rintro _ _ ⟨rfl, v24, rfl, hr24a, hr24b, hr24c⟩
      show zG x LX 27 [some (zr 32), some (zi t), some (zi l), some (zi k), none] [zi ((v24 : Nat) : Int)] S1
      have hsb := set_b hn.2 ht.2 hr24a
      have hpw := pw_b (j := ((v24 : Nat) : Int)) (by omega)
      have htn : ((t.toNat ||| 2 ^ v24 : Nat) : Int).toNat = t.toNat ||| 2 ^ v24 := Int.toNat_natCast _
      refine z_istore (pc := 27) (loc' := [some (zr 32), some (zi t), some (zi l), some (zi k), some (zi ((v24 : Nat) : Int))]) h dX5_layRow_27 (Nat.le_of_ble_eq_true rfl) rfl rfl ?_
      refine z_aload_n (pc := 29) h dX5_layRow_29 rfl ?_
      refine z_getR (a := 36) (pc := 30) h dX5_layRow_30 clX5 lkX5_21 (by decide) rfl rfl ?_
      refine z_iload_n (pc := 33) h dX5_layRow_33 rfl ?_
      refine z_iload (pc := 34) h dX5_layRow_34 rfl ?_
      refine z_iast (pc := 36) h dX5_layRow_36 rfl (by decide) (by omega) (by omega) ?_
      refine z_iload_n (pc := 37) h dX5_layRow_37 rfl ?_
      refine z_iconst (pc := 38) h dX5_layRow_38 ?_
      refine z_iload (pc := 39) h dX5_layRow_39 rfl ?_
      refine z_ishl (pc := 41) h dX5_layRow_41 ⟨by omega, by omega⟩ ?_
      refine z_ior (pc := 42) h dX5_layRow_42 ⟨by omega, by omega⟩ ⟨by have := hpw.1; rw [Int.toNat_natCast] at this; exact this, Int.le_trans (by have := hpw.2; rw [Int.toNat_natCast] at this; exact this) (by decide)⟩ ?_
      refine z_cv (b := ((t.toNat ||| 2 ^ v24 : Nat) : Int)) (by exact or_v ht.1 (Int.natCast_nonneg v24)) ?_
      refine z_istore_n (pc := 43) (loc' := [some (zr 32), some (zi ((t.toNat ||| 2 ^ v24 : Nat) : Int)), some (zi l), some (zi k), some (zi ((v24 : Nat) : Int))]) h dX5_layRow_43 rfl (Nat.le_of_ble_eq_true rfl) rfl rfl ?_
      refine z_iload (pc := 44) h dX5_layRow_44 rfl ?_
      refine z_istore_n (pc := 46) (loc' := [some (zr 32), some (zi ((t.toNat ||| 2 ^ v24 : Nat) : Int)), some (zi ((v24 : Nat) : Int)), some (zi k), some (zi ((v24 : Nat) : Int))]) h dX5_layRow_46 rfl (Nat.le_of_ble_eq_true rfl) rfl rfl ?_
      refine z_iinc (pc := 47) (loc' := [some (zr 32), some (zi ((t.toNat ||| 2 ^ v24 : Nat) : Int)), some (zi ((v24 : Nat) : Int)), some (zi (k + 1)), some (zi ((v24 : Nat) : Int))]) h dX5_layRow_47 rfl (Nat.le_of_ble_eq_true rfl) rfl rfl ?_
      refine z_goto (pc := 50) (tgt := 13) h dX5_layRow_50 (by decide) ?_
      refine z_forget [true, true, true, true, false] (loc' := [some (zr 32), some (zi ((t.toNat ||| 2 ^ v24 : Nat) : Int)), some (zi ((v24 : Nat) : Int)), some (zi (k + 1)), none]) rfl ?_
      exact ih13 _ (by omega) ((t.toNat ||| 2 ^ v24 : Nat) : Int) ((v24 : Nat) : Int) (k + 1) (up2 S1 36 k.toNat ((v24 : Nat) : Int)) (by omega) (fun x y q => by rw [up2_k _ _ q]; exact hF x y q) (⟨by omega, by rw [htn]; exact set_lt ht.2 hr24a⟩) (by omega) (by rw [htn, popk_set hr24b n hr24a, hpk]; omega) (by rw [htn]; exact set_0 h0) (by rw [htn, Int.toNat_natCast]; exact set_d _ _) (by rw [htn, Int.toNat_natCast, show (k + 1 - 1).toNat = (k - 1).toNat + 1 by omega, show n - (k + 1).toNat = r by omega]; exact (drop_s (by rw [hD]; exact hr24c)).2) (by intro j hj; by_cases hjk : j = k.toNat; (subst hjk; rw [up2_s]; obtain ⟨z, hz⟩ : ∃ z, k.toNat = z + 1 := ⟨k.toNat - 1, by omega⟩; have h9 := (drop_s (R := (oT g Q n).2.2.2.2.2) (i := (k - 1).toNat) (by rw [hD]; exact hr24c)).1; rw [hz]; show _ = (((oT g Q n).2.2.2.2.2.getD z 0 : Nat) : Int); rw [show z = (k - 1).toNat by omega, h9]); (rw [up2_j _ _ hjk]; exact hR j (by omega))) rfl
  exact J13 _ 1 0 1 (up2 S 36 0 0) (by omega) (fun x y q => up2_k _ _ q) (⟨by decide, by have := Nat.pow_le_pow_right (n := 2) (by decide) hn.1; show 1 < 2 ^ n; omega⟩) (by omega) (hp1) (rfl) (rfl) (rfl) (by intro j hj; have : j = 0 := (by omega); subst this; rw [up2_s]; rfl) rfl

set_option maxRecDepth 100000 in
set_option maxHeartbeats 4000000 in
theorem m_X5_sum (S : SS)  : zM LX yX5_sum cX5_sum 1 (some .int) 0 0 [zr 32] S (fun r S' => S = S' ∧ r = some (zi (S 34 8))) := by
  refine zM_of (own := RX5) rfl (by decide +kernel) [some (zr 32)] (Nat.le_of_ble_eq_true rfl) rfl ?_
  intro x h
  refine z_aload_n (pc := 0) h dX5_sum_0 rfl ?_
  refine z_getR (a := 34) (pc := 1) h dX5_sum_1 clX5 lkX5_15 (by decide) rfl rfl ?_
  refine z_bipush (pc := 4) h dX5_sum_4 rfl ?_
  refine z_iald (pc := 6) h dX5_sum_6 rfl (by decide) (by decide) (by decide) ?_
  exact z_iret (pc := 7) h dX5_sum_7 rfl ⟨rfl, congrArg (fun z => some (zi z)) (by rfl)⟩

set_option maxRecDepth 100000 in
set_option maxHeartbeats 4000000 in
theorem m_X5_howMany (S : SS)  : zM LX yX5_howMany cX5_howMany 1 (some .int) 0 0 [zr 32] S (fun r S' => S = S' ∧ r = some (zi (S 35 8))) := by
  refine zM_of (own := RX5) rfl (by decide +kernel) [some (zr 32)] (Nat.le_of_ble_eq_true rfl) rfl ?_
  intro x h
  refine z_aload_n (pc := 0) h dX5_howMany_0 rfl ?_
  refine z_getR (a := 35) (pc := 1) h dX5_howMany_1 clX5 lkX5_18 (by decide) rfl rfl ?_
  refine z_bipush (pc := 4) h dX5_howMany_4 rfl ?_
  refine z_iald (pc := 6) h dX5_howMany_6 rfl (by decide) (by decide) (by decide) ?_
  exact z_iret (pc := 7) h dX5_howMany_7 rfl ⟨rfl, congrArg (fun z => some (zi z)) (by rfl)⟩

set_option maxRecDepth 100000 in
set_option maxHeartbeats 4000000 in
theorem m_X5_pictureAt (i : Int) (S : SS) (hi : 0 ≤ i ∧ i < 8) : zM LX yX5_pictureAt cX5_pictureAt 2 (some .int) 1 22 [zr 32, zi i] S (fun r S' => S = S' ∧ r = some (zi (S 36 i.toNat))) := by
  refine zM_of (own := RX5) rfl (by decide +kernel) [some (zr 32), some (zi i)] (Nat.le_of_ble_eq_true rfl) rfl ?_
  intro x h
  refine z_iload_n (pc := 0) h dX5_pictureAt_0 rfl ?_
  refine z_iconst (pc := 1) h dX5_pictureAt_1 ?_
  refine z_aload_n (pc := 2) h dX5_pictureAt_2 rfl ?_
  refine z_getR (a := 36) (pc := 3) h dX5_pictureAt_3 clX5 lkX5_21 (by decide) rfl rfl ?_
  refine z_alen (pc := 6) h dX5_pictureAt_6 rfl ?_
  refine z_iconst (pc := 7) h dX5_pictureAt_7 ?_
  refine z_isub (pc := 8) h dX5_pictureAt_8 ?_
  refine z_callS (pc := 9) (rest := ([] : List zV)) h (m_X10_within i 0 7 S ⟨by omega, by omega⟩ ⟨by decide, by decide⟩ ⟨by decide, by decide⟩) dX5_pictureAt_9 mcX10_within msX10_within mlX5_54 rfl rfl ⟨by decide, by decide⟩ rfl (Nat.le_of_ble_eq_true rfl) ?_
  rintro _ _ ⟨rfl, ⟨hr9, rfl⟩ | ⟨hr9, rfl⟩⟩
  ·
    show zG x LX 12 [some (zr 32), some (zi i)] [zi 1] S
    refine z_if_eq (pc := 12) (tgt := 24) h dX5_pictureAt_12 (by decide) ⟨by decide, by decide⟩ (fun hc12 => absurd hc12 (by decide)) (fun hc12 => ?_)
    refine z_aload_n (pc := 15) h dX5_pictureAt_15 rfl ?_
    refine z_getR (a := 36) (pc := 16) h dX5_pictureAt_16 clX5 lkX5_21 (by decide) rfl rfl ?_
    refine z_iload_n (pc := 19) h dX5_pictureAt_19 rfl ?_
    refine z_iald (pc := 20) h dX5_pictureAt_20 rfl (by decide) (by omega) (by omega) ?_
    refine z_goto (pc := 21) (tgt := 26) h dX5_pictureAt_21 (by decide) ?_
    exact z_iret (pc := 26) h dX5_pictureAt_26 rfl ⟨rfl, congrArg (fun z => some (zi z)) (by first | rfl | omega)⟩
  ·
    show zG x LX 12 [some (zr 32), some (zi i)] [zi 0] S
    refine z_if_eq (pc := 12) (tgt := 24) h dX5_pictureAt_12 (by decide) ⟨by decide, by decide⟩ (fun hc12 => ?_) (fun hc12 => absurd hc12 (by decide))
    refine z_bipush (pc := 24) h dX5_pictureAt_24 rfl ?_
    exact z_iret (pc := 26) h dX5_pictureAt_26 rfl ⟨rfl, congrArg (fun z => some (zi z)) (by first | rfl | omega)⟩

set_option maxRecDepth 100000 in
set_option maxHeartbeats 4000000 in
theorem m_X10_looseRefusal (k : Nat) (S : SS) (hk : isStrip k) (ho : okS S k) : zM LX yX10_looseRefusal cX10_looseRefusal 1 (some .int) 0 0 [zr k] S (fun r S' => S = S' ∧ r = some (zi (if S k 4 = 0 then -3 else if 8 < S k 4 then -4 else 0))) := by
  refine zM_of (own := RX10) rfl (by decide +kernel) [some (zr k)] (Nat.le_of_ble_eq_true rfl) rfl ?_
  intro x h
  have ho1 := ho.1
  have ho2 := ho.2.1
  have ho3 := ho.2.2.1
  have hQ := pvX_b ho
  refine z_aload_n (pc := 0) h dX10_looseRefusal_0 rfl ?_
  refine z_getI (pc := 1) h dX10_looseRefusal_1 clX7 lkX10_129 (by decide) hk.1 rfl ?_
  refine z_if_ne (pc := 4) (tgt := 12) h dX10_looseRefusal_4 (by decide) ⟨by omega, by omega⟩ (fun hc4 => ?_) (fun hc4 => ?_)
  ·
    refine z_aload_n (pc := 12) h dX10_looseRefusal_12 rfl ?_
    refine z_getI (pc := 13) h dX10_looseRefusal_13 clX7 lkX10_129 (by decide) hk.1 rfl ?_
    refine z_bipush (pc := 16) h dX10_looseRefusal_16 rfl ?_
    refine z_icmp_le (pc := 18) (tgt := 26) h dX10_looseRefusal_18 (by decide) ⟨by omega, by omega⟩ ⟨by decide, by decide⟩ (fun hc18 => ?_) (fun hc18 => ?_)
    ·
      refine z_iconst (pc := 26) h dX10_looseRefusal_26 ?_
      exact z_iret (pc := 27) h dX10_looseRefusal_27 rfl ⟨rfl, congrArg (fun z => some (zi z)) (by first | (rw [if_pos (by omega)]) | (rw [if_neg (by omega), if_pos (by omega)]) | (rw [if_neg (by omega), if_neg (by omega)]))⟩
    ·
      refine z_bipush (pc := 21) h dX10_looseRefusal_21 rfl ?_
      refine z_goto (pc := 23) (tgt := 27) h dX10_looseRefusal_23 (by decide) ?_
      exact z_iret (pc := 27) h dX10_looseRefusal_27 rfl ⟨rfl, congrArg (fun z => some (zi z)) (by first | (rw [if_pos (by omega)]) | (rw [if_neg (by omega), if_pos (by omega)]) | (rw [if_neg (by omega), if_neg (by omega)]))⟩
  ·
    refine z_bipush (pc := 7) h dX10_looseRefusal_7 rfl ?_
    refine z_goto (pc := 9) (tgt := 27) h dX10_looseRefusal_9 (by decide) ?_
    exact z_iret (pc := 27) h dX10_looseRefusal_27 rfl ⟨rfl, congrArg (fun z => some (zi z)) (by first | (rw [if_pos (by omega)]) | (rw [if_neg (by omega), if_pos (by omega)]) | (rw [if_neg (by omega), if_neg (by omega)]))⟩

set_option maxRecDepth 100000 in
set_option maxHeartbeats 4000000 in
theorem m_X5_search (k : Nat) (g : Int) (S : SS) (hk : isStrip k) (hkv : k = 1 ∨ k = 5) (ho : okS S k) (hn : 1 ≤ S k 4 ∧ S k 4 ≤ 8) (hg : 0 ≤ g ∧ g ≤ 9) : zM LX yX5_search cX5_search 5 none 3 70 [zr 32, zr k, zi g] S (fun r S' => r = none ∧ (∀ x y, ¬ (32 ≤ x ∧ x ≤ 36) → S' x y = S x y) ∧ S' 34 8 = (oT g (pvX S k) (S k 4).toNat).2.1 ∧ S' 35 8 = (oT g (pvX S k) (S k 4).toNat).1 ∧ ∀ j : Nat, (j : Int) < S k 4 → S' 36 j = ((fx (oT g (pvX S k) (S k 4).toNat).2.2.2.2.2 j : Nat) : Int)) := by
  refine zM_of (own := RX5) rfl (by decide +kernel) [some (zr 32), some (zr k), some (zi g), none, none] (Nat.le_of_ble_eq_true rfl) rfl ?_
  intro x h
  have ho1 := ho.1
  have ho2 := ho.2.1
  have ho3 := ho.2.2.1
  have hQ := pvX_b ho
  obtain ⟨n, hnn⟩ : ∃ n : Nat, S k 4 = (n : Int) := ⟨(S k 4).toNat, by omega⟩
  have hnt : (S k 4).toNat = n := by omega
  rw [hnt] at h
  have hn8 : 1 ≤ n ∧ n ≤ 8 := by omega
  have hp8 := pow8 hn8.2
  obtain ⟨w, hw1, hw2, hw3, hw4, hw5⟩ := pow_e (n := (n : Int)) (by omega)
  rw [Int.toNat_natCast] at hw1
  refine z_aload_n (pc := 0) h dX5_search_0 rfl ?_
  refine z_aload_n (pc := 1) h dX5_search_1 rfl ?_
  refine z_getI (pc := 2) h dX5_search_2 clX7 lkX5_24 (by decide) hk.1 rfl ?_
  refine z_bipush (pc := 5) h dX5_search_5 rfl ?_
  refine z_callS (pc := 7) (rest := [zr 32]) h (m_J9_min_7cf53 (S k 4) 8 S ⟨by omega, by omega⟩ ⟨by decide, by decide⟩) dX5_search_7 mcJ9_min_7cf53 msJ9_min_7cf53 mlX5_30 rfl rfl ⟨by decide, by decide⟩ rfl (Nat.le_of_ble_eq_true rfl) ?_
  rintro _ _ ⟨rfl, rfl⟩
  show zG x LX 10 [some (zr 32), some (zr k), some (zi g), none, none] [zi (min (S k 4) 8), zr 32] S
  refine z_cv (b := (n : Int)) (by omega) ?_
  refine z_putI (pc := 10) h dX5_search_10 clX5 lkX5_36 (by decide) rfl rfl rfl rfl ?_
  refine z_iconst (pc := 13) h dX5_search_13 ?_
  refine z_istore_n (pc := 14) (loc' := [some (zr 32), some (zr k), some (zi g), some (zi 0), none]) h dX5_search_14 rfl (Nat.le_of_ble_eq_true rfl) rfl rfl ?_
  have J15 : ∀ (N : Nat) (p : Int) (S1 : SS) (hp : 0 ≤ p ∧ p ≤ n) (p4 : S1 32 4 = (n : Int)) (hF : ∀ x y, ¬ (33 ≤ x ∧ x ≤ 36) → ¬ (x = 32 ∧ y = 4) → S1 x y = S x y) (hP : ∀ x y : Nat, (x : Int) < p → y < n → S1 33 (x * 8 + y) = stepF g (pvX S k) x y) , ((n : Int) - p).toNat = N → zG x LX 15 [some (zr 32), some (zr k), some (zi g), some (zi p), none] ([] : List zV) S1 := by
    intro N
    induction N using Nat.strongRecOn with
    | _ N ih15 => ?_
    intro p S1 hp p4 hF hP hN15
    refine z_iload_n (pc := 15) h dX5_search_15 rfl ?_
    refine z_aload_n (pc := 16) h dX5_search_16 rfl ?_
    refine z_getI (pc := 17) h dX5_search_17 clX5 lkX5_36 (by decide) rfl rfl ?_
    refine z_icmp_ge (pc := 20) (tgt := 67) h dX5_search_20 (by decide) ⟨by omega, by omega⟩ ⟨by omega, by omega⟩ (fun hc20 => ?_) (fun hc20 => ?_)
    ·
      refine z_iconst (pc := 67) h dX5_search_67 ?_
      refine z_aload_n (pc := 68) h dX5_search_68 rfl ?_
      refine z_getI (pc := 69) h dX5_search_69 clX5 lkX5_36 (by decide) rfl rfl ?_
      refine z_ishl (pc := 72) h dX5_search_72 ⟨by omega, by omega⟩ ?_
      refine z_cv (b := (w + 1)) (by rw [p4]; exact hw2) ?_
      refine z_iconst (pc := 73) h dX5_search_73 ?_
      refine z_isub (pc := 74) h dX5_search_74 ?_
      refine z_istore_n (pc := 75) (loc' := [some (zr 32), some (zr k), some (zi g), some (zi ((w + 1) - 1)), none]) h dX5_search_75 rfl (Nat.le_of_ble_eq_true rfl) rfl rfl ?_
      have J76 : ∀ (N : Nat) (t : Int) (S3 : SS) (ht : -1 ≤ t ∧ t ≤ w ∧ t % 2 = 1) (r4 : S3 32 4 = (n : Int)) (hF3 : ∀ x y, ¬ (32 ≤ x ∧ x ≤ 36) → S3 x y = S x y) (hS3 : stpd g (pvX S k) n S3) (hG : ∀ tk la : Nat, t < (tk : Int) → tk < 2 ^ n → tk.testBit 0 = true → la < n → tk.testBit la = true → setl g (pvX S k) n S3 tk la) , (t + 2).toNat = N → zG x LX 76 [some (zr 32), some (zr k), some (zi g), some (zi t), none] ([] : List zV) S3 := by
        intro N
        induction N using Nat.strongRecOn with
        | _ N ih76 => ?_
        intro t S3 ht r4 hF3 hS3 hG hN76
        refine z_iload_n (pc := 76) h dX5_search_76 rfl ?_
        refine z_if_le (pc := 77) (tgt := 121) h dX5_search_77 (by decide) ⟨by omega, by omega⟩ (fun hc77 => ?_) (fun hc77 => ?_)
        ·
          have hAA : allS g (pvX S k) n S3 := fun tk la q1 q2 q3 q4 => hG tk la (by have := odd_i q2; omega) q1 q2 q3 q4
          refine z_aload_n (pc := 121) h dX5_search_121 rfl ?_
          refine z_callV (pc := 122) (rest := ([] : List zV)) h (m_X5_layRow g (pvX S k) n S3 hn8 r4 (by first | assumption | omega) hQ hS3 hAA) dX5_search_122 mcX5_layRow miX5_layRow mlX5_45 rfl rfl ⟨by decide, by decide⟩ clX5 rfl rfl rfl (Nat.le_of_ble_eq_true rfl) ?_
          rintro _ S122 ⟨rfl, hr122f, hr122r⟩
          show zG x LX 125 [some (zr 32), some (zr k), some (zi g), some (zi t), none] ([] : List zV) S122
          refine z_vret (pc := 125) h dX5_search_125 rfl ?_
          have hfin := hAA 1 0 (by have := Nat.pow_le_pow_right (n := 2) (by decide) hn8.1; omega) rfl (by omega) rfl
          unfold setl at hfin
          rw [popk_one hn8.1] at hfin
          exact ⟨rfl, fun x y q => by rw [hr122f _ _ (by omega)]; exact hF3 x y q, by rw [hr122f _ _ (by decide)]; exact hfin.1, by rw [hr122f _ _ (by decide)]; exact hfin.2, fun j hj => hr122r j (by omega)⟩
        ·
          have h0 := odd_0 (t := t) (by omega) ht.2.2
          have htt : 0 ≤ t ∧ t.toNat < 2 ^ n := by omega
          refine z_iconst (pc := 80) h dX5_search_80 ?_
          refine z_istore (pc := 81) (loc' := [some (zr 32), some (zr k), some (zi g), some (zi t), some (zi 0)]) h dX5_search_81 (Nat.le_of_ble_eq_true rfl) rfl rfl ?_
          have J83 : ∀ (N : Nat) (l : Int) (S4 : SS) (hl : 0 ≤ l ∧ l ≤ n) (s4 : S4 32 4 = (n : Int)) (hF4 : ∀ x y, ¬ (32 ≤ x ∧ x ≤ 36) → S4 x y = S x y) (hS4 : stpd g (pvX S k) n S4) (hG4 : ∀ tk la : Nat, t < (tk : Int) → tk < 2 ^ n → tk.testBit 0 = true → la < n → tk.testBit la = true → setl g (pvX S k) n S4 tk la) (hG5 : ∀ la : Nat, (la : Int) < l → t.toNat.testBit la = true → setl g (pvX S k) n S4 t.toNat la) , ((n : Int) - l).toNat = N → zG x LX 83 [some (zr 32), some (zr k), some (zi g), some (zi t), some (zi l)] ([] : List zV) S4 := by
            intro N
            induction N using Nat.strongRecOn with
            | _ N ih83 => ?_
            intro l S4 hl s4 hF4 hS4 hG4 hG5 hN83
            refine z_iload (pc := 83) h dX5_search_83 rfl ?_
            refine z_aload_n (pc := 85) h dX5_search_85 rfl ?_
            refine z_getI (pc := 86) h dX5_search_86 clX5 lkX5_36 (by decide) rfl rfl ?_
            refine z_icmp_ge (pc := 89) (tgt := 115) h dX5_search_89 (by decide) ⟨by omega, by omega⟩ ⟨by omega, by omega⟩ (fun hc89 => ?_) (fun hc89 => ?_)
            ·
              refine z_iinc (pc := 115) (loc' := [some (zr 32), some (zr k), some (zi g), some (zi (t + (-2))), some (zi l)]) h dX5_search_115 rfl (Nat.le_of_ble_eq_true rfl) rfl rfl ?_
              refine z_goto (pc := 118) (tgt := 76) h dX5_search_118 (by decide) ?_
              refine z_forget [true, true, true, true, false] (loc' := [some (zr 32), some (zr k), some (zi g), some (zi (t + (-2))), none]) rfl ?_
              exact ih76 _ (by omega) (t + (-2)) S4 (by omega) (by exact s4) (by exact hF4) (by exact hS4) (by intro tk la q1 q2 q3 q4 q5; by_cases htk : (tk : Int) = t; (have h9 := hG5 la (by omega) (by rw [show t.toNat = tk by omega]; exact q5); rw [show t.toNat = tk by omega] at h9; exact h9); (have h8 := odd_i q3; exact hG4 tk la (by omega) q2 q3 q4 q5)) rfl
            ·
              refine z_iload_n (pc := 92) h dX5_search_92 rfl ?_
              refine z_iload (pc := 93) h dX5_search_93 rfl ?_
              refine z_ishr (pc := 95) h dX5_search_95 ⟨by omega, by omega⟩ ⟨by omega, by omega⟩ ?_
              refine z_iconst (pc := 96) h dX5_search_96 ?_
              refine z_iand (pc := 97) h dX5_search_97 ⟨(div_bb (N := 255) ⟨htt.1, by omega⟩ _).1, Int.le_trans (div_bb (N := 255) ⟨htt.1, by omega⟩ _).2 (by decide)⟩ ⟨by decide, by decide⟩ ?_
              refine z_nm (b := (((Int.toNat (t / 2 ^ l.toNat)) &&& 1 : Nat) : Int)) (fun bv h_bv => ?_)
              refine z_iconst (pc := 98) h dX5_search_98 ?_
              have hbv := bit_w htt.1 hl.1 h_bv
              refine z_icmp_ne (pc := 99) (tgt := 109) h dX5_search_99 (by decide) ⟨by omega, by omega⟩ ⟨by decide, by decide⟩ (fun hc99 => ?_) (fun hc99 => ?_)
              ·
                refine z_iinc (pc := 109) (loc' := [some (zr 32), some (zr k), some (zi g), some (zi t), some (zi (l + 1))]) h dX5_search_109 rfl (Nat.le_of_ble_eq_true rfl) rfl rfl ?_
                refine z_goto (pc := 112) (tgt := 83) h dX5_search_112 (by decide) ?_
                exact ih83 _ (by omega) (l + 1) S4 (by omega) (by first | exact s4 | (rw [hr106f _ _ (by omega)]; exact s4)) (by first | exact hF4 | (intro x y q; rw [hr106f _ _ (by omega)]; exact hF4 x y q)) (by first | exact hS4 | (intro x y q1 q2; rw [hr106f _ _ (by omega)]; exact hS4 x y q1 q2)) (by first | exact hG4 | (intro tk la q1 q2 q3 q4 q5; unfold setl; rw [hr106f _ _ (by omega), hr106f _ _ (by omega)]; exact hG4 tk la q1 q2 q3 q4 q5)) (by intro la q1 q2; by_cases hla : la = l.toNat; (subst hla; first | exact hr106s | (exfalso; rw [q2] at hbv; rcases hbv with h8 | h8; omega; exact Bool.noConfusion h8.2)); first | exact hG5 la (by omega) q2 | (unfold setl; rw [hr106f _ _ (by omega), hr106f _ _ (by omega)]; exact hG5 la (by omega) q2)) rfl
              ·
                have hbt : t.toNat.testBit l.toNat = true := (hbv.resolve_right (fun q => by omega)).2
                have hK4 : ∀ d : Nat, d < n → t.toNat.testBit d = false → setl g (pvX S k) n S4 (t.toNat ||| 2 ^ d) d := fun d q1 q2 => by
                  have h9 := set_gt q2
                  exact hG4 _ _ (by omega) (set_lt htt.2 q1) (set_0 h0) q1 (set_d _ _)
                refine z_aload_n (pc := 102) h dX5_search_102 rfl ?_
                refine z_iload_n (pc := 103) h dX5_search_103 rfl ?_
                refine z_iload (pc := 104) h dX5_search_104 rfl ?_
                refine z_callV (pc := 106) (rest := ([] : List zV)) h (m_X5_settle t l g (pvX S k) n S4 hn8 s4 (by first | assumption | omega) hQ hS4 (by first | assumption | omega) (by first | assumption | omega) hbt hK4) dX5_search_106 mcX5_settle miX5_settle mlX5_41 rfl rfl ⟨by decide, by decide⟩ clX5 rfl rfl rfl (Nat.le_of_ble_eq_true rfl) ?_
                rintro _ S106 ⟨rfl, hr106f, hr106s⟩
                show zG x LX 109 [some (zr 32), some (zr k), some (zi g), some (zi t), some (zi l)] ([] : List zV) S106
                refine z_iinc (pc := 109) (loc' := [some (zr 32), some (zr k), some (zi g), some (zi t), some (zi (l + 1))]) h dX5_search_109 rfl (Nat.le_of_ble_eq_true rfl) rfl rfl ?_
                refine z_goto (pc := 112) (tgt := 83) h dX5_search_112 (by decide) ?_
                exact ih83 _ (by omega) (l + 1) S106 (by omega) (by first | exact s4 | (rw [hr106f _ _ (by omega)]; exact s4)) (by first | exact hF4 | (intro x y q; rw [hr106f _ _ (by omega)]; exact hF4 x y q)) (by first | exact hS4 | (intro x y q1 q2; rw [hr106f _ _ (by omega)]; exact hS4 x y q1 q2)) (by first | exact hG4 | (intro tk la q1 q2 q3 q4 q5; unfold setl; rw [hr106f _ _ (by omega), hr106f _ _ (by omega)]; exact hG4 tk la q1 q2 q3 q4 q5)) (by intro la q1 q2; by_cases hla : la = l.toNat; (subst hla; first | exact hr106s | (exfalso; rw [q2] at hbv; rcases hbv with h8 | h8; omega; exact Bool.noConfusion h8.2)); first | exact hG5 la (by omega) q2 | (unfold setl; rw [hr106f _ _ (by omega), hr106f _ _ (by omega)]; exact hG5 la (by omega) q2)) rfl
          exact J83 _ 0 S3 (by omega) (by exact r4) (by exact hF3) (by exact hS3) (by exact hG) (fun la q => by omega) rfl
      exact J76 _ ((w + 1) - 1) S1 (by have h9 : ∃ z, n = z + 1 := ⟨n - 1, by omega⟩; obtain ⟨z, hz⟩ := h9; have h8 := Nat.pow_succ (n := 2) (m := z); rw [hz] at hw1; rw [Nat.pow_succ] at hw1; have h7 := Nat.two_pow_pos z; omega) (by exact p4) (fun x y q => hF x y (by omega) (by omega)) (fun x y q1 q2 => hP x y (by omega) q2) (fun tk la q1 q2 => by omega) rfl
    ·
      refine z_iconst (pc := 23) h dX5_search_23 ?_
      refine z_istore (pc := 24) (loc' := [some (zr 32), some (zr k), some (zi g), some (zi p), some (zi 0)]) h dX5_search_24 (Nat.le_of_ble_eq_true rfl) rfl rfl ?_
      have J26 : ∀ (N : Nat) (q : Int) (S2 : SS) (hq : 0 ≤ q ∧ q ≤ n) (q4 : S2 32 4 = (n : Int)) (hF2 : ∀ x y, ¬ (33 ≤ x ∧ x ≤ 36) → ¬ (x = 32 ∧ y = 4) → S2 x y = S x y) (hP2 : ∀ x y : Nat, (x : Int) < p → y < n → S2 33 (x * 8 + y) = stepF g (pvX S k) x y) (hQ2 : ∀ y : Nat, (y : Int) < q → S2 33 (p.toNat * 8 + y) = stepF g (pvX S k) p y) , ((n : Int) - q).toNat = N → zG x LX 26 [some (zr 32), some (zr k), some (zi g), some (zi p), some (zi q)] ([] : List zV) S2 := by
        intro N
        induction N using Nat.strongRecOn with
        | _ N ih26 => ?_
        intro q S2 hq q4 hF2 hP2 hQ2 hN26
        refine z_iload (pc := 26) h dX5_search_26 rfl ?_
        refine z_aload_n (pc := 28) h dX5_search_28 rfl ?_
        refine z_getI (pc := 29) h dX5_search_29 clX5 lkX5_36 (by decide) rfl rfl ?_
        refine z_icmp_ge (pc := 32) (tgt := 61) h dX5_search_32 (by decide) ⟨by omega, by omega⟩ ⟨by omega, by omega⟩ (fun hc32 => ?_) (fun hc32 => ?_)
        ·
          refine z_iinc (pc := 61) (loc' := [some (zr 32), some (zr k), some (zi g), some (zi (p + 1)), some (zi q)]) h dX5_search_61 rfl (Nat.le_of_ble_eq_true rfl) rfl rfl ?_
          refine z_goto (pc := 64) (tgt := 15) h dX5_search_64 (by decide) ?_
          refine z_forget [true, true, true, true, false] (loc' := [some (zr 32), some (zr k), some (zi g), some (zi (p + 1)), none]) rfl ?_
          exact ih15 _ (by omega) (p + 1) S2 (by omega) (by exact q4) (by exact hF2) (by intro x y q1 q2; by_cases hx : (x : Int) = p; (have h9 := hQ2 y (by omega); rw [show p.toNat = x by omega, ← hx] at h9; exact h9); exact hP2 x y (by omega) q2) rfl
        ·
          refine z_aload_n (pc := 35) h dX5_search_35 rfl ?_
          refine z_getR (a := 33) (pc := 36) h dX5_search_36 clX5 lkX5_9 (by decide) rfl rfl ?_
          refine z_iload_n (pc := 39) h dX5_search_39 rfl ?_
          refine z_bipush (pc := 40) h dX5_search_40 rfl ?_
          refine z_imul (pc := 42) h dX5_search_42 ?_
          refine z_iload (pc := 43) h dX5_search_43 rfl ?_
          refine z_iadd (pc := 45) h dX5_search_45 ?_
          have h42 := hF2 k 4 (by omega) (by omega)
          have hE2 := pvX_e (S := S) (S1 := S2) (k := k) h42 (fun j => hF2 _ _ (by omega) (by omega))
          have ho9 : okS S2 k := ⟨by rw [hF2 _ _ (by omega) (by omega)]; exact ho1, by rw [hF2 _ _ (by omega) (by omega)]; exact ho2, by rw [hF2 _ _ (by omega) (by omega)]; exact ho3, fun j => by rw [hF2 _ _ (by omega) (by omega)]; exact ho.2.2.2.1 j, fun j => by rw [hF2 _ _ (by omega) (by omega)]; exact ho.2.2.2.2 j⟩
          refine z_aload_n (pc := 46) h dX5_search_46 rfl ?_
          refine z_iload_n (pc := 47) h dX5_search_47 rfl ?_
          refine z_iload (pc := 48) h dX5_search_48 rfl ?_
          refine z_iload_n (pc := 50) h dX5_search_50 rfl ?_
          refine z_callV (pc := 51) (rest := [zi ((p * 8) + q), zr 33]) h (m_X7_stepBetween k p q g S2 (by assumption) ho9 ⟨by omega, by omega⟩ ⟨by omega, by omega⟩ (by first | assumption | omega)) dX5_search_51 mcX7_stepBetween miX7_stepBetween mlX5_37 rfl rfl ⟨by decide, by decide⟩ clX7 hk.1 rfl rfl (Nat.le_of_ble_eq_true rfl) ?_
          rintro _ _ ⟨rfl, rfl⟩
          show zG x LX 54 [some (zr 32), some (zr k), some (zi g), some (zi p), some (zi q)] [zi (stepF g (pvX S2 k) p q), zi ((p * 8) + q), zr 33] S2
          refine z_cv (b := (stepF g (pvX S k) p q)) (by rw [hE2]) ?_
          refine z_iast (pc := 54) h dX5_search_54 rfl (by decide) (by omega) (by omega) ?_
          refine z_iinc (pc := 55) (loc' := [some (zr 32), some (zr k), some (zi g), some (zi p), some (zi (q + 1))]) h dX5_search_55 rfl (Nat.le_of_ble_eq_true rfl) rfl rfl ?_
          refine z_goto (pc := 58) (tgt := 26) h dX5_search_58 (by decide) ?_
          exact ih26 _ (by omega) (q + 1) (up2 S2 33 (Int.toNat ((p * 8) + q)) (stepF g (pvX S k) p q)) (by omega) (by rw [up2_k _ _ (by decide)]; exact q4) (fun x y q1 q2 => by rw [up2_k _ _ (by omega)]; exact hF2 x y q1 q2) (fun x y q1 q2 => by rw [up2_j _ _ (by omega)]; exact hP2 x y q1 q2) (by intro y hy; by_cases hyq : (y : Int) = q; (rw [hyq, show p.toNat * 8 + y = (p * 8 + q).toNat by omega, up2_s]); (rw [up2_j _ _ (by omega)]; exact hQ2 y (by omega))) rfl
      exact J26 _ 0 S1 (by omega) (by exact p4) (by exact hF) (by exact hP) (fun y hy => by omega) rfl
  exact J15 _ 0 (up2 S 32 4 (n : Int)) (by omega) (up2_s _ _ _ _) (fun x y q1 q2 => by rw [up2_e, if_neg q2]) (fun x y q => by omega) rfl

/-! what ORDER answers -/
def ordV (g : Int) (Q : PL) (m i : Int) : Int := if m = 0 then -3 else if 8 < m then -4 else if i = -1 then (oT g Q m.toNat).2.1 else if i < m then ((fx (oT g Q m.toNat).2.2.2.2.2 i.toNat : Nat) : Int) else -2
def ordsV (g : Int) (Q : PL) (m : Int) : Int := if m = 0 then -3 else if 8 < m then -4 else (oT g Q m.toNat).1
def sp_order (A : SS) (a i : Int) : Int := if isS a ∧ -1 ≤ i then ordV (A 5 0) (qA A a) (mA A a) i else -2
def sp_orders (A : SS) (a : Int) : Int := if isS a then ordsV (A 5 0) (qA A a) (mA A a) else -2

set_option maxRecDepth 100000 in
set_option maxHeartbeats 4000000 in
theorem m_X10_order (a b : Int) (A S : SS) (ha : r32 a) (hb : r32 b) (hR : cRel S A) : zM LX yX10_order cX10_order 5 (some .int) 4 94 [zr 0, zi a, zi b] S (fun r S' => r = some (zi (sp_order A a b)) ∧ cRel S' A) := by
  refine zM_of (own := RX10) rfl (by decide +kernel) [some (zr 0), some (zi a), some (zi b), none, none] (Nat.le_of_ble_eq_true rfl) rfl ?_
  intro x h
  have hm := hR.1
  have r0 := hR.2.1.1
  have r1 := hR.2.1.2
  have o0 := r0.1
  have o1 := r1.1
  have v0 : pvX S 1 = qA A 0 := relS_pv r0
  have v1 : pvX S 5 = qA A 1 := relS_pv r1
  have m0 : S 1 4 = mA A 0 := r0.2.2.2.2.1
  have m1 : S 5 4 = mA A 1 := r1.2.2.2.2.1
  have gg : S 0 9 = A 5 0 := hR.2.2.1.1
  have hg := mi_g hm
  have b0 := o0.2.1
  have b1 := o1.2.1
  refine z_aload_n (pc := 0) h dX10_order_0 rfl ?_
  refine z_iload_n (pc := 1) h dX10_order_1 rfl ?_
  refine z_callV (pc := 2) (rest := ([] : List zV)) h (m_X10_stripAt a S ⟨by omega, by omega⟩) dX10_order_2 mcX10_stripAt miX10_stripAt mlX10_71 rfl rfl ⟨by decide, by decide⟩ clX10 rfl rfl rfl (Nat.le_of_ble_eq_true rfl) ?_
  rintro _ _ ⟨rfl, ⟨hr2, rfl⟩ | ⟨hr2, rfl⟩ | ⟨hr2, rfl⟩⟩
  ·
    show zG x LX 5 [some (zr 0), some (zi a), some (zi b), none, none] [zr 1] S
    refine z_astore_n (pc := 5) (loc' := [some (zr 0), some (zi a), some (zi b), some (zr 1), none]) h dX10_order_5 rfl (Nat.le_of_ble_eq_true rfl) rfl rfl ?_
    refine z_aload_n (pc := 6) h dX10_order_6 rfl ?_
    refine z_ifnull_r (pc := 7) h dX10_order_7 ?_
    refine z_iload_n (pc := 10) h dX10_order_10 rfl ?_
    refine z_iconst (pc := 11) h dX10_order_11 ?_
    refine z_icmp_ge (pc := 12) (tgt := 18) h dX10_order_12 (by decide) ⟨by omega, by omega⟩ ⟨by decide, by decide⟩ (fun hc12 => ?_) (fun hc12 => ?_)
    ·
      refine z_aload_n (pc := 18) h dX10_order_18 rfl ?_
      refine z_callS (pc := 19) (rest := ([] : List zV)) h (m_X10_looseRefusal 1 S (by first | exact isStrip1 | exact isStrip5) (by first | exact o0 | exact o1)) dX10_order_19 mcX10_looseRefusal msX10_looseRefusal mlX10_215 rfl rfl ⟨by decide, by decide⟩ rfl (Nat.le_of_ble_eq_true rfl) ?_
      rintro _ _ ⟨rfl, rfl⟩
      show zG x LX 22 [some (zr 0), some (zi a), some (zi b), some (zr 1), none] [zi (if S 1 4 = 0 then -3 else if 8 < S 1 4 then -4 else 0)] S
      refine z_nm (b := (if S 1 4 = 0 then -3 else if 8 < S 1 4 then -4 else 0)) (fun rf h_rf => ?_)
      refine z_istore (pc := 22) (loc' := [some (zr 0), some (zi a), some (zi b), some (zr 1), some (zi rf)]) h dX10_order_22 (Nat.le_of_ble_eq_true rfl) rfl rfl ?_
      refine z_iload (pc := 24) h dX10_order_24 rfl ?_
      have hrf2 : -4 ≤ rf ∧ rf ≤ 0 := by rw [h_rf]; (repeat' split) <;> omega
      refine z_if_eq (pc := 26) (tgt := 32) h dX10_order_26 (by decide) ⟨by omega, by omega⟩ (fun hc26 => ?_) (fun hc26 => ?_)
      ·
        have hrf3 : rf = 0 := by omega
        rw [h_rf] at hrf3
        have hx9 : ∀ z : Int, (if z = 0 then (-3 : Int) else if 8 < z then -4 else 0) = 0 → z ≠ 0 ∧ z ≤ 8 := fun z hz => by (repeat' split at hz) <;> omega
        have hx8 := hx9 _ hrf3
        refine z_iload_n (pc := 32) h dX10_order_32 rfl ?_
        refine z_aload_n (pc := 33) h dX10_order_33 rfl ?_
        refine z_getI (pc := 34) h dX10_order_34 clX7 lkX10_129 (by decide) rfl rfl ?_
        refine z_icmp_lt (pc := 37) (tgt := 43) h dX10_order_37 (by decide) ⟨by omega, by omega⟩ ⟨by omega, by omega⟩ (fun hc37 => ?_) (fun hc37 => ?_)
        ·
          refine z_aload_n (pc := 43) h dX10_order_43 rfl ?_
          refine z_getR (a := 32) (pc := 44) h dX10_order_44 clX10 lkX10_46 (by decide) rfl rfl ?_
          refine z_aload_n (pc := 47) h dX10_order_47 rfl ?_
          refine z_aload_n (pc := 48) h dX10_order_48 rfl ?_
          refine z_getI (pc := 49) h dX10_order_49 clX10 lkX10_64 (by decide) rfl rfl ?_
          refine z_callV (pc := 52) (rest := ([] : List zV)) h (m_X5_search 1 (S 0 9) S (by first | exact isStrip1 | exact isStrip5) (by omega) (by first | exact o0 | exact o1) (by omega) (by omega)) dX10_order_52 mcX5_search miX5_search mlX10_219 rfl rfl ⟨by decide, by decide⟩ clX5 rfl rfl rfl (Nat.le_of_ble_eq_true rfl) ?_
          rintro _ S52 ⟨rfl, hr52f, hr52a, hr52b, hr52c⟩
          show zG x LX 55 [some (zr 0), some (zi a), some (zi b), some (zr 1), some (zi rf)] ([] : List zV) S52
          refine z_iload_n (pc := 55) h dX10_order_55 rfl ?_
          refine z_iconst (pc := 56) h dX10_order_56 ?_
          refine z_icmp_ne (pc := 57) (tgt := 70) h dX10_order_57 (by decide) ⟨by omega, by omega⟩ ⟨by decide, by decide⟩ (fun hc57 => ?_) (fun hc57 => ?_)
          ·
            refine z_aload_n (pc := 70) h dX10_order_70 rfl ?_
            refine z_getR (a := 32) (pc := 71) h dX10_order_71 clX10 lkX10_46 (by decide) rfl rfl ?_
            refine z_iload_n (pc := 74) h dX10_order_74 rfl ?_
            refine z_callV (pc := 75) (rest := ([] : List zV)) h (m_X5_pictureAt b S52 (by first | assumption | omega)) dX10_order_75 mcX5_pictureAt miX5_pictureAt mlX10_223 rfl rfl ⟨by decide, by decide⟩ clX5 rfl rfl rfl (Nat.le_of_ble_eq_true rfl) ?_
            rintro _ _ ⟨rfl, rfl⟩
            show zG x LX 78 [some (zr 0), some (zi a), some (zi b), some (zr 1), some (zi rf)] [zi (S52 36 b.toNat)] S52
            refine z_iret (pc := 78) h dX10_order_78 rfl ?_
            first
              | (subst hr2; refine ⟨ap_some ?_, cRel_keep hR (fun x y h1 h2 h3 h4 h5 => hr52f x y (by omega))⟩; unfold sp_order; rw [if_pos (by omega)]; unfold ordV; rw [← m0, ← v0, ← gg, if_neg (by omega), if_neg (by omega)]; first | (rw [if_pos (by omega)]; exact hr52a) | (rw [if_neg (by omega), if_pos (by omega)]; exact hr52c _ (by omega)))
              | (subst hr2; refine ⟨ap_some ?_, cRel_keep hR (fun x y h1 h2 h3 h4 h5 => hr52f x y (by omega))⟩; unfold sp_order; rw [if_pos (by omega)]; unfold ordV; rw [← m1, ← v1, ← gg, if_neg (by omega), if_neg (by omega)]; first | (rw [if_pos (by omega)]; exact hr52a) | (rw [if_neg (by omega), if_pos (by omega)]; exact hr52c _ (by omega)))
          ·
            refine z_aload_n (pc := 60) h dX10_order_60 rfl ?_
            refine z_getR (a := 32) (pc := 61) h dX10_order_61 clX10 lkX10_46 (by decide) rfl rfl ?_
            refine z_callV (pc := 64) (rest := ([] : List zV)) h (m_X5_sum S52 ) dX10_order_64 mcX5_sum miX5_sum mlX10_222 rfl rfl ⟨by decide, by decide⟩ clX5 rfl rfl rfl (Nat.le_of_ble_eq_true rfl) ?_
            rintro _ _ ⟨rfl, rfl⟩
            show zG x LX 67 [some (zr 0), some (zi a), some (zi b), some (zr 1), some (zi rf)] [zi (S52 34 8)] S52
            refine z_goto (pc := 67) (tgt := 78) h dX10_order_67 (by decide) ?_
            refine z_iret (pc := 78) h dX10_order_78 rfl ?_
            first
              | (subst hr2; refine ⟨ap_some ?_, cRel_keep hR (fun x y h1 h2 h3 h4 h5 => hr52f x y (by omega))⟩; unfold sp_order; rw [if_pos (by omega)]; unfold ordV; rw [← m0, ← v0, ← gg, if_neg (by omega), if_neg (by omega)]; first | (rw [if_pos (by omega)]; exact hr52a) | (rw [if_neg (by omega), if_pos (by omega)]; exact hr52c _ (by omega)))
              | (subst hr2; refine ⟨ap_some ?_, cRel_keep hR (fun x y h1 h2 h3 h4 h5 => hr52f x y (by omega))⟩; unfold sp_order; rw [if_pos (by omega)]; unfold ordV; rw [← m1, ← v1, ← gg, if_neg (by omega), if_neg (by omega)]; first | (rw [if_pos (by omega)]; exact hr52a) | (rw [if_neg (by omega), if_pos (by omega)]; exact hr52c _ (by omega)))
        ·
          refine z_bipush (pc := 40) h dX10_order_40 rfl ?_
          refine z_iret (pc := 42) h dX10_order_42 rfl ?_
          first
            | (subst hr2; refine ⟨ap_some ?_, hR⟩; unfold sp_order; rw [if_pos (by omega)]; unfold ordV; rw [← m0, if_neg (by omega), if_neg (by omega), if_neg (by omega), if_neg (by omega)])
            | (subst hr2; refine ⟨ap_some ?_, hR⟩; unfold sp_order; rw [if_pos (by omega)]; unfold ordV; rw [← m1, if_neg (by omega), if_neg (by omega), if_neg (by omega), if_neg (by omega)])
      ·
        refine z_iload (pc := 29) h dX10_order_29 rfl ?_
        refine z_iret (pc := 31) h dX10_order_31 rfl ?_
        first
          | (subst hr2; refine ⟨ap_some ?_, hR⟩; unfold sp_order; rw [if_pos (by omega)]; unfold ordV; rw [← m0]; rw [h_rf] at hc26 ⊢; (repeat' split at hc26) <;> (repeat' split) <;> omega)
          | (subst hr2; refine ⟨ap_some ?_, hR⟩; unfold sp_order; rw [if_pos (by omega)]; unfold ordV; rw [← m1]; rw [h_rf] at hc26 ⊢; (repeat' split at hc26) <;> (repeat' split) <;> omega)
    ·
      refine z_bipush (pc := 15) h dX10_order_15 rfl ?_
      refine z_iret (pc := 17) h dX10_order_17 rfl ?_
      first
        | (refine ⟨ap_some ?_, hR⟩; unfold sp_order; rw [if_neg (by omega)])
  ·
    show zG x LX 5 [some (zr 0), some (zi a), some (zi b), none, none] [zr 5] S
    refine z_astore_n (pc := 5) (loc' := [some (zr 0), some (zi a), some (zi b), some (zr 5), none]) h dX10_order_5 rfl (Nat.le_of_ble_eq_true rfl) rfl rfl ?_
    refine z_aload_n (pc := 6) h dX10_order_6 rfl ?_
    refine z_ifnull_r (pc := 7) h dX10_order_7 ?_
    refine z_iload_n (pc := 10) h dX10_order_10 rfl ?_
    refine z_iconst (pc := 11) h dX10_order_11 ?_
    refine z_icmp_ge (pc := 12) (tgt := 18) h dX10_order_12 (by decide) ⟨by omega, by omega⟩ ⟨by decide, by decide⟩ (fun hc12 => ?_) (fun hc12 => ?_)
    ·
      refine z_aload_n (pc := 18) h dX10_order_18 rfl ?_
      refine z_callS (pc := 19) (rest := ([] : List zV)) h (m_X10_looseRefusal 5 S (by first | exact isStrip1 | exact isStrip5) (by first | exact o0 | exact o1)) dX10_order_19 mcX10_looseRefusal msX10_looseRefusal mlX10_215 rfl rfl ⟨by decide, by decide⟩ rfl (Nat.le_of_ble_eq_true rfl) ?_
      rintro _ _ ⟨rfl, rfl⟩
      show zG x LX 22 [some (zr 0), some (zi a), some (zi b), some (zr 5), none] [zi (if S 5 4 = 0 then -3 else if 8 < S 5 4 then -4 else 0)] S
      refine z_nm (b := (if S 5 4 = 0 then -3 else if 8 < S 5 4 then -4 else 0)) (fun rf h_rf => ?_)
      refine z_istore (pc := 22) (loc' := [some (zr 0), some (zi a), some (zi b), some (zr 5), some (zi rf)]) h dX10_order_22 (Nat.le_of_ble_eq_true rfl) rfl rfl ?_
      refine z_iload (pc := 24) h dX10_order_24 rfl ?_
      have hrf2 : -4 ≤ rf ∧ rf ≤ 0 := by rw [h_rf]; (repeat' split) <;> omega
      refine z_if_eq (pc := 26) (tgt := 32) h dX10_order_26 (by decide) ⟨by omega, by omega⟩ (fun hc26 => ?_) (fun hc26 => ?_)
      ·
        have hrf3 : rf = 0 := by omega
        rw [h_rf] at hrf3
        have hx9 : ∀ z : Int, (if z = 0 then (-3 : Int) else if 8 < z then -4 else 0) = 0 → z ≠ 0 ∧ z ≤ 8 := fun z hz => by (repeat' split at hz) <;> omega
        have hx8 := hx9 _ hrf3
        refine z_iload_n (pc := 32) h dX10_order_32 rfl ?_
        refine z_aload_n (pc := 33) h dX10_order_33 rfl ?_
        refine z_getI (pc := 34) h dX10_order_34 clX7 lkX10_129 (by decide) rfl rfl ?_
        refine z_icmp_lt (pc := 37) (tgt := 43) h dX10_order_37 (by decide) ⟨by omega, by omega⟩ ⟨by omega, by omega⟩ (fun hc37 => ?_) (fun hc37 => ?_)
        ·
          refine z_aload_n (pc := 43) h dX10_order_43 rfl ?_
          refine z_getR (a := 32) (pc := 44) h dX10_order_44 clX10 lkX10_46 (by decide) rfl rfl ?_
          refine z_aload_n (pc := 47) h dX10_order_47 rfl ?_
          refine z_aload_n (pc := 48) h dX10_order_48 rfl ?_
          refine z_getI (pc := 49) h dX10_order_49 clX10 lkX10_64 (by decide) rfl rfl ?_
          refine z_callV (pc := 52) (rest := ([] : List zV)) h (m_X5_search 5 (S 0 9) S (by first | exact isStrip1 | exact isStrip5) (by omega) (by first | exact o0 | exact o1) (by omega) (by omega)) dX10_order_52 mcX5_search miX5_search mlX10_219 rfl rfl ⟨by decide, by decide⟩ clX5 rfl rfl rfl (Nat.le_of_ble_eq_true rfl) ?_
          rintro _ S52 ⟨rfl, hr52f, hr52a, hr52b, hr52c⟩
          show zG x LX 55 [some (zr 0), some (zi a), some (zi b), some (zr 5), some (zi rf)] ([] : List zV) S52
          refine z_iload_n (pc := 55) h dX10_order_55 rfl ?_
          refine z_iconst (pc := 56) h dX10_order_56 ?_
          refine z_icmp_ne (pc := 57) (tgt := 70) h dX10_order_57 (by decide) ⟨by omega, by omega⟩ ⟨by decide, by decide⟩ (fun hc57 => ?_) (fun hc57 => ?_)
          ·
            refine z_aload_n (pc := 70) h dX10_order_70 rfl ?_
            refine z_getR (a := 32) (pc := 71) h dX10_order_71 clX10 lkX10_46 (by decide) rfl rfl ?_
            refine z_iload_n (pc := 74) h dX10_order_74 rfl ?_
            refine z_callV (pc := 75) (rest := ([] : List zV)) h (m_X5_pictureAt b S52 (by first | assumption | omega)) dX10_order_75 mcX5_pictureAt miX5_pictureAt mlX10_223 rfl rfl ⟨by decide, by decide⟩ clX5 rfl rfl rfl (Nat.le_of_ble_eq_true rfl) ?_
            rintro _ _ ⟨rfl, rfl⟩
            show zG x LX 78 [some (zr 0), some (zi a), some (zi b), some (zr 5), some (zi rf)] [zi (S52 36 b.toNat)] S52
            refine z_iret (pc := 78) h dX10_order_78 rfl ?_
            first
              | (subst hr2; refine ⟨ap_some ?_, cRel_keep hR (fun x y h1 h2 h3 h4 h5 => hr52f x y (by omega))⟩; unfold sp_order; rw [if_pos (by omega)]; unfold ordV; rw [← m0, ← v0, ← gg, if_neg (by omega), if_neg (by omega)]; first | (rw [if_pos (by omega)]; exact hr52a) | (rw [if_neg (by omega), if_pos (by omega)]; exact hr52c _ (by omega)))
              | (subst hr2; refine ⟨ap_some ?_, cRel_keep hR (fun x y h1 h2 h3 h4 h5 => hr52f x y (by omega))⟩; unfold sp_order; rw [if_pos (by omega)]; unfold ordV; rw [← m1, ← v1, ← gg, if_neg (by omega), if_neg (by omega)]; first | (rw [if_pos (by omega)]; exact hr52a) | (rw [if_neg (by omega), if_pos (by omega)]; exact hr52c _ (by omega)))
          ·
            refine z_aload_n (pc := 60) h dX10_order_60 rfl ?_
            refine z_getR (a := 32) (pc := 61) h dX10_order_61 clX10 lkX10_46 (by decide) rfl rfl ?_
            refine z_callV (pc := 64) (rest := ([] : List zV)) h (m_X5_sum S52 ) dX10_order_64 mcX5_sum miX5_sum mlX10_222 rfl rfl ⟨by decide, by decide⟩ clX5 rfl rfl rfl (Nat.le_of_ble_eq_true rfl) ?_
            rintro _ _ ⟨rfl, rfl⟩
            show zG x LX 67 [some (zr 0), some (zi a), some (zi b), some (zr 5), some (zi rf)] [zi (S52 34 8)] S52
            refine z_goto (pc := 67) (tgt := 78) h dX10_order_67 (by decide) ?_
            refine z_iret (pc := 78) h dX10_order_78 rfl ?_
            first
              | (subst hr2; refine ⟨ap_some ?_, cRel_keep hR (fun x y h1 h2 h3 h4 h5 => hr52f x y (by omega))⟩; unfold sp_order; rw [if_pos (by omega)]; unfold ordV; rw [← m0, ← v0, ← gg, if_neg (by omega), if_neg (by omega)]; first | (rw [if_pos (by omega)]; exact hr52a) | (rw [if_neg (by omega), if_pos (by omega)]; exact hr52c _ (by omega)))
              | (subst hr2; refine ⟨ap_some ?_, cRel_keep hR (fun x y h1 h2 h3 h4 h5 => hr52f x y (by omega))⟩; unfold sp_order; rw [if_pos (by omega)]; unfold ordV; rw [← m1, ← v1, ← gg, if_neg (by omega), if_neg (by omega)]; first | (rw [if_pos (by omega)]; exact hr52a) | (rw [if_neg (by omega), if_pos (by omega)]; exact hr52c _ (by omega)))
        ·
          refine z_bipush (pc := 40) h dX10_order_40 rfl ?_
          refine z_iret (pc := 42) h dX10_order_42 rfl ?_
          first
            | (subst hr2; refine ⟨ap_some ?_, hR⟩; unfold sp_order; rw [if_pos (by omega)]; unfold ordV; rw [← m0, if_neg (by omega), if_neg (by omega), if_neg (by omega), if_neg (by omega)])
            | (subst hr2; refine ⟨ap_some ?_, hR⟩; unfold sp_order; rw [if_pos (by omega)]; unfold ordV; rw [← m1, if_neg (by omega), if_neg (by omega), if_neg (by omega), if_neg (by omega)])
      ·
        refine z_iload (pc := 29) h dX10_order_29 rfl ?_
        refine z_iret (pc := 31) h dX10_order_31 rfl ?_
        first
          | (subst hr2; refine ⟨ap_some ?_, hR⟩; unfold sp_order; rw [if_pos (by omega)]; unfold ordV; rw [← m0]; rw [h_rf] at hc26 ⊢; (repeat' split at hc26) <;> (repeat' split) <;> omega)
          | (subst hr2; refine ⟨ap_some ?_, hR⟩; unfold sp_order; rw [if_pos (by omega)]; unfold ordV; rw [← m1]; rw [h_rf] at hc26 ⊢; (repeat' split at hc26) <;> (repeat' split) <;> omega)
    ·
      refine z_bipush (pc := 15) h dX10_order_15 rfl ?_
      refine z_iret (pc := 17) h dX10_order_17 rfl ?_
      first
        | (refine ⟨ap_some ?_, hR⟩; unfold sp_order; rw [if_neg (by omega)])
  ·
    show zG x LX 5 [some (zr 0), some (zi a), some (zi b), none, none] [zn] S
    refine z_nstore_n (pc := 5) (loc' := [some (zr 0), some (zi a), some (zi b), some (zn), none]) h dX10_order_5 rfl (Nat.le_of_ble_eq_true rfl) rfl rfl ?_
    refine z_nload_n (pc := 6) h dX10_order_6 rfl ?_
    refine z_ifnull_n (pc := 7) (tgt := 15) h dX10_order_7 (by decide) ?_
    refine z_bipush (pc := 15) h dX10_order_15 rfl ?_
    refine z_iret (pc := 17) h dX10_order_17 rfl ?_
    first
      | (refine ⟨ap_some ?_, hR⟩; unfold sp_order; rw [if_neg (by omega)])

set_option maxRecDepth 100000 in
set_option maxHeartbeats 4000000 in
theorem m_X10_orders (a : Int) (A S : SS) (ha : r32 a) (hR : cRel S A) : zM LX yX10_orders cX10_orders 4 (some .int) 4 94 [zr 0, zi a] S (fun r S' => r = some (zi (sp_orders A a)) ∧ cRel S' A) := by
  refine zM_of (own := RX10) rfl (by decide +kernel) [some (zr 0), some (zi a), none, none] (Nat.le_of_ble_eq_true rfl) rfl ?_
  intro x h
  have hm := hR.1
  have r0 := hR.2.1.1
  have r1 := hR.2.1.2
  have o0 := r0.1
  have o1 := r1.1
  have v0 : pvX S 1 = qA A 0 := relS_pv r0
  have v1 : pvX S 5 = qA A 1 := relS_pv r1
  have m0 : S 1 4 = mA A 0 := r0.2.2.2.2.1
  have m1 : S 5 4 = mA A 1 := r1.2.2.2.2.1
  have gg : S 0 9 = A 5 0 := hR.2.2.1.1
  have hg := mi_g hm
  have b0 := o0.2.1
  have b1 := o1.2.1
  refine z_aload_n (pc := 0) h dX10_orders_0 rfl ?_
  refine z_iload_n (pc := 1) h dX10_orders_1 rfl ?_
  refine z_callV (pc := 2) (rest := ([] : List zV)) h (m_X10_stripAt a S ⟨by omega, by omega⟩) dX10_orders_2 mcX10_stripAt miX10_stripAt mlX10_71 rfl rfl ⟨by decide, by decide⟩ clX10 rfl rfl rfl (Nat.le_of_ble_eq_true rfl) ?_
  rintro _ _ ⟨rfl, ⟨hr2, rfl⟩ | ⟨hr2, rfl⟩ | ⟨hr2, rfl⟩⟩
  ·
    show zG x LX 5 [some (zr 0), some (zi a), none, none] [zr 1] S
    refine z_astore_n (pc := 5) (loc' := [some (zr 0), some (zi a), some (zr 1), none]) h dX10_orders_5 rfl (Nat.le_of_ble_eq_true rfl) rfl rfl ?_
    refine z_aload_n (pc := 6) h dX10_orders_6 rfl ?_
    refine z_ifnonnull_r (pc := 7) (tgt := 13) h dX10_orders_7 (by decide) ?_
    refine z_aload_n (pc := 13) h dX10_orders_13 rfl ?_
    refine z_callS (pc := 14) (rest := ([] : List zV)) h (m_X10_looseRefusal 1 S (by first | exact isStrip1 | exact isStrip5) (by first | exact o0 | exact o1)) dX10_orders_14 mcX10_looseRefusal msX10_looseRefusal mlX10_215 rfl rfl ⟨by decide, by decide⟩ rfl (Nat.le_of_ble_eq_true rfl) ?_
    rintro _ _ ⟨rfl, rfl⟩
    show zG x LX 17 [some (zr 0), some (zi a), some (zr 1), none] [zi (if S 1 4 = 0 then -3 else if 8 < S 1 4 then -4 else 0)] S
    refine z_nm (b := (if S 1 4 = 0 then -3 else if 8 < S 1 4 then -4 else 0)) (fun rf h_rf => ?_)
    refine z_istore_n (pc := 17) (loc' := [some (zr 0), some (zi a), some (zr 1), some (zi rf)]) h dX10_orders_17 rfl (Nat.le_of_ble_eq_true rfl) rfl rfl ?_
    refine z_iload_n (pc := 18) h dX10_orders_18 rfl ?_
    have hrf2 : -4 ≤ rf ∧ rf ≤ 0 := by rw [h_rf]; (repeat' split) <;> omega
    refine z_if_eq (pc := 19) (tgt := 24) h dX10_orders_19 (by decide) ⟨by omega, by omega⟩ (fun hc19 => ?_) (fun hc19 => ?_)
    ·
      have hrf3 : rf = 0 := by omega
      rw [h_rf] at hrf3
      have hx9 : ∀ z : Int, (if z = 0 then (-3 : Int) else if 8 < z then -4 else 0) = 0 → z ≠ 0 ∧ z ≤ 8 := fun z hz => by (repeat' split at hz) <;> omega
      have hx8 := hx9 _ hrf3
      refine z_aload_n (pc := 24) h dX10_orders_24 rfl ?_
      refine z_getR (a := 32) (pc := 25) h dX10_orders_25 clX10 lkX10_46 (by decide) rfl rfl ?_
      refine z_aload_n (pc := 28) h dX10_orders_28 rfl ?_
      refine z_aload_n (pc := 29) h dX10_orders_29 rfl ?_
      refine z_getI (pc := 30) h dX10_orders_30 clX10 lkX10_64 (by decide) rfl rfl ?_
      refine z_callV (pc := 33) (rest := ([] : List zV)) h (m_X5_search 1 (S 0 9) S (by first | exact isStrip1 | exact isStrip5) (by omega) (by first | exact o0 | exact o1) (by omega) (by omega)) dX10_orders_33 mcX5_search miX5_search mlX10_219 rfl rfl ⟨by decide, by decide⟩ clX5 rfl rfl rfl (Nat.le_of_ble_eq_true rfl) ?_
      rintro _ S33 ⟨rfl, hr33f, hr33a, hr33b, hr33c⟩
      show zG x LX 36 [some (zr 0), some (zi a), some (zr 1), some (zi rf)] ([] : List zV) S33
      refine z_aload_n (pc := 36) h dX10_orders_36 rfl ?_
      refine z_getR (a := 32) (pc := 37) h dX10_orders_37 clX10 lkX10_46 (by decide) rfl rfl ?_
      refine z_callV (pc := 40) (rest := ([] : List zV)) h (m_X5_howMany S33 ) dX10_orders_40 mcX5_howMany miX5_howMany mlX10_225 rfl rfl ⟨by decide, by decide⟩ clX5 rfl rfl rfl (Nat.le_of_ble_eq_true rfl) ?_
      rintro _ _ ⟨rfl, rfl⟩
      show zG x LX 43 [some (zr 0), some (zi a), some (zr 1), some (zi rf)] [zi (S33 35 8)] S33
      refine z_iret (pc := 43) h dX10_orders_43 rfl ?_
      first
        | (subst hr2; refine ⟨ap_some ?_, cRel_keep hR (fun x y h1 h2 h3 h4 h5 => hr33f x y (by omega))⟩; unfold sp_orders; rw [if_pos (by omega)]; unfold ordsV; rw [← m0, ← v0, ← gg, if_neg (by omega), if_neg (by omega)]; exact hr33b)
        | (subst hr2; refine ⟨ap_some ?_, cRel_keep hR (fun x y h1 h2 h3 h4 h5 => hr33f x y (by omega))⟩; unfold sp_orders; rw [if_pos (by omega)]; unfold ordsV; rw [← m1, ← v1, ← gg, if_neg (by omega), if_neg (by omega)]; exact hr33b)
    ·
      refine z_iload_n (pc := 22) h dX10_orders_22 rfl ?_
      refine z_iret (pc := 23) h dX10_orders_23 rfl ?_
      first
        | (subst hr2; refine ⟨ap_some ?_, hR⟩; unfold sp_orders; rw [if_pos (by omega)]; unfold ordsV; rw [← m0]; rw [h_rf] at hc19 ⊢; (repeat' split at hc19) <;> (repeat' split) <;> omega)
        | (subst hr2; refine ⟨ap_some ?_, hR⟩; unfold sp_orders; rw [if_pos (by omega)]; unfold ordsV; rw [← m1]; rw [h_rf] at hc19 ⊢; (repeat' split at hc19) <;> (repeat' split) <;> omega)
  ·
    show zG x LX 5 [some (zr 0), some (zi a), none, none] [zr 5] S
    refine z_astore_n (pc := 5) (loc' := [some (zr 0), some (zi a), some (zr 5), none]) h dX10_orders_5 rfl (Nat.le_of_ble_eq_true rfl) rfl rfl ?_
    refine z_aload_n (pc := 6) h dX10_orders_6 rfl ?_
    refine z_ifnonnull_r (pc := 7) (tgt := 13) h dX10_orders_7 (by decide) ?_
    refine z_aload_n (pc := 13) h dX10_orders_13 rfl ?_
    refine z_callS (pc := 14) (rest := ([] : List zV)) h (m_X10_looseRefusal 5 S (by first | exact isStrip1 | exact isStrip5) (by first | exact o0 | exact o1)) dX10_orders_14 mcX10_looseRefusal msX10_looseRefusal mlX10_215 rfl rfl ⟨by decide, by decide⟩ rfl (Nat.le_of_ble_eq_true rfl) ?_
    rintro _ _ ⟨rfl, rfl⟩
    show zG x LX 17 [some (zr 0), some (zi a), some (zr 5), none] [zi (if S 5 4 = 0 then -3 else if 8 < S 5 4 then -4 else 0)] S
    refine z_nm (b := (if S 5 4 = 0 then -3 else if 8 < S 5 4 then -4 else 0)) (fun rf h_rf => ?_)
    refine z_istore_n (pc := 17) (loc' := [some (zr 0), some (zi a), some (zr 5), some (zi rf)]) h dX10_orders_17 rfl (Nat.le_of_ble_eq_true rfl) rfl rfl ?_
    refine z_iload_n (pc := 18) h dX10_orders_18 rfl ?_
    have hrf2 : -4 ≤ rf ∧ rf ≤ 0 := by rw [h_rf]; (repeat' split) <;> omega
    refine z_if_eq (pc := 19) (tgt := 24) h dX10_orders_19 (by decide) ⟨by omega, by omega⟩ (fun hc19 => ?_) (fun hc19 => ?_)
    ·
      have hrf3 : rf = 0 := by omega
      rw [h_rf] at hrf3
      have hx9 : ∀ z : Int, (if z = 0 then (-3 : Int) else if 8 < z then -4 else 0) = 0 → z ≠ 0 ∧ z ≤ 8 := fun z hz => by (repeat' split at hz) <;> omega
      have hx8 := hx9 _ hrf3
      refine z_aload_n (pc := 24) h dX10_orders_24 rfl ?_
      refine z_getR (a := 32) (pc := 25) h dX10_orders_25 clX10 lkX10_46 (by decide) rfl rfl ?_
      refine z_aload_n (pc := 28) h dX10_orders_28 rfl ?_
      refine z_aload_n (pc := 29) h dX10_orders_29 rfl ?_
      refine z_getI (pc := 30) h dX10_orders_30 clX10 lkX10_64 (by decide) rfl rfl ?_
      refine z_callV (pc := 33) (rest := ([] : List zV)) h (m_X5_search 5 (S 0 9) S (by first | exact isStrip1 | exact isStrip5) (by omega) (by first | exact o0 | exact o1) (by omega) (by omega)) dX10_orders_33 mcX5_search miX5_search mlX10_219 rfl rfl ⟨by decide, by decide⟩ clX5 rfl rfl rfl (Nat.le_of_ble_eq_true rfl) ?_
      rintro _ S33 ⟨rfl, hr33f, hr33a, hr33b, hr33c⟩
      show zG x LX 36 [some (zr 0), some (zi a), some (zr 5), some (zi rf)] ([] : List zV) S33
      refine z_aload_n (pc := 36) h dX10_orders_36 rfl ?_
      refine z_getR (a := 32) (pc := 37) h dX10_orders_37 clX10 lkX10_46 (by decide) rfl rfl ?_
      refine z_callV (pc := 40) (rest := ([] : List zV)) h (m_X5_howMany S33 ) dX10_orders_40 mcX5_howMany miX5_howMany mlX10_225 rfl rfl ⟨by decide, by decide⟩ clX5 rfl rfl rfl (Nat.le_of_ble_eq_true rfl) ?_
      rintro _ _ ⟨rfl, rfl⟩
      show zG x LX 43 [some (zr 0), some (zi a), some (zr 5), some (zi rf)] [zi (S33 35 8)] S33
      refine z_iret (pc := 43) h dX10_orders_43 rfl ?_
      first
        | (subst hr2; refine ⟨ap_some ?_, cRel_keep hR (fun x y h1 h2 h3 h4 h5 => hr33f x y (by omega))⟩; unfold sp_orders; rw [if_pos (by omega)]; unfold ordsV; rw [← m0, ← v0, ← gg, if_neg (by omega), if_neg (by omega)]; exact hr33b)
        | (subst hr2; refine ⟨ap_some ?_, cRel_keep hR (fun x y h1 h2 h3 h4 h5 => hr33f x y (by omega))⟩; unfold sp_orders; rw [if_pos (by omega)]; unfold ordsV; rw [← m1, ← v1, ← gg, if_neg (by omega), if_neg (by omega)]; exact hr33b)
    ·
      refine z_iload_n (pc := 22) h dX10_orders_22 rfl ?_
      refine z_iret (pc := 23) h dX10_orders_23 rfl ?_
      first
        | (subst hr2; refine ⟨ap_some ?_, hR⟩; unfold sp_orders; rw [if_pos (by omega)]; unfold ordsV; rw [← m0]; rw [h_rf] at hc19 ⊢; (repeat' split at hc19) <;> (repeat' split) <;> omega)
        | (subst hr2; refine ⟨ap_some ?_, hR⟩; unfold sp_orders; rw [if_pos (by omega)]; unfold ordsV; rw [← m1]; rw [h_rf] at hc19 ⊢; (repeat' split at hc19) <;> (repeat' split) <;> omega)
  ·
    show zG x LX 5 [some (zr 0), some (zi a), none, none] [zn] S
    refine z_nstore_n (pc := 5) (loc' := [some (zr 0), some (zi a), some (zn), none]) h dX10_orders_5 rfl (Nat.le_of_ble_eq_true rfl) rfl rfl ?_
    refine z_nload_n (pc := 6) h dX10_orders_6 rfl ?_
    refine z_ifnonnull_n (pc := 7) h dX10_orders_7 ?_
    refine z_bipush (pc := 10) h dX10_orders_10 rfl ?_
    refine z_iret (pc := 12) h dX10_orders_12 rfl ?_
    first
      | (refine ⟨ap_some ?_, hR⟩; unfold sp_orders; rw [if_neg (by omega)])

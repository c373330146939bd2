/-! JOINED: settle -/
set_option maxRecDepth 100000 in
set_option maxHeartbeats 4000000 in
theorem m_X3_settle (t : Int) (A : SS) (m f : Nat) (S : SS) (hm : MI A) (hfm : f ≤ m ∧ m ≤ 6) (h8 : S 24 8 = (f : Int)) (h9 : S 24 9 = (m : Int)) (hC : colJ A m f S) (ht : 0 ≤ t ∧ t.toNat < 2 ^ m) (hK : ∀ _u : Unit, popc t.toNat < f → ∀ d : Nat, d < m → t.toNat.testBit d = false → setJ A m f S (t.toNat ||| 2 ^ d)) : zM LX yX3_settle cX3_settle 4 none 2 49 [zr 24, zi t] S (fun rr S' => rr = none ∧ (∀ x y, ¬ ((27 ≤ x ∧ x ≤ 30) ∧ y = t.toNat) → S' x y = S x y) ∧ (popc t.toNat ≤ f → setJ A m f S' t.toNat)) := by
  refine zM_of (own := RX3) rfl (by decide +kernel) [some (zr 24), some (zi t), none, none] (Nat.le_of_ble_eq_true rfl) rfl ?_
  intro x h
  have hp6 := pow6 hfm.2
  have hpm : popc t.toNat ≤ m := by rw [popc_m ht.2 (by omega)]; exact popk_b _ _
  refine z_iload_n (pc := 0) h dX3_settle_0 rfl ?_
  refine z_callS (pc := 1) (rest := ([] : List zV)) h (m_J6_bitCount_0f7a4 t S (by first | assumption | omega)) dX3_settle_1 mcJ6_bitCount_0f7a4 msJ6_bitCount_0f7a4 mlX3_77 rfl rfl ⟨by decide, by decide⟩ rfl (Nat.le_of_ble_eq_true rfl) ?_
  rintro _ _ ⟨rfl, rfl⟩
  show zG x LX 4 [some (zr 24), some (zi t), none, none] [zi (popc t.toNat : Nat)] S
  refine z_istore_n (pc := 4) (loc' := [some (zr 24), some (zi t), some (zi (popc t.toNat : Nat)), none]) h dX3_settle_4 rfl (Nat.le_of_ble_eq_true rfl) rfl rfl ?_
  refine z_aload_n (pc := 5) h dX3_settle_5 rfl ?_
  refine z_getR (a := 27) (pc := 6) h dX3_settle_6 clX3 lkX3_18 (by decide) rfl rfl ?_
  refine z_iload_n (pc := 9) h dX3_settle_9 rfl ?_
  refine z_iconst (pc := 10) h dX3_settle_10 ?_
  refine z_iast (pc := 11) h dX3_settle_11 rfl (by decide) (by omega) (by omega) ?_
  have J30 : ∀ (v : Int) (hv : (v = 1 ∧ popc t.toNat = f) ∨ (v = 0 ∧ popc t.toNat ≠ f)) , zG x LX 30 [some (zr 24), some (zi t), some (zi ((popc t.toNat : Nat) : Int)), none] [zi v, zi t, zr 28] (up2 S 27 t.toNat 0) := by
    intro v hv
    refine z_iast (pc := 30) h dX3_settle_30 rfl (by decide) (by omega) (by omega) ?_
    refine z_aload_n (pc := 31) h dX3_settle_31 rfl ?_
    refine z_getR (a := 29) (pc := 32) h dX3_settle_32 clX3 lkX3_24 (by decide) rfl rfl ?_
    refine z_iload_n (pc := 35) h dX3_settle_35 rfl ?_
    refine z_iconst (pc := 36) h dX3_settle_36 ?_
    refine z_iast (pc := 37) h dX3_settle_37 rfl (by decide) (by omega) (by omega) ?_
    refine z_aload_n (pc := 38) h dX3_settle_38 rfl ?_
    refine z_getR (a := 30) (pc := 39) h dX3_settle_39 clX3 lkX3_27 (by decide) rfl rfl ?_
    refine z_iload_n (pc := 42) h dX3_settle_42 rfl ?_
    refine z_iconst (pc := 43) h dX3_settle_43 ?_
    refine z_iast (pc := 44) h dX3_settle_44 rfl (by decide) (by omega) (by omega) ?_
    refine z_iconst (pc := 45) h dX3_settle_45 ?_
    refine z_istore_n (pc := 46) (loc' := [some (zr 24), some (zi t), some (zi ((popc t.toNat : Nat) : Int)), some (zi 0)]) h dX3_settle_46 rfl (Nat.le_of_ble_eq_true rfl) rfl rfl ?_
    have J47 : ∀ (N : Nat) (j : Int) (S1 : SS) (hj : 0 ≤ j ∧ j ≤ m) (hF : ∀ x y, ¬ ((27 ≤ x ∧ x ≤ 30) ∧ y = t.toNat) → S1 x y = S x y) (hA : ∀ _u : Unit, popc t.toNat ≤ f → S1 27 t.toNat = (jA A m (f - popc t.toNat) t.toNat j.toNat).2.1 ∧ S1 28 t.toNat = (jA A m (f - popc t.toNat) t.toNat j.toNat).1 ∧ S1 29 t.toNat = (jA A m (f - popc t.toNat) t.toNat j.toNat).2.2.1 ∧ S1 30 t.toNat = (jA A m (f - popc t.toNat) t.toNat j.toNat).2.2.2.1) , ((m : Int) - j).toNat = N → zG x LX 47 [some (zr 24), some (zi t), some (zi ((popc t.toNat : Nat) : Int)), some (zi j)] ([] : List zV) S1 := by
      intro N
      induction N using Nat.strongRecOn with
      | _ N ih47 => ?_
      intro j S1 hj hF hA hN47
      have g8 : S1 24 8 = (f : Int) := by rw [hF _ _ (by omega)]; exact h8
      have g9 : S1 24 9 = (m : Int) := by rw [hF _ _ (by omega)]; exact h9
      refine z_iload_n (pc := 47) h dX3_settle_47 rfl ?_
      refine z_aload_n (pc := 48) h dX3_settle_48 rfl ?_
      refine z_getI (pc := 49) h dX3_settle_49 clX3 lkX3_49 (by decide) rfl rfl ?_
      refine z_icmp_ge (pc := 52) (tgt := 84) h dX3_settle_52 (by decide) ⟨by omega, by omega⟩ ⟨by omega, by omega⟩ (fun hc52 => ?_) (fun hc52 => ?_)
      ·
        refine z_vret (pc := 84) h dX3_settle_84 rfl ?_
        refine ⟨rfl, hF, fun hle => ?_⟩
        have h7 := hA () hle
        unfold setJ
        first
          | (rw [show j.toNat = m by omega, jA_n] at h7; exact h7)
          | (have h6 : jA A m (f - popc t.toNat) t.toNat j.toNat = jR A m (f - popc t.toNat) t.toNat := by rw [show f - popc t.toNat = 0 by omega]; rfl
             rw [h6] at h7
             exact h7)
      ·
        refine z_iload_n (pc := 55) h dX3_settle_55 rfl ?_
        refine z_aload_n (pc := 56) h dX3_settle_56 rfl ?_
        refine z_getI (pc := 57) h dX3_settle_57 clX3 lkX3_55 (by decide) rfl rfl ?_
        refine z_icmp_ge (pc := 60) (tgt := 84) h dX3_settle_60 (by decide) ⟨by omega, by omega⟩ ⟨by omega, by omega⟩ (fun hc60 => ?_) (fun hc60 => ?_)
        ·
          refine z_vret (pc := 84) h dX3_settle_84 rfl ?_
          refine ⟨rfl, hF, fun hle => ?_⟩
          have h7 := hA () hle
          unfold setJ
          first
            | (rw [show j.toNat = m by omega, jA_n] at h7; exact h7)
            | (have h6 : jA A m (f - popc t.toNat) t.toNat j.toNat = jR A m (f - popc t.toNat) t.toNat := by rw [show f - popc t.toNat = 0 by omega]; rfl
               rw [h6] at h7
               exact h7)
        ·
          refine z_iload_n (pc := 63) h dX3_settle_63 rfl ?_
          refine z_iload_n (pc := 64) h dX3_settle_64 rfl ?_
          refine z_ishr (pc := 65) h dX3_settle_65 ⟨by omega, by omega⟩ ⟨by omega, by omega⟩ ?_
          refine z_iconst (pc := 66) h dX3_settle_66 ?_
          refine z_iand (pc := 67) h dX3_settle_67 ⟨(div_bb (N := 255) ⟨ht.1, by omega⟩ _).1, Int.le_trans (div_bb (N := 255) ⟨ht.1, by omega⟩ _).2 (by decide)⟩ ⟨by decide, by decide⟩ ?_
          refine z_nm (b := (((Int.toNat (t / 2 ^ j.toNat)) &&& 1 : Nat) : Int)) (fun bv h_bv => ?_)
          have hbv := bit_w ht.1 hj.1 h_bv
          refine z_if_ne (pc := 68) (tgt := 78) h dX3_settle_68 (by decide) ⟨by omega, by omega⟩ (fun hc68 => ?_) (fun hc68 => ?_)
          ·
            refine z_iinc (pc := 78) (loc' := [some (zr 24), some (zi t), some (zi ((popc t.toNat : Nat) : Int)), some (zi (j + 1))]) h dX3_settle_78 rfl (Nat.le_of_ble_eq_true rfl) rfl rfl ?_
            refine z_goto (pc := 81) (tgt := 47) h dX3_settle_81 (by decide) ?_
            exact ih47 _ (by omega) (j + 1) S1 (by omega) (by first | exact hF | (intro x y q; rw [hr75f x y q]; exact hF x y q)) (by intro _u hle; rw [show (j + 1).toNat = j.toNat + 1 by omega]; first | (rw [jA_skip (hbv.resolve_right (fun q => by omega)).2]; exact hA () hle) | (rw [hr9, jA_add hbf]; rw [hr9] at hr75a; exact hr75a)) rfl
          ·
            have hbf : t.toNat.testBit j.toNat = false := (hbv.resolve_left (fun q => by omega)).2
            obtain ⟨r, hr9⟩ : ∃ r, f - popc t.toNat = r + 1 := ⟨f - popc t.toNat - 1, by omega⟩
            have hC1 : colJ A m f S1 := fun k r q1 q2 => by rw [hF _ _ (by omega), hF _ _ (by omega)]; exact hC k r q1 q2
            obtain ⟨p1, p2, p3⟩ := popc_set hfm.2 ht.2 (show j.toNat < m by omega) hbf
            have hK1 : setJ A m f S1 (t.toNat ||| 2 ^ j.toNat) := by
              have h7 := hK () (by omega) j.toNat (by omega) hbf
              unfold setJ at h7 ⊢
              rw [hF _ _ (by omega), hF _ _ (by omega), hF _ _ (by omega), hF _ _ (by omega)]
              exact h7
            refine z_aload_n (pc := 71) h dX3_settle_71 rfl ?_
            refine z_iload_n (pc := 72) h dX3_settle_72 rfl ?_
            refine z_iload_n (pc := 73) h dX3_settle_73 rfl ?_
            refine z_iload_n (pc := 74) h dX3_settle_74 rfl ?_
            refine z_callV (pc := 75) (rest := ([] : List zV)) h (m_X3_weigh t ((popc t.toNat : Nat) : Int) j (jA A m (f - popc t.toNat) t.toNat j.toNat) r A m f S1 (by first | assumption | omega) (by first | assumption | omega) g8 g9 hC1 (by first | assumption | omega) (by first | assumption | omega) hbf rfl hr9 (hA () (by omega)) (jA_b hm hfm.2 (by omega) (by omega) _) hK1) dX3_settle_75 mcX3_weigh miX3_weigh mlX3_82 rfl rfl ⟨by decide, by decide⟩ clX3 rfl rfl rfl (Nat.le_of_ble_eq_true rfl) ?_
            rintro _ S75 ⟨rfl, hr75f, hr75a⟩
            show zG x LX 78 [some (zr 24), some (zi t), some (zi ((popc t.toNat : Nat) : Int)), some (zi j)] ([] : List zV) S75
            refine z_iinc (pc := 78) (loc' := [some (zr 24), some (zi t), some (zi ((popc t.toNat : Nat) : Int)), some (zi (j + 1))]) h dX3_settle_78 rfl (Nat.le_of_ble_eq_true rfl) rfl rfl ?_
            refine z_goto (pc := 81) (tgt := 47) h dX3_settle_81 (by decide) ?_
            exact ih47 _ (by omega) (j + 1) S75 (by omega) (by first | exact hF | (intro x y q; rw [hr75f x y q]; exact hF x y q)) (by intro _u hle; rw [show (j + 1).toNat = j.toNat + 1 by omega]; first | (rw [jA_skip (hbv.resolve_right (fun q => by omega)).2]; exact hA () hle) | (rw [hr9, jA_add hbf]; rw [hr9] at hr75a; exact hr75a)) rfl
    exact J47 _ 0 (up2 (up2 (up2 (up2 S 27 t.toNat 0) 28 t.toNat v) 29 t.toNat 0) 30 t.toNat 0) (by omega) (by intro x y q; rw [up2_e, if_neg (by omega), up2_e, if_neg (by omega), up2_e, if_neg (by omega), up2_e, if_neg (by omega)]) (by intro _u hle; unfold jA; have e30 : ∀ w : Int, up2 (up2 (up2 (up2 S 27 t.toNat 0) 28 t.toNat w) 29 t.toNat 0) 30 t.toNat 0 27 t.toNat = 0 := (fun w => by rw [up2_k _ _ (by decide), up2_k _ _ (by decide), up2_k _ _ (by decide), up2_s]); have e31 : ∀ w : Int, up2 (up2 (up2 (up2 S 27 t.toNat 0) 28 t.toNat w) 29 t.toNat 0) 30 t.toNat 0 28 t.toNat = w := (fun w => by rw [up2_k _ _ (by decide), up2_k _ _ (by decide), up2_s]); have e32 : ∀ w : Int, up2 (up2 (up2 (up2 S 27 t.toNat 0) 28 t.toNat w) 29 t.toNat 0) 30 t.toNat 0 29 t.toNat = 0 := (fun w => by rw [up2_k _ _ (by decide), up2_s]); rw [e30, e31, e32, up2_s]; rcases hv with ⟨v1, v2⟩ | ⟨v1, v2⟩; (rw [if_pos (by omega), v1]; exact ⟨rfl, rfl, rfl, rfl⟩); (rw [if_neg (by omega), v1]; exact ⟨rfl, rfl, rfl, rfl⟩)) rfl
  refine z_aload_n (pc := 12) h dX3_settle_12 rfl ?_
  refine z_getR (a := 28) (pc := 13) h dX3_settle_13 clX3 lkX3_21 (by decide) rfl rfl ?_
  refine z_iload_n (pc := 16) h dX3_settle_16 rfl ?_
  refine z_iload_n (pc := 17) h dX3_settle_17 rfl ?_
  refine z_aload_n (pc := 18) h dX3_settle_18 rfl ?_
  refine z_getI (pc := 19) h dX3_settle_19 clX3 lkX3_49 (by decide) rfl rfl ?_
  refine z_cv (b := (S 24 8)) (by rw [up2_k _ _ (by decide)]) ?_
  refine z_icmp_ne (pc := 22) (tgt := 29) h dX3_settle_22 (by decide) ⟨by omega, by omega⟩ ⟨by omega, by omega⟩ (fun hc22 => ?_) (fun hc22 => ?_)
  ·
    refine z_iconst (pc := 29) h dX3_settle_29 ?_
    exact J30 0 (by omega)
  ·
    refine z_iconst (pc := 25) h dX3_settle_25 ?_
    refine z_goto (pc := 26) (tgt := 30) h dX3_settle_26 (by decide) ?_
    exact J30 1 (by omega)

/-! ORDER: the reference, its search -/
set_option maxRecDepth 100000 in
set_option maxHeartbeats 4000000 in
theorem m_X11_puts (a : Int) (A S : SS) (ha : isS a) (hR : mRel S A) (hm : MI A) : zM LM yX11_puts cX11_puts 6 (some .int) 3 69 [zr 0, zi a] S (fun r S' => r = some (zi (if (mA A a) = 0 then -3 else if 8 < (mA A a) then -4 else 0)) ∧ mRel S' A ∧ prsM S' A a ∧ (1 ≤ (mA A a) → (mA A a) ≤ 8 → accP (mA A a) S' (oT (A 5 0) (qA A a) (mA A a).toNat) ∧ 0 < (oT (A 5 0) (qA A a) (mA A a).toNat).1)) := by
  refine zM_of (own := RX11) rfl (by decide +kernel) [some (zr 0), some (zi a), none, none, none, none] (Nat.le_of_ble_eq_true rfl) rfl ?_
  intro x h
  have hb := mA_b hm ha
  have hg := mi_g hm
  have hQ := qA_b hm ha
  refine z_aload_n (pc := 0) h dX11_puts_0 rfl ?_
  refine z_iload_n (pc := 1) h dX11_puts_1 rfl ?_
  refine z_callV (pc := 2) (rest := ([] : List zV)) h (m_X11_pictures a _ S (by first | assumption | omega) (by first | assumption | omega) (by first | assumption | omega)) dX11_puts_2 mcX11_pictures miX11_pictures mlX11_89 rfl rfl ⟨by decide, by decide⟩ clX11 rfl rfl rfl (Nat.le_of_ble_eq_true rfl) ?_
  rintro _ S2 ⟨rfl, hr2E, hr2R, hr2P⟩
  show zG x LM 5 [some (zr 0), some (zi a), none, none, none, none] [zi (mA A a)] S2
  refine z_istore_n (pc := 5) (loc' := [some (zr 0), some (zi a), some (zi (mA A a)), none, none, none]) h dX11_puts_5 rfl (Nat.le_of_ble_eq_true rfl) rfl rfl ?_
  refine z_iload_n (pc := 6) h dX11_puts_6 rfl ?_
  refine z_if_ne (pc := 7) (tgt := 13) h dX11_puts_7 (by decide) ⟨by omega, by omega⟩ (fun hc7 => ?_) (fun hc7 => ?_)
  ·
    refine z_iload_n (pc := 13) h dX11_puts_13 rfl ?_
    refine z_bipush (pc := 14) h dX11_puts_14 rfl ?_
    refine z_icmp_le (pc := 16) (tgt := 22) h dX11_puts_16 (by decide) ⟨by omega, by omega⟩ ⟨by decide, by decide⟩ (fun hc16 => ?_) (fun hc16 => ?_)
    ·
      obtain ⟨n, hnn⟩ : ∃ n : Nat, (mA A a) = (n : Int) := ⟨(mA A a).toNat, by omega⟩
      have hnt : (mA A a).toNat = n := by omega
      have hn8 : 1 ≤ n ∧ n ≤ 8 := by omega
      obtain ⟨hk1, hk2⟩ := ok_all hn8
      obtain ⟨x0, xs0, hx0, hxi⟩ := okH_0 hk2
      have hmem := lx_mem n (n - 1) 1
      have hTT : tK (fun x => gv (oc (A 5 0) (qA A a)) ow (oe (A 5 0) (qA A a)) (fun d => d) x 1 0) (lx n (n - 1) 1) tE = oT (A 5 0) (qA A a) n := lx_R n (oc (A 5 0) (qA A a)) ow (oe (A 5 0) (qA A a)) (fun d => d) (n - 1) 1 0
      refine z_iconst (pc := 22) h dX11_puts_22 ?_
      refine z_istore_n (pc := 23) (loc' := [some (zr 0), some (zi a), some (zi (mA A a)), some (zi 0), none, none]) h dX11_puts_23 rfl (Nat.le_of_ble_eq_true rfl) rfl rfl ?_
      have J24 : ∀ (N : Nat) (k : Int) (S1 : SS) (hk : 0 ≤ k ∧ k ≤ n) (hE : ∀ x y, x ≠ 9 → S1 x y = S2 x y) (h9 : ∀ j : Nat, (j : Int) < k → S1 9 j = j) , ((n : Int) - k).toNat = N → zG x LM 24 [some (zr 0), some (zi a), some (zi (mA A a)), some (zi k), none, none] ([] : List zV) S1 := by
        intro N
        induction N using Nat.strongRecOn with
        | _ N ih24 => ?_
        intro k S1 hk hE h9 hN24
        refine z_iload_n (pc := 24) h dX11_puts_24 rfl ?_
        refine z_iload_n (pc := 25) h dX11_puts_25 rfl ?_
        refine z_icmp_ge (pc := 26) (tgt := 42) h dX11_puts_26 (by decide) ⟨by omega, by omega⟩ ⟨by omega, by omega⟩ (fun hc26 => ?_) (fun hc26 => ?_)
        ·
          refine z_aload_n (pc := 42) h dX11_puts_42 rfl ?_
          refine z_ldc (pc := 43) (a := 1000000) h kcX11_141 dX11_puts_43 (by decide) ?_
          refine z_putI (pc := 45) h dX11_puts_45 clX11 lkX11_142 (by decide) rfl rfl rfl rfl ?_
          refine z_aload_n (pc := 48) h dX11_puts_48 rfl ?_
          refine z_iconst (pc := 49) h dX11_puts_49 ?_
          refine z_putI (pc := 50) h dX11_puts_50 clX11 lkX11_146 (by decide) rfl rfl rfl rfl ?_
          refine z_iconst (pc := 53) h dX11_puts_53 ?_
          refine z_istore_n (pc := 54) (loc' := [some (zr 0), some (zi a), some (zi (mA A a)), some (zi 1), none, none]) h dX11_puts_54 rfl (Nat.le_of_ble_eq_true rfl) rfl rfl ?_
          have J55 : ∀ (N : Nat) (b : Int) (ls : List (List Nat)) (acc : TS) (S1 : SS) (hb1 : (b = 0 ∧ ls = []) ∨ (b = 1 ∧ ls ≠ [])) (hlk : ∀ _u : Unit, ls ≠ [] → okL n ls = true) (hsub : ∀ y ∈ ls, y ∈ lx n (n - 1) 1) (hrw : ∀ _u : Unit, ls ≠ [] → ∀ k : Nat, (k : Int) < n → S1 9 k = ((fx (ls.headD []) k : Nat) : Int)) (hT : tK (fun x => gv (oc (A 5 0) (qA A a)) ow (oe (A 5 0) (qA A a)) (fun d => d) x 1 0) ls acc = oT (A 5 0) (qA A a) n) (hacc : accP n S1 acc) (hab : 0 ≤ acc.2.1 ∧ acc.2.1 ≤ 1000) (hE : ∀ x y, x ≠ 9 → x ≠ 10 → ¬ (x = 0 ∧ (y = 10 ∨ y = 11)) → S1 x y = S2 x y) , ls.length = N → zG x LM 55 [some (zr 0), some (zi a), some (zi (mA A a)), some (zi b), none, none] ([] : List zV) S1 := by
            intro N
            induction N using Nat.strongRecOn with
            | _ N ih55 => ?_
            intro b ls acc S1 hb1 hlk hsub hrw hT hacc hab hE hN55
            refine z_iload_n (pc := 55) h dX11_puts_55 rfl ?_
            refine z_if_eq (pc := 56) (tgt := 186) h dX11_puts_56 (by decide) ⟨by omega, by omega⟩ (fun hc56 => ?_) (fun hc56 => ?_)
            ·
              refine z_iconst (pc := 186) h dX11_puts_186 ?_
              refine z_iret (pc := 187) h dX11_puts_187 rfl ?_
              have hl0 : ls = [] := by rcases hb1 with ⟨-, q⟩ | ⟨q, -⟩; exact q; omega
              rw [hl0] at hT
              have hTe : acc = oT (A 5 0) (qA A a) n := hT
              rw [hTe] at hacc
              exact ⟨ap_some (by rw [if_neg (by omega), if_neg (by omega)]), mr_e hr2R (fun k j a1 a2 a3 a4 a5 a6 => hE k j a3 a4 (by omega)) (fun j => by rw [hE _ _ (by decide) (by decide) (by omega)]; exact hr2R.2 j), ⟨by rw [hE _ _ (by decide) (by decide) (by omega)]; exact hr2P.1, fun p q x1 x2 y1 y2 => by rw [hE _ _ (by decide) (by decide) (by omega)]; exact hr2P.2 p q x1 x2 y1 y2⟩, fun _ _ => by rw [hnt, hnn]; exact ⟨hacc, tR_pos n (oc (A 5 0) (qA A a)) ow (oe (A 5 0) (qA A a)) (fun d => d) (n - 1) 1 0 (by rw [popk_one hn8.1]; omega)⟩⟩
            ·
              obtain ⟨xr, xs, hls⟩ : ∃ xr xs, ls = xr :: xs := by rcases hb1 with ⟨q, -⟩ | ⟨-, q⟩; omega; exact List.exists_cons_of_ne_nil q
              have hxm : xr ∈ lx n (n - 1) 1 := hsub xr (by rw [hls]; exact List.mem_cons_self)
              have hxl := hmem xr hxm
              have hxn : xr.length + 1 = n := by omega
              have hfl := fx_lt (n := n) (x := xr) ⟨hxn, hxl.2⟩
              have hrow : ∀ k : Nat, (k : Int) < n → S1 9 k = ((fx xr k : Nat) : Int) := fun k hk => by have h9 := hrw () (by rw [hls]; exact List.cons_ne_nil _ _) k hk; rw [hls] at h9; exact h9
              have hlx : okL n (xr :: xs) = true := by rw [← hls]; exact hlk () (by rw [hls]; exact List.cons_ne_nil _ _)
              have hgx : (fun x => gv (oc (A 5 0) (qA A a)) ow (oe (A 5 0) (qA A a)) (fun d => d) x 1 0) xr = (1, (pcF (A 5 0) (qA A a) 0 xr), 0, 0, 0, xr) := gv_lx (A 5 0) (qA A a) n (n - 1) 1 0 xr hxm
              have hpb := rdS_b hg hQ xr
              have hRm : mRel S1 A := mr_e hr2R (fun k j a1 a2 a3 a4 a5 a6 => hE k j a3 a4 (by omega)) (fun j => by rw [hE _ _ (by decide) (by decide) (by omega)]; exact hr2R.2 j)
              have hRP : prsM S1 A a := ⟨by rw [hE _ _ (by decide) (by decide) (by omega)]; exact hr2P.1, fun p q x1 x2 y1 y2 => by rw [hE _ _ (by decide) (by decide) (by omega)]; exact hr2P.2 p q x1 x2 y1 y2⟩
              have haccb := accP_n hacc hab
              have hf5 : ∀ k, fx xr k < 8 := fun k => by have := hfl k; omega
              have htc := tC_2 acc (1, (pcF (A 5 0) (qA A a) 0 xr), 0, 0, 0, xr)
              have htd : ((1, (pcF (A 5 0) (qA A a) 0 xr), 0, 0, 0, xr) : TS).2.1 = (pcF (A 5 0) (qA A a) 0 xr) := rfl
              refine z_iconst (pc := 59) h dX11_puts_59 ?_
              refine z_istore (pc := 60) (loc' := [some (zr 0), some (zi a), some (zi (mA A a)), some (zi b), some (zi 0), none]) h dX11_puts_60 (Nat.le_of_ble_eq_true rfl) rfl rfl ?_
              refine z_iconst (pc := 62) h dX11_puts_62 ?_
              refine z_istore (pc := 63) (loc' := [some (zr 0), some (zi a), some (zi (mA A a)), some (zi b), some (zi 0), some (zi 0)]) h dX11_puts_63 (Nat.le_of_ble_eq_true rfl) rfl rfl ?_
              have J65 : ∀ (N : Nat) (sm z : Int) (hz : 0 ≤ z ∧ z ≤ n) (hsum : sm = rdS (A 5 0) (qA A a) xr n z.toNat) , ((n : Int) - z).toNat = N → zG x LM 65 [some (zr 0), some (zi a), some (zi (mA A a)), some (zi b), some (zi sm), some (zi z)] ([] : List zV) S1 := by
                intro N
                induction N using Nat.strongRecOn with
                | _ N ih65 => ?_
                intro sm z hz hsum hN65
                refine z_iload (pc := 65) h dX11_puts_65 rfl ?_
                refine z_iload_n (pc := 67) h dX11_puts_67 rfl ?_
                refine z_icmp_ge (pc := 68) (tgt := 105) h dX11_puts_68 (by decide) ⟨by omega, by omega⟩ ⟨by omega, by omega⟩ (fun hc68 => ?_) (fun hc68 => ?_)
                ·
                  have J177 : ∀ (S5 : SS) (hA5 : accP n S5 (tC acc (1, (pcF (A 5 0) (qA A a) 0 xr), 0, 0, 0, xr))) (hr5 : ∀ k : Nat, (k : Int) < n → S5 9 k = ((fx xr k : Nat) : Int)) (hE5 : ∀ x y, x ≠ 9 → x ≠ 10 → ¬ (x = 0 ∧ (y = 10 ∨ y = 11)) → S5 x y = S2 x y) , zG x LM 177 [some (zr 0), some (zi a), some (zi (mA A a)), some (zi b), some (zi sm), none] ([] : List zV) S5 := by
                    intro S5 hA5 hr5 hE5
                    refine z_aload_n (pc := 177) h dX11_puts_177 rfl ?_
                    refine z_iload_n (pc := 178) h dX11_puts_178 rfl ?_
                    refine z_callV (pc := 179) (rest := ([] : List zV)) h (m_X11_turns (mA A a) (fx xr) S5 (by first | assumption | omega) (fun k hk => hr5 k (by omega)) hf5) dX11_puts_179 mcX11_turns miX11_turns mlX11_178 rfl rfl ⟨by decide, by decide⟩ clX11 rfl rfl rfl (Nat.le_of_ble_eq_true rfl) ?_
                    rintro _ S179 (⟨hr179, rfl, rfl⟩ | ⟨hr179, rfl, hr179f, hr179r⟩)
                    ·
                      show zG x LM 182 [some (zr 0), some (zi a), some (zi (mA A a)), some (zi b), some (zi sm), none] [zi 0] S5
                      refine z_istore_n (pc := 182) (loc' := [some (zr 0), some (zi a), some (zi (mA A a)), some (zi 0), some (zi sm), none]) h dX11_puts_182 rfl (Nat.le_of_ble_eq_true rfl) rfl rfl ?_
                      refine z_goto (pc := 183) (tgt := 55) h dX11_puts_183 (by decide) ?_
                      refine z_forget [true, true, true, true, false, true] (loc' := [some (zr 0), some (zi a), some (zi (mA A a)), some (zi 0), none, none]) rfl ?_
                      exact ih55 _ (by rw [← hN55, hls]; exact Nat.lt_succ_self _) 0 xs (tC acc (1, (pcF (A 5 0) (qA A a) 0 xr), 0, 0, 0, xr)) S5 (by first | exact Or.inl ⟨rfl, okL_0 hlx (by rw [← hnt]; exact hr179)⟩ | (right; refine ⟨rfl, ?_⟩; obtain ⟨y, r, hy, -⟩ := okL_1 hlx (by rw [← hnt]; exact hr179); rw [hy]; exact List.cons_ne_nil _ _)) (by intro _u hne; first | exact absurd (okL_0 hlx (by rw [← hnt]; exact hr179)) hne | (obtain ⟨y, r, hy, h2, -⟩ := okL_1 hlx (by rw [← hnt]; exact hr179); exact h2)) (fun y hy => hsub y (by rw [hls]; exact List.mem_cons_of_mem _ hy)) (by intro _u hne k hk; first | exact absurd (okL_0 hlx (by rw [← hnt]; exact hr179)) hne | (obtain ⟨y, r, hy, -, h3⟩ := okL_1 hlx (by rw [← hnt]; exact hr179); rw [hr179r k (by omega), hy, hnt]; exact congrArg (fun z : Nat => (z : Int)) (h3 k (by omega)))) (by rw [hls] at hT; rw [← hgx]; exact hT) (by first | (have h9x := hr179f; unfold accP at hA5 ⊢; rw [hr179f _ _ (by decide), hr179f _ _ (by decide)]; rcases hA5 with q | ⟨q1, q2, q3, q4⟩; exact Or.inl q; exact Or.inr ⟨q1, q2, q3, fun k hk => by rw [hr179f _ _ (by decide)]; exact q4 k hk⟩) | exact hA5) (by rcases htc with q | q; (rw [q]; exact hab); (rw [q, htd]; omega)) (by first | (have h9x := hr179f; intro x y q1 q2 q3; rw [hr179f x y q1]; exact hE5 x y q1 q2 q3) | exact hE5) rfl
                    ·
                      show zG x LM 182 [some (zr 0), some (zi a), some (zi (mA A a)), some (zi b), some (zi sm), none] [zi 1] S179
                      refine z_istore_n (pc := 182) (loc' := [some (zr 0), some (zi a), some (zi (mA A a)), some (zi 1), some (zi sm), none]) h dX11_puts_182 rfl (Nat.le_of_ble_eq_true rfl) rfl rfl ?_
                      refine z_goto (pc := 183) (tgt := 55) h dX11_puts_183 (by decide) ?_
                      refine z_forget [true, true, true, true, false, true] (loc' := [some (zr 0), some (zi a), some (zi (mA A a)), some (zi 1), none, none]) rfl ?_
                      exact ih55 _ (by rw [← hN55, hls]; exact Nat.lt_succ_self _) 1 xs (tC acc (1, (pcF (A 5 0) (qA A a) 0 xr), 0, 0, 0, xr)) S179 (by first | exact Or.inl ⟨rfl, okL_0 hlx (by rw [← hnt]; exact hr179)⟩ | (right; refine ⟨rfl, ?_⟩; obtain ⟨y, r, hy, -⟩ := okL_1 hlx (by rw [← hnt]; exact hr179); rw [hy]; exact List.cons_ne_nil _ _)) (by intro _u hne; first | exact absurd (okL_0 hlx (by rw [← hnt]; exact hr179)) hne | (obtain ⟨y, r, hy, h2, -⟩ := okL_1 hlx (by rw [← hnt]; exact hr179); exact h2)) (fun y hy => hsub y (by rw [hls]; exact List.mem_cons_of_mem _ hy)) (by intro _u hne k hk; first | exact absurd (okL_0 hlx (by rw [← hnt]; exact hr179)) hne | (obtain ⟨y, r, hy, -, h3⟩ := okL_1 hlx (by rw [← hnt]; exact hr179); rw [hr179r k (by omega), hy, hnt]; exact congrArg (fun z : Nat => (z : Int)) (h3 k (by omega)))) (by rw [hls] at hT; rw [← hgx]; exact hT) (by first | (have h9x := hr179f; unfold accP at hA5 ⊢; rw [hr179f _ _ (by decide), hr179f _ _ (by decide)]; rcases hA5 with q | ⟨q1, q2, q3, q4⟩; exact Or.inl q; exact Or.inr ⟨q1, q2, q3, fun k hk => by rw [hr179f _ _ (by decide)]; exact q4 k hk⟩) | exact hA5) (by rcases htc with q | q; (rw [q]; exact hab); (rw [q, htd]; omega)) (by first | (have h9x := hr179f; intro x y q1 q2 q3; rw [hr179f x y q1]; exact hE5 x y q1 q2 q3) | exact hE5) rfl
                  have hsm : sm = (pcF (A 5 0) (qA A a) 0 xr) := by rw [hsum]; unfold rdS; rw [if_neg (by omega)]
                  refine z_iload (pc := 105) h dX11_puts_105 rfl ?_
                  refine z_aload_n (pc := 107) h dX11_puts_107 rfl ?_
                  refine z_getI (pc := 108) h dX11_puts_108 clX11 lkX11_142 (by decide) rfl rfl ?_
                  refine z_icmp_ge (pc := 111) (tgt := 154) h dX11_puts_111 (by decide) ⟨by omega, by omega⟩ ⟨by omega, by omega⟩ (fun hc111 => ?_) (fun hc111 => ?_)
                  ·
                    refine z_aload_n (pc := 154) h dX11_puts_154 rfl ?_
                    refine z_dup (pc := 155) h dX11_puts_155 rfl ?_
                    refine z_getI (pc := 156) h dX11_puts_156 clX11 lkX11_146 (by decide) rfl rfl ?_
                    refine z_iload (pc := 159) h dX11_puts_159 rfl ?_
                    refine z_aload_n (pc := 161) h dX11_puts_161 rfl ?_
                    refine z_getI (pc := 162) h dX11_puts_162 clX11 lkX11_142 (by decide) rfl rfl ?_
                    refine z_icmp_ne (pc := 165) (tgt := 172) h dX11_puts_165 (by decide) ⟨by omega, by omega⟩ ⟨by omega, by omega⟩ (fun hc165 => ?_) (fun hc165 => ?_)
                    ·
                      refine z_iconst (pc := 172) h dX11_puts_172 ?_
                      refine z_iadd (pc := 173) h dX11_puts_173 ?_
                      refine z_putI (pc := 174) h dX11_puts_174 clX11 lkX11_146 (by decide) rfl rfl rfl rfl ?_
                      refine z_forget [true, true, true, true, true, false] (loc' := [some (zr 0), some (zi a), some (zi (mA A a)), some (zi b), some (zi sm), none]) rfl ?_
                      exact J177 (up2 S1 0 11 ((S1 0 11) + 0)) (by rw [← hsm]; first | exact absurd h310.symm hc165 | (have h9x := h310; exact accP_lt hacc hc111 (by rw [up2_j _ _ (by decide)]; exact h310) (by rw [up2_s, h311]; rfl) (fun k hk => by rw [up2_k _ _ (by decide)]; exact hc3 k (by omega))) | (have h9x : sm = S1 0 10 := hc165; exact accP_eq hacc (by omega) h9x (up2_j _ _ (by decide)) (up2_s _ _ _ _) (fun k => up2_k _ _ (by decide))) | (have h9x : ¬ sm = S1 0 10 := hc165; exact accP_gt hacc (by omega) (by omega) (up2_j _ _ (by decide)) (by rw [up2_s]; omega) (fun k => up2_k _ _ (by decide)))) (by first | (have h9x := hr3; exact (fun k hk => by rw [up2_k _ _ (by decide)]; exact hr3 k hk)) | exact (fun k hk => by rw [up2_k _ _ (by decide)]; exact hrow k hk)) (by first | (have h9x := hE3; exact (fun x y q1 q2 q3 => by rw [up2_e, if_neg (by omega)]; exact hE3 x y q1 q2 q3)) | exact (fun x y q1 q2 q3 => by rw [up2_e, if_neg (by omega)]; exact hE x y q1 q2 q3))
                    ·
                      refine z_iconst (pc := 168) h dX11_puts_168 ?_
                      refine z_goto (pc := 169) (tgt := 173) h dX11_puts_169 (by decide) ?_
                      refine z_iadd (pc := 173) h dX11_puts_173 ?_
                      refine z_putI (pc := 174) h dX11_puts_174 clX11 lkX11_146 (by decide) rfl rfl rfl rfl ?_
                      refine z_forget [true, true, true, true, true, false] (loc' := [some (zr 0), some (zi a), some (zi (mA A a)), some (zi b), some (zi sm), none]) rfl ?_
                      exact J177 (up2 S1 0 11 ((S1 0 11) + 1)) (by rw [← hsm]; first | exact absurd h310.symm hc165 | (have h9x := h310; exact accP_lt hacc hc111 (by rw [up2_j _ _ (by decide)]; exact h310) (by rw [up2_s, h311]; rfl) (fun k hk => by rw [up2_k _ _ (by decide)]; exact hc3 k (by omega))) | (have h9x : sm = S1 0 10 := hc165; exact accP_eq hacc (by omega) h9x (up2_j _ _ (by decide)) (up2_s _ _ _ _) (fun k => up2_k _ _ (by decide))) | (have h9x : ¬ sm = S1 0 10 := hc165; exact accP_gt hacc (by omega) (by omega) (up2_j _ _ (by decide)) (by rw [up2_s]; omega) (fun k => up2_k _ _ (by decide)))) (by first | (have h9x := hr3; exact (fun k hk => by rw [up2_k _ _ (by decide)]; exact hr3 k hk)) | exact (fun k hk => by rw [up2_k _ _ (by decide)]; exact hrow k hk)) (by first | (have h9x := hE3; exact (fun x y q1 q2 q3 => by rw [up2_e, if_neg (by omega)]; exact hE3 x y q1 q2 q3)) | exact (fun x y q1 q2 q3 => by rw [up2_e, if_neg (by omega)]; exact hE x y q1 q2 q3))
                  ·
                    refine z_aload_n (pc := 114) h dX11_puts_114 rfl ?_
                    refine z_iload (pc := 115) h dX11_puts_115 rfl ?_
                    refine z_putI (pc := 117) h dX11_puts_117 clX11 lkX11_142 (by decide) rfl rfl rfl rfl ?_
                    refine z_aload_n (pc := 120) h dX11_puts_120 rfl ?_
                    refine z_iconst (pc := 121) h dX11_puts_121 ?_
                    refine z_putI (pc := 122) h dX11_puts_122 clX11 lkX11_146 (by decide) rfl rfl rfl rfl ?_
                    refine z_iconst (pc := 125) h dX11_puts_125 ?_
                    refine z_istore (pc := 126) (loc' := [some (zr 0), some (zi a), some (zi (mA A a)), some (zi b), some (zi sm), some (zi 0)]) h dX11_puts_126 (Nat.le_of_ble_eq_true rfl) rfl rfl ?_
                    have J128 : ∀ (N : Nat) (k2 : Int) (S3 : SS) (hk2b : 0 ≤ k2 ∧ k2 ≤ n) (h310 : S3 0 10 = sm) (h311 : S3 0 11 = 0) (hr3 : ∀ k : Nat, (k : Int) < n → S3 9 k = ((fx xr k : Nat) : Int)) (hE3 : ∀ x y, x ≠ 9 → x ≠ 10 → ¬ (x = 0 ∧ (y = 10 ∨ y = 11)) → S3 x y = S2 x y) (hc3 : ∀ k : Nat, (k : Int) < k2 → S3 10 k = ((fx xr k : Nat) : Int)) , ((n : Int) - k2).toNat = N → zG x LM 128 [some (zr 0), some (zi a), some (zi (mA A a)), some (zi b), some (zi sm), some (zi k2)] ([] : List zV) S3 := by
                      intro N
                      induction N using Nat.strongRecOn with
                      | _ N ih128 => ?_
                      intro k2 S3 hk2b h310 h311 hr3 hE3 hc3 hN128
                      refine z_iload (pc := 128) h dX11_puts_128 rfl ?_
                      refine z_iload_n (pc := 130) h dX11_puts_130 rfl ?_
                      refine z_icmp_ge (pc := 131) (tgt := 154) h dX11_puts_131 (by decide) ⟨by omega, by omega⟩ ⟨by omega, by omega⟩ (fun hc131 => ?_) (fun hc131 => ?_)
                      ·
                        refine z_aload_n (pc := 154) h dX11_puts_154 rfl ?_
                        refine z_dup (pc := 155) h dX11_puts_155 rfl ?_
                        refine z_getI (pc := 156) h dX11_puts_156 clX11 lkX11_146 (by decide) rfl rfl ?_
                        refine z_iload (pc := 159) h dX11_puts_159 rfl ?_
                        refine z_aload_n (pc := 161) h dX11_puts_161 rfl ?_
                        refine z_getI (pc := 162) h dX11_puts_162 clX11 lkX11_142 (by decide) rfl rfl ?_
                        refine z_icmp_ne (pc := 165) (tgt := 172) h dX11_puts_165 (by decide) ⟨by omega, by omega⟩ ⟨by omega, by omega⟩ (fun hc165 => ?_) (fun hc165 => ?_)
                        ·
                          refine z_iconst (pc := 172) h dX11_puts_172 ?_
                          refine z_iadd (pc := 173) h dX11_puts_173 ?_
                          refine z_putI (pc := 174) h dX11_puts_174 clX11 lkX11_146 (by decide) rfl rfl rfl rfl ?_
                          refine z_forget [true, true, true, true, true, false] (loc' := [some (zr 0), some (zi a), some (zi (mA A a)), some (zi b), some (zi sm), none]) rfl ?_
                          exact J177 (up2 S3 0 11 ((S3 0 11) + 0)) (by rw [← hsm]; first | exact absurd h310.symm hc165 | (have h9x := h310; exact accP_lt hacc hc111 (by rw [up2_j _ _ (by decide)]; exact h310) (by rw [up2_s, h311]; rfl) (fun k hk => by rw [up2_k _ _ (by decide)]; exact hc3 k (by omega))) | (have h9x : sm = S1 0 10 := hc165; exact accP_eq hacc (by omega) h9x (up2_j _ _ (by decide)) (up2_s _ _ _ _) (fun k => up2_k _ _ (by decide))) | (have h9x : ¬ sm = S1 0 10 := hc165; exact accP_gt hacc (by omega) (by omega) (up2_j _ _ (by decide)) (by rw [up2_s]; omega) (fun k => up2_k _ _ (by decide)))) (by first | (have h9x := hr3; exact (fun k hk => by rw [up2_k _ _ (by decide)]; exact hr3 k hk)) | exact (fun k hk => by rw [up2_k _ _ (by decide)]; exact hrow k hk)) (by first | (have h9x := hE3; exact (fun x y q1 q2 q3 => by rw [up2_e, if_neg (by omega)]; exact hE3 x y q1 q2 q3)) | exact (fun x y q1 q2 q3 => by rw [up2_e, if_neg (by omega)]; exact hE x y q1 q2 q3))
                        ·
                          refine z_iconst (pc := 168) h dX11_puts_168 ?_
                          refine z_goto (pc := 169) (tgt := 173) h dX11_puts_169 (by decide) ?_
                          refine z_iadd (pc := 173) h dX11_puts_173 ?_
                          refine z_putI (pc := 174) h dX11_puts_174 clX11 lkX11_146 (by decide) rfl rfl rfl rfl ?_
                          refine z_forget [true, true, true, true, true, false] (loc' := [some (zr 0), some (zi a), some (zi (mA A a)), some (zi b), some (zi sm), none]) rfl ?_
                          exact J177 (up2 S3 0 11 ((S3 0 11) + 1)) (by rw [← hsm]; first | exact absurd h310.symm hc165 | (have h9x := h310; exact accP_lt hacc hc111 (by rw [up2_j _ _ (by decide)]; exact h310) (by rw [up2_s, h311]; rfl) (fun k hk => by rw [up2_k _ _ (by decide)]; exact hc3 k (by omega))) | (have h9x : sm = S1 0 10 := hc165; exact accP_eq hacc (by omega) h9x (up2_j _ _ (by decide)) (up2_s _ _ _ _) (fun k => up2_k _ _ (by decide))) | (have h9x : ¬ sm = S1 0 10 := hc165; exact accP_gt hacc (by omega) (by omega) (up2_j _ _ (by decide)) (by rw [up2_s]; omega) (fun k => up2_k _ _ (by decide)))) (by first | (have h9x := hr3; exact (fun k hk => by rw [up2_k _ _ (by decide)]; exact hr3 k hk)) | exact (fun k hk => by rw [up2_k _ _ (by decide)]; exact hrow k hk)) (by first | (have h9x := hE3; exact (fun x y q1 q2 q3 => by rw [up2_e, if_neg (by omega)]; exact hE3 x y q1 q2 q3)) | exact (fun x y q1 q2 q3 => by rw [up2_e, if_neg (by omega)]; exact hE x y q1 q2 q3))
                      ·
                        refine z_aload_n (pc := 134) h dX11_puts_134 rfl ?_
                        refine z_getR (a := 10) (pc := 135) h dX11_puts_135 clX11 lkX11_37 (by decide) rfl rfl ?_
                        refine z_iload (pc := 138) h dX11_puts_138 rfl ?_
                        refine z_aload_n (pc := 140) h dX11_puts_140 rfl ?_
                        refine z_getR (a := 9) (pc := 141) h dX11_puts_141 clX11 lkX11_34 (by decide) rfl rfl ?_
                        refine z_iload (pc := 144) h dX11_puts_144 rfl ?_
                        refine z_iald (pc := 146) h dX11_puts_146 rfl (by decide) (by omega) (by omega) ?_
                        refine z_iast (pc := 147) h dX11_puts_147 rfl (by decide) (by omega) (by omega) ?_
                        refine z_iinc (pc := 148) (loc' := [some (zr 0), some (zi a), some (zi (mA A a)), some (zi b), some (zi sm), some (zi (k2 + 1))]) h dX11_puts_148 rfl (Nat.le_of_ble_eq_true rfl) rfl rfl ?_
                        refine z_goto (pc := 151) (tgt := 128) h dX11_puts_151 (by decide) ?_
                        exact ih128 _ (by omega) (k2 + 1) (up2 S3 10 k2.toNat (S3 9 k2.toNat)) (by omega) (by rw [up2_k _ _ (by decide)]; exact h310) (by rw [up2_k _ _ (by decide)]; exact h311) (fun k hk => by rw [up2_k _ _ (by decide)]; exact hr3 k hk) (fun x y q1 q2 q3 => by rw [up2_k _ _ q2]; exact hE3 x y q1 q2 q3) (by intro k hk; by_cases hkk : k = k2.toNat; (subst hkk; rw [up2_s]; exact hr3 _ (by omega)); (rw [up2_j _ _ hkk]; exact hc3 k (by omega))) rfl
                    exact J128 _ 0 (up2 (up2 S1 0 10 sm) 0 11 0) (by omega) (by rw [up2_j _ _ (by decide), up2_s]) (up2_s _ _ _ _) (fun k hk => by rw [up2_k _ _ (by decide), up2_k _ _ (by decide)]; exact hrow k hk) (fun x y q1 q2 q3 => by rw [up2_e, if_neg (by omega), up2_e, if_neg (by omega)]; exact hE x y q1 q2 q3) (fun k hk => by omega) rfl
                ·
                  have w1 := hfl z.toNat
                  have w2 := hfl ((z + 1) % n).toNat
                  have ez := hrow z.toNat (by omega)
                  have hmz := Int.emod_nonneg (z + 1) (show (n : Int) ≠ 0 by omega)
                  have hmy := Int.emod_lt_of_pos (z + 1) (show 0 < (n : Int) by omega)
                  have ez2 := hrow ((z + 1) % n).toNat (by omega)
                  have hstb := stepF_b hg hQ (fx xr z.toNat : Nat) (fx xr ((z + 1) % n).toNat : Nat)
                  refine z_iload (pc := 71) h dX11_puts_71 rfl ?_
                  refine z_aload_n (pc := 73) h dX11_puts_73 rfl ?_
                  refine z_iload_n (pc := 74) h dX11_puts_74 rfl ?_
                  refine z_aload_n (pc := 75) h dX11_puts_75 rfl ?_
                  refine z_getR (a := 9) (pc := 76) h dX11_puts_76 clX11 lkX11_34 (by decide) rfl rfl ?_
                  refine z_iload (pc := 79) h dX11_puts_79 rfl ?_
                  refine z_iald (pc := 81) h dX11_puts_81 rfl (by decide) (by omega) (by omega) ?_
                  refine z_cv (b := ((fx xr z.toNat : Nat) : Int)) (by exact ez) ?_
                  refine z_aload_n (pc := 82) h dX11_puts_82 rfl ?_
                  refine z_getR (a := 9) (pc := 83) h dX11_puts_83 clX11 lkX11_34 (by decide) rfl rfl ?_
                  refine z_iload (pc := 86) h dX11_puts_86 rfl ?_
                  refine z_iconst (pc := 88) h dX11_puts_88 ?_
                  refine z_iadd (pc := 89) h dX11_puts_89 ?_
                  refine z_iload_n (pc := 90) h dX11_puts_90 rfl ?_
                  refine z_iremN (pc := 91) h dX11_puts_91 ⟨by omega, by omega⟩ ⟨by omega, by omega⟩ ?_
                  refine z_cv (b := ((z + 1) % (n : Int))) (by rw [hnn]) ?_
                  refine z_iald (pc := 92) h dX11_puts_92 rfl (by decide) (by omega) (by omega) ?_
                  refine z_cv (b := ((fx xr ((z + 1) % (n : Int)).toNat : Nat) : Int)) (by exact ez2) ?_
                  refine z_callV (pc := 93) (rest := [zi sm]) h (m_X11_stepOf a ((fx xr z.toNat : Nat) : Int) ((fx xr ((z + 1) % (n : Int)).toNat : Nat) : Int) A S1 (by first | assumption | omega) hRm (by first | assumption | omega) hRP (by first | assumption | omega) (by first | assumption | omega)) dX11_puts_93 mcX11_stepOf miX11_stepOf mlX11_95 rfl rfl ⟨by decide, by decide⟩ clX11 rfl rfl rfl (Nat.le_of_ble_eq_true rfl) ?_
                  rintro _ _ ⟨rfl, rfl⟩
                  show zG x LM 96 [some (zr 0), some (zi a), some (zi (mA A a)), some (zi b), some (zi sm), some (zi z)] [zi (stepF (A 5 0) (qA A a) ((fx xr z.toNat : Nat) : Int) ((fx xr ((z + 1) % (n : Int)).toNat : Nat) : Int)), zi sm] S1
                  refine z_iadd (pc := 96) h dX11_puts_96 ?_
                  refine z_istore (pc := 97) (loc' := [some (zr 0), some (zi a), some (zi (mA A a)), some (zi b), some (zi (sm + (stepF (A 5 0) (qA A a) ((fx xr z.toNat : Nat) : Int) ((fx xr ((z + 1) % (n : Int)).toNat : Nat) : Int)))), some (zi z)]) h dX11_puts_97 (Nat.le_of_ble_eq_true rfl) rfl rfl ?_
                  refine z_iinc (pc := 99) (loc' := [some (zr 0), some (zi a), some (zi (mA A a)), some (zi b), some (zi (sm + (stepF (A 5 0) (qA A a) ((fx xr z.toNat : Nat) : Int) ((fx xr ((z + 1) % (n : Int)).toNat : Nat) : Int)))), some (zi (z + 1))]) h dX11_puts_99 rfl (Nat.le_of_ble_eq_true rfl) rfl rfl ?_
                  refine z_goto (pc := 102) (tgt := 65) h dX11_puts_102 (by decide) ?_
                  exact ih65 _ (by omega) (sm + (stepF (A 5 0) (qA A a) ((fx xr z.toNat : Nat) : Int) ((fx xr ((z + 1) % (n : Int)).toNat : Nat) : Int))) (z + 1) (by omega) (by rw [rdS_s hxn (by omega), ← hsum]) rfl
              exact J65 _ 0 0 (by omega) (by unfold rdS; rw [if_pos (show (0 : Int).toNat < n by omega)]; rfl) rfl
          exact J55 _ 1 (lx n (n - 1) 1) tE (up2 (up2 S1 0 10 1000000) 0 11 0) (by right; exact ⟨rfl, by rw [hx0]; exact List.cons_ne_nil _ _⟩) (fun _ _ => hk1) (fun y hy => hy) (fun _ _ k hk => by rw [hx0, up2_k _ _ (by decide), up2_k _ _ (by decide), h9 k (by omega)]; show _ = ((fx x0 k : Nat) : Int); rw [hxi k (by omega)]) (by exact hTT) (Or.inl ⟨rfl, by rw [up2_j _ _ (by decide), up2_s], up2_s _ _ _ _⟩) (⟨by decide, by decide⟩) (fun x y q1 q2 q3 => by rw [up2_e, if_neg (by omega), up2_e, if_neg (by omega)]; exact hE x y q1) rfl
        ·
          refine z_aload_n (pc := 29) h dX11_puts_29 rfl ?_
          refine z_getR (a := 9) (pc := 30) h dX11_puts_30 clX11 lkX11_34 (by decide) rfl rfl ?_
          refine z_iload_n (pc := 33) h dX11_puts_33 rfl ?_
          refine z_iload_n (pc := 34) h dX11_puts_34 rfl ?_
          refine z_iast (pc := 35) h dX11_puts_35 rfl (by decide) (by omega) (by omega) ?_
          refine z_iinc (pc := 36) (loc' := [some (zr 0), some (zi a), some (zi (mA A a)), some (zi (k + 1)), none, none]) h dX11_puts_36 rfl (Nat.le_of_ble_eq_true rfl) rfl rfl ?_
          refine z_goto (pc := 39) (tgt := 24) h dX11_puts_39 (by decide) ?_
          exact ih24 _ (by omega) (k + 1) (up2 S1 9 k.toNat k) (by omega) (fun x y q => by rw [up2_k _ _ q]; exact hE x y q) (by intro j hj; rw [up2_e]; split; omega; exact h9 j (by omega)) rfl
      exact J24 _ 0 S2 (by omega) (fun _ _ _ => rfl) (fun j hj => by omega) rfl
    ·
      refine z_bipush (pc := 19) h dX11_puts_19 rfl ?_
      refine z_iret (pc := 21) h dX11_puts_21 rfl ?_
      exact ⟨ap_some (by rw [if_neg (by omega), if_pos (by omega)]), hr2R, hr2P, fun q q2 => by omega⟩
  ·
    refine z_bipush (pc := 10) h dX11_puts_10 rfl ?_
    refine z_iret (pc := 12) h dX11_puts_12 rfl ?_
    exact ⟨ap_some (by rw [if_pos (by omega)]), hr2R, hr2P, fun q => by omega⟩

set_option maxRecDepth 100000 in
set_option maxHeartbeats 4000000 in
theorem m_X11_order (a b : Int) (A S : SS) (ha : r32 a) (hb : r32 b) (hR : mRel S A) (hm : MI A) : zM LM yX11_order cX11_order 4 (some .int) 4 94 [zr 0, zi a, zi b] S (fun r S' => r = some (zi (sp_order A a b)) ∧ mRel S' A) := by
  refine zM_of (own := RX11) rfl (by decide +kernel) [some (zr 0), some (zi a), some (zi b), none] (Nat.le_of_ble_eq_true rfl) rfl ?_
  intro x h
  refine z_iload_n (pc := 0) h dX11_order_0 rfl ?_
  refine z_callS (pc := 1) (rest := ([] : List zV)) h (m_X11_isStrip a S ⟨by omega, by omega⟩) dX11_order_1 mcX11_isStrip msX11_isStrip mlX11_79 rfl rfl ⟨by decide, by decide⟩ rfl (Nat.le_of_ble_eq_true rfl) ?_
  rintro _ _ ⟨rfl, ⟨hr1, rfl⟩ | ⟨hr1, rfl⟩⟩
  ·
    show zG x LM 4 [some (zr 0), some (zi a), some (zi b), none] [zi 1] S
    refine z_if_eq (pc := 4) (tgt := 12) h dX11_order_4 (by decide) ⟨by decide, by decide⟩ (fun hc4 => absurd hc4 (by decide)) (fun hc4 => ?_)
    refine z_iload_n (pc := 7) h dX11_order_7 rfl ?_
    refine z_iconst (pc := 8) h dX11_order_8 ?_
    refine z_icmp_ge (pc := 9) (tgt := 15) h dX11_order_9 (by decide) ⟨by omega, by omega⟩ ⟨by decide, by decide⟩ (fun hc9 => ?_) (fun hc9 => ?_)
    ·
      refine z_aload_n (pc := 15) h dX11_order_15 rfl ?_
      refine z_iload_n (pc := 16) h dX11_order_16 rfl ?_
      refine z_callV (pc := 17) (rest := ([] : List zV)) h (m_X11_puts a _ S (by first | assumption | omega) (by first | assumption | omega) (by first | assumption | omega)) dX11_order_17 mcX11_puts miX11_puts mlX11_181 rfl rfl ⟨by decide, by decide⟩ clX11 rfl rfl rfl (Nat.le_of_ble_eq_true rfl) ?_
      rintro _ S17 ⟨rfl, hr17R, hr17P, hr17T⟩
      show zG x LM 20 [some (zr 0), some (zi a), some (zi b), none] [zi (if (mA A a) = 0 then -3 else if 8 < (mA A a) then -4 else 0)] S17
      refine z_nm (b := (if (mA A a) = 0 then -3 else if 8 < (mA A a) then -4 else 0)) (fun rf h_rf => ?_)
      refine z_istore_n (pc := 20) (loc' := [some (zr 0), some (zi a), some (zi b), some (zi rf)]) h dX11_order_20 rfl (Nat.le_of_ble_eq_true rfl) rfl rfl ?_
      refine z_iload_n (pc := 21) h dX11_order_21 rfl ?_
      have hrf2 : -4 ≤ rf ∧ rf ≤ 0 := by rw [h_rf]; (repeat' split) <;> omega
      have hb9 := mA_b hm hr1
      refine z_if_eq (pc := 22) (tgt := 27) h dX11_order_22 (by decide) ⟨by omega, by omega⟩ (fun hc22 => ?_) (fun hc22 => ?_)
      ·
        have hx9 : ∀ z : Int, (if z = 0 then (-3 : Int) else if 8 < z then -4 else 0) = 0 → z ≠ 0 ∧ z ≤ 8 := fun z hz => by (repeat' split at hz) <;> omega
        have hx8 := hx9 (mA A a) (by rw [← h_rf]; omega)
        obtain ⟨hac, hcp⟩ := hr17T (by omega) hx8.2
        have hbx : 0 ≤ S17 0 10 ∧ S17 0 10 ≤ 1000000 := by rcases hac with ⟨q, -⟩ | ⟨-, q, -, -⟩; omega; (have := oR_b (mi_g hm) (qA_b hm hr1) (n := (mA A a).toNat) (r := (mA A a).toNat - 1) (by omega) (by omega) 1 0; unfold oT at q; omega)
        refine z_iload_n (pc := 27) h dX11_order_27 rfl ?_
        refine z_iconst (pc := 28) h dX11_order_28 ?_
        refine z_icmp_ne (pc := 29) (tgt := 39) h dX11_order_29 (by decide) ⟨by omega, by omega⟩ ⟨by decide, by decide⟩ (fun hc29 => ?_) (fun hc29 => ?_)
        ·
          have e3 := hr17P.1
          refine z_iload_n (pc := 39) h dX11_order_39 rfl ?_
          refine z_aload_n (pc := 40) h dX11_order_40 rfl ?_
          refine z_getR (a := 3) (pc := 41) h dX11_order_41 clX11 lkX11_16 (by decide) rfl rfl ?_
          refine z_iload_n (pc := 44) h dX11_order_44 rfl ?_
          refine z_iald (pc := 45) h dX11_order_45 rfl (by decide) (by omega) (by omega) ?_
          refine z_icmp_ge (pc := 46) (tgt := 58) h dX11_order_46 (by decide) ⟨by omega, by omega⟩ ⟨by omega, by omega⟩ (fun hc46 => ?_) (fun hc46 => ?_)
          ·
            refine z_bipush (pc := 58) h dX11_order_58 rfl ?_
            refine z_iret (pc := 60) h dX11_order_60 rfl ?_
            refine ⟨ap_some ?_, hr17R⟩
            unfold sp_order
            rw [if_pos (by omega)]
            unfold ordV
            rw [if_neg (by omega), if_neg (by omega)]
            rcases hac with ⟨q, -⟩ | ⟨-, q1, q2, q3⟩
            · omega
            · first
              | (rw [if_pos (by omega)]; exact q1)
              | (rw [if_neg (by omega), if_pos (by omega)]; exact q3 _ (by omega))
              | (rw [if_neg (by omega), if_neg (by omega)])
          ·
            refine z_aload_n (pc := 49) h dX11_order_49 rfl ?_
            refine z_getR (a := 10) (pc := 50) h dX11_order_50 clX11 lkX11_37 (by decide) rfl rfl ?_
            refine z_iload_n (pc := 53) h dX11_order_53 rfl ?_
            refine z_iald (pc := 54) h dX11_order_54 rfl (by decide) (by omega) (by omega) ?_
            refine z_goto (pc := 55) (tgt := 60) h dX11_order_55 (by decide) ?_
            refine z_iret (pc := 60) h dX11_order_60 rfl ?_
            refine ⟨ap_some ?_, hr17R⟩
            unfold sp_order
            rw [if_pos (by omega)]
            unfold ordV
            rw [if_neg (by omega), if_neg (by omega)]
            rcases hac with ⟨q, -⟩ | ⟨-, q1, q2, q3⟩
            · omega
            · first
              | (rw [if_pos (by omega)]; exact q1)
              | (rw [if_neg (by omega), if_pos (by omega)]; exact q3 _ (by omega))
              | (rw [if_neg (by omega), if_neg (by omega)])
        ·
          refine z_aload_n (pc := 32) h dX11_order_32 rfl ?_
          refine z_getI (pc := 33) h dX11_order_33 clX11 lkX11_142 (by decide) rfl rfl ?_
          refine z_goto (pc := 36) (tgt := 60) h dX11_order_36 (by decide) ?_
          refine z_iret (pc := 60) h dX11_order_60 rfl ?_
          refine ⟨ap_some ?_, hr17R⟩
          unfold sp_order
          rw [if_pos (by omega)]
          unfold ordV
          rw [if_neg (by omega), if_neg (by omega)]
          rcases hac with ⟨q, -⟩ | ⟨-, q1, q2, q3⟩
          · omega
          · first
            | (rw [if_pos (by omega)]; exact q1)
            | (rw [if_neg (by omega), if_pos (by omega)]; exact q3 _ (by omega))
            | (rw [if_neg (by omega), if_neg (by omega)])
      ·
        refine z_iload_n (pc := 25) h dX11_order_25 rfl ?_
        refine z_iret (pc := 26) h dX11_order_26 rfl ?_
        refine ⟨ap_some ?_, hr17R⟩
        unfold sp_order
        rw [if_pos (by omega)]
        unfold ordV
        rw [h_rf] at hc22 ⊢
        (repeat' split at hc22) <;> (repeat' split) <;> omega
    ·
      refine z_bipush (pc := 12) h dX11_order_12 rfl ?_
      refine z_iret (pc := 14) h dX11_order_14 rfl ?_
      exact ⟨ap_some (by unfold sp_order; rw [if_neg (by omega)]), hR⟩
  ·
    show zG x LM 4 [some (zr 0), some (zi a), some (zi b), none] [zi 0] S
    refine z_if_eq (pc := 4) (tgt := 12) h dX11_order_4 (by decide) ⟨by decide, by decide⟩ (fun hc4 => ?_) (fun hc4 => absurd hc4 (by decide))
    refine z_bipush (pc := 12) h dX11_order_12 rfl ?_
    refine z_iret (pc := 14) h dX11_order_14 rfl ?_
    exact ⟨ap_some (by unfold sp_order; rw [if_neg (by omega)]), hR⟩

set_option maxRecDepth 100000 in
set_option maxHeartbeats 4000000 in
theorem m_X11_ordersNow (a : Int) (A S : SS) (ha : isS a) (hR : mRel S A) (hm : MI A) : zM LM yX11_ordersNow cX11_ordersNow 3 (some .int) 4 94 [zr 0, zi a] S (fun r S' => r = some (zi (ordsV (A 5 0) (qA A a) (mA A a))) ∧ mRel S' A ∧ prsM S' A a) := by
  refine zM_of (own := RX11) rfl (by decide +kernel) [some (zr 0), some (zi a), none] (Nat.le_of_ble_eq_true rfl) rfl ?_
  intro x h
  refine z_aload_n (pc := 0) h dX11_ordersNow_0 rfl ?_
  refine z_iload_n (pc := 1) h dX11_ordersNow_1 rfl ?_
  refine z_callV (pc := 2) (rest := ([] : List zV)) h (m_X11_puts a _ S (by first | assumption | omega) (by first | assumption | omega) (by first | assumption | omega)) dX11_ordersNow_2 mcX11_puts miX11_puts mlX11_181 rfl rfl ⟨by decide, by decide⟩ clX11 rfl rfl rfl (Nat.le_of_ble_eq_true rfl) ?_
  rintro _ S2 ⟨rfl, hr2R, hr2P, hr2T⟩
  show zG x LM 5 [some (zr 0), some (zi a), none] [zi (if (mA A a) = 0 then -3 else if 8 < (mA A a) then -4 else 0)] S2
  refine z_nm (b := (if (mA A a) = 0 then -3 else if 8 < (mA A a) then -4 else 0)) (fun rf h_rf => ?_)
  refine z_istore_n (pc := 5) (loc' := [some (zr 0), some (zi a), some (zi rf)]) h dX11_ordersNow_5 rfl (Nat.le_of_ble_eq_true rfl) rfl rfl ?_
  refine z_iload_n (pc := 6) h dX11_ordersNow_6 rfl ?_
  have hrf2 : -4 ≤ rf ∧ rf ≤ 0 := by rw [h_rf]; (repeat' split) <;> omega
  have hb9 := mA_b hm ha
  refine z_if_eq (pc := 7) (tgt := 14) h dX11_ordersNow_7 (by decide) ⟨by omega, by omega⟩ (fun hc7 => ?_) (fun hc7 => ?_)
  ·
    have hx9 : ∀ z : Int, (if z = 0 then (-3 : Int) else if 8 < z then -4 else 0) = 0 → z ≠ 0 ∧ z ≤ 8 := fun z hz => by (repeat' split at hz) <;> omega
    have hx8 := hx9 (mA A a) (by rw [← h_rf]; omega)
    obtain ⟨hac, hcp⟩ := hr2T (by omega) hx8.2
    refine z_aload_n (pc := 14) h dX11_ordersNow_14 rfl ?_
    refine z_getI (pc := 15) h dX11_ordersNow_15 clX11 lkX11_146 (by decide) rfl rfl ?_
    refine z_iret (pc := 18) h dX11_ordersNow_18 rfl ?_
    refine ⟨ap_some ?_, hr2R, hr2P⟩
    unfold ordsV
    first
      | (rw [if_neg (by omega), if_neg (by omega)]; rcases hac with ⟨q, -⟩ | ⟨-, q1, q2, q3⟩; omega; exact q2)
      | (rw [h_rf] at hc7 ⊢; (repeat' split at hc7) <;> (repeat' split) <;> omega)
  ·
    refine z_iload_n (pc := 10) h dX11_ordersNow_10 rfl ?_
    refine z_goto (pc := 11) (tgt := 18) h dX11_ordersNow_11 (by decide) ?_
    refine z_iret (pc := 18) h dX11_ordersNow_18 rfl ?_
    refine ⟨ap_some ?_, hr2R, hr2P⟩
    unfold ordsV
    first
      | (rw [if_neg (by omega), if_neg (by omega)]; rcases hac with ⟨q, -⟩ | ⟨-, q1, q2, q3⟩; omega; exact q2)
      | (rw [h_rf] at hc7 ⊢; (repeat' split at hc7) <;> (repeat' split) <;> omega)

set_option maxRecDepth 100000 in
set_option maxHeartbeats 4000000 in
theorem m_X11_orders (a : Int) (A S : SS) (ha : r32 a) (hR : mRel S A) (hm : MI A) : zM LM yX11_orders cX11_orders 2 (some .int) 5 116 [zr 0, zi a] S (fun r S' => r = some (zi (sp_orders A a)) ∧ mRel S' A) := by
  refine zM_of (own := RX11) rfl (by decide +kernel) [some (zr 0), some (zi a)] (Nat.le_of_ble_eq_true rfl) rfl ?_
  intro x h
  refine z_iload_n (pc := 0) h dX11_orders_0 rfl ?_
  refine z_callS (pc := 1) (rest := ([] : List zV)) h (m_X11_isStrip a S ⟨by omega, by omega⟩) dX11_orders_1 mcX11_isStrip msX11_isStrip mlX11_79 rfl rfl ⟨by decide, by decide⟩ rfl (Nat.le_of_ble_eq_true rfl) ?_
  rintro _ _ ⟨rfl, ⟨hr1, rfl⟩ | ⟨hr1, rfl⟩⟩
  ·
    show zG x LM 4 [some (zr 0), some (zi a)] [zi 1] S
    refine z_if_eq (pc := 4) (tgt := 15) h dX11_orders_4 (by decide) ⟨by decide, by decide⟩ (fun hc4 => absurd hc4 (by decide)) (fun hc4 => ?_)
    refine z_aload_n (pc := 7) h dX11_orders_7 rfl ?_
    refine z_iload_n (pc := 8) h dX11_orders_8 rfl ?_
    refine z_callV (pc := 9) (rest := ([] : List zV)) h (m_X11_ordersNow a _ S (by first | assumption | omega) (by first | assumption | omega) (by first | assumption | omega)) dX11_orders_9 mcX11_ordersNow miX11_ordersNow mlX11_184 rfl rfl ⟨by decide, by decide⟩ clX11 rfl rfl rfl (Nat.le_of_ble_eq_true rfl) ?_
    rintro _ S9 ⟨rfl, hr9R, hr9P⟩
    show zG x LM 12 [some (zr 0), some (zi a)] [zi (ordsV (A 5 0) (qA A a) (mA A a))] S9
    refine z_goto (pc := 12) (tgt := 17) h dX11_orders_12 (by decide) ?_
    refine z_iret (pc := 17) h dX11_orders_17 rfl ?_
    first
      | exact ⟨ap_some (by unfold sp_orders; rw [if_pos (by omega)]), hr9R⟩
      | exact ⟨ap_some (by unfold sp_orders; rw [if_neg (by omega)]), hR⟩
  ·
    show zG x LM 4 [some (zr 0), some (zi a)] [zi 0] S
    refine z_if_eq (pc := 4) (tgt := 15) h dX11_orders_4 (by decide) ⟨by decide, by decide⟩ (fun hc4 => ?_) (fun hc4 => absurd hc4 (by decide))
    refine z_bipush (pc := 15) h dX11_orders_15 rfl ?_
    refine z_iret (pc := 17) h dX11_orders_17 rfl ?_
    first
      | exact ⟨ap_some (by unfold sp_orders; rw [if_pos (by omega)]), hr9R⟩
      | exact ⟨ap_some (by unfold sp_orders; rw [if_neg (by omega)]), hR⟩

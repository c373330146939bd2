/-! the class: read, copy, write -/
section
variable {x : zX} {L : List LY} {cc : ByteArray} {own : String} {nL : Nat} {ret : Option FieldType} {fr lc : Nat} {Post : Option zV → SS → Prop} {pc : Nat} {loc loc' : List (Option zV)} {st : List zV} {S : SS}
theorem z_copyi (h : zOK x L cc own nL ret fr lc Post) {index k0 k1 n0 n1 : Nat} {ks0 ks1 : List Nat} {i j n : Int} (hd : decode cc pc = .ok (.invokestatic index, 3)) (hlk : Cond.methodLink own index arraycopyName ∈ TB) (hnat : Cond.native arraycopyName ∈ TB) (hst : Cond.static arraycopyName ∈ TB) (hini : Cond.initialized "java/lang/System" ∈ TB) (he0 : L[k0]? = some (1, n0, ks0)) (he1 : L[k1]? = some (1, n1, ks1)) (hn0 : n0 ≤ 1000 ∧ n1 ≤ 1000) (h0 : 0 ≤ i ∧ 0 ≤ j ∧ 0 ≤ n) (h1 : i + n ≤ n0 ∧ j + n ≤ n1) (hfr : 1 ≤ fr) (hlc : zcat st + (nativeFrameWords "java/lang/System" "arraycopy" 5 + 11) ≤ lc)
    (hll : loc.length = nL) (kk : ∀ S' : SS, (∀ (a b : Nat), ¬ (a = k1 ∧ (j ≤ (b : Int) ∧ (b : Int) < j + n)) → S' a b = S a b) → (∀ b : Nat, j ≤ (b : Int) → (b : Int) < j + n → S' k1 b = S k0 (i + ((b : Int) - j)).toNat) → zG x L (pc + 3) loc st S') : zG x L pc loc (zi n :: zi j :: zr k1 :: zi i :: zr k0 :: st) S := by
  have kk2 := kk (fun a b => if a = k1 ∧ (j ≤ (b : Int) ∧ (b : Int) < j + n) then S k0 (i + ((b : Int) - j)).toNat else S a b) (fun a b q => if_neg q) (fun b q1 q2 => if_pos ⟨rfl, q1, q2⟩)
  obtain ⟨p, l, e, R, s, m, args, below, meth, c, Q, D, ad, T⟩ := x
  obtain ⟨hx, hb, hml, hown, hts, hK, hN, hinj, hlk2, hret, hfr2, hlc2, hQ⟩ := h
  intro H locs ls hP hS hL
  obtain ⟨hn0a, hn0b⟩ := hn0
  have hi := i32_t (a := i) ⟨by omega, by omega⟩
  have hj := i32_t (a := j) ⟨by omega, by omega⟩
  have hn := i32_t (a := n) ⟨by omega, by omega⟩
  have ti : (Int32.ofInt i).toNatClampNeg = i.toNat := by show (Int32.ofInt i).toInt.toNat = i.toNat; rw [hi]
  have tj : (Int32.ofInt j).toNatClampNeg = j.toNat := by show (Int32.ofInt j).toInt.toNat = j.toNat; rw [hj]
  have tn : (Int32.ofInt n).toNatClampNeg = n.toNat := by show (Int32.ofInt n).toInt.toNat = n.toNat; rw [hn]
  have ng : ∀ z : Int, 0 ≤ z → r32 z → ¬ Int32.ofInt z < 0 := fun z hz hr q => by
    have := (i32_l (b := 0) hr ⟨by decide, by decide⟩).mp q
    omega
  have hset := wd_set (ad := ad) (T := T) (S := S) (S' := fun a b => if a = k1 ∧ (j ≤ (b : Int) ∧ (b : Int) < j + n) then S k0 (i + ((b : Int) - j)).toNat else S a b) he1 (e := .inl (T.1, n1, .inl (va_cpy (fun j => Int32.ofInt (S k0 j)) (fun j => Int32.ofInt (S k1 j)) (Int32.ofInt i).toNatClampNeg (Int32.ofInt j).toNatClampNeg (Int32.ofInt n).toNatClampNeg))) (by
    rw [ti, tj, tn]
    simp only [cE]
    congr 4
    funext z
    unfold va_cpy
    by_cases hz : j.toNat ≤ z ∧ z < j.toNat + n.toNat
    · rw [if_pos hz, if_pos (by first | omega | (simp; omega))]
      congr 2
      omega
    · rw [if_neg hz, if_neg (fun q => hz (by omega))]) (fun b hb2 z => if_neg (fun q => hb2 q.1))
  have hsz : c.maxLocals = ls.size := by rw [hml, hL.1, hll]
  refine va_copyi (D := D) hx hb hsz hown (hts _ hlk) (hts _ hnat) (hts _ hst) (hts _ hini) hK hP (wd_D hinj) hS k0 k1 0 0 (wd_at he0) (wd_at he1) rfl rfl rfl (ng i (by omega) ⟨by omega, by omega⟩) (ng j (by omega) ⟨by omega, by omega⟩) (ng n (by omega) ⟨by omega, by omega⟩) (by rw [ti, tn]; omega) (by rw [tj, tn]; omega) (fun _ _ => rfl) (by rw [hfr2]; exact hfr) (by rw [zcat_eq, hlc2]; exact hlc) hd (fun H1 locs1 hP1 _ hS1 => kk2 H1 locs1 ls (hset ▸ hP1) hS1 hL)
end
theorem sp_dot_b {A : SS} (hm : MI A) (a b c : Int) : -4 ≤ sp_dot A a b c ∧ sp_dot A a b c ≤ 6 ∧ (sp_dot A a b c < 0 → st_dot A a b c = A) := by
  unfold sp_dot st_dot
  by_cases h : isS a ∧ okD b c
  · have := dA_b hm h.1
    rw [if_pos h, if_pos h]
    split
    · exact ⟨by omega, by omega, fun _ => rfl⟩
    · exact ⟨by omega, by omega, fun _ => by omega⟩
  · rw [if_neg h, if_neg h]
    exact ⟨by omega, by omega, fun _ => rfl⟩
theorem mA_c {A B : SS} (h1 : ∀ j, B 1 j = A 1 j) (h2 : ∀ j, B 2 j = A 2 j) (a : Int) : mA B a = mA A a ∧ qA B a = qA A a := by
  have e : tA B a = tA A a := funext fun j => h1 _
  have e2 : nA B a = nA A a := h2 _
  unfold mA qA
  rw [e, e2]
  exact ⟨rfl, rfl⟩
theorem pk_b {k s p : Int} (hp : 1 ≤ p ∧ p ≤ 24) : r32 (k * nearF p s % p) := by
  have h1 := Int.emod_nonneg (k * nearF p s) (show p ≠ 0 by omega)
  have h2 := Int.emod_lt_of_pos (k * nearF p s) (show 0 < p by omega)
  exact ⟨by omega, by omega⟩

set_option maxRecDepth 100000 in
set_option maxHeartbeats 4000000 in
theorem m_X10_read (a b : Int) (A S : SS) (ha : r32 a) (hb : r32 b) (hR : cRel S A) : zM LX yX10_read cX10_read 6 (some .int) 2 44 [zr 0, zi a, zi b] S (fun r S' => r = some (zi (sp_read A a b)) ∧ cRel S' (st_read A a b)) := by
  refine zM_of (own := RX10) rfl (by decide +kernel) [some (zr 0), some (zi a), some (zi b), none, none, none] (Nat.le_of_ble_eq_true rfl) rfl ?_
  intro x h
  refine z_aload_n (pc := 0) h dX10_read_0 rfl ?_
  refine z_iload_n (pc := 1) h dX10_read_1 rfl ?_
  refine z_callV (pc := 2) (rest := ([] : List zV)) h (m_X10_sheetAt a S ⟨by omega, by omega⟩) dX10_read_2 mcX10_sheetAt miX10_sheetAt mlX10_168 rfl rfl ⟨by decide, by decide⟩ clX10 rfl rfl rfl (Nat.le_of_ble_eq_true rfl) ?_
  rintro _ _ ⟨rfl, ⟨hr2, v2, hr2k, hr2e, rfl⟩ | ⟨hr2, rfl⟩⟩
  ·
    show zG x LX 5 [some (zr 0), some (zi a), some (zi b), none, none, none] [zr v2] S
    refine z_astore_n (pc := 5) (loc' := [some (zr 0), some (zi a), some (zi b), some (zr v2), none, none]) h dX10_read_5 rfl (Nat.le_of_ble_eq_true rfl) rfl rfl ?_
    refine z_aload_n (pc := 6) h dX10_read_6 rfl ?_
    refine z_iload_n (pc := 7) h dX10_read_7 rfl ?_
    refine z_callV (pc := 8) (rest := ([] : List zV)) h (m_X10_lookAt b S ⟨by omega, by omega⟩) dX10_read_8 mcX10_lookAt miX10_lookAt mlX10_161 rfl rfl ⟨by decide, by decide⟩ clX10 rfl rfl rfl (Nat.le_of_ble_eq_true rfl) ?_
    rintro _ _ ⟨rfl, ⟨hr8, rfl⟩ | ⟨hr8, rfl⟩ | ⟨hr8, rfl⟩⟩
    ·
      show zG x LX 11 [some (zr 0), some (zi a), some (zi b), some (zr v2), none, none] [zr 9] S
      refine z_astore (pc := 11) (loc' := [some (zr 0), some (zi a), some (zi b), some (zr v2), some (zr 9), none]) h dX10_read_11 (Nat.le_of_ble_eq_true rfl) rfl rfl ?_
      refine z_aload_n (pc := 13) h dX10_read_13 rfl ?_
      refine z_ifnull_r (pc := 14) h dX10_read_14 ?_
      refine z_aload (pc := 17) h dX10_read_17 rfl ?_
      refine z_ifnonnull_r (pc := 19) (tgt := 25) h dX10_read_19 (by decide) ?_
      obtain ⟨g0, g1, g2, g3, g4, g5, g6⟩ := rel_sheet hR hr2 hr2e
      refine z_aload_n (pc := 25) h dX10_read_25 rfl ?_
      refine z_getI (pc := 26) h dX10_read_26 clX6 lkX10_172 (by decide) hr2k.1 rfl ?_
      refine z_if_eq (pc := 29) (tgt := 38) h dX10_read_29 (by decide) ⟨by omega, by omega⟩ (fun hc29 => ?_) (fun hc29 => ?_)
      ·
        refine z_iconst (pc := 38) h dX10_read_38 ?_
        refine z_istore (pc := 39) (loc' := [some (zr 0), some (zi a), some (zi b), some (zr v2), some (zr 9), some (zi 0)]) h dX10_read_39 (Nat.le_of_ble_eq_true rfl) rfl rfl ?_
        have J41 : ∀ (N : Nat) (n : Int) (B S1 : SS) (hn : 0 ≤ n ∧ n ≤ A 16 a.toNat) (hB : ∀ k j, k ≠ 6 ∧ k ≠ 7 ∧ k ≠ 8 → B k j = A k j) (hR1 : cRel S1 B) (hI : rdR a b (A 16 a.toNat - n).toNat n B = rdF A a b) , (A 16 a.toNat - n).toNat = N → zG x LX 41 [some (zr 0), some (zi a), some (zi b), some (zr v2), some (zr 9), some (zi n)] ([] : List zV) S1 := by
          intro N
          induction N using Nat.strongRecOn with
          | _ N ih41 => ?_
          intro n B S1 hn hB hR1 hI hN41
          obtain ⟨y0, y1, y2, y3, y4, y5, y6⟩ := rel_sheet hR1 hr2 hr2e
          have e16 : B 16 a.toNat = A 16 a.toNat := hB _ _ (by decide)
          refine z_iload (pc := 41) h dX10_read_41 rfl ?_
          refine z_aload_n (pc := 43) h dX10_read_43 rfl ?_
          refine z_getI (pc := 44) h dX10_read_44 clX6 lkX10_179 (by decide) hr2k.1 rfl ?_
          refine z_icmp_ge (pc := 47) (tgt := 71) h dX10_read_47 (by decide) ⟨by omega, by omega⟩ ⟨by omega, by omega⟩ (fun hc47 => ?_) (fun hc47 => ?_)
          ·
            refine z_iload (pc := 71) h dX10_read_71 rfl ?_
            refine z_iret (pc := 73) h dX10_read_73 rfl ?_
            first
              | (rw [rd_0 (by omega)] at hI; exact ⟨ap_some (by unfold sp_read; rw [if_pos (by omega), if_neg (by omega), ← hI]), by unfold st_read; rw [if_pos (by omega), if_neg (by omega), ← hI]; exact hR1⟩)
              | (rw [rd_s (r' := (A 16 a.toNat - (n + 1)).toNat) (by omega), if_neg (by omega)] at hI; exact ⟨ap_some (by unfold sp_read; rw [if_pos (by omega), if_neg (by omega), ← hI]), by unfold st_read; rw [if_pos (by omega), if_neg (by omega), ← hI]; rw [hsb.2.2 (by omega)] at hr59; exact hr59⟩)
          ·
            have hit := (rel_item hR1 hr2 hr2e (i := n) (by omega)).1
            refine z_aload (pc := 50) h dX10_read_50 rfl ?_
            refine z_aload_n (pc := 52) h dX10_read_52 rfl ?_
            refine z_iload (pc := 53) h dX10_read_53 rfl ?_
            refine z_callV (pc := 55) (rest := [zr 9]) h (m_X6_itemAt v2 n S1 (by assumption) (by first | assumption | omega) ⟨by omega, by omega⟩) dX10_read_55 mcX6_itemAt miX6_itemAt mlX10_182 rfl rfl ⟨by decide, by decide⟩ clX6 hr2k.1 rfl rfl (Nat.le_of_ble_eq_true rfl) ?_
            rintro _ _ ⟨rfl, rfl⟩
            show zG x LX 58 [some (zr 0), some (zi a), some (zi b), some (zr v2), some (zr 9), some (zi n)] [zi (itF (S1 (v2 + 1)) (S1 v2 3) n), zr 9] S1
            refine z_cv (b := (B 17 (60 * a + n).toNat)) (by unfold itF; rw [if_pos (by omega)]; exact hit) ?_
            refine z_iconst (pc := 58) h dX10_read_58 ?_
            have hsb := sp_dot_b hR1.1 b (B 17 (60 * a + n).toNat) 0
            have hi17 := mi_hi hR1.1 (60 * a + n).toNat
            refine z_callV (pc := 59) (rest := ([] : List zV)) h (m_X4_addR 9 b (B 17 (60 * a + n).toNat) 0 B S1 (by first | assumption | omega) (by first | assumption | omega) hi17 ⟨by decide, by decide⟩) dX10_read_59 mcX4_add miX4_add mlX10_165 rfl rfl ⟨by decide, by decide⟩ clX4 rfl rfl rfl (Nat.le_of_ble_eq_true rfl) ?_
            rintro _ S59 ⟨rfl, hr59⟩
            show zG x LX 62 [some (zr 0), some (zi a), some (zi b), some (zr v2), some (zr 9), some (zi n)] [zi (sp_dot B b (B 17 (60 * a + n).toNat) 0)] S59
            refine z_if_lt (pc := 62) (tgt := 71) h dX10_read_62 (by decide) ⟨by omega, by omega⟩ (fun hc62 => ?_) (fun hc62 => ?_)
            ·
              refine z_iload (pc := 71) h dX10_read_71 rfl ?_
              refine z_iret (pc := 73) h dX10_read_73 rfl ?_
              first
                | (rw [rd_0 (by omega)] at hI; exact ⟨ap_some (by unfold sp_read; rw [if_pos (by omega), if_neg (by omega), ← hI]), by unfold st_read; rw [if_pos (by omega), if_neg (by omega), ← hI]; exact hR1⟩)
                | (rw [rd_s (r' := (A 16 a.toNat - (n + 1)).toNat) (by omega), if_neg (by omega)] at hI; exact ⟨ap_some (by unfold sp_read; rw [if_pos (by omega), if_neg (by omega), ← hI]), by unfold st_read; rw [if_pos (by omega), if_neg (by omega), ← hI]; rw [hsb.2.2 (by omega)] at hr59; exact hr59⟩)
            ·
              refine z_iinc (pc := 65) (loc' := [some (zr 0), some (zi a), some (zi b), some (zr v2), some (zr 9), some (zi (n + 1))]) h dX10_read_65 rfl (Nat.le_of_ble_eq_true rfl) rfl rfl ?_
              refine z_goto (pc := 68) (tgt := 41) h dX10_read_68 (by decide) ?_
              exact ih41 _ (by omega) (n + 1) (st_dot B b (B 17 (60 * a + n).toNat) 0) S59 (by omega) (fun k j q => by rw [st_dot_k _ _ _ q]; exact hB k j q) (by exact hr59) (by rw [rd_s (r' := (A 16 a.toNat - (n + 1)).toNat) (by omega), if_pos (by omega)] at hI; exact hI) rfl
        exact J41 _ 0 A S (by omega) (fun _ _ _ => rfl) (by exact hR) (by unfold rdF; congr 1; omega) rfl
      ·
        refine z_aload_n (pc := 32) h dX10_read_32 rfl ?_
        refine z_iconst (pc := 33) h dX10_read_33 ?_
        refine z_callV (pc := 34) (rest := ([] : List zV)) h (m_X10_finding 1 S ) dX10_read_34 mcX10_finding miX10_finding mlX10_176 rfl rfl ⟨by decide, by decide⟩ clX10 rfl rfl rfl (Nat.le_of_ble_eq_true rfl) ?_
        rintro _ _ ⟨rfl, rfl⟩
        show zG x LX 37 [some (zr 0), some (zi a), some (zi b), some (zr v2), some (zr 9), none] [zi (-10 - 1)] (up2 S 0 11 1)
        refine z_iret (pc := 37) h dX10_read_37 rfl ?_
        exact ⟨ap_some (by unfold sp_read; rw [if_pos (by omega), if_pos (by omega)]; try omega), by unfold st_read; rw [if_pos (by omega), if_pos (by omega)]; exact cRel_find hR (by omega)⟩
    ·
      show zG x LX 11 [some (zr 0), some (zi a), some (zi b), some (zr v2), none, none] [zr 12] S
      refine z_astore (pc := 11) (loc' := [some (zr 0), some (zi a), some (zi b), some (zr v2), some (zr 12), none]) h dX10_read_11 (Nat.le_of_ble_eq_true rfl) rfl rfl ?_
      refine z_aload_n (pc := 13) h dX10_read_13 rfl ?_
      refine z_ifnull_r (pc := 14) h dX10_read_14 ?_
      refine z_aload (pc := 17) h dX10_read_17 rfl ?_
      refine z_ifnonnull_r (pc := 19) (tgt := 25) h dX10_read_19 (by decide) ?_
      obtain ⟨g0, g1, g2, g3, g4, g5, g6⟩ := rel_sheet hR hr2 hr2e
      refine z_aload_n (pc := 25) h dX10_read_25 rfl ?_
      refine z_getI (pc := 26) h dX10_read_26 clX6 lkX10_172 (by decide) hr2k.1 rfl ?_
      refine z_if_eq (pc := 29) (tgt := 38) h dX10_read_29 (by decide) ⟨by omega, by omega⟩ (fun hc29 => ?_) (fun hc29 => ?_)
      ·
        refine z_iconst (pc := 38) h dX10_read_38 ?_
        refine z_istore (pc := 39) (loc' := [some (zr 0), some (zi a), some (zi b), some (zr v2), some (zr 12), some (zi 0)]) h dX10_read_39 (Nat.le_of_ble_eq_true rfl) rfl rfl ?_
        have J41 : ∀ (N : Nat) (n : Int) (B S1 : SS) (hn : 0 ≤ n ∧ n ≤ A 16 a.toNat) (hB : ∀ k j, k ≠ 6 ∧ k ≠ 7 ∧ k ≠ 8 → B k j = A k j) (hR1 : cRel S1 B) (hI : rdR a b (A 16 a.toNat - n).toNat n B = rdF A a b) , (A 16 a.toNat - n).toNat = N → zG x LX 41 [some (zr 0), some (zi a), some (zi b), some (zr v2), some (zr 12), some (zi n)] ([] : List zV) S1 := by
          intro N
          induction N using Nat.strongRecOn with
          | _ N ih41 => ?_
          intro n B S1 hn hB hR1 hI hN41
          obtain ⟨y0, y1, y2, y3, y4, y5, y6⟩ := rel_sheet hR1 hr2 hr2e
          have e16 : B 16 a.toNat = A 16 a.toNat := hB _ _ (by decide)
          refine z_iload (pc := 41) h dX10_read_41 rfl ?_
          refine z_aload_n (pc := 43) h dX10_read_43 rfl ?_
          refine z_getI (pc := 44) h dX10_read_44 clX6 lkX10_179 (by decide) hr2k.1 rfl ?_
          refine z_icmp_ge (pc := 47) (tgt := 71) h dX10_read_47 (by decide) ⟨by omega, by omega⟩ ⟨by omega, by omega⟩ (fun hc47 => ?_) (fun hc47 => ?_)
          ·
            refine z_iload (pc := 71) h dX10_read_71 rfl ?_
            refine z_iret (pc := 73) h dX10_read_73 rfl ?_
            first
              | (rw [rd_0 (by omega)] at hI; exact ⟨ap_some (by unfold sp_read; rw [if_pos (by omega), if_neg (by omega), ← hI]), by unfold st_read; rw [if_pos (by omega), if_neg (by omega), ← hI]; exact hR1⟩)
              | (rw [rd_s (r' := (A 16 a.toNat - (n + 1)).toNat) (by omega), if_neg (by omega)] at hI; exact ⟨ap_some (by unfold sp_read; rw [if_pos (by omega), if_neg (by omega), ← hI]), by unfold st_read; rw [if_pos (by omega), if_neg (by omega), ← hI]; rw [hsb.2.2 (by omega)] at hr59; exact hr59⟩)
          ·
            have hit := (rel_item hR1 hr2 hr2e (i := n) (by omega)).1
            refine z_aload (pc := 50) h dX10_read_50 rfl ?_
            refine z_aload_n (pc := 52) h dX10_read_52 rfl ?_
            refine z_iload (pc := 53) h dX10_read_53 rfl ?_
            refine z_callV (pc := 55) (rest := [zr 12]) h (m_X6_itemAt v2 n S1 (by assumption) (by first | assumption | omega) ⟨by omega, by omega⟩) dX10_read_55 mcX6_itemAt miX6_itemAt mlX10_182 rfl rfl ⟨by decide, by decide⟩ clX6 hr2k.1 rfl rfl (Nat.le_of_ble_eq_true rfl) ?_
            rintro _ _ ⟨rfl, rfl⟩
            show zG x LX 58 [some (zr 0), some (zi a), some (zi b), some (zr v2), some (zr 12), some (zi n)] [zi (itF (S1 (v2 + 1)) (S1 v2 3) n), zr 12] S1
            refine z_cv (b := (B 17 (60 * a + n).toNat)) (by unfold itF; rw [if_pos (by omega)]; exact hit) ?_
            refine z_iconst (pc := 58) h dX10_read_58 ?_
            have hsb := sp_dot_b hR1.1 b (B 17 (60 * a + n).toNat) 0
            have hi17 := mi_hi hR1.1 (60 * a + n).toNat
            refine z_callV (pc := 59) (rest := ([] : List zV)) h (m_X4_addR 12 b (B 17 (60 * a + n).toNat) 0 B S1 (by first | assumption | omega) (by first | assumption | omega) hi17 ⟨by decide, by decide⟩) dX10_read_59 mcX4_add miX4_add mlX10_165 rfl rfl ⟨by decide, by decide⟩ clX4 rfl rfl rfl (Nat.le_of_ble_eq_true rfl) ?_
            rintro _ S59 ⟨rfl, hr59⟩
            show zG x LX 62 [some (zr 0), some (zi a), some (zi b), some (zr v2), some (zr 12), some (zi n)] [zi (sp_dot B b (B 17 (60 * a + n).toNat) 0)] S59
            refine z_if_lt (pc := 62) (tgt := 71) h dX10_read_62 (by decide) ⟨by omega, by omega⟩ (fun hc62 => ?_) (fun hc62 => ?_)
            ·
              refine z_iload (pc := 71) h dX10_read_71 rfl ?_
              refine z_iret (pc := 73) h dX10_read_73 rfl ?_
              first
                | (rw [rd_0 (by omega)] at hI; exact ⟨ap_some (by unfold sp_read; rw [if_pos (by omega), if_neg (by omega), ← hI]), by unfold st_read; rw [if_pos (by omega), if_neg (by omega), ← hI]; exact hR1⟩)
                | (rw [rd_s (r' := (A 16 a.toNat - (n + 1)).toNat) (by omega), if_neg (by omega)] at hI; exact ⟨ap_some (by unfold sp_read; rw [if_pos (by omega), if_neg (by omega), ← hI]), by unfold st_read; rw [if_pos (by omega), if_neg (by omega), ← hI]; rw [hsb.2.2 (by omega)] at hr59; exact hr59⟩)
            ·
              refine z_iinc (pc := 65) (loc' := [some (zr 0), some (zi a), some (zi b), some (zr v2), some (zr 12), some (zi (n + 1))]) h dX10_read_65 rfl (Nat.le_of_ble_eq_true rfl) rfl rfl ?_
              refine z_goto (pc := 68) (tgt := 41) h dX10_read_68 (by decide) ?_
              exact ih41 _ (by omega) (n + 1) (st_dot B b (B 17 (60 * a + n).toNat) 0) S59 (by omega) (fun k j q => by rw [st_dot_k _ _ _ q]; exact hB k j q) (by exact hr59) (by rw [rd_s (r' := (A 16 a.toNat - (n + 1)).toNat) (by omega), if_pos (by omega)] at hI; exact hI) rfl
        exact J41 _ 0 A S (by omega) (fun _ _ _ => rfl) (by exact hR) (by unfold rdF; congr 1; omega) rfl
      ·
        refine z_aload_n (pc := 32) h dX10_read_32 rfl ?_
        refine z_iconst (pc := 33) h dX10_read_33 ?_
        refine z_callV (pc := 34) (rest := ([] : List zV)) h (m_X10_finding 1 S ) dX10_read_34 mcX10_finding miX10_finding mlX10_176 rfl rfl ⟨by decide, by decide⟩ clX10 rfl rfl rfl (Nat.le_of_ble_eq_true rfl) ?_
        rintro _ _ ⟨rfl, rfl⟩
        show zG x LX 37 [some (zr 0), some (zi a), some (zi b), some (zr v2), some (zr 12), none] [zi (-10 - 1)] (up2 S 0 11 1)
        refine z_iret (pc := 37) h dX10_read_37 rfl ?_
        exact ⟨ap_some (by unfold sp_read; rw [if_pos (by omega), if_pos (by omega)]; try omega), by unfold st_read; rw [if_pos (by omega), if_pos (by omega)]; exact cRel_find hR (by omega)⟩
    ·
      show zG x LX 11 [some (zr 0), some (zi a), some (zi b), some (zr v2), none, none] [zn] S
      refine z_nstore (pc := 11) (loc' := [some (zr 0), some (zi a), some (zi b), some (zr v2), some (zn), none]) h dX10_read_11 (Nat.le_of_ble_eq_true rfl) rfl rfl ?_
      refine z_aload_n (pc := 13) h dX10_read_13 rfl ?_
      refine z_ifnull_r (pc := 14) h dX10_read_14 ?_
      refine z_nload (pc := 17) h dX10_read_17 rfl ?_
      refine z_ifnonnull_n (pc := 19) h dX10_read_19 ?_
      refine z_bipush (pc := 22) h dX10_read_22 rfl ?_
      refine z_iret (pc := 24) h dX10_read_24 rfl ?_
      exact ⟨ap_some (by unfold sp_read; rw [if_neg (by omega)]), by unfold st_read; rw [if_neg (by omega)]; exact hR⟩
  ·
    show zG x LX 5 [some (zr 0), some (zi a), some (zi b), none, none, none] [zn] S
    refine z_nstore_n (pc := 5) (loc' := [some (zr 0), some (zi a), some (zi b), some (zn), none, none]) h dX10_read_5 rfl (Nat.le_of_ble_eq_true rfl) rfl rfl ?_
    refine z_aload_n (pc := 6) h dX10_read_6 rfl ?_
    refine z_iload_n (pc := 7) h dX10_read_7 rfl ?_
    refine z_callV (pc := 8) (rest := ([] : List zV)) h (m_X10_lookAt b S ⟨by omega, by omega⟩) dX10_read_8 mcX10_lookAt miX10_lookAt mlX10_161 rfl rfl ⟨by decide, by decide⟩ clX10 rfl rfl rfl (Nat.le_of_ble_eq_true rfl) ?_
    rintro _ _ ⟨rfl, ⟨hr8, rfl⟩ | ⟨hr8, rfl⟩ | ⟨hr8, rfl⟩⟩
    ·
      show zG x LX 11 [some (zr 0), some (zi a), some (zi b), some (zn), none, none] [zr 9] S
      refine z_astore (pc := 11) (loc' := [some (zr 0), some (zi a), some (zi b), some (zn), some (zr 9), none]) h dX10_read_11 (Nat.le_of_ble_eq_true rfl) rfl rfl ?_
      refine z_nload_n (pc := 13) h dX10_read_13 rfl ?_
      refine z_ifnull_n (pc := 14) (tgt := 22) h dX10_read_14 (by decide) ?_
      refine z_bipush (pc := 22) h dX10_read_22 rfl ?_
      refine z_iret (pc := 24) h dX10_read_24 rfl ?_
      exact ⟨ap_some (by unfold sp_read; rw [if_neg (by omega)]), by unfold st_read; rw [if_neg (by omega)]; exact hR⟩
    ·
      show zG x LX 11 [some (zr 0), some (zi a), some (zi b), some (zn), none, none] [zr 12] S
      refine z_astore (pc := 11) (loc' := [some (zr 0), some (zi a), some (zi b), some (zn), some (zr 12), none]) h dX10_read_11 (Nat.le_of_ble_eq_true rfl) rfl rfl ?_
      refine z_nload_n (pc := 13) h dX10_read_13 rfl ?_
      refine z_ifnull_n (pc := 14) (tgt := 22) h dX10_read_14 (by decide) ?_
      refine z_bipush (pc := 22) h dX10_read_22 rfl ?_
      refine z_iret (pc := 24) h dX10_read_24 rfl ?_
      exact ⟨ap_some (by unfold sp_read; rw [if_neg (by omega)]), by unfold st_read; rw [if_neg (by omega)]; exact hR⟩
    ·
      show zG x LX 11 [some (zr 0), some (zi a), some (zi b), some (zn), none, none] [zn] S
      refine z_nstore (pc := 11) (loc' := [some (zr 0), some (zi a), some (zi b), some (zn), some (zn), none]) h dX10_read_11 (Nat.le_of_ble_eq_true rfl) rfl rfl ?_
      refine z_nload_n (pc := 13) h dX10_read_13 rfl ?_
      refine z_ifnull_n (pc := 14) (tgt := 22) h dX10_read_14 (by decide) ?_
      refine z_bipush (pc := 22) h dX10_read_22 rfl ?_
      refine z_iret (pc := 24) h dX10_read_24 rfl ?_
      exact ⟨ap_some (by unfold sp_read; rw [if_neg (by omega)]), by unfold st_read; rw [if_neg (by omega)]; exact hR⟩

set_option maxRecDepth 100000 in
set_option maxHeartbeats 4000000 in
theorem m_X10_write (a b c : Int) (A S : SS) (ha : r32 a) (hb : r32 b) (hc : r32 c) (hR : cRel S A) : zM LX yX10_write cX10_write 7 (some .int) 4 86 [zr 0, zi a, zi b, zi c] S (fun r S' => r = some (zi (sp_write A a b c)) ∧ cRel S' (st_write A a b c)) := by
  refine zM_of (own := RX10) rfl (by decide +kernel) [some (zr 0), some (zi a), some (zi b), some (zi c), none, none, none] (Nat.le_of_ble_eq_true rfl) rfl ?_
  intro x h
  refine z_aload_n (pc := 0) h dX10_write_0 rfl ?_
  refine z_iload_n (pc := 1) h dX10_write_1 rfl ?_
  refine z_callV (pc := 2) (rest := ([] : List zV)) h (m_X10_stripAt a S ⟨by omega, by omega⟩) dX10_write_2 mcX10_stripAt miX10_stripAt mlX10_71 rfl rfl ⟨by decide, by decide⟩ clX10 rfl rfl rfl (Nat.le_of_ble_eq_true rfl) ?_
  rintro _ _ ⟨rfl, ⟨hr2, rfl⟩ | ⟨hr2, rfl⟩ | ⟨hr2, rfl⟩⟩
  ·
    show zG x LX 5 [some (zr 0), some (zi a), some (zi b), some (zi c), none, none, none] [zr 1] S
    refine z_astore (pc := 5) (loc' := [some (zr 0), some (zi a), some (zi b), some (zi c), some (zr 1), none, none]) h dX10_write_5 (Nat.le_of_ble_eq_true rfl) rfl rfl ?_
    refine z_aload_n (pc := 7) h dX10_write_7 rfl ?_
    refine z_iload_n (pc := 8) h dX10_write_8 rfl ?_
    refine z_callV (pc := 9) (rest := ([] : List zV)) h (m_X10_sheetAt c S ⟨by omega, by omega⟩) dX10_write_9 mcX10_sheetAt miX10_sheetAt mlX10_168 rfl rfl ⟨by decide, by decide⟩ clX10 rfl rfl rfl (Nat.le_of_ble_eq_true rfl) ?_
    rintro _ _ ⟨rfl, ⟨hr9, v9, hr9k, hr9e, rfl⟩ | ⟨hr9, rfl⟩⟩
    ·
      show zG x LX 12 [some (zr 0), some (zi a), some (zi b), some (zi c), some (zr 1), none, none] [zr v9] S
      refine z_astore (pc := 12) (loc' := [some (zr 0), some (zi a), some (zi b), some (zi c), some (zr 1), some (zr v9), none]) h dX10_write_12 (Nat.le_of_ble_eq_true rfl) rfl rfl ?_
      refine z_aload (pc := 14) h dX10_write_14 rfl ?_
      refine z_ifnull_r (pc := 16) h dX10_write_16 ?_
      refine z_aload (pc := 19) h dX10_write_19 rfl ?_
      refine z_ifnull_r (pc := 21) h dX10_write_21 ?_
      refine z_iload_n (pc := 24) h dX10_write_24 rfl ?_
      refine z_iconst (pc := 25) h dX10_write_25 ?_
      refine z_bipush (pc := 26) h dX10_write_26 rfl ?_
      refine z_callS (pc := 28) (rest := ([] : List zV)) h (m_X10_within b 1 24 S ⟨by omega, by omega⟩ ⟨by decide, by decide⟩ ⟨by decide, by decide⟩) dX10_write_28 mcX10_within msX10_within mlX10_75 rfl rfl ⟨by decide, by decide⟩ rfl (Nat.le_of_ble_eq_true rfl) ?_
      rintro _ _ ⟨rfl, ⟨hr28, rfl⟩ | ⟨hr28, rfl⟩⟩
      ·
        show zG x LX 31 [some (zr 0), some (zi a), some (zi b), some (zi c), some (zr 1), some (zr v9), none] [zi 1] S
        refine z_if_ne (pc := 31) (tgt := 37) h dX10_write_31 (by decide) ⟨by decide, by decide⟩ (fun hc31 => ?_) (fun hc31 => absurd hc31 (by decide))
        obtain ⟨g0, g1, g2, g3, g4, g5, g6⟩ := rel_sheet hR hr9 hr9e
        have m0 : S 1 4 = mA A 0 := hR.2.1.1.2.2.2.2.1
        have m1 : S 5 4 = mA A 1 := hR.2.1.2.2.2.2.2.1
        have o0 := hR.2.1.1.1.2.1
        have o1 := hR.2.1.2.1.2.1
        have hm0 : S v9 1 = 1 - A 14 c.toNat := g1
        refine z_aload (pc := 37) h dX10_write_37 rfl ?_
        refine z_getI (pc := 39) h dX10_write_39 clX6 lkX10_172 (by decide) hr9k.1 rfl ?_
        refine z_if_eq (pc := 42) (tgt := 51) h dX10_write_42 (by decide) ⟨by omega, by omega⟩ (fun hc42 => ?_) (fun hc42 => ?_)
        ·
          refine z_aload (pc := 51) h dX10_write_51 rfl ?_
          refine z_getI (pc := 53) h dX10_write_53 clX7 lkX10_129 (by decide) rfl rfl ?_
          refine z_if_ne (pc := 56) (tgt := 62) h dX10_write_56 (by decide) ⟨by omega, by omega⟩ (fun hc56 => ?_) (fun hc56 => ?_)
          ·
            refine z_iconst (pc := 62) h dX10_write_62 ?_
            refine z_istore (pc := 63) (loc' := [some (zr 0), some (zi a), some (zi b), some (zi c), some (zr 1), some (zr v9), some (zi 0)]) h dX10_write_63 (Nat.le_of_ble_eq_true rfl) rfl rfl ?_
            have J65 : ∀ (N : Nat) (n : Int) (B S1 : SS) (hn : 0 ≤ n ∧ n ≤ A 16 c.toNat) (hB : ∀ k j, k ≠ 17 → B k j = A k j) (hR1 : cRel S1 B) (hI : wrR c (mA A a) b (A 16 c.toNat - n).toNat n B = wrF A c (mA A a) b) , (A 16 c.toNat - n).toNat = N → zG x LX 65 [some (zr 0), some (zi a), some (zi b), some (zi c), some (zr 1), some (zr v9), some (zi n)] ([] : List zV) S1 := by
              intro N
              induction N using Nat.strongRecOn with
              | _ N ih65 => ?_
              intro n B S1 hn hB hR1 hI hN65
              obtain ⟨y0, y1, y2, y3, y4, y5, y6⟩ := rel_sheet hR1 hr9 hr9e
              have e16 : B 16 c.toNat = A 16 c.toNat := hB _ _ (by decide)
              have k0 : S1 1 4 = mA A 0 := by rw [← (mA_c (fun j => hB 1 j (by decide)) (fun j => hB 2 j (by decide)) 0).1]; exact hR1.2.1.1.2.2.2.2.1
              have k1 : S1 5 4 = mA A 1 := by rw [← (mA_c (fun j => hB 1 j (by decide)) (fun j => hB 2 j (by decide)) 1).1]; exact hR1.2.1.2.2.2.2.2.1
              refine z_iload (pc := 65) h dX10_write_65 rfl ?_
              refine z_aload (pc := 67) h dX10_write_67 rfl ?_
              refine z_getI (pc := 69) h dX10_write_69 clX6 lkX10_179 (by decide) hr9k.1 rfl ?_
              refine z_icmp_ge (pc := 72) (tgt := 99) h dX10_write_72 (by decide) ⟨by omega, by omega⟩ ⟨by omega, by omega⟩ (fun hc72 => ?_) (fun hc72 => ?_)
              ·
                refine z_aload (pc := 99) h dX10_write_99 rfl ?_
                refine z_getI (pc := 101) h dX10_write_101 clX6 lkX10_179 (by decide) hr9k.1 rfl ?_
                refine z_iret (pc := 104) h dX10_write_104 rfl ?_
                rw [wr_0 (by omega)] at hI
                first
                  | exact ⟨ap_some (by unfold sp_write; rw [if_pos (by omega), if_neg (by omega), if_neg (by rw [hr2]; omega)]; omega), by unfold st_write; rw [if_pos (by omega), if_neg (by omega), if_neg (by rw [hr2]; omega), ← hI]; exact hR1⟩
              ·
                have hpk := pk_b (k := n) (s := b) (p := mA A a) (by first | (rw [hr2]; omega) | omega)
                refine z_aload (pc := 75) h dX10_write_75 rfl ?_
                refine z_iload (pc := 77) h dX10_write_77 rfl ?_
                refine z_iload_n (pc := 79) h dX10_write_79 rfl ?_
                refine z_aload (pc := 80) h dX10_write_80 rfl ?_
                refine z_getI (pc := 82) h dX10_write_82 clX7 lkX10_129 (by decide) rfl rfl ?_
                refine z_iload (pc := 85) h dX10_write_85 rfl ?_
                refine z_callS (pc := 87) (rest := [zi n, zr v9]) h (m_X1_pictureAt b (S1 1 4) n S1 (by first | assumption | omega) (by first | assumption | omega) (by first | assumption | omega)) dX10_write_87 mcX1_pictureAt msX1_pictureAt mlX10_135 rfl rfl ⟨by decide, by decide⟩ rfl (Nat.le_of_ble_eq_true rfl) ?_
                rintro _ _ ⟨rfl, rfl⟩
                show zG x LX 90 [some (zr 0), some (zi a), some (zi b), some (zi c), some (zr 1), some (zr v9), some (zi n)] [zi (n * nearF (S1 1 4) b % (S1 1 4)), zi n, zr v9] S1
                refine z_cv (b := (n * nearF (mA A a) b % (mA A a))) (by first | (rw [k0, hr2]) | (rw [k1, hr2])) ?_
                refine z_callV (pc := 90) (rest := ([] : List zV)) h (m_X6_store v9 n (n * nearF (mA A a) b % (mA A a)) S1 (by assumption) (by first | assumption | omega) (by first | assumption | omega) (by first | assumption | omega)) dX10_write_90 mcX6_store miX6_store mlX10_277 rfl rfl ⟨by decide, by decide⟩ clX6 hr9k.1 rfl rfl (Nat.le_of_ble_eq_true rfl) ?_
                rintro _ _ ⟨rfl, rfl⟩
                show zG x LX 93 [some (zr 0), some (zi a), some (zi b), some (zi c), some (zr 1), some (zr v9), some (zi n)] ([] : List zV) (up2 S1 (v9 + 1) n.toNat (keepV (S1 v9 2) (n * nearF (mA A a) b % (mA A a))))
                refine z_iinc (pc := 93) (loc' := [some (zr 0), some (zi a), some (zi b), some (zi c), some (zr 1), some (zr v9), some (zi (n + 1))]) h dX10_write_93 rfl (Nat.le_of_ble_eq_true rfl) rfl rfl ?_
                refine z_goto (pc := 96) (tgt := 65) h dX10_write_96 (by decide) ?_
                exact ih65 _ (by omega) (n + 1) (keepS B c n (n * nearF (mA A a) b % (mA A a))) (up2 S1 (v9 + 1) n.toNat (keepV (S1 v9 2) (n * nearF (mA A a) b % (mA A a)))) (by omega) (fun k j q => by rw [keepS_k q]; exact hB k j q) (by exact cRel_store hR1 hr9 hr9e (by omega) hpk) (by rw [wr_s (r' := (A 16 c.toNat - (n + 1)).toNat) (by omega)] at hI; exact hI) rfl
            exact J65 _ 0 A S (by omega) (fun _ _ _ => rfl) (by exact hR) (by unfold wrF; congr 1; omega) rfl
          ·
            refine z_bipush (pc := 59) h dX10_write_59 rfl ?_
            refine z_iret (pc := 61) h dX10_write_61 rfl ?_
            first
              | exact ⟨ap_some (by unfold sp_write; rw [if_pos (by omega), if_neg (by omega), if_pos (by rw [hr2]; omega)]), by unfold st_write; rw [if_pos (by omega), if_neg (by omega), if_pos (by rw [hr2]; omega)]; exact hR⟩
        ·
          refine z_aload_n (pc := 45) h dX10_write_45 rfl ?_
          refine z_iconst (pc := 46) h dX10_write_46 ?_
          refine z_callV (pc := 47) (rest := ([] : List zV)) h (m_X10_finding 1 S ) dX10_write_47 mcX10_finding miX10_finding mlX10_176 rfl rfl ⟨by decide, by decide⟩ clX10 rfl rfl rfl (Nat.le_of_ble_eq_true rfl) ?_
          rintro _ _ ⟨rfl, rfl⟩
          show zG x LX 50 [some (zr 0), some (zi a), some (zi b), some (zi c), some (zr 1), some (zr v9), none] [zi (-10 - 1)] (up2 S 0 11 1)
          refine z_iret (pc := 50) h dX10_write_50 rfl ?_
          exact ⟨ap_some (by unfold sp_write; rw [if_pos (by omega), if_pos (by omega)]; try omega), by unfold st_write; rw [if_pos (by omega), if_pos (by omega)]; exact cRel_find hR (by omega)⟩
      ·
        show zG x LX 31 [some (zr 0), some (zi a), some (zi b), some (zi c), some (zr 1), some (zr v9), none] [zi 0] S
        refine z_if_ne (pc := 31) (tgt := 37) h dX10_write_31 (by decide) ⟨by decide, by decide⟩ (fun hc31 => absurd hc31 (by decide)) (fun hc31 => ?_)
        refine z_bipush (pc := 34) h dX10_write_34 rfl ?_
        refine z_iret (pc := 36) h dX10_write_36 rfl ?_
        exact ⟨ap_some (by unfold sp_write; rw [if_neg (by omega)]), by unfold st_write; rw [if_neg (by omega)]; exact hR⟩
    ·
      show zG x LX 12 [some (zr 0), some (zi a), some (zi b), some (zi c), some (zr 1), none, none] [zn] S
      refine z_nstore (pc := 12) (loc' := [some (zr 0), some (zi a), some (zi b), some (zi c), some (zr 1), some (zn), none]) h dX10_write_12 (Nat.le_of_ble_eq_true rfl) rfl rfl ?_
      refine z_aload (pc := 14) h dX10_write_14 rfl ?_
      refine z_ifnull_r (pc := 16) h dX10_write_16 ?_
      refine z_nload (pc := 19) h dX10_write_19 rfl ?_
      refine z_ifnull_n (pc := 21) (tgt := 34) h dX10_write_21 (by decide) ?_
      refine z_bipush (pc := 34) h dX10_write_34 rfl ?_
      refine z_iret (pc := 36) h dX10_write_36 rfl ?_
      exact ⟨ap_some (by unfold sp_write; rw [if_neg (by omega)]), by unfold st_write; rw [if_neg (by omega)]; exact hR⟩
  ·
    show zG x LX 5 [some (zr 0), some (zi a), some (zi b), some (zi c), none, none, none] [zr 5] S
    refine z_astore (pc := 5) (loc' := [some (zr 0), some (zi a), some (zi b), some (zi c), some (zr 5), none, none]) h dX10_write_5 (Nat.le_of_ble_eq_true rfl) rfl rfl ?_
    refine z_aload_n (pc := 7) h dX10_write_7 rfl ?_
    refine z_iload_n (pc := 8) h dX10_write_8 rfl ?_
    refine z_callV (pc := 9) (rest := ([] : List zV)) h (m_X10_sheetAt c S ⟨by omega, by omega⟩) dX10_write_9 mcX10_sheetAt miX10_sheetAt mlX10_168 rfl rfl ⟨by decide, by decide⟩ clX10 rfl rfl rfl (Nat.le_of_ble_eq_true rfl) ?_
    rintro _ _ ⟨rfl, ⟨hr9, v9, hr9k, hr9e, rfl⟩ | ⟨hr9, rfl⟩⟩
    ·
      show zG x LX 12 [some (zr 0), some (zi a), some (zi b), some (zi c), some (zr 5), none, none] [zr v9] S
      refine z_astore (pc := 12) (loc' := [some (zr 0), some (zi a), some (zi b), some (zi c), some (zr 5), some (zr v9), none]) h dX10_write_12 (Nat.le_of_ble_eq_true rfl) rfl rfl ?_
      refine z_aload (pc := 14) h dX10_write_14 rfl ?_
      refine z_ifnull_r (pc := 16) h dX10_write_16 ?_
      refine z_aload (pc := 19) h dX10_write_19 rfl ?_
      refine z_ifnull_r (pc := 21) h dX10_write_21 ?_
      refine z_iload_n (pc := 24) h dX10_write_24 rfl ?_
      refine z_iconst (pc := 25) h dX10_write_25 ?_
      refine z_bipush (pc := 26) h dX10_write_26 rfl ?_
      refine z_callS (pc := 28) (rest := ([] : List zV)) h (m_X10_within b 1 24 S ⟨by omega, by omega⟩ ⟨by decide, by decide⟩ ⟨by decide, by decide⟩) dX10_write_28 mcX10_within msX10_within mlX10_75 rfl rfl ⟨by decide, by decide⟩ rfl (Nat.le_of_ble_eq_true rfl) ?_
      rintro _ _ ⟨rfl, ⟨hr28, rfl⟩ | ⟨hr28, rfl⟩⟩
      ·
        show zG x LX 31 [some (zr 0), some (zi a), some (zi b), some (zi c), some (zr 5), some (zr v9), none] [zi 1] S
        refine z_if_ne (pc := 31) (tgt := 37) h dX10_write_31 (by decide) ⟨by decide, by decide⟩ (fun hc31 => ?_) (fun hc31 => absurd hc31 (by decide))
        obtain ⟨g0, g1, g2, g3, g4, g5, g6⟩ := rel_sheet hR hr9 hr9e
        have m0 : S 1 4 = mA A 0 := hR.2.1.1.2.2.2.2.1
        have m1 : S 5 4 = mA A 1 := hR.2.1.2.2.2.2.2.1
        have o0 := hR.2.1.1.1.2.1
        have o1 := hR.2.1.2.1.2.1
        have hm0 : S v9 1 = 1 - A 14 c.toNat := g1
        refine z_aload (pc := 37) h dX10_write_37 rfl ?_
        refine z_getI (pc := 39) h dX10_write_39 clX6 lkX10_172 (by decide) hr9k.1 rfl ?_
        refine z_if_eq (pc := 42) (tgt := 51) h dX10_write_42 (by decide) ⟨by omega, by omega⟩ (fun hc42 => ?_) (fun hc42 => ?_)
        ·
          refine z_aload (pc := 51) h dX10_write_51 rfl ?_
          refine z_getI (pc := 53) h dX10_write_53 clX7 lkX10_129 (by decide) rfl rfl ?_
          refine z_if_ne (pc := 56) (tgt := 62) h dX10_write_56 (by decide) ⟨by omega, by omega⟩ (fun hc56 => ?_) (fun hc56 => ?_)
          ·
            refine z_iconst (pc := 62) h dX10_write_62 ?_
            refine z_istore (pc := 63) (loc' := [some (zr 0), some (zi a), some (zi b), some (zi c), some (zr 5), some (zr v9), some (zi 0)]) h dX10_write_63 (Nat.le_of_ble_eq_true rfl) rfl rfl ?_
            have J65 : ∀ (N : Nat) (n : Int) (B S1 : SS) (hn : 0 ≤ n ∧ n ≤ A 16 c.toNat) (hB : ∀ k j, k ≠ 17 → B k j = A k j) (hR1 : cRel S1 B) (hI : wrR c (mA A a) b (A 16 c.toNat - n).toNat n B = wrF A c (mA A a) b) , (A 16 c.toNat - n).toNat = N → zG x LX 65 [some (zr 0), some (zi a), some (zi b), some (zi c), some (zr 5), some (zr v9), some (zi n)] ([] : List zV) S1 := by
              intro N
              induction N using Nat.strongRecOn with
              | _ N ih65 => ?_
              intro n B S1 hn hB hR1 hI hN65
              obtain ⟨y0, y1, y2, y3, y4, y5, y6⟩ := rel_sheet hR1 hr9 hr9e
              have e16 : B 16 c.toNat = A 16 c.toNat := hB _ _ (by decide)
              have k0 : S1 1 4 = mA A 0 := by rw [← (mA_c (fun j => hB 1 j (by decide)) (fun j => hB 2 j (by decide)) 0).1]; exact hR1.2.1.1.2.2.2.2.1
              have k1 : S1 5 4 = mA A 1 := by rw [← (mA_c (fun j => hB 1 j (by decide)) (fun j => hB 2 j (by decide)) 1).1]; exact hR1.2.1.2.2.2.2.2.1
              refine z_iload (pc := 65) h dX10_write_65 rfl ?_
              refine z_aload (pc := 67) h dX10_write_67 rfl ?_
              refine z_getI (pc := 69) h dX10_write_69 clX6 lkX10_179 (by decide) hr9k.1 rfl ?_
              refine z_icmp_ge (pc := 72) (tgt := 99) h dX10_write_72 (by decide) ⟨by omega, by omega⟩ ⟨by omega, by omega⟩ (fun hc72 => ?_) (fun hc72 => ?_)
              ·
                refine z_aload (pc := 99) h dX10_write_99 rfl ?_
                refine z_getI (pc := 101) h dX10_write_101 clX6 lkX10_179 (by decide) hr9k.1 rfl ?_
                refine z_iret (pc := 104) h dX10_write_104 rfl ?_
                rw [wr_0 (by omega)] at hI
                first
                  | exact ⟨ap_some (by unfold sp_write; rw [if_pos (by omega), if_neg (by omega), if_neg (by rw [hr2]; omega)]; omega), by unfold st_write; rw [if_pos (by omega), if_neg (by omega), if_neg (by rw [hr2]; omega), ← hI]; exact hR1⟩
              ·
                have hpk := pk_b (k := n) (s := b) (p := mA A a) (by first | (rw [hr2]; omega) | omega)
                refine z_aload (pc := 75) h dX10_write_75 rfl ?_
                refine z_iload (pc := 77) h dX10_write_77 rfl ?_
                refine z_iload_n (pc := 79) h dX10_write_79 rfl ?_
                refine z_aload (pc := 80) h dX10_write_80 rfl ?_
                refine z_getI (pc := 82) h dX10_write_82 clX7 lkX10_129 (by decide) rfl rfl ?_
                refine z_iload (pc := 85) h dX10_write_85 rfl ?_
                refine z_callS (pc := 87) (rest := [zi n, zr v9]) h (m_X1_pictureAt b (S1 5 4) n S1 (by first | assumption | omega) (by first | assumption | omega) (by first | assumption | omega)) dX10_write_87 mcX1_pictureAt msX1_pictureAt mlX10_135 rfl rfl ⟨by decide, by decide⟩ rfl (Nat.le_of_ble_eq_true rfl) ?_
                rintro _ _ ⟨rfl, rfl⟩
                show zG x LX 90 [some (zr 0), some (zi a), some (zi b), some (zi c), some (zr 5), some (zr v9), some (zi n)] [zi (n * nearF (S1 5 4) b % (S1 5 4)), zi n, zr v9] S1
                refine z_cv (b := (n * nearF (mA A a) b % (mA A a))) (by first | (rw [k0, hr2]) | (rw [k1, hr2])) ?_
                refine z_callV (pc := 90) (rest := ([] : List zV)) h (m_X6_store v9 n (n * nearF (mA A a) b % (mA A a)) S1 (by assumption) (by first | assumption | omega) (by first | assumption | omega) (by first | assumption | omega)) dX10_write_90 mcX6_store miX6_store mlX10_277 rfl rfl ⟨by decide, by decide⟩ clX6 hr9k.1 rfl rfl (Nat.le_of_ble_eq_true rfl) ?_
                rintro _ _ ⟨rfl, rfl⟩
                show zG x LX 93 [some (zr 0), some (zi a), some (zi b), some (zi c), some (zr 5), some (zr v9), some (zi n)] ([] : List zV) (up2 S1 (v9 + 1) n.toNat (keepV (S1 v9 2) (n * nearF (mA A a) b % (mA A a))))
                refine z_iinc (pc := 93) (loc' := [some (zr 0), some (zi a), some (zi b), some (zi c), some (zr 5), some (zr v9), some (zi (n + 1))]) h dX10_write_93 rfl (Nat.le_of_ble_eq_true rfl) rfl rfl ?_
                refine z_goto (pc := 96) (tgt := 65) h dX10_write_96 (by decide) ?_
                exact ih65 _ (by omega) (n + 1) (keepS B c n (n * nearF (mA A a) b % (mA A a))) (up2 S1 (v9 + 1) n.toNat (keepV (S1 v9 2) (n * nearF (mA A a) b % (mA A a)))) (by omega) (fun k j q => by rw [keepS_k q]; exact hB k j q) (by exact cRel_store hR1 hr9 hr9e (by omega) hpk) (by rw [wr_s (r' := (A 16 c.toNat - (n + 1)).toNat) (by omega)] at hI; exact hI) rfl
            exact J65 _ 0 A S (by omega) (fun _ _ _ => rfl) (by exact hR) (by unfold wrF; congr 1; omega) rfl
          ·
            refine z_bipush (pc := 59) h dX10_write_59 rfl ?_
            refine z_iret (pc := 61) h dX10_write_61 rfl ?_
            first
              | exact ⟨ap_some (by unfold sp_write; rw [if_pos (by omega), if_neg (by omega), if_pos (by rw [hr2]; omega)]), by unfold st_write; rw [if_pos (by omega), if_neg (by omega), if_pos (by rw [hr2]; omega)]; exact hR⟩
        ·
          refine z_aload_n (pc := 45) h dX10_write_45 rfl ?_
          refine z_iconst (pc := 46) h dX10_write_46 ?_
          refine z_callV (pc := 47) (rest := ([] : List zV)) h (m_X10_finding 1 S ) dX10_write_47 mcX10_finding miX10_finding mlX10_176 rfl rfl ⟨by decide, by decide⟩ clX10 rfl rfl rfl (Nat.le_of_ble_eq_true rfl) ?_
          rintro _ _ ⟨rfl, rfl⟩
          show zG x LX 50 [some (zr 0), some (zi a), some (zi b), some (zi c), some (zr 5), some (zr v9), none] [zi (-10 - 1)] (up2 S 0 11 1)
          refine z_iret (pc := 50) h dX10_write_50 rfl ?_
          exact ⟨ap_some (by unfold sp_write; rw [if_pos (by omega), if_pos (by omega)]; try omega), by unfold st_write; rw [if_pos (by omega), if_pos (by omega)]; exact cRel_find hR (by omega)⟩
      ·
        show zG x LX 31 [some (zr 0), some (zi a), some (zi b), some (zi c), some (zr 5), some (zr v9), none] [zi 0] S
        refine z_if_ne (pc := 31) (tgt := 37) h dX10_write_31 (by decide) ⟨by decide, by decide⟩ (fun hc31 => absurd hc31 (by decide)) (fun hc31 => ?_)
        refine z_bipush (pc := 34) h dX10_write_34 rfl ?_
        refine z_iret (pc := 36) h dX10_write_36 rfl ?_
        exact ⟨ap_some (by unfold sp_write; rw [if_neg (by omega)]), by unfold st_write; rw [if_neg (by omega)]; exact hR⟩
    ·
      show zG x LX 12 [some (zr 0), some (zi a), some (zi b), some (zi c), some (zr 5), none, none] [zn] S
      refine z_nstore (pc := 12) (loc' := [some (zr 0), some (zi a), some (zi b), some (zi c), some (zr 5), some (zn), none]) h dX10_write_12 (Nat.le_of_ble_eq_true rfl) rfl rfl ?_
      refine z_aload (pc := 14) h dX10_write_14 rfl ?_
      refine z_ifnull_r (pc := 16) h dX10_write_16 ?_
      refine z_nload (pc := 19) h dX10_write_19 rfl ?_
      refine z_ifnull_n (pc := 21) (tgt := 34) h dX10_write_21 (by decide) ?_
      refine z_bipush (pc := 34) h dX10_write_34 rfl ?_
      refine z_iret (pc := 36) h dX10_write_36 rfl ?_
      exact ⟨ap_some (by unfold sp_write; rw [if_neg (by omega)]), by unfold st_write; rw [if_neg (by omega)]; exact hR⟩
  ·
    show zG x LX 5 [some (zr 0), some (zi a), some (zi b), some (zi c), none, none, none] [zn] S
    refine z_nstore (pc := 5) (loc' := [some (zr 0), some (zi a), some (zi b), some (zi c), some (zn), none, none]) h dX10_write_5 (Nat.le_of_ble_eq_true rfl) rfl rfl ?_
    refine z_aload_n (pc := 7) h dX10_write_7 rfl ?_
    refine z_iload_n (pc := 8) h dX10_write_8 rfl ?_
    refine z_callV (pc := 9) (rest := ([] : List zV)) h (m_X10_sheetAt c S ⟨by omega, by omega⟩) dX10_write_9 mcX10_sheetAt miX10_sheetAt mlX10_168 rfl rfl ⟨by decide, by decide⟩ clX10 rfl rfl rfl (Nat.le_of_ble_eq_true rfl) ?_
    rintro _ _ ⟨rfl, ⟨hr9, v9, hr9k, hr9e, rfl⟩ | ⟨hr9, rfl⟩⟩
    ·
      show zG x LX 12 [some (zr 0), some (zi a), some (zi b), some (zi c), some (zn), none, none] [zr v9] S
      refine z_astore (pc := 12) (loc' := [some (zr 0), some (zi a), some (zi b), some (zi c), some (zn), some (zr v9), none]) h dX10_write_12 (Nat.le_of_ble_eq_true rfl) rfl rfl ?_
      refine z_nload (pc := 14) h dX10_write_14 rfl ?_
      refine z_ifnull_n (pc := 16) (tgt := 34) h dX10_write_16 (by decide) ?_
      refine z_bipush (pc := 34) h dX10_write_34 rfl ?_
      refine z_iret (pc := 36) h dX10_write_36 rfl ?_
      exact ⟨ap_some (by unfold sp_write; rw [if_neg (by omega)]), by unfold st_write; rw [if_neg (by omega)]; exact hR⟩
    ·
      show zG x LX 12 [some (zr 0), some (zi a), some (zi b), some (zi c), some (zn), none, none] [zn] S
      refine z_nstore (pc := 12) (loc' := [some (zr 0), some (zi a), some (zi b), some (zi c), some (zn), some (zn), none]) h dX10_write_12 (Nat.le_of_ble_eq_true rfl) rfl rfl ?_
      refine z_nload (pc := 14) h dX10_write_14 rfl ?_
      refine z_ifnull_n (pc := 16) (tgt := 34) h dX10_write_16 (by decide) ?_
      refine z_bipush (pc := 34) h dX10_write_34 rfl ?_
      refine z_iret (pc := 36) h dX10_write_36 rfl ?_
      exact ⟨ap_some (by unfold sp_write; rw [if_neg (by omega)]), by unfold st_write; rw [if_neg (by omega)]; exact hR⟩

set_option maxRecDepth 100000 in
set_option maxHeartbeats 4000000 in
theorem m_X10_copy (a b c d e : Int) (A S : SS) (ha : r32 a) (hb : r32 b) (hc : r32 c) (hd : r32 d) (he : r32 e) (hR : cRel S A) : zM LX yX10_copy cX10_copy 8 (some .int) 2 44 [zr 0, zi a, zi b, zi c, zi d, zi e] S (fun r S' => r = some (zi (sp_copy A a b c d e)) ∧ cRel S' (st_copy A a b c d e)) := by
  refine zM_of (own := RX10) rfl (by decide +kernel) [some (zr 0), some (zi a), some (zi b), some (zi c), some (zi d), some (zi e), none, none] (Nat.le_of_ble_eq_true rfl) rfl ?_
  intro x h
  refine z_aload_n (pc := 0) h dX10_copy_0 rfl ?_
  refine z_iload_n (pc := 1) h dX10_copy_1 rfl ?_
  refine z_callV (pc := 2) (rest := ([] : List zV)) h (m_X10_sheetAt a S ⟨by omega, by omega⟩) dX10_copy_2 mcX10_sheetAt miX10_sheetAt mlX10_168 rfl rfl ⟨by decide, by decide⟩ clX10 rfl rfl rfl (Nat.le_of_ble_eq_true rfl) ?_
  rintro _ _ ⟨rfl, ⟨hr2, v2, hr2k, hr2e, rfl⟩ | ⟨hr2, rfl⟩⟩
  ·
    show zG x LX 5 [some (zr 0), some (zi a), some (zi b), some (zi c), some (zi d), some (zi e), none, none] [zr v2] S
    refine z_astore (pc := 5) (loc' := [some (zr 0), some (zi a), some (zi b), some (zi c), some (zi d), some (zi e), some (zr v2), none]) h dX10_copy_5 (Nat.le_of_ble_eq_true rfl) rfl rfl ?_
    refine z_aload_n (pc := 7) h dX10_copy_7 rfl ?_
    refine z_iload_n (pc := 8) h dX10_copy_8 rfl ?_
    refine z_callV (pc := 9) (rest := ([] : List zV)) h (m_X10_sheetAt c S ⟨by omega, by omega⟩) dX10_copy_9 mcX10_sheetAt miX10_sheetAt mlX10_168 rfl rfl ⟨by decide, by decide⟩ clX10 rfl rfl rfl (Nat.le_of_ble_eq_true rfl) ?_
    rintro _ _ ⟨rfl, ⟨hr9, v9, hr9k, hr9e, rfl⟩ | ⟨hr9, rfl⟩⟩
    ·
      show zG x LX 12 [some (zr 0), some (zi a), some (zi b), some (zi c), some (zi d), some (zi e), some (zr v2), none] [zr v9] S
      refine z_astore (pc := 12) (loc' := [some (zr 0), some (zi a), some (zi b), some (zi c), some (zi d), some (zi e), some (zr v2), some (zr v9)]) h dX10_copy_12 (Nat.le_of_ble_eq_true rfl) rfl rfl ?_
      refine z_aload (pc := 14) h dX10_copy_14 rfl ?_
      refine z_ifnull_r (pc := 16) h dX10_copy_16 ?_
      refine z_aload (pc := 19) h dX10_copy_19 rfl ?_
      refine z_ifnonnull_r (pc := 21) (tgt := 27) h dX10_copy_21 (by decide) ?_
      obtain ⟨g0, g1, g2, g3, g4, g5, g6⟩ := rel_sheet hR hr2 hr2e
      obtain ⟨f0, f1, f2, f3, f4, f5, f6⟩ := rel_sheet hR hr9 hr9e
      refine z_aload (pc := 27) h dX10_copy_27 rfl ?_
      refine z_getI (pc := 29) h dX10_copy_29 clX6 lkX10_172 (by decide) hr2k.1 rfl ?_
      refine z_if_ne (pc := 32) (tgt := 43) h dX10_copy_32 (by decide) ⟨by omega, by omega⟩ (fun hc32 => ?_) (fun hc32 => ?_)
      ·
        refine z_aload_n (pc := 43) h dX10_copy_43 rfl ?_
        refine z_iconst (pc := 44) h dX10_copy_44 ?_
        refine z_callV (pc := 45) (rest := ([] : List zV)) h (m_X10_finding 1 S ) dX10_copy_45 mcX10_finding miX10_finding mlX10_176 rfl rfl ⟨by decide, by decide⟩ clX10 rfl rfl rfl (Nat.le_of_ble_eq_true rfl) ?_
        rintro _ _ ⟨rfl, rfl⟩
        show zG x LX 48 [some (zr 0), some (zi a), some (zi b), some (zi c), some (zi d), some (zi e), some (zr v2), some (zr v9)] [zi (-10 - 1)] (up2 S 0 11 1)
        refine z_iret (pc := 48) h dX10_copy_48 rfl ?_
        have hf : cpF A a b c d e = 1 := by unfold cpF; rw [if_pos (by omega)]
        exact ⟨ap_some (by unfold sp_copy; rw [if_pos (by omega), if_neg (by omega), hf]), by unfold st_copy; rw [if_pos (by omega), if_neg (by omega), hf]; exact cRel_find hR (by omega)⟩
      ·
        refine z_aload (pc := 35) h dX10_copy_35 rfl ?_
        refine z_getI (pc := 37) h dX10_copy_37 clX6 lkX10_172 (by decide) hr9k.1 rfl ?_
        refine z_if_eq (pc := 40) (tgt := 49) h dX10_copy_40 (by decide) ⟨by omega, by omega⟩ (fun hc40 => ?_) (fun hc40 => ?_)
        ·
          refine z_aload (pc := 49) h dX10_copy_49 rfl ?_
          refine z_getI (pc := 51) h dX10_copy_51 clX6 lkX10_284 (by decide) hr2k.1 rfl ?_
          refine z_aload (pc := 54) h dX10_copy_54 rfl ?_
          refine z_getI (pc := 56) h dX10_copy_56 clX6 lkX10_284 (by decide) hr9k.1 rfl ?_
          refine z_icmp_eq (pc := 59) (tgt := 68) h dX10_copy_59 (by decide) ⟨by omega, by omega⟩ ⟨by omega, by omega⟩ (fun hc59 => ?_) (fun hc59 => ?_)
          ·
            refine z_aload (pc := 68) h dX10_copy_68 rfl ?_
            refine z_iload_n (pc := 70) h dX10_copy_70 rfl ?_
            refine z_iload (pc := 71) h dX10_copy_71 rfl ?_
            refine z_callV (pc := 73) (rest := ([] : List zV)) h (m_X6_holds v2 b e S (by assumption) (by first | assumption | omega) ⟨by omega, by omega⟩ ⟨by omega, by omega⟩) dX10_copy_73 mcX6_holds miX6_holds mlX10_287 rfl rfl ⟨by decide, by decide⟩ clX6 hr2k.1 rfl rfl (Nat.le_of_ble_eq_true rfl) ?_
            rintro _ _ ⟨rfl, ⟨hr73, rfl⟩ | ⟨hr73, rfl⟩⟩
            ·
              show zG x LX 76 [some (zr 0), some (zi a), some (zi b), some (zi c), some (zi d), some (zi e), some (zr v2), some (zr v9)] [zi 1] S
              refine z_if_eq (pc := 76) (tgt := 91) h dX10_copy_76 (by decide) ⟨by decide, by decide⟩ (fun hc76 => absurd hc76 (by decide)) (fun hc76 => ?_)
              refine z_aload (pc := 79) h dX10_copy_79 rfl ?_
              refine z_iload (pc := 81) h dX10_copy_81 rfl ?_
              refine z_iload (pc := 83) h dX10_copy_83 rfl ?_
              refine z_callV (pc := 85) (rest := ([] : List zV)) h (m_X6_holds v9 d e S (by assumption) (by first | assumption | omega) ⟨by omega, by omega⟩ ⟨by omega, by omega⟩) dX10_copy_85 mcX6_holds miX6_holds mlX10_287 rfl rfl ⟨by decide, by decide⟩ clX6 hr9k.1 rfl rfl (Nat.le_of_ble_eq_true rfl) ?_
              rintro _ _ ⟨rfl, ⟨hr85, rfl⟩ | ⟨hr85, rfl⟩⟩
              ·
                show zG x LX 88 [some (zr 0), some (zi a), some (zi b), some (zi c), some (zi d), some (zi e), some (zr v2), some (zr v9)] [zi 1] S
                refine z_if_ne (pc := 88) (tgt := 97) h dX10_copy_88 (by decide) ⟨by decide, by decide⟩ (fun hc88 => ?_) (fun hc88 => absurd hc88 (by decide))
                refine z_aload (pc := 97) h dX10_copy_97 rfl ?_
                refine z_getR (a := v2 + 1) (pc := 99) h dX10_copy_99 clX6 lkX10_290 (by decide) hr2k.1 rfl ?_
                refine z_iload_n (pc := 102) h dX10_copy_102 rfl ?_
                refine z_aload (pc := 103) h dX10_copy_103 rfl ?_
                refine z_getR (a := v9 + 1) (pc := 105) h dX10_copy_105 clX6 lkX10_290 (by decide) hr9k.1 rfl ?_
                refine z_iload (pc := 108) h dX10_copy_108 rfl ?_
                refine z_iload (pc := 110) h dX10_copy_110 rfl ?_
                refine z_copyi (pc := 112) h dX10_copy_112 (tb_in 792 (by decide +kernel) rfl) (tb_in 794 (by decide +kernel) rfl) (tb_in 793 (by decide +kernel) rfl) (tb_in 62 (by decide +kernel) rfl) hr2k.2 hr9k.2 ⟨by decide, by decide⟩ ⟨by omega, by omega, by omega⟩ ⟨by omega, by omega⟩ (Nat.le_of_ble_eq_true rfl) (Nat.le_of_ble_eq_true rfl) rfl (fun S2 hc1 hc2 => ?_)
                refine z_iconst (pc := 115) h dX10_copy_115 ?_
                refine z_iret (pc := 116) h dX10_copy_116 rfl ?_
                have hf : cpF A a b c d e = 0 := by unfold cpF; rw [if_neg (by omega), if_neg (by omega), if_pos (by omega)]
                exact ⟨ap_some (by unfold sp_copy; rw [if_pos (by omega), if_pos (by omega)]), by unfold st_copy; rw [if_pos (by omega), if_pos (by omega)]; exact cRel_copy hR hr2 hr9 hr2e hr9e (by omega) (by omega) (by omega) hc1 hc2⟩
              ·
                show zG x LX 88 [some (zr 0), some (zi a), some (zi b), some (zi c), some (zi d), some (zi e), some (zr v2), some (zr v9)] [zi 0] S
                refine z_if_ne (pc := 88) (tgt := 97) h dX10_copy_88 (by decide) ⟨by decide, by decide⟩ (fun hc88 => absurd hc88 (by decide)) (fun hc88 => ?_)
                refine z_aload_n (pc := 91) h dX10_copy_91 rfl ?_
                refine z_iconst (pc := 92) h dX10_copy_92 ?_
                refine z_callV (pc := 93) (rest := ([] : List zV)) h (m_X10_finding 2 S ) dX10_copy_93 mcX10_finding miX10_finding mlX10_176 rfl rfl ⟨by decide, by decide⟩ clX10 rfl rfl rfl (Nat.le_of_ble_eq_true rfl) ?_
                rintro _ _ ⟨rfl, rfl⟩
                show zG x LX 96 [some (zr 0), some (zi a), some (zi b), some (zi c), some (zi d), some (zi e), some (zr v2), some (zr v9)] [zi (-10 - 2)] (up2 S 0 11 2)
                refine z_iret (pc := 96) h dX10_copy_96 rfl ?_
                have hf : cpF A a b c d e = 2 := by unfold cpF; rw [if_neg (by omega), if_neg (by omega), if_neg (by omega)]
                exact ⟨ap_some (by unfold sp_copy; rw [if_pos (by omega), if_neg (by omega), hf]), by unfold st_copy; rw [if_pos (by omega), if_neg (by omega), hf]; exact cRel_find hR (by omega)⟩
            ·
              show zG x LX 76 [some (zr 0), some (zi a), some (zi b), some (zi c), some (zi d), some (zi e), some (zr v2), some (zr v9)] [zi 0] S
              refine z_if_eq (pc := 76) (tgt := 91) h dX10_copy_76 (by decide) ⟨by decide, by decide⟩ (fun hc76 => ?_) (fun hc76 => absurd hc76 (by decide))
              refine z_aload_n (pc := 91) h dX10_copy_91 rfl ?_
              refine z_iconst (pc := 92) h dX10_copy_92 ?_
              refine z_callV (pc := 93) (rest := ([] : List zV)) h (m_X10_finding 2 S ) dX10_copy_93 mcX10_finding miX10_finding mlX10_176 rfl rfl ⟨by decide, by decide⟩ clX10 rfl rfl rfl (Nat.le_of_ble_eq_true rfl) ?_
              rintro _ _ ⟨rfl, rfl⟩
              show zG x LX 96 [some (zr 0), some (zi a), some (zi b), some (zi c), some (zi d), some (zi e), some (zr v2), some (zr v9)] [zi (-10 - 2)] (up2 S 0 11 2)
              refine z_iret (pc := 96) h dX10_copy_96 rfl ?_
              have hf : cpF A a b c d e = 2 := by unfold cpF; rw [if_neg (by omega), if_neg (by omega), if_neg (by omega)]
              exact ⟨ap_some (by unfold sp_copy; rw [if_pos (by omega), if_neg (by omega), hf]), by unfold st_copy; rw [if_pos (by omega), if_neg (by omega), hf]; exact cRel_find hR (by omega)⟩
          ·
            refine z_aload_n (pc := 62) h dX10_copy_62 rfl ?_
            refine z_iconst (pc := 63) h dX10_copy_63 ?_
            refine z_callV (pc := 64) (rest := ([] : List zV)) h (m_X10_finding 4 S ) dX10_copy_64 mcX10_finding miX10_finding mlX10_176 rfl rfl ⟨by decide, by decide⟩ clX10 rfl rfl rfl (Nat.le_of_ble_eq_true rfl) ?_
            rintro _ _ ⟨rfl, rfl⟩
            show zG x LX 67 [some (zr 0), some (zi a), some (zi b), some (zi c), some (zi d), some (zi e), some (zr v2), some (zr v9)] [zi (-10 - 4)] (up2 S 0 11 4)
            refine z_iret (pc := 67) h dX10_copy_67 rfl ?_
            have hf : cpF A a b c d e = 4 := by unfold cpF; rw [if_neg (by omega), if_pos (by omega)]
            exact ⟨ap_some (by unfold sp_copy; rw [if_pos (by omega), if_neg (by omega), hf]), by unfold st_copy; rw [if_pos (by omega), if_neg (by omega), hf]; exact cRel_find hR (by omega)⟩
        ·
          refine z_aload_n (pc := 43) h dX10_copy_43 rfl ?_
          refine z_iconst (pc := 44) h dX10_copy_44 ?_
          refine z_callV (pc := 45) (rest := ([] : List zV)) h (m_X10_finding 1 S ) dX10_copy_45 mcX10_finding miX10_finding mlX10_176 rfl rfl ⟨by decide, by decide⟩ clX10 rfl rfl rfl (Nat.le_of_ble_eq_true rfl) ?_
          rintro _ _ ⟨rfl, rfl⟩
          show zG x LX 48 [some (zr 0), some (zi a), some (zi b), some (zi c), some (zi d), some (zi e), some (zr v2), some (zr v9)] [zi (-10 - 1)] (up2 S 0 11 1)
          refine z_iret (pc := 48) h dX10_copy_48 rfl ?_
          have hf : cpF A a b c d e = 1 := by unfold cpF; rw [if_pos (by omega)]
          exact ⟨ap_some (by unfold sp_copy; rw [if_pos (by omega), if_neg (by omega), hf]), by unfold st_copy; rw [if_pos (by omega), if_neg (by omega), hf]; exact cRel_find hR (by omega)⟩
    ·
      show zG x LX 12 [some (zr 0), some (zi a), some (zi b), some (zi c), some (zi d), some (zi e), some (zr v2), none] [zn] S
      refine z_nstore (pc := 12) (loc' := [some (zr 0), some (zi a), some (zi b), some (zi c), some (zi d), some (zi e), some (zr v2), some (zn)]) h dX10_copy_12 (Nat.le_of_ble_eq_true rfl) rfl rfl ?_
      refine z_aload (pc := 14) h dX10_copy_14 rfl ?_
      refine z_ifnull_r (pc := 16) h dX10_copy_16 ?_
      refine z_nload (pc := 19) h dX10_copy_19 rfl ?_
      refine z_ifnonnull_n (pc := 21) h dX10_copy_21 ?_
      refine z_bipush (pc := 24) h dX10_copy_24 rfl ?_
      refine z_iret (pc := 26) h dX10_copy_26 rfl ?_
      exact ⟨ap_some (by unfold sp_copy; rw [if_neg (by omega)]), by unfold st_copy; rw [if_neg (by omega)]; exact hR⟩
  ·
    show zG x LX 5 [some (zr 0), some (zi a), some (zi b), some (zi c), some (zi d), some (zi e), none, none] [zn] S
    refine z_nstore (pc := 5) (loc' := [some (zr 0), some (zi a), some (zi b), some (zi c), some (zi d), some (zi e), some (zn), none]) h dX10_copy_5 (Nat.le_of_ble_eq_true rfl) rfl rfl ?_
    refine z_aload_n (pc := 7) h dX10_copy_7 rfl ?_
    refine z_iload_n (pc := 8) h dX10_copy_8 rfl ?_
    refine z_callV (pc := 9) (rest := ([] : List zV)) h (m_X10_sheetAt c S ⟨by omega, by omega⟩) dX10_copy_9 mcX10_sheetAt miX10_sheetAt mlX10_168 rfl rfl ⟨by decide, by decide⟩ clX10 rfl rfl rfl (Nat.le_of_ble_eq_true rfl) ?_
    rintro _ _ ⟨rfl, ⟨hr9, v9, hr9k, hr9e, rfl⟩ | ⟨hr9, rfl⟩⟩
    ·
      show zG x LX 12 [some (zr 0), some (zi a), some (zi b), some (zi c), some (zi d), some (zi e), some (zn), none] [zr v9] S
      refine z_astore (pc := 12) (loc' := [some (zr 0), some (zi a), some (zi b), some (zi c), some (zi d), some (zi e), some (zn), some (zr v9)]) h dX10_copy_12 (Nat.le_of_ble_eq_true rfl) rfl rfl ?_
      refine z_nload (pc := 14) h dX10_copy_14 rfl ?_
      refine z_ifnull_n (pc := 16) (tgt := 24) h dX10_copy_16 (by decide) ?_
      refine z_bipush (pc := 24) h dX10_copy_24 rfl ?_
      refine z_iret (pc := 26) h dX10_copy_26 rfl ?_
      exact ⟨ap_some (by unfold sp_copy; rw [if_neg (by omega)]), by unfold st_copy; rw [if_neg (by omega)]; exact hR⟩
    ·
      show zG x LX 12 [some (zr 0), some (zi a), some (zi b), some (zi c), some (zi d), some (zi e), some (zn), none] [zn] S
      refine z_nstore (pc := 12) (loc' := [some (zr 0), some (zi a), some (zi b), some (zi c), some (zi d), some (zi e), some (zn), some (zn)]) h dX10_copy_12 (Nat.le_of_ble_eq_true rfl) rfl rfl ?_
      refine z_nload (pc := 14) h dX10_copy_14 rfl ?_
      refine z_ifnull_n (pc := 16) (tgt := 24) h dX10_copy_16 (by decide) ?_
      refine z_bipush (pc := 24) h dX10_copy_24 rfl ?_
      refine z_iret (pc := 26) h dX10_copy_26 rfl ?_
      exact ⟨ap_some (by unfold sp_copy; rw [if_neg (by omega)]), by unfold st_copy; rw [if_neg (by omega)]; exact hR⟩

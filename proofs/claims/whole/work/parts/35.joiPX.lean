/-! JOINED: what is answered; the class's public calls -/
def fdR (row : List Nat) (d : Int) : Nat → Nat → Int
  | 0, _ => -1
  | r + 1, k => if ((row.getD k 0 : Nat) : Int) = d then (k : Int) else fdR row d r (k + 1)
theorem fd_0 {row : List Nat} {d : Int} {r k : Nat} (h : r = 0) : fdR row d r k = -1 := by subst h; rfl
theorem fd_s {row : List Nat} {d k : Int} {r r' : Nat} (h : r = r' + 1) (hk : 0 ≤ k) : fdR row d r k.toNat = if ((row.getD k.toNat 0 : Nat) : Int) = d then k else fdR row d r' (k + 1).toNat := by
  subst h
  show (if ((row.getD k.toNat 0 : Nat) : Int) = d then ((k.toNat : Nat) : Int) else fdR row d r' (k.toNat + 1)) = _
  rw [show ((k.toNat : Nat) : Int) = k by omega, show (k + 1).toNat = k.toNat + 1 by omega]
def rwA (A : SS) : List Nat := (jT A).2.2.2.2.2
def joiV (A : SS) (w : Int) : Int := if w = 0 then (jT A).2.1 else if w = 1 then (jT A).1 else if (jT A).2.2.1 = (jT A).2.2.2.1 then 0 else 1
def netV (A : SS) : Int := (jT A).2.2.2.2.1
def jodV (A : SS) (l d : Int) : Int := if l = fiA A then (((rwA A).getD d.toNat 0 : Nat) : Int) else fdR (rwA A) d (fewN A) 0
def sp_join (A : SS) (w : Int) : Int := if 0 ≤ w ∧ w ≤ 2 then joiV A w else -2
def sp_joined (A : SS) (l d : Int) : Int := if isS l ∧ (0 ≤ d ∧ d < dA A l) then jodV A l d else -2
theorem jT_B {A : SS} (hm : MI A) : tB 46656 630 180 (jT A) := by
  have b0 := dA_b hm (a := 0) (by decide)
  have b1 := dA_b hm (a := 1) (by decide)
  exact jR_b hm (by unfold manN; omega) (by unfold fewN; omega) 0
theorem jT_len {A : SS} : ∀ (m r tk : Nat), ∀ x ∈ rowJ A m r tk, x < m := by
  intro m r
  induction r with
  | zero => intro tk x hx; cases hx
  | succ r ih =>
    intro tk x hx
    by_cases h : (jR A m (r + 1) tk).1 ≠ 0
    · obtain ⟨d, d1, d2, d4, d5, d6, d7⟩ := jR_first h
      rw [d6] at hx
      rcases List.mem_cons.mp hx with q | q
      · omega
      · exact ih _ x q
    · have h1 := (tR_W m (jc A) (jw A) z0 l0 (r + 1) tk 0).2 (Decidable.not_not.mp h)
      have h2 : rowJ A m (r + 1) tk = [] := by show (tR m (jc A) (jw A) z0 l0 (r + 1) tk 0).2.2.2.2.2 = []; rw [h1]; rfl
      rw [h2] at hx
      cases hx
theorem rwA_b {A : SS} (hm : MI A) (k : Nat) : 0 ≤ (((rwA A).getD k 0 : Nat) : Int) ∧ (((rwA A).getD k 0 : Nat) : Int) ≤ 6 := by
  have b0 := dA_b hm (a := 0) (by decide)
  have b1 := dA_b hm (a := 1) (by decide)
  have hl := jT_len (A := A) (manN A) (fewN A) 0
  rw [List.getD_eq_getElem?_getD]
  by_cases hk : k < (rwA A).length
  · rw [List.getElem?_eq_getElem hk]
    have h1 := hl _ (List.getElem_mem hk)
    have h2 : manN A ≤ 6 := by unfold manN; omega
    show 0 ≤ (((rwA A)[k] : Nat) : Int) ∧ (((rwA A)[k] : Nat) : Int) ≤ 6
    omega
  · rw [List.getElem?_eq_none (by omega)]
    exact ⟨by decide, by decide⟩

set_option maxRecDepth 100000 in
set_option maxHeartbeats 4000000 in
theorem m_X3_partnerOf (k : Nat) (l d : Int) (A S : SS) (hkl : (k = 9 ∧ l = 0) ∨ (k = 12 ∧ l = 1)) (hm : MI A) (h7 : S 24 7 = (if dA A 1 < dA A 0 then 12 else 9)) (h8 : S 24 8 = (fewN A : Int)) (hr : ∀ j : Nat, j < fewN A → S 31 j = (((rwA A).getD j 0 : Nat) : Int)) (hd : 0 ≤ d ∧ d < dA A l) : zM LX yX3_partnerOf cX3_partnerOf 4 (some .int) 1 22 [zr 24, zr k, zi d] S (fun r S' => S = S' ∧ r = some (zi (jodV A l d))) := by
  refine zM_of (own := RX3) rfl (by decide +kernel) [some (zr 24), some (zr k), some (zi d), none] (Nat.le_of_ble_eq_true rfl) rfl ?_
  intro x h
  have b0 := dA_b hm (a := 0) (by decide)
  have b1 := dA_b hm (a := 1) (by decide)
  have hf : (fewN A : Int) = min (dA A 0) (dA A 1) := by unfold fewN; omega
  obtain ⟨e, he, hee⟩ : ∃ e : Nat, S 24 7 = (e : Int) ∧ ((e = 12 ∧ fiA A = 1 ∧ dA A 1 < dA A 0) ∨ (e = 9 ∧ fiA A = 0 ∧ ¬ dA A 1 < dA A 0)) := by
    by_cases q : dA A 1 < dA A 0
    · exact ⟨12, by rw [h7, if_pos q]; rfl, Or.inl ⟨rfl, by unfold fiA; rw [if_pos q], q⟩⟩
    · exact ⟨9, by rw [h7, if_neg q]; rfl, Or.inr ⟨rfl, by unfold fiA; rw [if_neg q], q⟩⟩
  have hdl6 : dA A l ≤ 6 := by rcases hkl with ⟨-, q1⟩ | ⟨-, q1⟩ <;> rw [q1] <;> omega
  have hdl : ∀ _u : Unit, l = fiA A → d < (fewN A : Int) := fun _ q => by
    rcases hkl with ⟨-, q1⟩ | ⟨-, q1⟩ <;> rw [q1] at hd q <;> omega
  refine z_aload_n (pc := 0) h dX3_partnerOf_0 rfl ?_
  refine z_aload_n (pc := 1) h dX3_partnerOf_1 rfl ?_
  refine z_getD (pc := 2) h dX3_partnerOf_2 clX3 lkX3_39 (by decide) rfl rfl (a := e) (he) ?_
  refine z_acmp_ne (pc := 5) (tgt := 33) h dX3_partnerOf_5 (by decide) (by rcases hkl with ⟨q, -⟩ | ⟨q, -⟩ <;> rw [q] <;> decide) (by rcases hee with ⟨q, -⟩ | ⟨q, -⟩ <;> rw [q] <;> decide) (fun hc5 => ?_) (fun hc5 => ?_)
  ·
    have hlf : l ≠ fiA A := by omega
    refine z_iconst (pc := 33) h dX3_partnerOf_33 ?_
    refine z_istore_n (pc := 34) (loc' := [some (zr 24), some (zr k), some (zi d), some (zi 0)]) h dX3_partnerOf_34 rfl (Nat.le_of_ble_eq_true rfl) rfl rfl ?_
    have J35 : ∀ (N : Nat) (z : Int) (hz : 0 ≤ z ∧ z ≤ fewN A) (hI : fdR (rwA A) d (fewN A - z.toNat) z.toNat = jodV A l d) , ((fewN A : Int) - z).toNat = N → zG x LX 35 [some (zr 24), some (zr k), some (zi d), some (zi z)] ([] : List zV) S := by
      intro N
      induction N using Nat.strongRecOn with
      | _ N ih35 => ?_
      intro z hz hI hN35
      refine z_iload_n (pc := 35) h dX3_partnerOf_35 rfl ?_
      refine z_aload_n (pc := 36) h dX3_partnerOf_36 rfl ?_
      refine z_getI (pc := 37) h dX3_partnerOf_37 clX3 lkX3_49 (by decide) rfl rfl ?_
      refine z_icmp_ge (pc := 40) (tgt := 61) h dX3_partnerOf_40 (by decide) ⟨by omega, by omega⟩ ⟨by omega, by omega⟩ (fun hc40 => ?_) (fun hc40 => ?_)
      ·
        refine z_iconst (pc := 61) h dX3_partnerOf_61 ?_
        exact z_iret (pc := 62) h dX3_partnerOf_62 rfl ⟨rfl, congrArg (fun z => some (zi z)) (by first | omega | (unfold jodV; rw [if_pos hlf]) | (rw [fd_0 (by omega)] at hI; exact hI) | (rw [fd_s (r' := fewN A - (z + 1).toNat) (by omega) hz.1, if_pos (by omega)] at hI; exact hI))⟩
      ·
        refine z_aload_n (pc := 43) h dX3_partnerOf_43 rfl ?_
        refine z_getR (a := 31) (pc := 44) h dX3_partnerOf_44 clX3 lkX3_30 (by decide) rfl rfl ?_
        refine z_iload_n (pc := 47) h dX3_partnerOf_47 rfl ?_
        refine z_iald (pc := 48) h dX3_partnerOf_48 rfl (by decide) (by omega) (by omega) ?_
        refine z_cv (b := (((rwA A).getD z.toNat 0 : Nat) : Int)) (by exact hr _ (by omega)) ?_
        have hrb := rwA_b hm z.toNat
        refine z_iload_n (pc := 49) h dX3_partnerOf_49 rfl ?_
        refine z_icmp_ne (pc := 50) (tgt := 55) h dX3_partnerOf_50 (by decide) ⟨by omega, by omega⟩ ⟨by omega, by omega⟩ (fun hc50 => ?_) (fun hc50 => ?_)
        ·
          refine z_iinc (pc := 55) (loc' := [some (zr 24), some (zr k), some (zi d), some (zi (z + 1))]) h dX3_partnerOf_55 rfl (Nat.le_of_ble_eq_true rfl) rfl rfl ?_
          refine z_goto (pc := 58) (tgt := 35) h dX3_partnerOf_58 (by decide) ?_
          exact ih35 _ (by omega) (z + 1) (by omega) (by rw [fd_s (r' := fewN A - (z + 1).toNat) (by omega) hz.1, if_neg (by omega)] at hI; exact hI) rfl
        ·
          refine z_iload_n (pc := 53) h dX3_partnerOf_53 rfl ?_
          exact z_iret (pc := 54) h dX3_partnerOf_54 rfl ⟨rfl, congrArg (fun z => some (zi z)) (by first | omega | (unfold jodV; rw [if_pos hlf]) | (rw [fd_0 (by omega)] at hI; exact hI) | (rw [fd_s (r' := fewN A - (z + 1).toNat) (by omega) hz.1, if_pos (by omega)] at hI; exact hI))⟩
    exact J35 _ 0 (by omega) (by unfold jodV; rw [if_neg hlf]; rfl) rfl
  ·
    have hlf : l = fiA A := by omega
    have hdf := hdl () hlf
    refine z_iload_n (pc := 8) h dX3_partnerOf_8 rfl ?_
    refine z_iconst (pc := 9) h dX3_partnerOf_9 ?_
    refine z_aload_n (pc := 10) h dX3_partnerOf_10 rfl ?_
    refine z_getI (pc := 11) h dX3_partnerOf_11 clX3 lkX3_49 (by decide) rfl rfl ?_
    refine z_iconst (pc := 14) h dX3_partnerOf_14 ?_
    refine z_isub (pc := 15) h dX3_partnerOf_15 ?_
    refine z_callS (pc := 16) (rest := ([] : List zV)) h (m_X10_within d 0 ((S 24 8) - 1) S ⟨by omega, by omega⟩ ⟨by decide, by decide⟩ ⟨by omega, by omega⟩) dX3_partnerOf_16 mcX10_within msX10_within mlX3_92 rfl rfl ⟨by decide, by decide⟩ rfl (Nat.le_of_ble_eq_true rfl) ?_
    rintro _ _ ⟨rfl, ⟨hr16, rfl⟩ | ⟨hr16, rfl⟩⟩
    ·
      show zG x LX 19 [some (zr 24), some (zr k), some (zi d), none] [zi 1] S
      refine z_if_eq (pc := 19) (tgt := 31) h dX3_partnerOf_19 (by decide) ⟨by decide, by decide⟩ (fun hc19 => absurd hc19 (by decide)) (fun hc19 => ?_)
      refine z_aload_n (pc := 22) h dX3_partnerOf_22 rfl ?_
      refine z_getR (a := 31) (pc := 23) h dX3_partnerOf_23 clX3 lkX3_30 (by decide) rfl rfl ?_
      refine z_iload_n (pc := 26) h dX3_partnerOf_26 rfl ?_
      refine z_iald (pc := 27) h dX3_partnerOf_27 rfl (by decide) (by omega) (by omega) ?_
      refine z_cv (b := (((rwA A).getD d.toNat 0 : Nat) : Int)) (by exact hr _ (by omega)) ?_
      refine z_goto (pc := 28) (tgt := 32) h dX3_partnerOf_28 (by decide) ?_
      exact z_iret (pc := 32) h dX3_partnerOf_32 rfl ⟨rfl, congrArg (fun z => some (zi z)) (by first | omega | (unfold jodV; rw [if_pos hlf]) | (rw [fd_0 (by omega)] at hI; exact hI) | (rw [fd_s (r' := fewN A - (z + 1).toNat) (by omega) hz.1, if_pos (by omega)] at hI; exact hI))⟩
    ·
      show zG x LX 19 [some (zr 24), some (zr k), some (zi d), none] [zi 0] S
      refine z_if_eq (pc := 19) (tgt := 31) h dX3_partnerOf_19 (by decide) ⟨by decide, by decide⟩ (fun hc19 => ?_) (fun hc19 => absurd hc19 (by decide))
      refine z_iconst (pc := 31) h dX3_partnerOf_31 ?_
      exact z_iret (pc := 32) h dX3_partnerOf_32 rfl ⟨rfl, congrArg (fun z => some (zi z)) (by first | omega | (unfold jodV; rw [if_pos hlf]) | (rw [fd_0 (by omega)] at hI; exact hI) | (rw [fd_s (r' := fewN A - (z + 1).toNat) (by omega) hz.1, if_pos (by omega)] at hI; exact hI))⟩

set_option maxRecDepth 100000 in
set_option maxHeartbeats 4000000 in
theorem m_X10_join (a : Int) (A S : SS) (ha : r32 a) (hR : cRel S A) : zM LX yX10_join cX10_join 2 (some .int) 4 101 [zr 0, zi a] S (fun r S' => r = some (zi (sp_join A a)) ∧ cRel S' A) := by
  refine zM_of (own := RX10) rfl (by decide +kernel) [some (zr 0), some (zi a)] (Nat.le_of_ble_eq_true rfl) rfl ?_
  intro x h
  have hm := hR.1
  have huu : S 0 10 = A 5 1 := hR.2.2.1.2.1
  have hTB := jT_B hm
  refine z_iload_n (pc := 0) h dX10_join_0 rfl ?_
  refine z_iconst (pc := 1) h dX10_join_1 ?_
  refine z_iconst (pc := 2) h dX10_join_2 ?_
  refine z_callS (pc := 3) (rest := ([] : List zV)) h (m_X10_within a 0 2 S ⟨by omega, by omega⟩ ⟨by decide, by decide⟩ ⟨by decide, by decide⟩) dX10_join_3 mcX10_within msX10_within mlX10_75 rfl rfl ⟨by decide, by decide⟩ rfl (Nat.le_of_ble_eq_true rfl) ?_
  rintro _ _ ⟨rfl, ⟨hr3, rfl⟩ | ⟨hr3, rfl⟩⟩
  ·
    show zG x LX 6 [some (zr 0), some (zi a)] [zi 1] S
    refine z_if_ne (pc := 6) (tgt := 12) h dX10_join_6 (by decide) ⟨by decide, by decide⟩ (fun hc6 => ?_) (fun hc6 => absurd hc6 (by decide))
    refine z_aload_n (pc := 12) h dX10_join_12 rfl ?_
    refine z_getR (a := 24) (pc := 13) h dX10_join_13 clX10 lkX10_39 (by decide) rfl rfl ?_
    refine z_aload_n (pc := 16) h dX10_join_16 rfl ?_
    refine z_getR (a := 9) (pc := 17) h dX10_join_17 clX10 lkX10_22 (by decide) rfl rfl ?_
    refine z_aload_n (pc := 20) h dX10_join_20 rfl ?_
    refine z_getR (a := 12) (pc := 21) h dX10_join_21 clX10 lkX10_26 (by decide) rfl rfl ?_
    refine z_aload_n (pc := 24) h dX10_join_24 rfl ?_
    refine z_getI (pc := 25) h dX10_join_25 clX10 lkX10_68 (by decide) rfl rfl ?_
    refine z_callV (pc := 28) (rest := ([] : List zV)) h (m_X3_search (S 0 10) A S hR huu) dX10_join_28 mcX3_search miX3_search mlX10_186 rfl rfl ⟨by decide, by decide⟩ clX3 rfl rfl rfl (Nat.le_of_ble_eq_true rfl) ?_
    rintro _ S28 ⟨rfl, hr28f, hr28e, hr288, hr28n, hr28a, hr28r⟩
    show zG x LX 31 [some (zr 0), some (zi a)] ([] : List zV) S28
    obtain ⟨u1, u2, u3, u4⟩ := hr28a
    have tb := hTB.2.2
    refine z_iload_n (pc := 31) h dX10_join_31 rfl ?_
    refine z_if_ne (pc := 32) (tgt := 45) h dX10_join_32 (by decide) ⟨by omega, by omega⟩ (fun hc32 => ?_) (fun hc32 => ?_)
    ·
      refine z_iload_n (pc := 45) h dX10_join_45 rfl ?_
      refine z_iconst (pc := 46) h dX10_join_46 ?_
      refine z_icmp_ne (pc := 47) (tgt := 60) h dX10_join_47 (by decide) ⟨by omega, by omega⟩ ⟨by decide, by decide⟩ (fun hc47 => ?_) (fun hc47 => ?_)
      ·
        refine z_aload_n (pc := 60) h dX10_join_60 rfl ?_
        refine z_getR (a := 24) (pc := 61) h dX10_join_61 clX10 lkX10_39 (by decide) rfl rfl ?_
        refine z_callV (pc := 64) (rest := ([] : List zV)) h (m_X3_split S28 (by first | assumption | omega) (by first | assumption | omega)) dX10_join_64 mcX3_split miX3_split mlX10_196 rfl rfl ⟨by decide, by decide⟩ clX3 rfl rfl rfl (Nat.le_of_ble_eq_true rfl) ?_
        rintro _ _ ⟨rfl, rfl⟩
        show zG x LX 67 [some (zr 0), some (zi a)] [zi (if S28 29 0 = S28 30 0 then 0 else 1)] S28
        refine z_nm (b := (if S28 29 0 = S28 30 0 then 0 else 1)) (fun sv h_sv => ?_)
        refine z_iret (pc := 67) h dX10_join_67 rfl ?_
        refine ⟨ap_some ?_, cRel_keep hR (fun x y q1 q2 q3 q4 q5 => hr28f x y (by omega))⟩
        unfold sp_join
        rw [if_pos (by omega)]
        unfold joiV
        first
          | (rw [if_pos (by omega)]; exact u1)
          | (rw [if_neg (by omega), if_pos (by omega)]; exact u2)
          | (rw [if_neg (by omega), if_neg (by omega), h_sv, u3, u4])
      ·
        refine z_aload_n (pc := 50) h dX10_join_50 rfl ?_
        refine z_getR (a := 24) (pc := 51) h dX10_join_51 clX10 lkX10_39 (by decide) rfl rfl ?_
        refine z_callV (pc := 54) (rest := ([] : List zV)) h (m_X3_howMany S28 ) dX10_join_54 mcX3_howMany miX3_howMany mlX10_193 rfl rfl ⟨by decide, by decide⟩ clX3 rfl rfl rfl (Nat.le_of_ble_eq_true rfl) ?_
        rintro _ _ ⟨rfl, rfl⟩
        show zG x LX 57 [some (zr 0), some (zi a)] [zi (S28 28 0)] S28
        refine z_goto (pc := 57) (tgt := 67) h dX10_join_57 (by decide) ?_
        refine z_iret (pc := 67) h dX10_join_67 rfl ?_
        refine ⟨ap_some ?_, cRel_keep hR (fun x y q1 q2 q3 q4 q5 => hr28f x y (by omega))⟩
        unfold sp_join
        rw [if_pos (by omega)]
        unfold joiV
        first
          | (rw [if_pos (by omega)]; exact u1)
          | (rw [if_neg (by omega), if_pos (by omega)]; exact u2)
          | (rw [if_neg (by omega), if_neg (by omega), h_sv, u3, u4])
    ·
      refine z_aload_n (pc := 35) h dX10_join_35 rfl ?_
      refine z_getR (a := 24) (pc := 36) h dX10_join_36 clX10 lkX10_39 (by decide) rfl rfl ?_
      refine z_callV (pc := 39) (rest := ([] : List zV)) h (m_X3_sum S28 ) dX10_join_39 mcX3_sum miX3_sum mlX10_190 rfl rfl ⟨by decide, by decide⟩ clX3 rfl rfl rfl (Nat.le_of_ble_eq_true rfl) ?_
      rintro _ _ ⟨rfl, rfl⟩
      show zG x LX 42 [some (zr 0), some (zi a)] [zi (S28 27 0)] S28
      refine z_goto (pc := 42) (tgt := 67) h dX10_join_42 (by decide) ?_
      refine z_iret (pc := 67) h dX10_join_67 rfl ?_
      refine ⟨ap_some ?_, cRel_keep hR (fun x y q1 q2 q3 q4 q5 => hr28f x y (by omega))⟩
      unfold sp_join
      rw [if_pos (by omega)]
      unfold joiV
      first
        | (rw [if_pos (by omega)]; exact u1)
        | (rw [if_neg (by omega), if_pos (by omega)]; exact u2)
        | (rw [if_neg (by omega), if_neg (by omega), h_sv, u3, u4])
  ·
    show zG x LX 6 [some (zr 0), some (zi a)] [zi 0] S
    refine z_if_ne (pc := 6) (tgt := 12) h dX10_join_6 (by decide) ⟨by decide, by decide⟩ (fun hc6 => absurd hc6 (by decide)) (fun hc6 => ?_)
    refine z_bipush (pc := 9) h dX10_join_9 rfl ?_
    refine z_iret (pc := 11) h dX10_join_11 rfl ?_
    exact ⟨ap_some (by unfold sp_join; rw [if_neg (by omega)]), hR⟩

set_option maxRecDepth 100000 in
set_option maxHeartbeats 4000000 in
theorem m_X10_net (A S : SS) (hR : cRel S A) : zM LX yX10_net cX10_net 1 (some .int) 4 101 [zr 0] S (fun r S' => r = some (zi (netV A)) ∧ cRel S' A) := by
  refine zM_of (own := RX10) rfl (by decide +kernel) [some (zr 0)] (Nat.le_of_ble_eq_true rfl) rfl ?_
  intro x h
  have hm := hR.1
  have huu : S 0 10 = A 5 1 := hR.2.2.1.2.1
  have hTB := jT_B hm
  refine z_aload_n (pc := 0) h dX10_net_0 rfl ?_
  refine z_getR (a := 24) (pc := 1) h dX10_net_1 clX10 lkX10_39 (by decide) rfl rfl ?_
  refine z_aload_n (pc := 4) h dX10_net_4 rfl ?_
  refine z_getR (a := 9) (pc := 5) h dX10_net_5 clX10 lkX10_22 (by decide) rfl rfl ?_
  refine z_aload_n (pc := 8) h dX10_net_8 rfl ?_
  refine z_getR (a := 12) (pc := 9) h dX10_net_9 clX10 lkX10_26 (by decide) rfl rfl ?_
  refine z_aload_n (pc := 12) h dX10_net_12 rfl ?_
  refine z_getI (pc := 13) h dX10_net_13 clX10 lkX10_68 (by decide) rfl rfl ?_
  refine z_callV (pc := 16) (rest := ([] : List zV)) h (m_X3_search (S 0 10) A S hR huu) dX10_net_16 mcX3_search miX3_search mlX10_186 rfl rfl ⟨by decide, by decide⟩ clX3 rfl rfl rfl (Nat.le_of_ble_eq_true rfl) ?_
  rintro _ S16 ⟨rfl, hr16f, hr16e, hr168, hr16n, hr16a, hr16r⟩
  show zG x LX 19 [some (zr 0)] ([] : List zV) S16
  refine z_aload_n (pc := 19) h dX10_net_19 rfl ?_
  refine z_getR (a := 24) (pc := 20) h dX10_net_20 clX10 lkX10_39 (by decide) rfl rfl ?_
  refine z_getI (pc := 23) h dX10_net_23 clX3 lkX10_199 (by decide) rfl rfl ?_
  exact z_iret (pc := 26) h dX10_net_26 rfl (⟨ap_some hr16n, cRel_keep hR (fun x y q1 q2 q3 q4 q5 => hr16f x y (by omega))⟩)

set_option maxRecDepth 100000 in
set_option maxHeartbeats 4000000 in
theorem m_X10_joined (a b : Int) (A S : SS) (ha : r32 a) (hb : r32 b) (hR : cRel S A) : zM LX yX10_joined cX10_joined 4 (some .int) 4 101 [zr 0, zi a, zi b] S (fun r S' => r = some (zi (sp_joined A a b)) ∧ cRel S' A) := by
  refine zM_of (own := RX10) rfl (by decide +kernel) [some (zr 0), some (zi a), some (zi b), none] (Nat.le_of_ble_eq_true rfl) rfl ?_
  intro x h
  have hm := hR.1
  have huu : S 0 10 = A 5 1 := hR.2.2.1.2.1
  have k4 : S 9 2 = dA A 0 := hR.2.2.2.1.1.1
  have k5 : S 12 2 = dA A 1 := hR.2.2.2.1.2.1
  have b0 := dA_b hm (a := 0) (by decide)
  have b1 := dA_b hm (a := 1) (by decide)
  have hda2 : (a = 0 → dA A a = dA A 0) ∧ (a = 1 → dA A a = dA A 1) := ⟨fun q => by rw [q], fun q => by rw [q]⟩
  refine z_aload_n (pc := 0) h dX10_joined_0 rfl ?_
  refine z_iload_n (pc := 1) h dX10_joined_1 rfl ?_
  refine z_callV (pc := 2) (rest := ([] : List zV)) h (m_X10_lookAt a S ⟨by omega, by omega⟩) dX10_joined_2 mcX10_lookAt miX10_lookAt mlX10_161 rfl rfl ⟨by decide, by decide⟩ clX10 rfl rfl rfl (Nat.le_of_ble_eq_true rfl) ?_
  rintro _ _ ⟨rfl, ⟨hr2, rfl⟩ | ⟨hr2, rfl⟩ | ⟨hr2, rfl⟩⟩
  ·
    show zG x LX 5 [some (zr 0), some (zi a), some (zi b), none] [zr 9] S
    refine z_astore_n (pc := 5) (loc' := [some (zr 0), some (zi a), some (zi b), some (zr 9)]) h dX10_joined_5 rfl (Nat.le_of_ble_eq_true rfl) rfl rfl ?_
    refine z_aload_n (pc := 6) h dX10_joined_6 rfl ?_
    refine z_ifnull_r (pc := 7) h dX10_joined_7 ?_
    refine z_iload_n (pc := 10) h dX10_joined_10 rfl ?_
    refine z_iconst (pc := 11) h dX10_joined_11 ?_
    refine z_aload_n (pc := 12) h dX10_joined_12 rfl ?_
    refine z_getI (pc := 13) h dX10_joined_13 clX4 lkX10_202 (by decide) rfl rfl ?_
    refine z_iconst (pc := 16) h dX10_joined_16 ?_
    refine z_isub (pc := 17) h dX10_joined_17 ?_
    refine z_callS (pc := 18) (rest := ([] : List zV)) h (m_X10_within b 0 ((S 9 2) - 1) S ⟨by omega, by omega⟩ ⟨by decide, by decide⟩ ⟨by omega, by omega⟩) dX10_joined_18 mcX10_within msX10_within mlX10_75 rfl rfl ⟨by decide, by decide⟩ rfl (Nat.le_of_ble_eq_true rfl) ?_
    rintro _ _ ⟨rfl, ⟨hr18, rfl⟩ | ⟨hr18, rfl⟩⟩
    ·
      show zG x LX 21 [some (zr 0), some (zi a), some (zi b), some (zr 9)] [zi 1] S
      refine z_if_ne (pc := 21) (tgt := 27) h dX10_joined_21 (by decide) ⟨by decide, by decide⟩ (fun hc21 => ?_) (fun hc21 => absurd hc21 (by decide))
      refine z_aload_n (pc := 27) h dX10_joined_27 rfl ?_
      refine z_getR (a := 24) (pc := 28) h dX10_joined_28 clX10 lkX10_39 (by decide) rfl rfl ?_
      refine z_aload_n (pc := 31) h dX10_joined_31 rfl ?_
      refine z_getR (a := 9) (pc := 32) h dX10_joined_32 clX10 lkX10_22 (by decide) rfl rfl ?_
      refine z_aload_n (pc := 35) h dX10_joined_35 rfl ?_
      refine z_getR (a := 12) (pc := 36) h dX10_joined_36 clX10 lkX10_26 (by decide) rfl rfl ?_
      refine z_aload_n (pc := 39) h dX10_joined_39 rfl ?_
      refine z_getI (pc := 40) h dX10_joined_40 clX10 lkX10_68 (by decide) rfl rfl ?_
      refine z_callV (pc := 43) (rest := ([] : List zV)) h (m_X3_search (S 0 10) A S hR huu) dX10_joined_43 mcX3_search miX3_search mlX10_186 rfl rfl ⟨by decide, by decide⟩ clX3 rfl rfl rfl (Nat.le_of_ble_eq_true rfl) ?_
      rintro _ S43 ⟨rfl, hr43f, hr43e, hr438, hr43n, hr43a, hr43r⟩
      show zG x LX 46 [some (zr 0), some (zi a), some (zi b), some (zr 9)] ([] : List zV) S43
      refine z_aload_n (pc := 46) h dX10_joined_46 rfl ?_
      refine z_getR (a := 24) (pc := 47) h dX10_joined_47 clX10 lkX10_39 (by decide) rfl rfl ?_
      refine z_aload_n (pc := 50) h dX10_joined_50 rfl ?_
      refine z_iload_n (pc := 51) h dX10_joined_51 rfl ?_
      refine z_callV (pc := 52) (rest := ([] : List zV)) h (m_X3_partnerOf 9 a b A S43 (by omega) (by first | assumption | omega) hr43e hr438 hr43r (by omega)) dX10_joined_52 mcX3_partnerOf miX3_partnerOf mlX10_205 rfl rfl ⟨by decide, by decide⟩ clX3 rfl rfl rfl (Nat.le_of_ble_eq_true rfl) ?_
      rintro _ _ ⟨rfl, rfl⟩
      show zG x LX 55 [some (zr 0), some (zi a), some (zi b), some (zr 9)] [zi (jodV A a b)] S43
      refine z_iret (pc := 55) h dX10_joined_55 rfl ?_
      exact ⟨ap_some (by unfold sp_joined; rw [if_pos (by omega)]), cRel_keep hR (fun x y q1 q2 q3 q4 q5 => hr43f x y (by omega))⟩
    ·
      show zG x LX 21 [some (zr 0), some (zi a), some (zi b), some (zr 9)] [zi 0] S
      refine z_if_ne (pc := 21) (tgt := 27) h dX10_joined_21 (by decide) ⟨by decide, by decide⟩ (fun hc21 => absurd hc21 (by decide)) (fun hc21 => ?_)
      refine z_bipush (pc := 24) h dX10_joined_24 rfl ?_
      refine z_iret (pc := 26) h dX10_joined_26 rfl ?_
      exact ⟨ap_some (by unfold sp_joined; rw [if_neg (by omega)]), hR⟩
  ·
    show zG x LX 5 [some (zr 0), some (zi a), some (zi b), none] [zr 12] S
    refine z_astore_n (pc := 5) (loc' := [some (zr 0), some (zi a), some (zi b), some (zr 12)]) h dX10_joined_5 rfl (Nat.le_of_ble_eq_true rfl) rfl rfl ?_
    refine z_aload_n (pc := 6) h dX10_joined_6 rfl ?_
    refine z_ifnull_r (pc := 7) h dX10_joined_7 ?_
    refine z_iload_n (pc := 10) h dX10_joined_10 rfl ?_
    refine z_iconst (pc := 11) h dX10_joined_11 ?_
    refine z_aload_n (pc := 12) h dX10_joined_12 rfl ?_
    refine z_getI (pc := 13) h dX10_joined_13 clX4 lkX10_202 (by decide) rfl rfl ?_
    refine z_iconst (pc := 16) h dX10_joined_16 ?_
    refine z_isub (pc := 17) h dX10_joined_17 ?_
    refine z_callS (pc := 18) (rest := ([] : List zV)) h (m_X10_within b 0 ((S 12 2) - 1) S ⟨by omega, by omega⟩ ⟨by decide, by decide⟩ ⟨by omega, by omega⟩) dX10_joined_18 mcX10_within msX10_within mlX10_75 rfl rfl ⟨by decide, by decide⟩ rfl (Nat.le_of_ble_eq_true rfl) ?_
    rintro _ _ ⟨rfl, ⟨hr18, rfl⟩ | ⟨hr18, rfl⟩⟩
    ·
      show zG x LX 21 [some (zr 0), some (zi a), some (zi b), some (zr 12)] [zi 1] S
      refine z_if_ne (pc := 21) (tgt := 27) h dX10_joined_21 (by decide) ⟨by decide, by decide⟩ (fun hc21 => ?_) (fun hc21 => absurd hc21 (by decide))
      refine z_aload_n (pc := 27) h dX10_joined_27 rfl ?_
      refine z_getR (a := 24) (pc := 28) h dX10_joined_28 clX10 lkX10_39 (by decide) rfl rfl ?_
      refine z_aload_n (pc := 31) h dX10_joined_31 rfl ?_
      refine z_getR (a := 9) (pc := 32) h dX10_joined_32 clX10 lkX10_22 (by decide) rfl rfl ?_
      refine z_aload_n (pc := 35) h dX10_joined_35 rfl ?_
      refine z_getR (a := 12) (pc := 36) h dX10_joined_36 clX10 lkX10_26 (by decide) rfl rfl ?_
      refine z_aload_n (pc := 39) h dX10_joined_39 rfl ?_
      refine z_getI (pc := 40) h dX10_joined_40 clX10 lkX10_68 (by decide) rfl rfl ?_
      refine z_callV (pc := 43) (rest := ([] : List zV)) h (m_X3_search (S 0 10) A S hR huu) dX10_joined_43 mcX3_search miX3_search mlX10_186 rfl rfl ⟨by decide, by decide⟩ clX3 rfl rfl rfl (Nat.le_of_ble_eq_true rfl) ?_
      rintro _ S43 ⟨rfl, hr43f, hr43e, hr438, hr43n, hr43a, hr43r⟩
      show zG x LX 46 [some (zr 0), some (zi a), some (zi b), some (zr 12)] ([] : List zV) S43
      refine z_aload_n (pc := 46) h dX10_joined_46 rfl ?_
      refine z_getR (a := 24) (pc := 47) h dX10_joined_47 clX10 lkX10_39 (by decide) rfl rfl ?_
      refine z_aload_n (pc := 50) h dX10_joined_50 rfl ?_
      refine z_iload_n (pc := 51) h dX10_joined_51 rfl ?_
      refine z_callV (pc := 52) (rest := ([] : List zV)) h (m_X3_partnerOf 12 a b A S43 (by omega) (by first | assumption | omega) hr43e hr438 hr43r (by omega)) dX10_joined_52 mcX3_partnerOf miX3_partnerOf mlX10_205 rfl rfl ⟨by decide, by decide⟩ clX3 rfl rfl rfl (Nat.le_of_ble_eq_true rfl) ?_
      rintro _ _ ⟨rfl, rfl⟩
      show zG x LX 55 [some (zr 0), some (zi a), some (zi b), some (zr 12)] [zi (jodV A a b)] S43
      refine z_iret (pc := 55) h dX10_joined_55 rfl ?_
      exact ⟨ap_some (by unfold sp_joined; rw [if_pos (by omega)]), cRel_keep hR (fun x y q1 q2 q3 q4 q5 => hr43f x y (by omega))⟩
    ·
      show zG x LX 21 [some (zr 0), some (zi a), some (zi b), some (zr 12)] [zi 0] S
      refine z_if_ne (pc := 21) (tgt := 27) h dX10_joined_21 (by decide) ⟨by decide, by decide⟩ (fun hc21 => absurd hc21 (by decide)) (fun hc21 => ?_)
      refine z_bipush (pc := 24) h dX10_joined_24 rfl ?_
      refine z_iret (pc := 26) h dX10_joined_26 rfl ?_
      exact ⟨ap_some (by unfold sp_joined; rw [if_neg (by omega)]), hR⟩
  ·
    show zG x LX 5 [some (zr 0), some (zi a), some (zi b), none] [zn] S
    refine z_nstore_n (pc := 5) (loc' := [some (zr 0), some (zi a), some (zi b), some (zn)]) h dX10_joined_5 rfl (Nat.le_of_ble_eq_true rfl) rfl rfl ?_
    refine z_nload_n (pc := 6) h dX10_joined_6 rfl ?_
    refine z_ifnull_n (pc := 7) (tgt := 24) h dX10_joined_7 (by decide) ?_
    refine z_bipush (pc := 24) h dX10_joined_24 rfl ?_
    refine z_iret (pc := 26) h dX10_joined_26 rfl ?_
    exact ⟨ap_some (by unfold sp_joined; rw [if_neg (by omega)]), hR⟩

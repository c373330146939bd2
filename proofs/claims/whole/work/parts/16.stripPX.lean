/-! the class's public calls on strips -/
theorem missF_k (g : Int) (Q : PL) {n : Int} (hn : 0 ≤ n) : ((missF g Q n).1 = -1 ∧ (missF g Q n).2 = 0) ∨ (0 ≤ (missF g Q n).1 ∧ (missF g Q n).1 < n ∧ (missF g Q n).2 = lowF g Q n (missF g Q n).1 ∧ 0 < (missF g Q n).2) := by
  rcases missF_ok g Q hn with h | h
  · left; rw [h]; exact ⟨rfl, rfl⟩
  · exact Or.inr h

set_option maxRecDepth 100000 in
set_option maxHeartbeats 4000000 in
theorem m_X10_fault (a : Int) (A S : SS) (ha : r32 a) (hR : cRel S A) : zM LX yX10_fault cX10_fault 3 (some .int) 1 21 [zr 0, zi a] S (fun r S' => S = S' ∧ r = some (zi (sp_fault A a))) := by
  refine zM_of (own := RX10) rfl (by decide +kernel) [some (zr 0), some (zi a), none] (Nat.le_of_ble_eq_true rfl) rfl ?_
  intro x h
  have hm := hR.1
  have r0 := hR.2.1.1
  have r1 := hR.2.1.2
  have o0 := r0.1
  have o1 := r1.1
  have v0 : pvX S 1 = qA A 0 := relS_pv r0
  have v1 : pvX S 5 = qA A 1 := relS_pv r1
  have m0 : S 1 4 = mA A 0 := r0.2.2.2.2.1
  have m1 : S 5 4 = mA A 1 := r1.2.2.2.2.1
  have n0 : S 1 3 = nA A 0 := r0.2.1
  have n1 : S 5 3 = nA A 1 := r1.2.1
  have gg : S 0 9 = A 5 0 := hR.2.2.1.1
  have hg := mi_g hm
  refine z_aload_n (pc := 0) h dX10_fault_0 rfl ?_
  refine z_iload_n (pc := 1) h dX10_fault_1 rfl ?_
  refine z_callV (pc := 2) (rest := ([] : List zV)) h (m_X10_stripAt a S ⟨by omega, by omega⟩) dX10_fault_2 mcX10_stripAt miX10_stripAt mlX10_71 rfl rfl ⟨by decide, by decide⟩ clX10 rfl rfl rfl (Nat.le_of_ble_eq_true rfl) ?_
  rintro _ _ ⟨rfl, ⟨hr2, rfl⟩ | ⟨hr2, rfl⟩ | ⟨hr2, rfl⟩⟩
  ·
    show zG x LX 5 [some (zr 0), some (zi a), none] [zr 1] S
    refine z_astore_n (pc := 5) (loc' := [some (zr 0), some (zi a), some (zr 1)]) h dX10_fault_5 rfl (Nat.le_of_ble_eq_true rfl) rfl rfl ?_
    refine z_aload_n (pc := 6) h dX10_fault_6 rfl ?_
    refine z_ifnonnull_r (pc := 7) (tgt := 15) h dX10_fault_7 (by decide) ?_
    refine z_aload_n (pc := 15) h dX10_fault_15 rfl ?_
    refine z_getI (pc := 16) h dX10_fault_16 clX7 lkX10_87 (by decide) rfl rfl ?_
    exact z_iret (pc := 19) h dX10_fault_19 rfl ⟨rfl, congrArg (fun z => some (zi z)) (by first | (subst hr2; unfold sp_fault; first | (rw [if_neg (by omega)]) | (rw [if_pos (by omega)]; exact r0.2.2.2.1) | (rw [if_pos (by omega)]; exact r1.2.2.2.1)) | (unfold sp_fault; rw [if_neg (by omega)]))⟩
  ·
    show zG x LX 5 [some (zr 0), some (zi a), none] [zr 5] S
    refine z_astore_n (pc := 5) (loc' := [some (zr 0), some (zi a), some (zr 5)]) h dX10_fault_5 rfl (Nat.le_of_ble_eq_true rfl) rfl rfl ?_
    refine z_aload_n (pc := 6) h dX10_fault_6 rfl ?_
    refine z_ifnonnull_r (pc := 7) (tgt := 15) h dX10_fault_7 (by decide) ?_
    refine z_aload_n (pc := 15) h dX10_fault_15 rfl ?_
    refine z_getI (pc := 16) h dX10_fault_16 clX7 lkX10_87 (by decide) rfl rfl ?_
    exact z_iret (pc := 19) h dX10_fault_19 rfl ⟨rfl, congrArg (fun z => some (zi z)) (by first | (subst hr2; unfold sp_fault; first | (rw [if_neg (by omega)]) | (rw [if_pos (by omega)]; exact r0.2.2.2.1) | (rw [if_pos (by omega)]; exact r1.2.2.2.1)) | (unfold sp_fault; rw [if_neg (by omega)]))⟩
  ·
    show zG x LX 5 [some (zr 0), some (zi a), none] [zn] S
    refine z_nstore_n (pc := 5) (loc' := [some (zr 0), some (zi a), some (zn)]) h dX10_fault_5 rfl (Nat.le_of_ble_eq_true rfl) rfl rfl ?_
    refine z_nload_n (pc := 6) h dX10_fault_6 rfl ?_
    refine z_ifnonnull_n (pc := 7) h dX10_fault_7 ?_
    refine z_bipush (pc := 10) h dX10_fault_10 rfl ?_
    refine z_goto (pc := 12) (tgt := 19) h dX10_fault_12 (by decide) ?_
    exact z_iret (pc := 19) h dX10_fault_19 rfl ⟨rfl, congrArg (fun z => some (zi z)) (by first | (subst hr2; unfold sp_fault; first | (rw [if_neg (by omega)]) | (rw [if_pos (by omega)]; exact r0.2.2.2.1) | (rw [if_pos (by omega)]; exact r1.2.2.2.1)) | (unfold sp_fault; rw [if_neg (by omega)]))⟩

set_option maxRecDepth 100000 in
set_option maxHeartbeats 4000000 in
theorem m_X10_place (a b c : Int) (A S : SS) (ha : r32 a) (hb : r32 b) (hc : r32 c) (hR : cRel S A) : zM LX yX10_place cX10_place 5 (some .int) 2 43 [zr 0, zi a, zi b, zi c] S (fun r S' => S = S' ∧ r = some (zi (sp_place A a b c))) := by
  refine zM_of (own := RX10) rfl (by decide +kernel) [some (zr 0), some (zi a), some (zi b), some (zi c), none] (Nat.le_of_ble_eq_true rfl) rfl ?_
  intro x h
  have hm := hR.1
  have r0 := hR.2.1.1
  have r1 := hR.2.1.2
  have o0 := r0.1
  have o1 := r1.1
  have v0 : pvX S 1 = qA A 0 := relS_pv r0
  have v1 : pvX S 5 = qA A 1 := relS_pv r1
  have m0 : S 1 4 = mA A 0 := r0.2.2.2.2.1
  have m1 : S 5 4 = mA A 1 := r1.2.2.2.2.1
  have n0 : S 1 3 = nA A 0 := r0.2.1
  have n1 : S 5 3 = nA A 1 := r1.2.1
  have gg : S 0 9 = A 5 0 := hR.2.2.1.1
  have hg := mi_g hm
  refine z_aload_n (pc := 0) h dX10_place_0 rfl ?_
  refine z_iload_n (pc := 1) h dX10_place_1 rfl ?_
  refine z_callV (pc := 2) (rest := ([] : List zV)) h (m_X10_stripAt a S ⟨by omega, by omega⟩) dX10_place_2 mcX10_stripAt miX10_stripAt mlX10_71 rfl rfl ⟨by decide, by decide⟩ clX10 rfl rfl rfl (Nat.le_of_ble_eq_true rfl) ?_
  rintro _ _ ⟨rfl, ⟨hr2, rfl⟩ | ⟨hr2, rfl⟩ | ⟨hr2, rfl⟩⟩
  ·
    show zG x LX 5 [some (zr 0), some (zi a), some (zi b), some (zi c), none] [zr 1] S
    refine z_astore (pc := 5) (loc' := [some (zr 0), some (zi a), some (zi b), some (zi c), some (zr 1)]) h dX10_place_5 (Nat.le_of_ble_eq_true rfl) rfl rfl ?_
    refine z_aload (pc := 7) h dX10_place_7 rfl ?_
    refine z_ifnull_r (pc := 9) h dX10_place_9 ?_
    refine z_aload (pc := 12) h dX10_place_12 rfl ?_
    refine z_iload_n (pc := 14) h dX10_place_14 rfl ?_
    refine z_callV (pc := 15) (rest := ([] : List zV)) h (m_X7_has 1 b S isStrip1 (by first | assumption | omega) ⟨by omega, by omega⟩) dX10_place_15 mcX7_has miX7_has mlX10_90 rfl rfl ⟨by decide, by decide⟩ clX7 rfl rfl rfl (Nat.le_of_ble_eq_true rfl) ?_
    rintro _ _ ⟨rfl, ⟨hr15, rfl⟩ | ⟨hr15, rfl⟩⟩
    ·
      show zG x LX 18 [some (zr 0), some (zi a), some (zi b), some (zi c), some (zr 1)] [zi 1] S
      refine z_if_eq (pc := 18) (tgt := 30) h dX10_place_18 (by decide) ⟨by decide, by decide⟩ (fun hc18 => absurd hc18 (by decide)) (fun hc18 => ?_)
      refine z_iload_n (pc := 21) h dX10_place_21 rfl ?_
      refine z_iconst (pc := 22) h dX10_place_22 ?_
      refine z_iconst (pc := 23) h dX10_place_23 ?_
      refine z_callS (pc := 24) (rest := ([] : List zV)) h (m_X10_within c 0 3 S ⟨by omega, by omega⟩ ⟨by decide, by decide⟩ ⟨by decide, by decide⟩) dX10_place_24 mcX10_within msX10_within mlX10_75 rfl rfl ⟨by decide, by decide⟩ rfl (Nat.le_of_ble_eq_true rfl) ?_
      rintro _ _ ⟨rfl, ⟨hr24, rfl⟩ | ⟨hr24, rfl⟩⟩
      ·
        show zG x LX 27 [some (zr 0), some (zi a), some (zi b), some (zi c), some (zr 1)] [zi 1] S
        refine z_if_ne (pc := 27) (tgt := 33) h dX10_place_27 (by decide) ⟨by decide, by decide⟩ (fun hc27 => ?_) (fun hc27 => absurd hc27 (by decide))
        refine z_aload (pc := 33) h dX10_place_33 rfl ?_
        refine z_iload_n (pc := 35) h dX10_place_35 rfl ?_
        refine z_iload_n (pc := 36) h dX10_place_36 rfl ?_
        refine z_callV (pc := 37) (rest := ([] : List zV)) h (m_X7_placeAt 1 b c S isStrip1 (by first | assumption | omega) ⟨by omega, by omega⟩ ⟨by omega, by omega⟩) dX10_place_37 mcX7_placeAt miX7_placeAt mlX10_94 rfl rfl ⟨by decide, by decide⟩ clX7 rfl rfl rfl (Nat.le_of_ble_eq_true rfl) ?_
        rintro _ _ ⟨rfl, rfl⟩
        show zG x LX 40 [some (zr 0), some (zi a), some (zi b), some (zi c), some (zr 1)] [zi (pvX S 1 b c)] S
        exact z_iret (pc := 40) h dX10_place_40 rfl ⟨rfl, congrArg (fun z => some (zi z)) (by first | (subst hr2; unfold sp_place; first | (rw [if_neg (by omega)]) | (rw [if_pos (by omega)]; rw [← v0]) | (rw [if_pos (by omega)]; rw [← v1])) | (unfold sp_place; rw [if_neg (by omega)]))⟩
      ·
        show zG x LX 27 [some (zr 0), some (zi a), some (zi b), some (zi c), some (zr 1)] [zi 0] S
        refine z_if_ne (pc := 27) (tgt := 33) h dX10_place_27 (by decide) ⟨by decide, by decide⟩ (fun hc27 => absurd hc27 (by decide)) (fun hc27 => ?_)
        refine z_bipush (pc := 30) h dX10_place_30 rfl ?_
        exact z_iret (pc := 32) h dX10_place_32 rfl ⟨rfl, congrArg (fun z => some (zi z)) (by first | (subst hr2; unfold sp_place; first | (rw [if_neg (by omega)]) | (rw [if_pos (by omega)]; rw [← v0]) | (rw [if_pos (by omega)]; rw [← v1])) | (unfold sp_place; rw [if_neg (by omega)]))⟩
    ·
      show zG x LX 18 [some (zr 0), some (zi a), some (zi b), some (zi c), some (zr 1)] [zi 0] S
      refine z_if_eq (pc := 18) (tgt := 30) h dX10_place_18 (by decide) ⟨by decide, by decide⟩ (fun hc18 => ?_) (fun hc18 => absurd hc18 (by decide))
      refine z_bipush (pc := 30) h dX10_place_30 rfl ?_
      exact z_iret (pc := 32) h dX10_place_32 rfl ⟨rfl, congrArg (fun z => some (zi z)) (by first | (subst hr2; unfold sp_place; first | (rw [if_neg (by omega)]) | (rw [if_pos (by omega)]; rw [← v0]) | (rw [if_pos (by omega)]; rw [← v1])) | (unfold sp_place; rw [if_neg (by omega)]))⟩
  ·
    show zG x LX 5 [some (zr 0), some (zi a), some (zi b), some (zi c), none] [zr 5] S
    refine z_astore (pc := 5) (loc' := [some (zr 0), some (zi a), some (zi b), some (zi c), some (zr 5)]) h dX10_place_5 (Nat.le_of_ble_eq_true rfl) rfl rfl ?_
    refine z_aload (pc := 7) h dX10_place_7 rfl ?_
    refine z_ifnull_r (pc := 9) h dX10_place_9 ?_
    refine z_aload (pc := 12) h dX10_place_12 rfl ?_
    refine z_iload_n (pc := 14) h dX10_place_14 rfl ?_
    refine z_callV (pc := 15) (rest := ([] : List zV)) h (m_X7_has 5 b S isStrip5 (by first | assumption | omega) ⟨by omega, by omega⟩) dX10_place_15 mcX7_has miX7_has mlX10_90 rfl rfl ⟨by decide, by decide⟩ clX7 rfl rfl rfl (Nat.le_of_ble_eq_true rfl) ?_
    rintro _ _ ⟨rfl, ⟨hr15, rfl⟩ | ⟨hr15, rfl⟩⟩
    ·
      show zG x LX 18 [some (zr 0), some (zi a), some (zi b), some (zi c), some (zr 5)] [zi 1] S
      refine z_if_eq (pc := 18) (tgt := 30) h dX10_place_18 (by decide) ⟨by decide, by decide⟩ (fun hc18 => absurd hc18 (by decide)) (fun hc18 => ?_)
      refine z_iload_n (pc := 21) h dX10_place_21 rfl ?_
      refine z_iconst (pc := 22) h dX10_place_22 ?_
      refine z_iconst (pc := 23) h dX10_place_23 ?_
      refine z_callS (pc := 24) (rest := ([] : List zV)) h (m_X10_within c 0 3 S ⟨by omega, by omega⟩ ⟨by decide, by decide⟩ ⟨by decide, by decide⟩) dX10_place_24 mcX10_within msX10_within mlX10_75 rfl rfl ⟨by decide, by decide⟩ rfl (Nat.le_of_ble_eq_true rfl) ?_
      rintro _ _ ⟨rfl, ⟨hr24, rfl⟩ | ⟨hr24, rfl⟩⟩
      ·
        show zG x LX 27 [some (zr 0), some (zi a), some (zi b), some (zi c), some (zr 5)] [zi 1] S
        refine z_if_ne (pc := 27) (tgt := 33) h dX10_place_27 (by decide) ⟨by decide, by decide⟩ (fun hc27 => ?_) (fun hc27 => absurd hc27 (by decide))
        refine z_aload (pc := 33) h dX10_place_33 rfl ?_
        refine z_iload_n (pc := 35) h dX10_place_35 rfl ?_
        refine z_iload_n (pc := 36) h dX10_place_36 rfl ?_
        refine z_callV (pc := 37) (rest := ([] : List zV)) h (m_X7_placeAt 5 b c S isStrip5 (by first | assumption | omega) ⟨by omega, by omega⟩ ⟨by omega, by omega⟩) dX10_place_37 mcX7_placeAt miX7_placeAt mlX10_94 rfl rfl ⟨by decide, by decide⟩ clX7 rfl rfl rfl (Nat.le_of_ble_eq_true rfl) ?_
        rintro _ _ ⟨rfl, rfl⟩
        show zG x LX 40 [some (zr 0), some (zi a), some (zi b), some (zi c), some (zr 5)] [zi (pvX S 5 b c)] S
        exact z_iret (pc := 40) h dX10_place_40 rfl ⟨rfl, congrArg (fun z => some (zi z)) (by first | (subst hr2; unfold sp_place; first | (rw [if_neg (by omega)]) | (rw [if_pos (by omega)]; rw [← v0]) | (rw [if_pos (by omega)]; rw [← v1])) | (unfold sp_place; rw [if_neg (by omega)]))⟩
      ·
        show zG x LX 27 [some (zr 0), some (zi a), some (zi b), some (zi c), some (zr 5)] [zi 0] S
        refine z_if_ne (pc := 27) (tgt := 33) h dX10_place_27 (by decide) ⟨by decide, by decide⟩ (fun hc27 => absurd hc27 (by decide)) (fun hc27 => ?_)
        refine z_bipush (pc := 30) h dX10_place_30 rfl ?_
        exact z_iret (pc := 32) h dX10_place_32 rfl ⟨rfl, congrArg (fun z => some (zi z)) (by first | (subst hr2; unfold sp_place; first | (rw [if_neg (by omega)]) | (rw [if_pos (by omega)]; rw [← v0]) | (rw [if_pos (by omega)]; rw [← v1])) | (unfold sp_place; rw [if_neg (by omega)]))⟩
    ·
      show zG x LX 18 [some (zr 0), some (zi a), some (zi b), some (zi c), some (zr 5)] [zi 0] S
      refine z_if_eq (pc := 18) (tgt := 30) h dX10_place_18 (by decide) ⟨by decide, by decide⟩ (fun hc18 => ?_) (fun hc18 => absurd hc18 (by decide))
      refine z_bipush (pc := 30) h dX10_place_30 rfl ?_
      exact z_iret (pc := 32) h dX10_place_32 rfl ⟨rfl, congrArg (fun z => some (zi z)) (by first | (subst hr2; unfold sp_place; first | (rw [if_neg (by omega)]) | (rw [if_pos (by omega)]; rw [← v0]) | (rw [if_pos (by omega)]; rw [← v1])) | (unfold sp_place; rw [if_neg (by omega)]))⟩
  ·
    show zG x LX 5 [some (zr 0), some (zi a), some (zi b), some (zi c), none] [zn] S
    refine z_nstore (pc := 5) (loc' := [some (zr 0), some (zi a), some (zi b), some (zi c), some (zn)]) h dX10_place_5 (Nat.le_of_ble_eq_true rfl) rfl rfl ?_
    refine z_nload (pc := 7) h dX10_place_7 rfl ?_
    refine z_ifnull_n (pc := 9) (tgt := 30) h dX10_place_9 (by decide) ?_
    refine z_bipush (pc := 30) h dX10_place_30 rfl ?_
    exact z_iret (pc := 32) h dX10_place_32 rfl ⟨rfl, congrArg (fun z => some (zi z)) (by first | (subst hr2; unfold sp_place; first | (rw [if_neg (by omega)]) | (rw [if_pos (by omega)]; rw [← v0]) | (rw [if_pos (by omega)]; rw [← v1])) | (unfold sp_place; rw [if_neg (by omega)]))⟩

set_option maxRecDepth 100000 in
set_option maxHeartbeats 4000000 in
theorem m_X10_step (a b c : Int) (A S : SS) (ha : r32 a) (hb : r32 b) (hc : r32 c) (hR : cRel S A) : zM LX yX10_step cX10_step 5 (some .int) 3 67 [zr 0, zi a, zi b, zi c] S (fun r S' => S = S' ∧ r = some (zi (sp_step A a b c))) := by
  refine zM_of (own := RX10) rfl (by decide +kernel) [some (zr 0), some (zi a), some (zi b), some (zi c), none] (Nat.le_of_ble_eq_true rfl) rfl ?_
  intro x h
  have hm := hR.1
  have r0 := hR.2.1.1
  have r1 := hR.2.1.2
  have o0 := r0.1
  have o1 := r1.1
  have v0 : pvX S 1 = qA A 0 := relS_pv r0
  have v1 : pvX S 5 = qA A 1 := relS_pv r1
  have m0 : S 1 4 = mA A 0 := r0.2.2.2.2.1
  have m1 : S 5 4 = mA A 1 := r1.2.2.2.2.1
  have n0 : S 1 3 = nA A 0 := r0.2.1
  have n1 : S 5 3 = nA A 1 := r1.2.1
  have gg : S 0 9 = A 5 0 := hR.2.2.1.1
  have hg := mi_g hm
  refine z_aload_n (pc := 0) h dX10_step_0 rfl ?_
  refine z_iload_n (pc := 1) h dX10_step_1 rfl ?_
  refine z_callV (pc := 2) (rest := ([] : List zV)) h (m_X10_stripAt a S ⟨by omega, by omega⟩) dX10_step_2 mcX10_stripAt miX10_stripAt mlX10_71 rfl rfl ⟨by decide, by decide⟩ clX10 rfl rfl rfl (Nat.le_of_ble_eq_true rfl) ?_
  rintro _ _ ⟨rfl, ⟨hr2, rfl⟩ | ⟨hr2, rfl⟩ | ⟨hr2, rfl⟩⟩
  ·
    show zG x LX 5 [some (zr 0), some (zi a), some (zi b), some (zi c), none] [zr 1] S
    refine z_astore (pc := 5) (loc' := [some (zr 0), some (zi a), some (zi b), some (zi c), some (zr 1)]) h dX10_step_5 (Nat.le_of_ble_eq_true rfl) rfl rfl ?_
    refine z_aload (pc := 7) h dX10_step_7 rfl ?_
    refine z_ifnull_r (pc := 9) h dX10_step_9 ?_
    refine z_aload (pc := 12) h dX10_step_12 rfl ?_
    refine z_iload_n (pc := 14) h dX10_step_14 rfl ?_
    refine z_callV (pc := 15) (rest := ([] : List zV)) h (m_X7_has 1 b S isStrip1 (by first | assumption | omega) ⟨by omega, by omega⟩) dX10_step_15 mcX7_has miX7_has mlX10_90 rfl rfl ⟨by decide, by decide⟩ clX7 rfl rfl rfl (Nat.le_of_ble_eq_true rfl) ?_
    rintro _ _ ⟨rfl, ⟨hr15, rfl⟩ | ⟨hr15, rfl⟩⟩
    ·
      show zG x LX 18 [some (zr 0), some (zi a), some (zi b), some (zi c), some (zr 1)] [zi 1] S
      refine z_if_eq (pc := 18) (tgt := 30) h dX10_step_18 (by decide) ⟨by decide, by decide⟩ (fun hc18 => absurd hc18 (by decide)) (fun hc18 => ?_)
      refine z_aload (pc := 21) h dX10_step_21 rfl ?_
      refine z_iload_n (pc := 23) h dX10_step_23 rfl ?_
      refine z_callV (pc := 24) (rest := ([] : List zV)) h (m_X7_has 1 c S isStrip1 (by first | assumption | omega) ⟨by omega, by omega⟩) dX10_step_24 mcX7_has miX7_has mlX10_90 rfl rfl ⟨by decide, by decide⟩ clX7 rfl rfl rfl (Nat.le_of_ble_eq_true rfl) ?_
      rintro _ _ ⟨rfl, ⟨hr24, rfl⟩ | ⟨hr24, rfl⟩⟩
      ·
        show zG x LX 27 [some (zr 0), some (zi a), some (zi b), some (zi c), some (zr 1)] [zi 1] S
        refine z_if_ne (pc := 27) (tgt := 33) h dX10_step_27 (by decide) ⟨by decide, by decide⟩ (fun hc27 => ?_) (fun hc27 => absurd hc27 (by decide))
        refine z_aload (pc := 33) h dX10_step_33 rfl ?_
        refine z_iload_n (pc := 35) h dX10_step_35 rfl ?_
        refine z_iload_n (pc := 36) h dX10_step_36 rfl ?_
        refine z_aload_n (pc := 37) h dX10_step_37 rfl ?_
        refine z_getI (pc := 38) h dX10_step_38 clX10 lkX10_64 (by decide) rfl rfl ?_
        refine z_callV (pc := 41) (rest := ([] : List zV)) h (m_X7_stepBetween 1 b c (S 0 9) S isStrip1 (by first | assumption | omega) ⟨by omega, by omega⟩ ⟨by omega, by omega⟩ (by first | assumption | omega)) dX10_step_41 mcX7_stepBetween miX7_stepBetween mlX10_98 rfl rfl ⟨by decide, by decide⟩ clX7 rfl rfl rfl (Nat.le_of_ble_eq_true rfl) ?_
        rintro _ _ ⟨rfl, rfl⟩
        show zG x LX 44 [some (zr 0), some (zi a), some (zi b), some (zi c), some (zr 1)] [zi (stepF (S 0 9) (pvX S 1) b c)] S
        exact z_iret (pc := 44) h dX10_step_44 rfl ⟨rfl, congrArg (fun z => some (zi z)) (by first | (subst hr2; unfold sp_step; first | (rw [if_neg (by omega)]) | (rw [if_pos (by omega)]; rw [← v0, ← gg]) | (rw [if_pos (by omega)]; rw [← v1, ← gg])) | (unfold sp_step; rw [if_neg (by omega)]))⟩
      ·
        show zG x LX 27 [some (zr 0), some (zi a), some (zi b), some (zi c), some (zr 1)] [zi 0] S
        refine z_if_ne (pc := 27) (tgt := 33) h dX10_step_27 (by decide) ⟨by decide, by decide⟩ (fun hc27 => absurd hc27 (by decide)) (fun hc27 => ?_)
        refine z_bipush (pc := 30) h dX10_step_30 rfl ?_
        exact z_iret (pc := 32) h dX10_step_32 rfl ⟨rfl, congrArg (fun z => some (zi z)) (by first | (subst hr2; unfold sp_step; first | (rw [if_neg (by omega)]) | (rw [if_pos (by omega)]; rw [← v0, ← gg]) | (rw [if_pos (by omega)]; rw [← v1, ← gg])) | (unfold sp_step; rw [if_neg (by omega)]))⟩
    ·
      show zG x LX 18 [some (zr 0), some (zi a), some (zi b), some (zi c), some (zr 1)] [zi 0] S
      refine z_if_eq (pc := 18) (tgt := 30) h dX10_step_18 (by decide) ⟨by decide, by decide⟩ (fun hc18 => ?_) (fun hc18 => absurd hc18 (by decide))
      refine z_bipush (pc := 30) h dX10_step_30 rfl ?_
      exact z_iret (pc := 32) h dX10_step_32 rfl ⟨rfl, congrArg (fun z => some (zi z)) (by first | (subst hr2; unfold sp_step; first | (rw [if_neg (by omega)]) | (rw [if_pos (by omega)]; rw [← v0, ← gg]) | (rw [if_pos (by omega)]; rw [← v1, ← gg])) | (unfold sp_step; rw [if_neg (by omega)]))⟩
  ·
    show zG x LX 5 [some (zr 0), some (zi a), some (zi b), some (zi c), none] [zr 5] S
    refine z_astore (pc := 5) (loc' := [some (zr 0), some (zi a), some (zi b), some (zi c), some (zr 5)]) h dX10_step_5 (Nat.le_of_ble_eq_true rfl) rfl rfl ?_
    refine z_aload (pc := 7) h dX10_step_7 rfl ?_
    refine z_ifnull_r (pc := 9) h dX10_step_9 ?_
    refine z_aload (pc := 12) h dX10_step_12 rfl ?_
    refine z_iload_n (pc := 14) h dX10_step_14 rfl ?_
    refine z_callV (pc := 15) (rest := ([] : List zV)) h (m_X7_has 5 b S isStrip5 (by first | assumption | omega) ⟨by omega, by omega⟩) dX10_step_15 mcX7_has miX7_has mlX10_90 rfl rfl ⟨by decide, by decide⟩ clX7 rfl rfl rfl (Nat.le_of_ble_eq_true rfl) ?_
    rintro _ _ ⟨rfl, ⟨hr15, rfl⟩ | ⟨hr15, rfl⟩⟩
    ·
      show zG x LX 18 [some (zr 0), some (zi a), some (zi b), some (zi c), some (zr 5)] [zi 1] S
      refine z_if_eq (pc := 18) (tgt := 30) h dX10_step_18 (by decide) ⟨by decide, by decide⟩ (fun hc18 => absurd hc18 (by decide)) (fun hc18 => ?_)
      refine z_aload (pc := 21) h dX10_step_21 rfl ?_
      refine z_iload_n (pc := 23) h dX10_step_23 rfl ?_
      refine z_callV (pc := 24) (rest := ([] : List zV)) h (m_X7_has 5 c S isStrip5 (by first | assumption | omega) ⟨by omega, by omega⟩) dX10_step_24 mcX7_has miX7_has mlX10_90 rfl rfl ⟨by decide, by decide⟩ clX7 rfl rfl rfl (Nat.le_of_ble_eq_true rfl) ?_
      rintro _ _ ⟨rfl, ⟨hr24, rfl⟩ | ⟨hr24, rfl⟩⟩
      ·
        show zG x LX 27 [some (zr 0), some (zi a), some (zi b), some (zi c), some (zr 5)] [zi 1] S
        refine z_if_ne (pc := 27) (tgt := 33) h dX10_step_27 (by decide) ⟨by decide, by decide⟩ (fun hc27 => ?_) (fun hc27 => absurd hc27 (by decide))
        refine z_aload (pc := 33) h dX10_step_33 rfl ?_
        refine z_iload_n (pc := 35) h dX10_step_35 rfl ?_
        refine z_iload_n (pc := 36) h dX10_step_36 rfl ?_
        refine z_aload_n (pc := 37) h dX10_step_37 rfl ?_
        refine z_getI (pc := 38) h dX10_step_38 clX10 lkX10_64 (by decide) rfl rfl ?_
        refine z_callV (pc := 41) (rest := ([] : List zV)) h (m_X7_stepBetween 5 b c (S 0 9) S isStrip5 (by first | assumption | omega) ⟨by omega, by omega⟩ ⟨by omega, by omega⟩ (by first | assumption | omega)) dX10_step_41 mcX7_stepBetween miX7_stepBetween mlX10_98 rfl rfl ⟨by decide, by decide⟩ clX7 rfl rfl rfl (Nat.le_of_ble_eq_true rfl) ?_
        rintro _ _ ⟨rfl, rfl⟩
        show zG x LX 44 [some (zr 0), some (zi a), some (zi b), some (zi c), some (zr 5)] [zi (stepF (S 0 9) (pvX S 5) b c)] S
        exact z_iret (pc := 44) h dX10_step_44 rfl ⟨rfl, congrArg (fun z => some (zi z)) (by first | (subst hr2; unfold sp_step; first | (rw [if_neg (by omega)]) | (rw [if_pos (by omega)]; rw [← v0, ← gg]) | (rw [if_pos (by omega)]; rw [← v1, ← gg])) | (unfold sp_step; rw [if_neg (by omega)]))⟩
      ·
        show zG x LX 27 [some (zr 0), some (zi a), some (zi b), some (zi c), some (zr 5)] [zi 0] S
        refine z_if_ne (pc := 27) (tgt := 33) h dX10_step_27 (by decide) ⟨by decide, by decide⟩ (fun hc27 => absurd hc27 (by decide)) (fun hc27 => ?_)
        refine z_bipush (pc := 30) h dX10_step_30 rfl ?_
        exact z_iret (pc := 32) h dX10_step_32 rfl ⟨rfl, congrArg (fun z => some (zi z)) (by first | (subst hr2; unfold sp_step; first | (rw [if_neg (by omega)]) | (rw [if_pos (by omega)]; rw [← v0, ← gg]) | (rw [if_pos (by omega)]; rw [← v1, ← gg])) | (unfold sp_step; rw [if_neg (by omega)]))⟩
    ·
      show zG x LX 18 [some (zr 0), some (zi a), some (zi b), some (zi c), some (zr 5)] [zi 0] S
      refine z_if_eq (pc := 18) (tgt := 30) h dX10_step_18 (by decide) ⟨by decide, by decide⟩ (fun hc18 => ?_) (fun hc18 => absurd hc18 (by decide))
      refine z_bipush (pc := 30) h dX10_step_30 rfl ?_
      exact z_iret (pc := 32) h dX10_step_32 rfl ⟨rfl, congrArg (fun z => some (zi z)) (by first | (subst hr2; unfold sp_step; first | (rw [if_neg (by omega)]) | (rw [if_pos (by omega)]; rw [← v0, ← gg]) | (rw [if_pos (by omega)]; rw [← v1, ← gg])) | (unfold sp_step; rw [if_neg (by omega)]))⟩
  ·
    show zG x LX 5 [some (zr 0), some (zi a), some (zi b), some (zi c), none] [zn] S
    refine z_nstore (pc := 5) (loc' := [some (zr 0), some (zi a), some (zi b), some (zi c), some (zn)]) h dX10_step_5 (Nat.le_of_ble_eq_true rfl) rfl rfl ?_
    refine z_nload (pc := 7) h dX10_step_7 rfl ?_
    refine z_ifnull_n (pc := 9) (tgt := 30) h dX10_step_9 (by decide) ?_
    refine z_bipush (pc := 30) h dX10_step_30 rfl ?_
    exact z_iret (pc := 32) h dX10_step_32 rfl ⟨rfl, congrArg (fun z => some (zi z)) (by first | (subst hr2; unfold sp_step; first | (rw [if_neg (by omega)]) | (rw [if_pos (by omega)]; rw [← v0, ← gg]) | (rw [if_pos (by omega)]; rw [← v1, ← gg])) | (unfold sp_step; rw [if_neg (by omega)]))⟩

set_option maxRecDepth 100000 in
set_option maxHeartbeats 4000000 in
theorem m_X10_whole (a : Int) (A S : SS) (ha : r32 a) (hR : cRel S A) : zM LX yX10_whole cX10_whole 3 (some .int) 4 90 [zr 0, zi a] S (fun r S' => S = S' ∧ r = some (zi (sp_whole A a))) := by
  refine zM_of (own := RX10) rfl (by decide +kernel) [some (zr 0), some (zi a), none] (Nat.le_of_ble_eq_true rfl) rfl ?_
  intro x h
  have hm := hR.1
  have r0 := hR.2.1.1
  have r1 := hR.2.1.2
  have o0 := r0.1
  have o1 := r1.1
  have v0 : pvX S 1 = qA A 0 := relS_pv r0
  have v1 : pvX S 5 = qA A 1 := relS_pv r1
  have m0 : S 1 4 = mA A 0 := r0.2.2.2.2.1
  have m1 : S 5 4 = mA A 1 := r1.2.2.2.2.1
  have n0 : S 1 3 = nA A 0 := r0.2.1
  have n1 : S 5 3 = nA A 1 := r1.2.1
  have gg : S 0 9 = A 5 0 := hR.2.2.1.1
  have hg := mi_g hm
  refine z_aload_n (pc := 0) h dX10_whole_0 rfl ?_
  refine z_iload_n (pc := 1) h dX10_whole_1 rfl ?_
  refine z_callV (pc := 2) (rest := ([] : List zV)) h (m_X10_stripAt a S ⟨by omega, by omega⟩) dX10_whole_2 mcX10_stripAt miX10_stripAt mlX10_71 rfl rfl ⟨by decide, by decide⟩ clX10 rfl rfl rfl (Nat.le_of_ble_eq_true rfl) ?_
  rintro _ _ ⟨rfl, ⟨hr2, rfl⟩ | ⟨hr2, rfl⟩ | ⟨hr2, rfl⟩⟩
  ·
    show zG x LX 5 [some (zr 0), some (zi a), none] [zr 1] S
    refine z_astore_n (pc := 5) (loc' := [some (zr 0), some (zi a), some (zr 1)]) h dX10_whole_5 rfl (Nat.le_of_ble_eq_true rfl) rfl rfl ?_
    refine z_aload_n (pc := 6) h dX10_whole_6 rfl ?_
    refine z_ifnonnull_r (pc := 7) (tgt := 15) h dX10_whole_7 (by decide) ?_
    refine z_aload_n (pc := 15) h dX10_whole_15 rfl ?_
    refine z_aload_n (pc := 16) h dX10_whole_16 rfl ?_
    refine z_getI (pc := 17) h dX10_whole_17 clX10 lkX10_64 (by decide) rfl rfl ?_
    refine z_callV (pc := 20) (rest := ([] : List zV)) h (m_X7_stepsRound 1 (S 0 9) S isStrip1 (by first | assumption | omega) (by first | assumption | omega)) dX10_whole_20 mcX7_stepsRound miX7_stepsRound mlX10_102 rfl rfl ⟨by decide, by decide⟩ clX7 rfl rfl rfl (Nat.le_of_ble_eq_true rfl) ?_
    rintro _ _ ⟨rfl, rfl⟩
    show zG x LX 23 [some (zr 0), some (zi a), some (zr 1)] [zi (wholeF (S 0 9) (pvX S 1) (S 1 4))] S
    exact z_iret (pc := 23) h dX10_whole_23 rfl ⟨rfl, congrArg (fun z => some (zi z)) (by first | (subst hr2; unfold sp_whole; first | (rw [if_neg (by omega)]) | (rw [if_pos (by omega)]; rw [← v0, ← gg, ← m0]) | (rw [if_pos (by omega)]; rw [← v1, ← gg, ← m1])) | (unfold sp_whole; rw [if_neg (by omega)]))⟩
  ·
    show zG x LX 5 [some (zr 0), some (zi a), none] [zr 5] S
    refine z_astore_n (pc := 5) (loc' := [some (zr 0), some (zi a), some (zr 5)]) h dX10_whole_5 rfl (Nat.le_of_ble_eq_true rfl) rfl rfl ?_
    refine z_aload_n (pc := 6) h dX10_whole_6 rfl ?_
    refine z_ifnonnull_r (pc := 7) (tgt := 15) h dX10_whole_7 (by decide) ?_
    refine z_aload_n (pc := 15) h dX10_whole_15 rfl ?_
    refine z_aload_n (pc := 16) h dX10_whole_16 rfl ?_
    refine z_getI (pc := 17) h dX10_whole_17 clX10 lkX10_64 (by decide) rfl rfl ?_
    refine z_callV (pc := 20) (rest := ([] : List zV)) h (m_X7_stepsRound 5 (S 0 9) S isStrip5 (by first | assumption | omega) (by first | assumption | omega)) dX10_whole_20 mcX7_stepsRound miX7_stepsRound mlX10_102 rfl rfl ⟨by decide, by decide⟩ clX7 rfl rfl rfl (Nat.le_of_ble_eq_true rfl) ?_
    rintro _ _ ⟨rfl, rfl⟩
    show zG x LX 23 [some (zr 0), some (zi a), some (zr 5)] [zi (wholeF (S 0 9) (pvX S 5) (S 5 4))] S
    exact z_iret (pc := 23) h dX10_whole_23 rfl ⟨rfl, congrArg (fun z => some (zi z)) (by first | (subst hr2; unfold sp_whole; first | (rw [if_neg (by omega)]) | (rw [if_pos (by omega)]; rw [← v0, ← gg, ← m0]) | (rw [if_pos (by omega)]; rw [← v1, ← gg, ← m1])) | (unfold sp_whole; rw [if_neg (by omega)]))⟩
  ·
    show zG x LX 5 [some (zr 0), some (zi a), none] [zn] S
    refine z_nstore_n (pc := 5) (loc' := [some (zr 0), some (zi a), some (zn)]) h dX10_whole_5 rfl (Nat.le_of_ble_eq_true rfl) rfl rfl ?_
    refine z_nload_n (pc := 6) h dX10_whole_6 rfl ?_
    refine z_ifnonnull_n (pc := 7) h dX10_whole_7 ?_
    refine z_bipush (pc := 10) h dX10_whole_10 rfl ?_
    refine z_goto (pc := 12) (tgt := 23) h dX10_whole_12 (by decide) ?_
    exact z_iret (pc := 23) h dX10_whole_23 rfl ⟨rfl, congrArg (fun z => some (zi z)) (by first | (subst hr2; unfold sp_whole; first | (rw [if_neg (by omega)]) | (rw [if_pos (by omega)]; rw [← v0, ← gg, ← m0]) | (rw [if_pos (by omega)]; rw [← v1, ← gg, ← m1])) | (unfold sp_whole; rw [if_neg (by omega)]))⟩

set_option maxRecDepth 100000 in
set_option maxHeartbeats 4000000 in
theorem m_X10_seen (a b c : Int) (A S : SS) (ha : r32 a) (hb : r32 b) (hc : r32 c) (hR : cRel S A) : zM LX yX10_seen cX10_seen 5 (some .int) 4 86 [zr 0, zi a, zi b, zi c] S (fun r S' => S = S' ∧ r = some (zi (sp_seen A a b c))) := by
  refine zM_of (own := RX10) rfl (by decide +kernel) [some (zr 0), some (zi a), some (zi b), some (zi c), none] (Nat.le_of_ble_eq_true rfl) rfl ?_
  intro x h
  have hm := hR.1
  have r0 := hR.2.1.1
  have r1 := hR.2.1.2
  have o0 := r0.1
  have o1 := r1.1
  have v0 : pvX S 1 = qA A 0 := relS_pv r0
  have v1 : pvX S 5 = qA A 1 := relS_pv r1
  have m0 : S 1 4 = mA A 0 := r0.2.2.2.2.1
  have m1 : S 5 4 = mA A 1 := r1.2.2.2.2.1
  have n0 : S 1 3 = nA A 0 := r0.2.1
  have n1 : S 5 3 = nA A 1 := r1.2.1
  have gg : S 0 9 = A 5 0 := hR.2.2.1.1
  have hg := mi_g hm
  refine z_aload_n (pc := 0) h dX10_seen_0 rfl ?_
  refine z_iload_n (pc := 1) h dX10_seen_1 rfl ?_
  refine z_callV (pc := 2) (rest := ([] : List zV)) h (m_X10_stripAt a S ⟨by omega, by omega⟩) dX10_seen_2 mcX10_stripAt miX10_stripAt mlX10_71 rfl rfl ⟨by decide, by decide⟩ clX10 rfl rfl rfl (Nat.le_of_ble_eq_true rfl) ?_
  rintro _ _ ⟨rfl, ⟨hr2, rfl⟩ | ⟨hr2, rfl⟩ | ⟨hr2, rfl⟩⟩
  ·
    show zG x LX 5 [some (zr 0), some (zi a), some (zi b), some (zi c), none] [zr 1] S
    refine z_astore (pc := 5) (loc' := [some (zr 0), some (zi a), some (zi b), some (zi c), some (zr 1)]) h dX10_seen_5 (Nat.le_of_ble_eq_true rfl) rfl rfl ?_
    refine z_aload (pc := 7) h dX10_seen_7 rfl ?_
    refine z_ifnull_r (pc := 9) h dX10_seen_9 ?_
    refine z_iload_n (pc := 12) h dX10_seen_12 rfl ?_
    refine z_iconst (pc := 13) h dX10_seen_13 ?_
    refine z_bipush (pc := 14) h dX10_seen_14 rfl ?_
    refine z_callS (pc := 16) (rest := ([] : List zV)) h (m_X10_within b 1 24 S ⟨by omega, by omega⟩ ⟨by decide, by decide⟩ ⟨by decide, by decide⟩) dX10_seen_16 mcX10_within msX10_within mlX10_75 rfl rfl ⟨by decide, by decide⟩ rfl (Nat.le_of_ble_eq_true rfl) ?_
    rintro _ _ ⟨rfl, ⟨hr16, rfl⟩ | ⟨hr16, rfl⟩⟩
    ·
      show zG x LX 19 [some (zr 0), some (zi a), some (zi b), some (zi c), some (zr 1)] [zi 1] S
      refine z_if_eq (pc := 19) (tgt := 33) h dX10_seen_19 (by decide) ⟨by decide, by decide⟩ (fun hc19 => absurd hc19 (by decide)) (fun hc19 => ?_)
      refine z_iload_n (pc := 22) h dX10_seen_22 rfl ?_
      refine z_iconst (pc := 23) h dX10_seen_23 ?_
      refine z_sipush (pc := 24) h dX10_seen_24 rfl ?_
      refine z_callS (pc := 27) (rest := ([] : List zV)) h (m_X10_within c (-1) 999 S ⟨by omega, by omega⟩ ⟨by decide, by decide⟩ ⟨by decide, by decide⟩) dX10_seen_27 mcX10_within msX10_within mlX10_75 rfl rfl ⟨by decide, by decide⟩ rfl (Nat.le_of_ble_eq_true rfl) ?_
      rintro _ _ ⟨rfl, ⟨hr27, rfl⟩ | ⟨hr27, rfl⟩⟩
      ·
        show zG x LX 30 [some (zr 0), some (zi a), some (zi b), some (zi c), some (zr 1)] [zi 1] S
        refine z_if_ne (pc := 30) (tgt := 36) h dX10_seen_30 (by decide) ⟨by decide, by decide⟩ (fun hc30 => ?_) (fun hc30 => absurd hc30 (by decide))
        refine z_aload (pc := 36) h dX10_seen_36 rfl ?_
        refine z_getI (pc := 38) h dX10_seen_38 clX7 lkX10_129 (by decide) rfl rfl ?_
        refine z_if_ne (pc := 41) (tgt := 47) h dX10_seen_41 (by decide) ⟨by omega, by omega⟩ (fun hc41 => ?_) (fun hc41 => ?_)
        ·
          refine z_iload_n (pc := 47) h dX10_seen_47 rfl ?_
          refine z_iconst (pc := 48) h dX10_seen_48 ?_
          refine z_icmp_ne (pc := 49) (tgt := 64) h dX10_seen_49 (by decide) ⟨by omega, by omega⟩ ⟨by decide, by decide⟩ (fun hc49 => ?_) (fun hc49 => ?_)
          ·
            refine z_iload_n (pc := 64) h dX10_seen_64 rfl ?_
            refine z_aload (pc := 65) h dX10_seen_65 rfl ?_
            refine z_getI (pc := 67) h dX10_seen_67 clX7 lkX10_129 (by decide) rfl rfl ?_
            refine z_iload_n (pc := 70) h dX10_seen_70 rfl ?_
            refine z_callS (pc := 71) (rest := ([] : List zV)) h (m_X1_pictureAt b (S 1 4) c S (by first | assumption | omega) (by first | assumption | omega) (by first | assumption | omega)) dX10_seen_71 mcX1_pictureAt msX1_pictureAt mlX10_135 rfl rfl ⟨by decide, by decide⟩ rfl (Nat.le_of_ble_eq_true rfl) ?_
            rintro _ _ ⟨rfl, rfl⟩
            show zG x LX 74 [some (zr 0), some (zi a), some (zi b), some (zi c), some (zr 1)] [zi (c * nearF (S 1 4) b % (S 1 4))] S
            exact z_iret (pc := 74) h dX10_seen_74 rfl ⟨rfl, congrArg (fun z => some (zi z)) (by first | (subst hr2; unfold sp_seen; first | (rw [if_neg (by omega)]) | (rw [if_pos (by omega)]; unfold seenF; rw [m0] at *; (repeat' split) <;> first | rfl | omega) | (rw [if_pos (by omega)]; unfold seenF; rw [m1] at *; (repeat' split) <;> first | rfl | omega)) | (unfold sp_seen; rw [if_neg (by omega)]))⟩
          ·
            refine z_iload_n (pc := 52) h dX10_seen_52 rfl ?_
            refine z_aload (pc := 53) h dX10_seen_53 rfl ?_
            refine z_getI (pc := 55) h dX10_seen_55 clX7 lkX10_129 (by decide) rfl rfl ?_
            refine z_callS (pc := 58) (rest := ([] : List zV)) h (m_X1_looksRound b (S 1 4) S (by first | assumption | omega) (by first | assumption | omega)) dX10_seen_58 mcX1_looksRound msX1_looksRound mlX10_132 rfl rfl ⟨by decide, by decide⟩ rfl (Nat.le_of_ble_eq_true rfl) ?_
            rintro _ _ ⟨rfl, rfl⟩
            show zG x LX 61 [some (zr 0), some (zi a), some (zi b), some (zi c), some (zr 1)] [zi ((S 1 4) / gcdI (S 1 4) (nearF (S 1 4) b))] S
            refine z_goto (pc := 61) (tgt := 74) h dX10_seen_61 (by decide) ?_
            exact z_iret (pc := 74) h dX10_seen_74 rfl ⟨rfl, congrArg (fun z => some (zi z)) (by first | (subst hr2; unfold sp_seen; first | (rw [if_neg (by omega)]) | (rw [if_pos (by omega)]; unfold seenF; rw [m0] at *; (repeat' split) <;> first | rfl | omega) | (rw [if_pos (by omega)]; unfold seenF; rw [m1] at *; (repeat' split) <;> first | rfl | omega)) | (unfold sp_seen; rw [if_neg (by omega)]))⟩
        ·
          refine z_bipush (pc := 44) h dX10_seen_44 rfl ?_
          exact z_iret (pc := 46) h dX10_seen_46 rfl ⟨rfl, congrArg (fun z => some (zi z)) (by first | (subst hr2; unfold sp_seen; first | (rw [if_neg (by omega)]) | (rw [if_pos (by omega)]; unfold seenF; rw [m0] at *; (repeat' split) <;> first | rfl | omega) | (rw [if_pos (by omega)]; unfold seenF; rw [m1] at *; (repeat' split) <;> first | rfl | omega)) | (unfold sp_seen; rw [if_neg (by omega)]))⟩
      ·
        show zG x LX 30 [some (zr 0), some (zi a), some (zi b), some (zi c), some (zr 1)] [zi 0] S
        refine z_if_ne (pc := 30) (tgt := 36) h dX10_seen_30 (by decide) ⟨by decide, by decide⟩ (fun hc30 => absurd hc30 (by decide)) (fun hc30 => ?_)
        refine z_bipush (pc := 33) h dX10_seen_33 rfl ?_
        exact z_iret (pc := 35) h dX10_seen_35 rfl ⟨rfl, congrArg (fun z => some (zi z)) (by first | (subst hr2; unfold sp_seen; first | (rw [if_neg (by omega)]) | (rw [if_pos (by omega)]; unfold seenF; rw [m0] at *; (repeat' split) <;> first | rfl | omega) | (rw [if_pos (by omega)]; unfold seenF; rw [m1] at *; (repeat' split) <;> first | rfl | omega)) | (unfold sp_seen; rw [if_neg (by omega)]))⟩
    ·
      show zG x LX 19 [some (zr 0), some (zi a), some (zi b), some (zi c), some (zr 1)] [zi 0] S
      refine z_if_eq (pc := 19) (tgt := 33) h dX10_seen_19 (by decide) ⟨by decide, by decide⟩ (fun hc19 => ?_) (fun hc19 => absurd hc19 (by decide))
      refine z_bipush (pc := 33) h dX10_seen_33 rfl ?_
      exact z_iret (pc := 35) h dX10_seen_35 rfl ⟨rfl, congrArg (fun z => some (zi z)) (by first | (subst hr2; unfold sp_seen; first | (rw [if_neg (by omega)]) | (rw [if_pos (by omega)]; unfold seenF; rw [m0] at *; (repeat' split) <;> first | rfl | omega) | (rw [if_pos (by omega)]; unfold seenF; rw [m1] at *; (repeat' split) <;> first | rfl | omega)) | (unfold sp_seen; rw [if_neg (by omega)]))⟩
  ·
    show zG x LX 5 [some (zr 0), some (zi a), some (zi b), some (zi c), none] [zr 5] S
    refine z_astore (pc := 5) (loc' := [some (zr 0), some (zi a), some (zi b), some (zi c), some (zr 5)]) h dX10_seen_5 (Nat.le_of_ble_eq_true rfl) rfl rfl ?_
    refine z_aload (pc := 7) h dX10_seen_7 rfl ?_
    refine z_ifnull_r (pc := 9) h dX10_seen_9 ?_
    refine z_iload_n (pc := 12) h dX10_seen_12 rfl ?_
    refine z_iconst (pc := 13) h dX10_seen_13 ?_
    refine z_bipush (pc := 14) h dX10_seen_14 rfl ?_
    refine z_callS (pc := 16) (rest := ([] : List zV)) h (m_X10_within b 1 24 S ⟨by omega, by omega⟩ ⟨by decide, by decide⟩ ⟨by decide, by decide⟩) dX10_seen_16 mcX10_within msX10_within mlX10_75 rfl rfl ⟨by decide, by decide⟩ rfl (Nat.le_of_ble_eq_true rfl) ?_
    rintro _ _ ⟨rfl, ⟨hr16, rfl⟩ | ⟨hr16, rfl⟩⟩
    ·
      show zG x LX 19 [some (zr 0), some (zi a), some (zi b), some (zi c), some (zr 5)] [zi 1] S
      refine z_if_eq (pc := 19) (tgt := 33) h dX10_seen_19 (by decide) ⟨by decide, by decide⟩ (fun hc19 => absurd hc19 (by decide)) (fun hc19 => ?_)
      refine z_iload_n (pc := 22) h dX10_seen_22 rfl ?_
      refine z_iconst (pc := 23) h dX10_seen_23 ?_
      refine z_sipush (pc := 24) h dX10_seen_24 rfl ?_
      refine z_callS (pc := 27) (rest := ([] : List zV)) h (m_X10_within c (-1) 999 S ⟨by omega, by omega⟩ ⟨by decide, by decide⟩ ⟨by decide, by decide⟩) dX10_seen_27 mcX10_within msX10_within mlX10_75 rfl rfl ⟨by decide, by decide⟩ rfl (Nat.le_of_ble_eq_true rfl) ?_
      rintro _ _ ⟨rfl, ⟨hr27, rfl⟩ | ⟨hr27, rfl⟩⟩
      ·
        show zG x LX 30 [some (zr 0), some (zi a), some (zi b), some (zi c), some (zr 5)] [zi 1] S
        refine z_if_ne (pc := 30) (tgt := 36) h dX10_seen_30 (by decide) ⟨by decide, by decide⟩ (fun hc30 => ?_) (fun hc30 => absurd hc30 (by decide))
        refine z_aload (pc := 36) h dX10_seen_36 rfl ?_
        refine z_getI (pc := 38) h dX10_seen_38 clX7 lkX10_129 (by decide) rfl rfl ?_
        refine z_if_ne (pc := 41) (tgt := 47) h dX10_seen_41 (by decide) ⟨by omega, by omega⟩ (fun hc41 => ?_) (fun hc41 => ?_)
        ·
          refine z_iload_n (pc := 47) h dX10_seen_47 rfl ?_
          refine z_iconst (pc := 48) h dX10_seen_48 ?_
          refine z_icmp_ne (pc := 49) (tgt := 64) h dX10_seen_49 (by decide) ⟨by omega, by omega⟩ ⟨by decide, by decide⟩ (fun hc49 => ?_) (fun hc49 => ?_)
          ·
            refine z_iload_n (pc := 64) h dX10_seen_64 rfl ?_
            refine z_aload (pc := 65) h dX10_seen_65 rfl ?_
            refine z_getI (pc := 67) h dX10_seen_67 clX7 lkX10_129 (by decide) rfl rfl ?_
            refine z_iload_n (pc := 70) h dX10_seen_70 rfl ?_
            refine z_callS (pc := 71) (rest := ([] : List zV)) h (m_X1_pictureAt b (S 5 4) c S (by first | assumption | omega) (by first | assumption | omega) (by first | assumption | omega)) dX10_seen_71 mcX1_pictureAt msX1_pictureAt mlX10_135 rfl rfl ⟨by decide, by decide⟩ rfl (Nat.le_of_ble_eq_true rfl) ?_
            rintro _ _ ⟨rfl, rfl⟩
            show zG x LX 74 [some (zr 0), some (zi a), some (zi b), some (zi c), some (zr 5)] [zi (c * nearF (S 5 4) b % (S 5 4))] S
            exact z_iret (pc := 74) h dX10_seen_74 rfl ⟨rfl, congrArg (fun z => some (zi z)) (by first | (subst hr2; unfold sp_seen; first | (rw [if_neg (by omega)]) | (rw [if_pos (by omega)]; unfold seenF; rw [m0] at *; (repeat' split) <;> first | rfl | omega) | (rw [if_pos (by omega)]; unfold seenF; rw [m1] at *; (repeat' split) <;> first | rfl | omega)) | (unfold sp_seen; rw [if_neg (by omega)]))⟩
          ·
            refine z_iload_n (pc := 52) h dX10_seen_52 rfl ?_
            refine z_aload (pc := 53) h dX10_seen_53 rfl ?_
            refine z_getI (pc := 55) h dX10_seen_55 clX7 lkX10_129 (by decide) rfl rfl ?_
            refine z_callS (pc := 58) (rest := ([] : List zV)) h (m_X1_looksRound b (S 5 4) S (by first | assumption | omega) (by first | assumption | omega)) dX10_seen_58 mcX1_looksRound msX1_looksRound mlX10_132 rfl rfl ⟨by decide, by decide⟩ rfl (Nat.le_of_ble_eq_true rfl) ?_
            rintro _ _ ⟨rfl, rfl⟩
            show zG x LX 61 [some (zr 0), some (zi a), some (zi b), some (zi c), some (zr 5)] [zi ((S 5 4) / gcdI (S 5 4) (nearF (S 5 4) b))] S
            refine z_goto (pc := 61) (tgt := 74) h dX10_seen_61 (by decide) ?_
            exact z_iret (pc := 74) h dX10_seen_74 rfl ⟨rfl, congrArg (fun z => some (zi z)) (by first | (subst hr2; unfold sp_seen; first | (rw [if_neg (by omega)]) | (rw [if_pos (by omega)]; unfold seenF; rw [m0] at *; (repeat' split) <;> first | rfl | omega) | (rw [if_pos (by omega)]; unfold seenF; rw [m1] at *; (repeat' split) <;> first | rfl | omega)) | (unfold sp_seen; rw [if_neg (by omega)]))⟩
        ·
          refine z_bipush (pc := 44) h dX10_seen_44 rfl ?_
          exact z_iret (pc := 46) h dX10_seen_46 rfl ⟨rfl, congrArg (fun z => some (zi z)) (by first | (subst hr2; unfold sp_seen; first | (rw [if_neg (by omega)]) | (rw [if_pos (by omega)]; unfold seenF; rw [m0] at *; (repeat' split) <;> first | rfl | omega) | (rw [if_pos (by omega)]; unfold seenF; rw [m1] at *; (repeat' split) <;> first | rfl | omega)) | (unfold sp_seen; rw [if_neg (by omega)]))⟩
      ·
        show zG x LX 30 [some (zr 0), some (zi a), some (zi b), some (zi c), some (zr 5)] [zi 0] S
        refine z_if_ne (pc := 30) (tgt := 36) h dX10_seen_30 (by decide) ⟨by decide, by decide⟩ (fun hc30 => absurd hc30 (by decide)) (fun hc30 => ?_)
        refine z_bipush (pc := 33) h dX10_seen_33 rfl ?_
        exact z_iret (pc := 35) h dX10_seen_35 rfl ⟨rfl, congrArg (fun z => some (zi z)) (by first | (subst hr2; unfold sp_seen; first | (rw [if_neg (by omega)]) | (rw [if_pos (by omega)]; unfold seenF; rw [m0] at *; (repeat' split) <;> first | rfl | omega) | (rw [if_pos (by omega)]; unfold seenF; rw [m1] at *; (repeat' split) <;> first | rfl | omega)) | (unfold sp_seen; rw [if_neg (by omega)]))⟩
    ·
      show zG x LX 19 [some (zr 0), some (zi a), some (zi b), some (zi c), some (zr 5)] [zi 0] S
      refine z_if_eq (pc := 19) (tgt := 33) h dX10_seen_19 (by decide) ⟨by decide, by decide⟩ (fun hc19 => ?_) (fun hc19 => absurd hc19 (by decide))
      refine z_bipush (pc := 33) h dX10_seen_33 rfl ?_
      exact z_iret (pc := 35) h dX10_seen_35 rfl ⟨rfl, congrArg (fun z => some (zi z)) (by first | (subst hr2; unfold sp_seen; first | (rw [if_neg (by omega)]) | (rw [if_pos (by omega)]; unfold seenF; rw [m0] at *; (repeat' split) <;> first | rfl | omega) | (rw [if_pos (by omega)]; unfold seenF; rw [m1] at *; (repeat' split) <;> first | rfl | omega)) | (unfold sp_seen; rw [if_neg (by omega)]))⟩
  ·
    show zG x LX 5 [some (zr 0), some (zi a), some (zi b), some (zi c), none] [zn] S
    refine z_nstore (pc := 5) (loc' := [some (zr 0), some (zi a), some (zi b), some (zi c), some (zn)]) h dX10_seen_5 (Nat.le_of_ble_eq_true rfl) rfl rfl ?_
    refine z_nload (pc := 7) h dX10_seen_7 rfl ?_
    refine z_ifnull_n (pc := 9) (tgt := 33) h dX10_seen_9 (by decide) ?_
    refine z_bipush (pc := 33) h dX10_seen_33 rfl ?_
    exact z_iret (pc := 35) h dX10_seen_35 rfl ⟨rfl, congrArg (fun z => some (zi z)) (by first | (subst hr2; unfold sp_seen; first | (rw [if_neg (by omega)]) | (rw [if_pos (by omega)]; unfold seenF; rw [m0] at *; (repeat' split) <;> first | rfl | omega) | (rw [if_pos (by omega)]; unfold seenF; rw [m1] at *; (repeat' split) <;> first | rfl | omega)) | (unfold sp_seen; rw [if_neg (by omega)]))⟩

set_option maxRecDepth 100000 in
set_option maxHeartbeats 4000000 in
theorem m_X10_half (a b c : Int) (A S : SS) (ha : r32 a) (hb : r32 b) (hc : r32 c) (hR : cRel S A) : zM LX yX10_half cX10_half 5 (some .int) 2 47 [zr 0, zi a, zi b, zi c] S (fun r S' => S = S' ∧ r = some (zi (sp_half A a b c))) := by
  refine zM_of (own := RX10) rfl (by decide +kernel) [some (zr 0), some (zi a), some (zi b), some (zi c), none] (Nat.le_of_ble_eq_true rfl) rfl ?_
  intro x h
  have hm := hR.1
  have r0 := hR.2.1.1
  have r1 := hR.2.1.2
  have o0 := r0.1
  have o1 := r1.1
  have v0 : pvX S 1 = qA A 0 := relS_pv r0
  have v1 : pvX S 5 = qA A 1 := relS_pv r1
  have m0 : S 1 4 = mA A 0 := r0.2.2.2.2.1
  have m1 : S 5 4 = mA A 1 := r1.2.2.2.2.1
  have n0 : S 1 3 = nA A 0 := r0.2.1
  have n1 : S 5 3 = nA A 1 := r1.2.1
  have gg : S 0 9 = A 5 0 := hR.2.2.1.1
  have hg := mi_g hm
  refine z_aload_n (pc := 0) h dX10_half_0 rfl ?_
  refine z_iload_n (pc := 1) h dX10_half_1 rfl ?_
  refine z_callV (pc := 2) (rest := ([] : List zV)) h (m_X10_stripAt a S ⟨by omega, by omega⟩) dX10_half_2 mcX10_stripAt miX10_stripAt mlX10_71 rfl rfl ⟨by decide, by decide⟩ clX10 rfl rfl rfl (Nat.le_of_ble_eq_true rfl) ?_
  rintro _ _ ⟨rfl, ⟨hr2, rfl⟩ | ⟨hr2, rfl⟩ | ⟨hr2, rfl⟩⟩
  ·
    show zG x LX 5 [some (zr 0), some (zi a), some (zi b), some (zi c), none] [zr 1] S
    refine z_astore (pc := 5) (loc' := [some (zr 0), some (zi a), some (zi b), some (zi c), some (zr 1)]) h dX10_half_5 (Nat.le_of_ble_eq_true rfl) rfl rfl ?_
    refine z_aload (pc := 7) h dX10_half_7 rfl ?_
    refine z_ifnull_r (pc := 9) h dX10_half_9 ?_
    refine z_aload (pc := 12) h dX10_half_12 rfl ?_
    refine z_iload_n (pc := 14) h dX10_half_14 rfl ?_
    refine z_callV (pc := 15) (rest := ([] : List zV)) h (m_X7_has 1 b S isStrip1 (by first | assumption | omega) ⟨by omega, by omega⟩) dX10_half_15 mcX7_has miX7_has mlX10_90 rfl rfl ⟨by decide, by decide⟩ clX7 rfl rfl rfl (Nat.le_of_ble_eq_true rfl) ?_
    rintro _ _ ⟨rfl, ⟨hr15, rfl⟩ | ⟨hr15, rfl⟩⟩
    ·
      show zG x LX 18 [some (zr 0), some (zi a), some (zi b), some (zi c), some (zr 1)] [zi 1] S
      refine z_if_eq (pc := 18) (tgt := 30) h dX10_half_18 (by decide) ⟨by decide, by decide⟩ (fun hc18 => absurd hc18 (by decide)) (fun hc18 => ?_)
      refine z_iload_n (pc := 21) h dX10_half_21 rfl ?_
      refine z_iconst (pc := 22) h dX10_half_22 ?_
      refine z_iconst (pc := 23) h dX10_half_23 ?_
      refine z_callS (pc := 24) (rest := ([] : List zV)) h (m_X10_within c 0 3 S ⟨by omega, by omega⟩ ⟨by decide, by decide⟩ ⟨by decide, by decide⟩) dX10_half_24 mcX10_within msX10_within mlX10_75 rfl rfl ⟨by decide, by decide⟩ rfl (Nat.le_of_ble_eq_true rfl) ?_
      rintro _ _ ⟨rfl, ⟨hr24, rfl⟩ | ⟨hr24, rfl⟩⟩
      ·
        show zG x LX 27 [some (zr 0), some (zi a), some (zi b), some (zi c), some (zr 1)] [zi 1] S
        refine z_if_ne (pc := 27) (tgt := 33) h dX10_half_27 (by decide) ⟨by decide, by decide⟩ (fun hc27 => ?_) (fun hc27 => absurd hc27 (by decide))
        refine z_aload (pc := 33) h dX10_half_33 rfl ?_
        refine z_iload_n (pc := 35) h dX10_half_35 rfl ?_
        refine z_iload_n (pc := 36) h dX10_half_36 rfl ?_
        refine z_callV (pc := 37) (rest := ([] : List zV)) h (m_X7_halfAt 1 b c S isStrip1 (by first | assumption | omega) (by first | assumption | omega) ⟨by omega, by omega⟩) dX10_half_37 mcX7_halfAt miX7_halfAt mlX10_232 rfl rfl ⟨by decide, by decide⟩ clX7 rfl rfl rfl (Nat.le_of_ble_eq_true rfl) ?_
        rintro _ _ ⟨rfl, rfl⟩
        show zG x LX 40 [some (zr 0), some (zi a), some (zi b), some (zi c), some (zr 1)] [zi (halfF (pvX S 1) (S 1 4) b c)] S
        exact z_iret (pc := 40) h dX10_half_40 rfl ⟨rfl, congrArg (fun z => some (zi z)) (by first | (subst hr2; unfold sp_half; first | (rw [if_neg (by omega)]) | (rw [if_pos (by omega)]; rw [← v0, ← m0]) | (rw [if_pos (by omega)]; rw [← v1, ← m1])) | (unfold sp_half; rw [if_neg (by omega)]))⟩
      ·
        show zG x LX 27 [some (zr 0), some (zi a), some (zi b), some (zi c), some (zr 1)] [zi 0] S
        refine z_if_ne (pc := 27) (tgt := 33) h dX10_half_27 (by decide) ⟨by decide, by decide⟩ (fun hc27 => absurd hc27 (by decide)) (fun hc27 => ?_)
        refine z_bipush (pc := 30) h dX10_half_30 rfl ?_
        exact z_iret (pc := 32) h dX10_half_32 rfl ⟨rfl, congrArg (fun z => some (zi z)) (by first | (subst hr2; unfold sp_half; first | (rw [if_neg (by omega)]) | (rw [if_pos (by omega)]; rw [← v0, ← m0]) | (rw [if_pos (by omega)]; rw [← v1, ← m1])) | (unfold sp_half; rw [if_neg (by omega)]))⟩
    ·
      show zG x LX 18 [some (zr 0), some (zi a), some (zi b), some (zi c), some (zr 1)] [zi 0] S
      refine z_if_eq (pc := 18) (tgt := 30) h dX10_half_18 (by decide) ⟨by decide, by decide⟩ (fun hc18 => ?_) (fun hc18 => absurd hc18 (by decide))
      refine z_bipush (pc := 30) h dX10_half_30 rfl ?_
      exact z_iret (pc := 32) h dX10_half_32 rfl ⟨rfl, congrArg (fun z => some (zi z)) (by first | (subst hr2; unfold sp_half; first | (rw [if_neg (by omega)]) | (rw [if_pos (by omega)]; rw [← v0, ← m0]) | (rw [if_pos (by omega)]; rw [← v1, ← m1])) | (unfold sp_half; rw [if_neg (by omega)]))⟩
  ·
    show zG x LX 5 [some (zr 0), some (zi a), some (zi b), some (zi c), none] [zr 5] S
    refine z_astore (pc := 5) (loc' := [some (zr 0), some (zi a), some (zi b), some (zi c), some (zr 5)]) h dX10_half_5 (Nat.le_of_ble_eq_true rfl) rfl rfl ?_
    refine z_aload (pc := 7) h dX10_half_7 rfl ?_
    refine z_ifnull_r (pc := 9) h dX10_half_9 ?_
    refine z_aload (pc := 12) h dX10_half_12 rfl ?_
    refine z_iload_n (pc := 14) h dX10_half_14 rfl ?_
    refine z_callV (pc := 15) (rest := ([] : List zV)) h (m_X7_has 5 b S isStrip5 (by first | assumption | omega) ⟨by omega, by omega⟩) dX10_half_15 mcX7_has miX7_has mlX10_90 rfl rfl ⟨by decide, by decide⟩ clX7 rfl rfl rfl (Nat.le_of_ble_eq_true rfl) ?_
    rintro _ _ ⟨rfl, ⟨hr15, rfl⟩ | ⟨hr15, rfl⟩⟩
    ·
      show zG x LX 18 [some (zr 0), some (zi a), some (zi b), some (zi c), some (zr 5)] [zi 1] S
      refine z_if_eq (pc := 18) (tgt := 30) h dX10_half_18 (by decide) ⟨by decide, by decide⟩ (fun hc18 => absurd hc18 (by decide)) (fun hc18 => ?_)
      refine z_iload_n (pc := 21) h dX10_half_21 rfl ?_
      refine z_iconst (pc := 22) h dX10_half_22 ?_
      refine z_iconst (pc := 23) h dX10_half_23 ?_
      refine z_callS (pc := 24) (rest := ([] : List zV)) h (m_X10_within c 0 3 S ⟨by omega, by omega⟩ ⟨by decide, by decide⟩ ⟨by decide, by decide⟩) dX10_half_24 mcX10_within msX10_within mlX10_75 rfl rfl ⟨by decide, by decide⟩ rfl (Nat.le_of_ble_eq_true rfl) ?_
      rintro _ _ ⟨rfl, ⟨hr24, rfl⟩ | ⟨hr24, rfl⟩⟩
      ·
        show zG x LX 27 [some (zr 0), some (zi a), some (zi b), some (zi c), some (zr 5)] [zi 1] S
        refine z_if_ne (pc := 27) (tgt := 33) h dX10_half_27 (by decide) ⟨by decide, by decide⟩ (fun hc27 => ?_) (fun hc27 => absurd hc27 (by decide))
        refine z_aload (pc := 33) h dX10_half_33 rfl ?_
        refine z_iload_n (pc := 35) h dX10_half_35 rfl ?_
        refine z_iload_n (pc := 36) h dX10_half_36 rfl ?_
        refine z_callV (pc := 37) (rest := ([] : List zV)) h (m_X7_halfAt 5 b c S isStrip5 (by first | assumption | omega) (by first | assumption | omega) ⟨by omega, by omega⟩) dX10_half_37 mcX7_halfAt miX7_halfAt mlX10_232 rfl rfl ⟨by decide, by decide⟩ clX7 rfl rfl rfl (Nat.le_of_ble_eq_true rfl) ?_
        rintro _ _ ⟨rfl, rfl⟩
        show zG x LX 40 [some (zr 0), some (zi a), some (zi b), some (zi c), some (zr 5)] [zi (halfF (pvX S 5) (S 5 4) b c)] S
        exact z_iret (pc := 40) h dX10_half_40 rfl ⟨rfl, congrArg (fun z => some (zi z)) (by first | (subst hr2; unfold sp_half; first | (rw [if_neg (by omega)]) | (rw [if_pos (by omega)]; rw [← v0, ← m0]) | (rw [if_pos (by omega)]; rw [← v1, ← m1])) | (unfold sp_half; rw [if_neg (by omega)]))⟩
      ·
        show zG x LX 27 [some (zr 0), some (zi a), some (zi b), some (zi c), some (zr 5)] [zi 0] S
        refine z_if_ne (pc := 27) (tgt := 33) h dX10_half_27 (by decide) ⟨by decide, by decide⟩ (fun hc27 => absurd hc27 (by decide)) (fun hc27 => ?_)
        refine z_bipush (pc := 30) h dX10_half_30 rfl ?_
        exact z_iret (pc := 32) h dX10_half_32 rfl ⟨rfl, congrArg (fun z => some (zi z)) (by first | (subst hr2; unfold sp_half; first | (rw [if_neg (by omega)]) | (rw [if_pos (by omega)]; rw [← v0, ← m0]) | (rw [if_pos (by omega)]; rw [← v1, ← m1])) | (unfold sp_half; rw [if_neg (by omega)]))⟩
    ·
      show zG x LX 18 [some (zr 0), some (zi a), some (zi b), some (zi c), some (zr 5)] [zi 0] S
      refine z_if_eq (pc := 18) (tgt := 30) h dX10_half_18 (by decide) ⟨by decide, by decide⟩ (fun hc18 => ?_) (fun hc18 => absurd hc18 (by decide))
      refine z_bipush (pc := 30) h dX10_half_30 rfl ?_
      exact z_iret (pc := 32) h dX10_half_32 rfl ⟨rfl, congrArg (fun z => some (zi z)) (by first | (subst hr2; unfold sp_half; first | (rw [if_neg (by omega)]) | (rw [if_pos (by omega)]; rw [← v0, ← m0]) | (rw [if_pos (by omega)]; rw [← v1, ← m1])) | (unfold sp_half; rw [if_neg (by omega)]))⟩
  ·
    show zG x LX 5 [some (zr 0), some (zi a), some (zi b), some (zi c), none] [zn] S
    refine z_nstore (pc := 5) (loc' := [some (zr 0), some (zi a), some (zi b), some (zi c), some (zn)]) h dX10_half_5 (Nat.le_of_ble_eq_true rfl) rfl rfl ?_
    refine z_nload (pc := 7) h dX10_half_7 rfl ?_
    refine z_ifnull_n (pc := 9) (tgt := 30) h dX10_half_9 (by decide) ?_
    refine z_bipush (pc := 30) h dX10_half_30 rfl ?_
    exact z_iret (pc := 32) h dX10_half_32 rfl ⟨rfl, congrArg (fun z => some (zi z)) (by first | (subst hr2; unfold sp_half; first | (rw [if_neg (by omega)]) | (rw [if_pos (by omega)]; rw [← v0, ← m0]) | (rw [if_pos (by omega)]; rw [← v1, ← m1])) | (unfold sp_half; rw [if_neg (by omega)]))⟩

set_option maxRecDepth 100000 in
set_option maxHeartbeats 4000000 in
theorem m_X10_missing (a b : Int) (A S : SS) (ha : r32 a) (hb : r32 b) (hR : cRel S A) : zM LX yX10_missing cX10_missing 5 (some .int) 5 120 [zr 0, zi a, zi b] S (fun r S' => S = S' ∧ r = some (zi (sp_missing A a b))) := by
  refine zM_of (own := RX10) rfl (by decide +kernel) [some (zr 0), some (zi a), some (zi b), none, none] (Nat.le_of_ble_eq_true rfl) rfl ?_
  intro x h
  have hm := hR.1
  have r0 := hR.2.1.1
  have r1 := hR.2.1.2
  have o0 := r0.1
  have o1 := r1.1
  have v0 : pvX S 1 = qA A 0 := relS_pv r0
  have v1 : pvX S 5 = qA A 1 := relS_pv r1
  have m0 : S 1 4 = mA A 0 := r0.2.2.2.2.1
  have m1 : S 5 4 = mA A 1 := r1.2.2.2.2.1
  have n0 : S 1 3 = nA A 0 := r0.2.1
  have n1 : S 5 3 = nA A 1 := r1.2.1
  have gg : S 0 9 = A 5 0 := hR.2.2.1.1
  have hg := mi_g hm
  refine z_aload_n (pc := 0) h dX10_missing_0 rfl ?_
  refine z_iload_n (pc := 1) h dX10_missing_1 rfl ?_
  refine z_callV (pc := 2) (rest := ([] : List zV)) h (m_X10_stripAt a S ⟨by omega, by omega⟩) dX10_missing_2 mcX10_stripAt miX10_stripAt mlX10_71 rfl rfl ⟨by decide, by decide⟩ clX10 rfl rfl rfl (Nat.le_of_ble_eq_true rfl) ?_
  rintro _ _ ⟨rfl, ⟨hr2, rfl⟩ | ⟨hr2, rfl⟩ | ⟨hr2, rfl⟩⟩
  ·
    show zG x LX 5 [some (zr 0), some (zi a), some (zi b), none, none] [zr 1] S
    refine z_astore_n (pc := 5) (loc' := [some (zr 0), some (zi a), some (zi b), some (zr 1), none]) h dX10_missing_5 rfl (Nat.le_of_ble_eq_true rfl) rfl rfl ?_
    refine z_aload_n (pc := 6) h dX10_missing_6 rfl ?_
    refine z_ifnull_r (pc := 7) h dX10_missing_7 ?_
    refine z_iload_n (pc := 10) h dX10_missing_10 rfl ?_
    refine z_iconst (pc := 11) h dX10_missing_11 ?_
    refine z_iconst (pc := 12) h dX10_missing_12 ?_
    refine z_callS (pc := 13) (rest := ([] : List zV)) h (m_X10_within b 0 1 S ⟨by omega, by omega⟩ ⟨by decide, by decide⟩ ⟨by decide, by decide⟩) dX10_missing_13 mcX10_within msX10_within mlX10_75 rfl rfl ⟨by decide, by decide⟩ rfl (Nat.le_of_ble_eq_true rfl) ?_
    rintro _ _ ⟨rfl, ⟨hr13, rfl⟩ | ⟨hr13, rfl⟩⟩
    ·
      show zG x LX 16 [some (zr 0), some (zi a), some (zi b), some (zr 1), none] [zi 1] S
      refine z_if_ne (pc := 16) (tgt := 22) h dX10_missing_16 (by decide) ⟨by decide, by decide⟩ (fun hc16 => ?_) (fun hc16 => absurd hc16 (by decide))
      refine z_aload_n (pc := 22) h dX10_missing_22 rfl ?_
      refine z_getI (pc := 23) h dX10_missing_23 clX7 lkX10_129 (by decide) rfl rfl ?_
      refine z_if_ne (pc := 26) (tgt := 32) h dX10_missing_26 (by decide) ⟨by omega, by omega⟩ (fun hc26 => ?_) (fun hc26 => ?_)
      ·
        refine z_aload_n (pc := 32) h dX10_missing_32 rfl ?_
        refine z_aload_n (pc := 33) h dX10_missing_33 rfl ?_
        refine z_getI (pc := 34) h dX10_missing_34 clX10 lkX10_64 (by decide) rfl rfl ?_
        refine z_callV (pc := 37) (rest := ([] : List zV)) h (m_X7_missingBehind 1 (S 0 9) S isStrip1 (by first | assumption | omega) (by first | assumption | omega)) dX10_missing_37 mcX7_missingBehind miX7_missingBehind mlX10_226 rfl rfl ⟨by decide, by decide⟩ clX7 rfl rfl rfl (Nat.le_of_ble_eq_true rfl) ?_
        rintro _ _ ⟨rfl, rfl⟩
        show zG x LX 40 [some (zr 0), some (zi a), some (zi b), some (zr 1), none] [zi ((missF (S 0 9) (pvX S 1) (S 1 4)).1)] S
        refine z_istore (pc := 40) (loc' := [some (zr 0), some (zi a), some (zi b), some (zr 1), some (zi ((missF (S 0 9) (pvX S 1) (S 1 4)).1))]) h dX10_missing_40 (Nat.le_of_ble_eq_true rfl) rfl rfl ?_
        refine z_iload_n (pc := 42) h dX10_missing_42 rfl ?_
        have hM0 := missF_k (S 0 9) (pvX S 1) o0.2.1.1
        have hM1 := missF_k (S 0 9) (pvX S 5) o1.2.1.1
        refine z_if_ne (pc := 43) (tgt := 49) h dX10_missing_43 (by decide) ⟨by omega, by omega⟩ (fun hc43 => ?_) (fun hc43 => ?_)
        ·
          refine z_iload (pc := 49) h dX10_missing_49 rfl ?_
          refine z_iconst (pc := 51) h dX10_missing_51 ?_
          refine z_icmp_ne (pc := 52) (tgt := 59) h dX10_missing_52 (by decide) ⟨by omega, by omega⟩ ⟨by decide, by decide⟩ (fun hc52 => ?_) (fun hc52 => ?_)
          ·
            refine z_aload_n (pc := 59) h dX10_missing_59 rfl ?_
            refine z_iload (pc := 60) h dX10_missing_60 rfl ?_
            refine z_aload_n (pc := 62) h dX10_missing_62 rfl ?_
            refine z_getI (pc := 63) h dX10_missing_63 clX10 lkX10_64 (by decide) rfl rfl ?_
            refine z_callV (pc := 66) (rest := ([] : List zV)) h (m_X7_lowering 1 ((missF (S 0 9) (pvX S 1) (S 1 4)).1) (S 0 9) S isStrip1 (by first | assumption | omega) (by first | assumption | omega) (by first | assumption | omega)) dX10_missing_66 mcX7_lowering miX7_lowering mlX10_229 rfl rfl ⟨by decide, by decide⟩ clX7 rfl rfl rfl (Nat.le_of_ble_eq_true rfl) ?_
            rintro _ _ ⟨rfl, rfl⟩
            show zG x LX 69 [some (zr 0), some (zi a), some (zi b), some (zr 1), some (zi ((missF (S 0 9) (pvX S 1) (S 1 4)).1))] [zi (lowF (S 0 9) (pvX S 1) (S 1 4) ((missF (S 0 9) (pvX S 1) (S 1 4)).1))] S
            exact z_iret (pc := 69) h dX10_missing_69 rfl ⟨rfl, congrArg (fun z => some (zi z)) (by first | (subst hr2; unfold sp_missing; first | (rw [if_neg (by omega)]) | (rw [if_pos (by omega)]; unfold missV; rw [← v0, ← m0, ← gg]; (repeat' split) <;> first | rfl | omega) | (rw [if_pos (by omega)]; unfold missV; rw [← v1, ← m1, ← gg]; (repeat' split) <;> first | rfl | omega)) | (unfold sp_missing; rw [if_neg (by omega)]))⟩
          ·
            refine z_iconst (pc := 55) h dX10_missing_55 ?_
            refine z_goto (pc := 56) (tgt := 69) h dX10_missing_56 (by decide) ?_
            exact z_iret (pc := 69) h dX10_missing_69 rfl ⟨rfl, congrArg (fun z => some (zi z)) (by first | (subst hr2; unfold sp_missing; first | (rw [if_neg (by omega)]) | (rw [if_pos (by omega)]; unfold missV; rw [← v0, ← m0, ← gg]; (repeat' split) <;> first | rfl | omega) | (rw [if_pos (by omega)]; unfold missV; rw [← v1, ← m1, ← gg]; (repeat' split) <;> first | rfl | omega)) | (unfold sp_missing; rw [if_neg (by omega)]))⟩
        ·
          refine z_iload (pc := 46) h dX10_missing_46 rfl ?_
          exact z_iret (pc := 48) h dX10_missing_48 rfl ⟨rfl, congrArg (fun z => some (zi z)) (by first | (subst hr2; unfold sp_missing; first | (rw [if_neg (by omega)]) | (rw [if_pos (by omega)]; unfold missV; rw [← v0, ← m0, ← gg]; (repeat' split) <;> first | rfl | omega) | (rw [if_pos (by omega)]; unfold missV; rw [← v1, ← m1, ← gg]; (repeat' split) <;> first | rfl | omega)) | (unfold sp_missing; rw [if_neg (by omega)]))⟩
      ·
        refine z_bipush (pc := 29) h dX10_missing_29 rfl ?_
        exact z_iret (pc := 31) h dX10_missing_31 rfl ⟨rfl, congrArg (fun z => some (zi z)) (by first | (subst hr2; unfold sp_missing; first | (rw [if_neg (by omega)]) | (rw [if_pos (by omega)]; unfold missV; rw [← v0, ← m0, ← gg]; (repeat' split) <;> first | rfl | omega) | (rw [if_pos (by omega)]; unfold missV; rw [← v1, ← m1, ← gg]; (repeat' split) <;> first | rfl | omega)) | (unfold sp_missing; rw [if_neg (by omega)]))⟩
    ·
      show zG x LX 16 [some (zr 0), some (zi a), some (zi b), some (zr 1), none] [zi 0] S
      refine z_if_ne (pc := 16) (tgt := 22) h dX10_missing_16 (by decide) ⟨by decide, by decide⟩ (fun hc16 => absurd hc16 (by decide)) (fun hc16 => ?_)
      refine z_bipush (pc := 19) h dX10_missing_19 rfl ?_
      exact z_iret (pc := 21) h dX10_missing_21 rfl ⟨rfl, congrArg (fun z => some (zi z)) (by first | (subst hr2; unfold sp_missing; first | (rw [if_neg (by omega)]) | (rw [if_pos (by omega)]; unfold missV; rw [← v0, ← m0, ← gg]; (repeat' split) <;> first | rfl | omega) | (rw [if_pos (by omega)]; unfold missV; rw [← v1, ← m1, ← gg]; (repeat' split) <;> first | rfl | omega)) | (unfold sp_missing; rw [if_neg (by omega)]))⟩
  ·
    show zG x LX 5 [some (zr 0), some (zi a), some (zi b), none, none] [zr 5] S
    refine z_astore_n (pc := 5) (loc' := [some (zr 0), some (zi a), some (zi b), some (zr 5), none]) h dX10_missing_5 rfl (Nat.le_of_ble_eq_true rfl) rfl rfl ?_
    refine z_aload_n (pc := 6) h dX10_missing_6 rfl ?_
    refine z_ifnull_r (pc := 7) h dX10_missing_7 ?_
    refine z_iload_n (pc := 10) h dX10_missing_10 rfl ?_
    refine z_iconst (pc := 11) h dX10_missing_11 ?_
    refine z_iconst (pc := 12) h dX10_missing_12 ?_
    refine z_callS (pc := 13) (rest := ([] : List zV)) h (m_X10_within b 0 1 S ⟨by omega, by omega⟩ ⟨by decide, by decide⟩ ⟨by decide, by decide⟩) dX10_missing_13 mcX10_within msX10_within mlX10_75 rfl rfl ⟨by decide, by decide⟩ rfl (Nat.le_of_ble_eq_true rfl) ?_
    rintro _ _ ⟨rfl, ⟨hr13, rfl⟩ | ⟨hr13, rfl⟩⟩
    ·
      show zG x LX 16 [some (zr 0), some (zi a), some (zi b), some (zr 5), none] [zi 1] S
      refine z_if_ne (pc := 16) (tgt := 22) h dX10_missing_16 (by decide) ⟨by decide, by decide⟩ (fun hc16 => ?_) (fun hc16 => absurd hc16 (by decide))
      refine z_aload_n (pc := 22) h dX10_missing_22 rfl ?_
      refine z_getI (pc := 23) h dX10_missing_23 clX7 lkX10_129 (by decide) rfl rfl ?_
      refine z_if_ne (pc := 26) (tgt := 32) h dX10_missing_26 (by decide) ⟨by omega, by omega⟩ (fun hc26 => ?_) (fun hc26 => ?_)
      ·
        refine z_aload_n (pc := 32) h dX10_missing_32 rfl ?_
        refine z_aload_n (pc := 33) h dX10_missing_33 rfl ?_
        refine z_getI (pc := 34) h dX10_missing_34 clX10 lkX10_64 (by decide) rfl rfl ?_
        refine z_callV (pc := 37) (rest := ([] : List zV)) h (m_X7_missingBehind 5 (S 0 9) S isStrip5 (by first | assumption | omega) (by first | assumption | omega)) dX10_missing_37 mcX7_missingBehind miX7_missingBehind mlX10_226 rfl rfl ⟨by decide, by decide⟩ clX7 rfl rfl rfl (Nat.le_of_ble_eq_true rfl) ?_
        rintro _ _ ⟨rfl, rfl⟩
        show zG x LX 40 [some (zr 0), some (zi a), some (zi b), some (zr 5), none] [zi ((missF (S 0 9) (pvX S 5) (S 5 4)).1)] S
        refine z_istore (pc := 40) (loc' := [some (zr 0), some (zi a), some (zi b), some (zr 5), some (zi ((missF (S 0 9) (pvX S 5) (S 5 4)).1))]) h dX10_missing_40 (Nat.le_of_ble_eq_true rfl) rfl rfl ?_
        refine z_iload_n (pc := 42) h dX10_missing_42 rfl ?_
        have hM0 := missF_k (S 0 9) (pvX S 1) o0.2.1.1
        have hM1 := missF_k (S 0 9) (pvX S 5) o1.2.1.1
        refine z_if_ne (pc := 43) (tgt := 49) h dX10_missing_43 (by decide) ⟨by omega, by omega⟩ (fun hc43 => ?_) (fun hc43 => ?_)
        ·
          refine z_iload (pc := 49) h dX10_missing_49 rfl ?_
          refine z_iconst (pc := 51) h dX10_missing_51 ?_
          refine z_icmp_ne (pc := 52) (tgt := 59) h dX10_missing_52 (by decide) ⟨by omega, by omega⟩ ⟨by decide, by decide⟩ (fun hc52 => ?_) (fun hc52 => ?_)
          ·
            refine z_aload_n (pc := 59) h dX10_missing_59 rfl ?_
            refine z_iload (pc := 60) h dX10_missing_60 rfl ?_
            refine z_aload_n (pc := 62) h dX10_missing_62 rfl ?_
            refine z_getI (pc := 63) h dX10_missing_63 clX10 lkX10_64 (by decide) rfl rfl ?_
            refine z_callV (pc := 66) (rest := ([] : List zV)) h (m_X7_lowering 5 ((missF (S 0 9) (pvX S 5) (S 5 4)).1) (S 0 9) S isStrip5 (by first | assumption | omega) (by first | assumption | omega) (by first | assumption | omega)) dX10_missing_66 mcX7_lowering miX7_lowering mlX10_229 rfl rfl ⟨by decide, by decide⟩ clX7 rfl rfl rfl (Nat.le_of_ble_eq_true rfl) ?_
            rintro _ _ ⟨rfl, rfl⟩
            show zG x LX 69 [some (zr 0), some (zi a), some (zi b), some (zr 5), some (zi ((missF (S 0 9) (pvX S 5) (S 5 4)).1))] [zi (lowF (S 0 9) (pvX S 5) (S 5 4) ((missF (S 0 9) (pvX S 5) (S 5 4)).1))] S
            exact z_iret (pc := 69) h dX10_missing_69 rfl ⟨rfl, congrArg (fun z => some (zi z)) (by first | (subst hr2; unfold sp_missing; first | (rw [if_neg (by omega)]) | (rw [if_pos (by omega)]; unfold missV; rw [← v0, ← m0, ← gg]; (repeat' split) <;> first | rfl | omega) | (rw [if_pos (by omega)]; unfold missV; rw [← v1, ← m1, ← gg]; (repeat' split) <;> first | rfl | omega)) | (unfold sp_missing; rw [if_neg (by omega)]))⟩
          ·
            refine z_iconst (pc := 55) h dX10_missing_55 ?_
            refine z_goto (pc := 56) (tgt := 69) h dX10_missing_56 (by decide) ?_
            exact z_iret (pc := 69) h dX10_missing_69 rfl ⟨rfl, congrArg (fun z => some (zi z)) (by first | (subst hr2; unfold sp_missing; first | (rw [if_neg (by omega)]) | (rw [if_pos (by omega)]; unfold missV; rw [← v0, ← m0, ← gg]; (repeat' split) <;> first | rfl | omega) | (rw [if_pos (by omega)]; unfold missV; rw [← v1, ← m1, ← gg]; (repeat' split) <;> first | rfl | omega)) | (unfold sp_missing; rw [if_neg (by omega)]))⟩
        ·
          refine z_iload (pc := 46) h dX10_missing_46 rfl ?_
          exact z_iret (pc := 48) h dX10_missing_48 rfl ⟨rfl, congrArg (fun z => some (zi z)) (by first | (subst hr2; unfold sp_missing; first | (rw [if_neg (by omega)]) | (rw [if_pos (by omega)]; unfold missV; rw [← v0, ← m0, ← gg]; (repeat' split) <;> first | rfl | omega) | (rw [if_pos (by omega)]; unfold missV; rw [← v1, ← m1, ← gg]; (repeat' split) <;> first | rfl | omega)) | (unfold sp_missing; rw [if_neg (by omega)]))⟩
      ·
        refine z_bipush (pc := 29) h dX10_missing_29 rfl ?_
        exact z_iret (pc := 31) h dX10_missing_31 rfl ⟨rfl, congrArg (fun z => some (zi z)) (by first | (subst hr2; unfold sp_missing; first | (rw [if_neg (by omega)]) | (rw [if_pos (by omega)]; unfold missV; rw [← v0, ← m0, ← gg]; (repeat' split) <;> first | rfl | omega) | (rw [if_pos (by omega)]; unfold missV; rw [← v1, ← m1, ← gg]; (repeat' split) <;> first | rfl | omega)) | (unfold sp_missing; rw [if_neg (by omega)]))⟩
    ·
      show zG x LX 16 [some (zr 0), some (zi a), some (zi b), some (zr 5), none] [zi 0] S
      refine z_if_ne (pc := 16) (tgt := 22) h dX10_missing_16 (by decide) ⟨by decide, by decide⟩ (fun hc16 => absurd hc16 (by decide)) (fun hc16 => ?_)
      refine z_bipush (pc := 19) h dX10_missing_19 rfl ?_
      exact z_iret (pc := 21) h dX10_missing_21 rfl ⟨rfl, congrArg (fun z => some (zi z)) (by first | (subst hr2; unfold sp_missing; first | (rw [if_neg (by omega)]) | (rw [if_pos (by omega)]; unfold missV; rw [← v0, ← m0, ← gg]; (repeat' split) <;> first | rfl | omega) | (rw [if_pos (by omega)]; unfold missV; rw [← v1, ← m1, ← gg]; (repeat' split) <;> first | rfl | omega)) | (unfold sp_missing; rw [if_neg (by omega)]))⟩
  ·
    show zG x LX 5 [some (zr 0), some (zi a), some (zi b), none, none] [zn] S
    refine z_nstore_n (pc := 5) (loc' := [some (zr 0), some (zi a), some (zi b), some (zn), none]) h dX10_missing_5 rfl (Nat.le_of_ble_eq_true rfl) rfl rfl ?_
    refine z_nload_n (pc := 6) h dX10_missing_6 rfl ?_
    refine z_ifnull_n (pc := 7) (tgt := 19) h dX10_missing_7 (by decide) ?_
    refine z_bipush (pc := 19) h dX10_missing_19 rfl ?_
    exact z_iret (pc := 21) h dX10_missing_21 rfl ⟨rfl, congrArg (fun z => some (zi z)) (by first | (subst hr2; unfold sp_missing; first | (rw [if_neg (by omega)]) | (rw [if_pos (by omega)]; unfold missV; rw [← v0, ← m0, ← gg]; (repeat' split) <;> first | rfl | omega) | (rw [if_pos (by omega)]; unfold missV; rw [← v1, ← m1, ← gg]; (repeat' split) <;> first | rfl | omega)) | (unfold sp_missing; rw [if_neg (by omega)]))⟩

theorem cRel_type {X X' A : SS} {k s : Nat} {b : Int} (h : cRel X A) (hk : (k = 1 ∧ s = 0) ∨ (k = 5 ∧ s = 1)) (hr : relS X A k s) (hb : 0 ≤ b ∧ b ≤ 255) (hn : A 2 s < 80) (hp : prsd k (up2 (up2 X (k + 1) (X k 3).toNat b) k 3 (X k 3 + 1)) X') : cRel X' (up2 (up2 A 1 (80 * s + (A 2 s).toNat) b) 2 s (A 2 s + 1)) := by
  have hn0 := mi_n h.1 (s := s) (by omega)
  obtain ⟨o, r1, r2, -⟩ := hr
  refine cRel_strip (X := X) (A := A) (s := s) h hk hp ?_ ?_ ?_ ?_ ?_ ?_ ?_ ?_
  · intro a c h1 h2
    rw [up2_e, if_neg h2, up2_k _ _ h1]
  · exact (h.1.up (Or.inl ⟨rfl, hb⟩)).up (Or.inr (Or.inl ⟨rfl, by omega⟩))
  · intro a h1 h2
    rw [up2_row _ _ h2, up2_row _ _ h1]
  · intro j hj
    rw [up2_k _ _ (by omega), up2_j _ _ (by omega)]
  · intro j hj
    rw [up2_j _ _ hj, up2_k _ _ (by omega)]
  · rw [up2_s, up2_s, r1]
  · intro j hj
    rw [up2_s] at hj
    unfold txt
    rw [show up2 (up2 X (k + 1) (X k 3).toNat b) k 3 (X k 3 + 1) (k + 1) j = up2 X (k + 1) (X k 3).toNat b (k + 1) j from up2_k _ _ (by omega), show up2 (up2 A 1 (80 * s + (A 2 s).toNat) b) 2 s (A 2 s + 1) 1 (80 * s + j) = up2 A 1 (80 * s + (A 2 s).toNat) b 1 (80 * s + j) from up2_k _ _ (by omega), up2_e, up2_e, r1]
    by_cases hj2 : j = (A 2 s).toNat
    · rw [if_pos ⟨rfl, hj2⟩, if_pos ⟨rfl, by rw [hj2]⟩]
    · rw [if_neg (fun q => hj2 q.2), if_neg (fun q => by omega)]
      exact r2 j (by omega)
  · intro j
    rw [up2_k _ _ (by omega), up2_e]
    split
    · exact hb
    · exact o.2.2.2.1 j
theorem cRel_wipe {X X' A : SS} {k s : Nat} (h : cRel X A) (hk : (k = 1 ∧ s = 0) ∨ (k = 5 ∧ s = 1)) (hr : relS X A k s) (hp : prsd k (up2 X k 3 0) X') : cRel X' (up2 A 2 s 0) := by
  obtain ⟨o, r1, r2, -⟩ := hr
  refine cRel_strip (X := X) (A := A) (s := s) h hk hp ?_ ?_ ?_ ?_ ?_ ?_ ?_ ?_
  · intro a c h1 h2
    rw [up2_e, if_neg h2]
  · exact h.1.up (Or.inr (Or.inl ⟨rfl, by omega⟩))
  · intro a h1 h2
    rw [up2_row _ _ h2]
  · intro j hj
    rw [up2_k _ _ (by omega)]
  · intro j hj
    rw [up2_j _ _ hj]
  · rw [up2_s, up2_s]
  · intro j hj
    rw [up2_s] at hj
    omega
  · intro j
    rw [up2_k _ _ (by omega)]
    exact o.2.2.2.1 j

set_option maxRecDepth 100000 in
set_option maxHeartbeats 4000000 in
theorem m_X10_type (a b : Int) (A S : SS) (ha : r32 a) (hb : r32 b) (hR : cRel S A) : zM LX yX10_type cX10_type 4 (some .int) 5 108 [zr 0, zi a, zi b] S (fun r S' => r = some (zi (sp_type A a b)) ∧ cRel S' (st_type A a b)) := by
  refine zM_of (own := RX10) rfl (by decide +kernel) [some (zr 0), some (zi a), some (zi b), none] (Nat.le_of_ble_eq_true rfl) rfl ?_
  intro x h
  have hm := hR.1
  have r0 := hR.2.1.1
  have r1 := hR.2.1.2
  have o0 := r0.1
  have o1 := r1.1
  have v0 : pvX S 1 = qA A 0 := relS_pv r0
  have v1 : pvX S 5 = qA A 1 := relS_pv r1
  have m0 : S 1 4 = mA A 0 := r0.2.2.2.2.1
  have m1 : S 5 4 = mA A 1 := r1.2.2.2.2.1
  have n0 : S 1 3 = nA A 0 := r0.2.1
  have n1 : S 5 3 = nA A 1 := r1.2.1
  have gg : S 0 9 = A 5 0 := hR.2.2.1.1
  have hg := mi_g hm
  refine z_aload_n (pc := 0) h dX10_type_0 rfl ?_
  refine z_iload_n (pc := 1) h dX10_type_1 rfl ?_
  refine z_callV (pc := 2) (rest := ([] : List zV)) h (m_X10_stripAt a S ⟨by omega, by omega⟩) dX10_type_2 mcX10_stripAt miX10_stripAt mlX10_71 rfl rfl ⟨by decide, by decide⟩ clX10 rfl rfl rfl (Nat.le_of_ble_eq_true rfl) ?_
  rintro _ _ ⟨rfl, ⟨hr2, rfl⟩ | ⟨hr2, rfl⟩ | ⟨hr2, rfl⟩⟩
  ·
    show zG x LX 5 [some (zr 0), some (zi a), some (zi b), none] [zr 1] S
    refine z_astore_n (pc := 5) (loc' := [some (zr 0), some (zi a), some (zi b), some (zr 1)]) h dX10_type_5 rfl (Nat.le_of_ble_eq_true rfl) rfl rfl ?_
    refine z_aload_n (pc := 6) h dX10_type_6 rfl ?_
    refine z_ifnull_r (pc := 7) h dX10_type_7 ?_
    refine z_iload_n (pc := 10) h dX10_type_10 rfl ?_
    refine z_iconst (pc := 11) h dX10_type_11 ?_
    refine z_sipush (pc := 12) h dX10_type_12 rfl ?_
    refine z_callS (pc := 15) (rest := ([] : List zV)) h (m_X10_within b 0 255 S ⟨by omega, by omega⟩ ⟨by decide, by decide⟩ ⟨by decide, by decide⟩) dX10_type_15 mcX10_within msX10_within mlX10_75 rfl rfl ⟨by decide, by decide⟩ rfl (Nat.le_of_ble_eq_true rfl) ?_
    rintro _ _ ⟨rfl, ⟨hr15, rfl⟩ | ⟨hr15, rfl⟩⟩
    ·
      show zG x LX 18 [some (zr 0), some (zi a), some (zi b), some (zr 1)] [zi 1] S
      refine z_if_ne (pc := 18) (tgt := 24) h dX10_type_18 (by decide) ⟨by decide, by decide⟩ (fun hc18 => ?_) (fun hc18 => absurd hc18 (by decide))
      refine z_aload_n (pc := 24) h dX10_type_24 rfl ?_
      refine z_iload_n (pc := 25) h dX10_type_25 rfl ?_
      refine z_callV (pc := 26) (rest := ([] : List zV)) h (m_X7_append 1 b S isStrip1 (by first | assumption | omega) (by first | assumption | omega)) dX10_type_26 mcX7_append miX7_append mlX10_79 rfl rfl ⟨by decide, by decide⟩ clX7 rfl rfl rfl (Nat.le_of_ble_eq_true rfl) ?_
      rintro _ S26 (⟨hr26, rfl, rfl⟩ | ⟨hr26, rfl, hr26p⟩)
      ·
        show zG x LX 29 [some (zr 0), some (zi a), some (zi b), some (zr 1)] [zi (-4)] S
        refine z_iret (pc := 29) h dX10_type_29 rfl ?_
        subst hr2
        first
          | exact ⟨ap_some (by unfold sp_type; rw [if_pos (by omega), if_pos (by omega)]), by unfold st_type; rw [if_pos (by omega), if_pos (by omega)]; exact hR⟩
          | exact ⟨ap_some (by unfold sp_type; rw [if_pos (by omega), if_neg (by omega)]; omega), by unfold st_type; rw [if_pos (by omega), if_neg (by omega)]; exact cRel_type (k := 1) (s := 0) hR (Or.inl ⟨rfl, rfl⟩) r0 (by omega) (by unfold nA at n0; exact (by rw [it0] at n0; omega)) hr26p⟩
          | exact ⟨ap_some (by unfold sp_type; rw [if_pos (by omega), if_neg (by omega)]; omega), by unfold st_type; rw [if_pos (by omega), if_neg (by omega)]; exact cRel_type (k := 5) (s := 1) hR (Or.inr ⟨rfl, rfl⟩) r1 (by omega) (by unfold nA at n1; exact (by rw [it1] at n1; omega)) hr26p⟩
      ·
        show zG x LX 29 [some (zr 0), some (zi a), some (zi b), some (zr 1)] [zi (S 1 3 + 1)] S26
        refine z_iret (pc := 29) h dX10_type_29 rfl ?_
        subst hr2
        first
          | exact ⟨ap_some (by unfold sp_type; rw [if_pos (by omega), if_pos (by omega)]), by unfold st_type; rw [if_pos (by omega), if_pos (by omega)]; exact hR⟩
          | exact ⟨ap_some (by unfold sp_type; rw [if_pos (by omega), if_neg (by omega)]; omega), by unfold st_type; rw [if_pos (by omega), if_neg (by omega)]; exact cRel_type (k := 1) (s := 0) hR (Or.inl ⟨rfl, rfl⟩) r0 (by omega) (by unfold nA at n0; exact (by rw [it0] at n0; omega)) hr26p⟩
          | exact ⟨ap_some (by unfold sp_type; rw [if_pos (by omega), if_neg (by omega)]; omega), by unfold st_type; rw [if_pos (by omega), if_neg (by omega)]; exact cRel_type (k := 5) (s := 1) hR (Or.inr ⟨rfl, rfl⟩) r1 (by omega) (by unfold nA at n1; exact (by rw [it1] at n1; omega)) hr26p⟩
    ·
      show zG x LX 18 [some (zr 0), some (zi a), some (zi b), some (zr 1)] [zi 0] S
      refine z_if_ne (pc := 18) (tgt := 24) h dX10_type_18 (by decide) ⟨by decide, by decide⟩ (fun hc18 => absurd hc18 (by decide)) (fun hc18 => ?_)
      refine z_bipush (pc := 21) h dX10_type_21 rfl ?_
      exact z_iret (pc := 23) h dX10_type_23 rfl (⟨ap_some (by first | (subst hr2; unfold sp_type; rw [if_neg (by omega)]) | (unfold sp_type; rw [if_neg (by omega)])), by first | (subst hr2; unfold st_type; rw [if_neg (by omega)]; exact hR) | (unfold st_type; rw [if_neg (by omega)]; exact hR)⟩)
  ·
    show zG x LX 5 [some (zr 0), some (zi a), some (zi b), none] [zr 5] S
    refine z_astore_n (pc := 5) (loc' := [some (zr 0), some (zi a), some (zi b), some (zr 5)]) h dX10_type_5 rfl (Nat.le_of_ble_eq_true rfl) rfl rfl ?_
    refine z_aload_n (pc := 6) h dX10_type_6 rfl ?_
    refine z_ifnull_r (pc := 7) h dX10_type_7 ?_
    refine z_iload_n (pc := 10) h dX10_type_10 rfl ?_
    refine z_iconst (pc := 11) h dX10_type_11 ?_
    refine z_sipush (pc := 12) h dX10_type_12 rfl ?_
    refine z_callS (pc := 15) (rest := ([] : List zV)) h (m_X10_within b 0 255 S ⟨by omega, by omega⟩ ⟨by decide, by decide⟩ ⟨by decide, by decide⟩) dX10_type_15 mcX10_within msX10_within mlX10_75 rfl rfl ⟨by decide, by decide⟩ rfl (Nat.le_of_ble_eq_true rfl) ?_
    rintro _ _ ⟨rfl, ⟨hr15, rfl⟩ | ⟨hr15, rfl⟩⟩
    ·
      show zG x LX 18 [some (zr 0), some (zi a), some (zi b), some (zr 5)] [zi 1] S
      refine z_if_ne (pc := 18) (tgt := 24) h dX10_type_18 (by decide) ⟨by decide, by decide⟩ (fun hc18 => ?_) (fun hc18 => absurd hc18 (by decide))
      refine z_aload_n (pc := 24) h dX10_type_24 rfl ?_
      refine z_iload_n (pc := 25) h dX10_type_25 rfl ?_
      refine z_callV (pc := 26) (rest := ([] : List zV)) h (m_X7_append 5 b S isStrip5 (by first | assumption | omega) (by first | assumption | omega)) dX10_type_26 mcX7_append miX7_append mlX10_79 rfl rfl ⟨by decide, by decide⟩ clX7 rfl rfl rfl (Nat.le_of_ble_eq_true rfl) ?_
      rintro _ S26 (⟨hr26, rfl, rfl⟩ | ⟨hr26, rfl, hr26p⟩)
      ·
        show zG x LX 29 [some (zr 0), some (zi a), some (zi b), some (zr 5)] [zi (-4)] S
        refine z_iret (pc := 29) h dX10_type_29 rfl ?_
        subst hr2
        first
          | exact ⟨ap_some (by unfold sp_type; rw [if_pos (by omega), if_pos (by omega)]), by unfold st_type; rw [if_pos (by omega), if_pos (by omega)]; exact hR⟩
          | exact ⟨ap_some (by unfold sp_type; rw [if_pos (by omega), if_neg (by omega)]; omega), by unfold st_type; rw [if_pos (by omega), if_neg (by omega)]; exact cRel_type (k := 1) (s := 0) hR (Or.inl ⟨rfl, rfl⟩) r0 (by omega) (by unfold nA at n0; exact (by rw [it0] at n0; omega)) hr26p⟩
          | exact ⟨ap_some (by unfold sp_type; rw [if_pos (by omega), if_neg (by omega)]; omega), by unfold st_type; rw [if_pos (by omega), if_neg (by omega)]; exact cRel_type (k := 5) (s := 1) hR (Or.inr ⟨rfl, rfl⟩) r1 (by omega) (by unfold nA at n1; exact (by rw [it1] at n1; omega)) hr26p⟩
      ·
        show zG x LX 29 [some (zr 0), some (zi a), some (zi b), some (zr 5)] [zi (S 5 3 + 1)] S26
        refine z_iret (pc := 29) h dX10_type_29 rfl ?_
        subst hr2
        first
          | exact ⟨ap_some (by unfold sp_type; rw [if_pos (by omega), if_pos (by omega)]), by unfold st_type; rw [if_pos (by omega), if_pos (by omega)]; exact hR⟩
          | exact ⟨ap_some (by unfold sp_type; rw [if_pos (by omega), if_neg (by omega)]; omega), by unfold st_type; rw [if_pos (by omega), if_neg (by omega)]; exact cRel_type (k := 1) (s := 0) hR (Or.inl ⟨rfl, rfl⟩) r0 (by omega) (by unfold nA at n0; exact (by rw [it0] at n0; omega)) hr26p⟩
          | exact ⟨ap_some (by unfold sp_type; rw [if_pos (by omega), if_neg (by omega)]; omega), by unfold st_type; rw [if_pos (by omega), if_neg (by omega)]; exact cRel_type (k := 5) (s := 1) hR (Or.inr ⟨rfl, rfl⟩) r1 (by omega) (by unfold nA at n1; exact (by rw [it1] at n1; omega)) hr26p⟩
    ·
      show zG x LX 18 [some (zr 0), some (zi a), some (zi b), some (zr 5)] [zi 0] S
      refine z_if_ne (pc := 18) (tgt := 24) h dX10_type_18 (by decide) ⟨by decide, by decide⟩ (fun hc18 => absurd hc18 (by decide)) (fun hc18 => ?_)
      refine z_bipush (pc := 21) h dX10_type_21 rfl ?_
      exact z_iret (pc := 23) h dX10_type_23 rfl (⟨ap_some (by first | (subst hr2; unfold sp_type; rw [if_neg (by omega)]) | (unfold sp_type; rw [if_neg (by omega)])), by first | (subst hr2; unfold st_type; rw [if_neg (by omega)]; exact hR) | (unfold st_type; rw [if_neg (by omega)]; exact hR)⟩)
  ·
    show zG x LX 5 [some (zr 0), some (zi a), some (zi b), none] [zn] S
    refine z_nstore_n (pc := 5) (loc' := [some (zr 0), some (zi a), some (zi b), some (zn)]) h dX10_type_5 rfl (Nat.le_of_ble_eq_true rfl) rfl rfl ?_
    refine z_nload_n (pc := 6) h dX10_type_6 rfl ?_
    refine z_ifnull_n (pc := 7) (tgt := 21) h dX10_type_7 (by decide) ?_
    refine z_bipush (pc := 21) h dX10_type_21 rfl ?_
    exact z_iret (pc := 23) h dX10_type_23 rfl (⟨ap_some (by first | (subst hr2; unfold sp_type; rw [if_neg (by omega)]) | (unfold sp_type; rw [if_neg (by omega)])), by first | (subst hr2; unfold st_type; rw [if_neg (by omega)]; exact hR) | (unfold st_type; rw [if_neg (by omega)]; exact hR)⟩)

set_option maxRecDepth 100000 in
set_option maxHeartbeats 4000000 in
theorem m_X10_wipe (a : Int) (A S : SS) (ha : r32 a) (hR : cRel S A) : zM LX yX10_wipe cX10_wipe 3 (some .int) 5 108 [zr 0, zi a] S (fun r S' => r = some (zi (sp_wipe A a)) ∧ cRel S' (st_wipe A a)) := by
  refine zM_of (own := RX10) rfl (by decide +kernel) [some (zr 0), some (zi a), none] (Nat.le_of_ble_eq_true rfl) rfl ?_
  intro x h
  have hm := hR.1
  have r0 := hR.2.1.1
  have r1 := hR.2.1.2
  have o0 := r0.1
  have o1 := r1.1
  have v0 : pvX S 1 = qA A 0 := relS_pv r0
  have v1 : pvX S 5 = qA A 1 := relS_pv r1
  have m0 : S 1 4 = mA A 0 := r0.2.2.2.2.1
  have m1 : S 5 4 = mA A 1 := r1.2.2.2.2.1
  have n0 : S 1 3 = nA A 0 := r0.2.1
  have n1 : S 5 3 = nA A 1 := r1.2.1
  have gg : S 0 9 = A 5 0 := hR.2.2.1.1
  have hg := mi_g hm
  refine z_aload_n (pc := 0) h dX10_wipe_0 rfl ?_
  refine z_iload_n (pc := 1) h dX10_wipe_1 rfl ?_
  refine z_callV (pc := 2) (rest := ([] : List zV)) h (m_X10_stripAt a S ⟨by omega, by omega⟩) dX10_wipe_2 mcX10_stripAt miX10_stripAt mlX10_71 rfl rfl ⟨by decide, by decide⟩ clX10 rfl rfl rfl (Nat.le_of_ble_eq_true rfl) ?_
  rintro _ _ ⟨rfl, ⟨hr2, rfl⟩ | ⟨hr2, rfl⟩ | ⟨hr2, rfl⟩⟩
  ·
    show zG x LX 5 [some (zr 0), some (zi a), none] [zr 1] S
    refine z_astore_n (pc := 5) (loc' := [some (zr 0), some (zi a), some (zr 1)]) h dX10_wipe_5 rfl (Nat.le_of_ble_eq_true rfl) rfl rfl ?_
    refine z_aload_n (pc := 6) h dX10_wipe_6 rfl ?_
    refine z_ifnonnull_r (pc := 7) (tgt := 15) h dX10_wipe_7 (by decide) ?_
    refine z_aload_n (pc := 15) h dX10_wipe_15 rfl ?_
    refine z_callV (pc := 16) (rest := ([] : List zV)) h (m_X7_clear 1 S isStrip1 (by first | assumption | omega)) dX10_wipe_16 mcX7_clear miX7_clear mlX10_83 rfl rfl ⟨by decide, by decide⟩ clX7 rfl rfl rfl (Nat.le_of_ble_eq_true rfl) ?_
    rintro _ S16 ⟨rfl, hr16p⟩
    show zG x LX 19 [some (zr 0), some (zi a), some (zr 1)] [zi (S 1 3)] S16
    refine z_iret (pc := 19) h dX10_wipe_19 rfl ?_
    first
      | (refine ⟨ap_some (by unfold sp_wipe; rw [if_neg (by omega)]), ?_⟩; unfold st_wipe; rw [if_neg (by omega)]; exact hR)
      | (subst hr2; refine ⟨ap_some (by unfold sp_wipe; rw [if_pos (by omega)]; exact n0), ?_⟩; unfold st_wipe; rw [if_pos (by omega)]; exact cRel_wipe (k := 1) (s := 0) hR (Or.inl ⟨rfl, rfl⟩) r0 hr16p)
      | (subst hr2; refine ⟨ap_some (by unfold sp_wipe; rw [if_pos (by omega)]; exact n1), ?_⟩; unfold st_wipe; rw [if_pos (by omega)]; exact cRel_wipe (k := 5) (s := 1) hR (Or.inr ⟨rfl, rfl⟩) r1 hr16p)
  ·
    show zG x LX 5 [some (zr 0), some (zi a), none] [zr 5] S
    refine z_astore_n (pc := 5) (loc' := [some (zr 0), some (zi a), some (zr 5)]) h dX10_wipe_5 rfl (Nat.le_of_ble_eq_true rfl) rfl rfl ?_
    refine z_aload_n (pc := 6) h dX10_wipe_6 rfl ?_
    refine z_ifnonnull_r (pc := 7) (tgt := 15) h dX10_wipe_7 (by decide) ?_
    refine z_aload_n (pc := 15) h dX10_wipe_15 rfl ?_
    refine z_callV (pc := 16) (rest := ([] : List zV)) h (m_X7_clear 5 S isStrip5 (by first | assumption | omega)) dX10_wipe_16 mcX7_clear miX7_clear mlX10_83 rfl rfl ⟨by decide, by decide⟩ clX7 rfl rfl rfl (Nat.le_of_ble_eq_true rfl) ?_
    rintro _ S16 ⟨rfl, hr16p⟩
    show zG x LX 19 [some (zr 0), some (zi a), some (zr 5)] [zi (S 5 3)] S16
    refine z_iret (pc := 19) h dX10_wipe_19 rfl ?_
    first
      | (refine ⟨ap_some (by unfold sp_wipe; rw [if_neg (by omega)]), ?_⟩; unfold st_wipe; rw [if_neg (by omega)]; exact hR)
      | (subst hr2; refine ⟨ap_some (by unfold sp_wipe; rw [if_pos (by omega)]; exact n0), ?_⟩; unfold st_wipe; rw [if_pos (by omega)]; exact cRel_wipe (k := 1) (s := 0) hR (Or.inl ⟨rfl, rfl⟩) r0 hr16p)
      | (subst hr2; refine ⟨ap_some (by unfold sp_wipe; rw [if_pos (by omega)]; exact n1), ?_⟩; unfold st_wipe; rw [if_pos (by omega)]; exact cRel_wipe (k := 5) (s := 1) hR (Or.inr ⟨rfl, rfl⟩) r1 hr16p)
  ·
    show zG x LX 5 [some (zr 0), some (zi a), none] [zn] S
    refine z_nstore_n (pc := 5) (loc' := [some (zr 0), some (zi a), some (zn)]) h dX10_wipe_5 rfl (Nat.le_of_ble_eq_true rfl) rfl rfl ?_
    refine z_nload_n (pc := 6) h dX10_wipe_6 rfl ?_
    refine z_ifnonnull_n (pc := 7) h dX10_wipe_7 ?_
    refine z_bipush (pc := 10) h dX10_wipe_10 rfl ?_
    refine z_goto (pc := 12) (tgt := 19) h dX10_wipe_12 (by decide) ?_
    refine z_iret (pc := 19) h dX10_wipe_19 rfl ?_
    first
      | (refine ⟨ap_some (by unfold sp_wipe; rw [if_neg (by omega)]), ?_⟩; unfold st_wipe; rw [if_neg (by omega)]; exact hR)
      | (subst hr2; refine ⟨ap_some (by unfold sp_wipe; rw [if_pos (by omega)]; exact n0), ?_⟩; unfold st_wipe; rw [if_pos (by omega)]; exact cRel_wipe (k := 1) (s := 0) hR (Or.inl ⟨rfl, rfl⟩) r0 hr16p)
      | (subst hr2; refine ⟨ap_some (by unfold sp_wipe; rw [if_pos (by omega)]; exact n1), ?_⟩; unfold st_wipe; rw [if_pos (by omega)]; exact cRel_wipe (k := 5) (s := 1) hR (Or.inr ⟨rfl, rfl⟩) r1 hr16p)

set_option maxRecDepth 100000 in
set_option maxHeartbeats 4000000 in
theorem m_X10_few (a b : Int) (A S : SS) (ha : r32 a) (hb : r32 b) (hR : cRel S A) : zM LX yX10_few cX10_few 4 (some .int) 5 116 [zr 0, zi a, zi b] S (fun r S' => r = some (zi (sp_few A a b)) ∧ cRel S' A) := by
  refine zM_of (own := RX10) rfl (by decide +kernel) [some (zr 0), some (zi a), some (zi b), none] (Nat.le_of_ble_eq_true rfl) rfl ?_
  intro x h
  have hm := hR.1
  have r0 := hR.2.1.1
  have r1 := hR.2.1.2
  have o0 := r0.1
  have o1 := r1.1
  have v0 : pvX S 1 = qA A 0 := relS_pv r0
  have v1 : pvX S 5 = qA A 1 := relS_pv r1
  have m0 : S 1 4 = mA A 0 := r0.2.2.2.2.1
  have m1 : S 5 4 = mA A 1 := r1.2.2.2.2.1
  have n0 : S 1 3 = nA A 0 := r0.2.1
  have n1 : S 5 3 = nA A 1 := r1.2.1
  have gg : S 0 9 = A 5 0 := hR.2.2.1.1
  have hg := mi_g hm
  refine z_aload_n (pc := 0) h dX10_few_0 rfl ?_
  refine z_iload_n (pc := 1) h dX10_few_1 rfl ?_
  refine z_callV (pc := 2) (rest := ([] : List zV)) h (m_X10_stripAt a S ⟨by omega, by omega⟩) dX10_few_2 mcX10_stripAt miX10_stripAt mlX10_71 rfl rfl ⟨by decide, by decide⟩ clX10 rfl rfl rfl (Nat.le_of_ble_eq_true rfl) ?_
  rintro _ _ ⟨rfl, ⟨hr2, rfl⟩ | ⟨hr2, rfl⟩ | ⟨hr2, rfl⟩⟩
  ·
    show zG x LX 5 [some (zr 0), some (zi a), some (zi b), none] [zr 1] S
    refine z_astore_n (pc := 5) (loc' := [some (zr 0), some (zi a), some (zi b), some (zr 1)]) h dX10_few_5 rfl (Nat.le_of_ble_eq_true rfl) rfl rfl ?_
    refine z_aload_n (pc := 6) h dX10_few_6 rfl ?_
    refine z_ifnull_r (pc := 7) h dX10_few_7 ?_
    refine z_iload_n (pc := 10) h dX10_few_10 rfl ?_
    refine z_iconst (pc := 11) h dX10_few_11 ?_
    refine z_bipush (pc := 12) h dX10_few_12 rfl ?_
    refine z_callS (pc := 14) (rest := ([] : List zV)) h (m_X10_within b 0 60 S ⟨by omega, by omega⟩ ⟨by decide, by decide⟩ ⟨by decide, by decide⟩) dX10_few_14 mcX10_within msX10_within mlX10_75 rfl rfl ⟨by decide, by decide⟩ rfl (Nat.le_of_ble_eq_true rfl) ?_
    rintro _ _ ⟨rfl, ⟨hr14, rfl⟩ | ⟨hr14, rfl⟩⟩
    ·
      show zG x LX 17 [some (zr 0), some (zi a), some (zi b), some (zr 1)] [zi 1] S
      refine z_if_ne (pc := 17) (tgt := 23) h dX10_few_17 (by decide) ⟨by decide, by decide⟩ (fun hc17 => ?_) (fun hc17 => absurd hc17 (by decide))
      refine z_aload_n (pc := 23) h dX10_few_23 rfl ?_
      refine z_getI (pc := 24) h dX10_few_24 clX7 lkX10_129 (by decide) rfl rfl ?_
      refine z_if_ne (pc := 27) (tgt := 35) h dX10_few_27 (by decide) ⟨by omega, by omega⟩ (fun hc27 => ?_) (fun hc27 => ?_)
      ·
        refine z_aload_n (pc := 35) h dX10_few_35 rfl ?_
        refine z_iload_n (pc := 36) h dX10_few_36 rfl ?_
        refine z_aload_n (pc := 37) h dX10_few_37 rfl ?_
        refine z_getI (pc := 38) h dX10_few_38 clX10 lkX10_64 (by decide) rfl rfl ?_
        refine z_callV (pc := 41) (rest := ([] : List zV)) h (m_X7_fewest 1 b (S 0 9) S isStrip1 (by first | assumption | omega) (by first | assumption | omega) (by first | assumption | omega) (by first | assumption | omega)) dX10_few_41 mcX7_fewest miX7_fewest mlX10_235 rfl rfl ⟨by decide, by decide⟩ clX7 rfl rfl rfl (Nat.le_of_ble_eq_true rfl) ?_
        rintro _ S41 ⟨rfl, hr41f⟩
        show zG x LX 44 [some (zr 0), some (zi a), some (zi b), some (zr 1)] [zi ((fewF (S 0 9) (pvX S 1) (S 1 4) b : Nat) : Int)] S41
        refine z_iret (pc := 44) h dX10_few_44 rfl ?_
        subst hr2
        first
          | (refine ⟨ap_some (by unfold sp_few; rw [if_pos (by omega)]; unfold fewV; rw [if_pos (by omega)]), hR⟩)
          | (refine ⟨ap_some (by unfold sp_few; rw [if_pos (by omega)]; unfold fewV; rw [if_neg (by omega), ← v0, ← m0, ← gg]), cRel_keep hR (fun a b h1 h2 _ _ _ => hr41f a b h1)⟩)
          | (refine ⟨ap_some (by unfold sp_few; rw [if_pos (by omega)]; unfold fewV; rw [if_neg (by omega), ← v1, ← m1, ← gg]), cRel_keep hR (fun a b h1 h2 _ _ _ => hr41f a b h2)⟩)
      ·
        refine z_bipush (pc := 30) h dX10_few_30 rfl ?_
        refine z_goto (pc := 32) (tgt := 44) h dX10_few_32 (by decide) ?_
        refine z_iret (pc := 44) h dX10_few_44 rfl ?_
        subst hr2
        first
          | (refine ⟨ap_some (by unfold sp_few; rw [if_pos (by omega)]; unfold fewV; rw [if_pos (by omega)]), hR⟩)
          | (refine ⟨ap_some (by unfold sp_few; rw [if_pos (by omega)]; unfold fewV; rw [if_neg (by omega), ← v0, ← m0, ← gg]), cRel_keep hR (fun a b h1 h2 _ _ _ => hr41f a b h1)⟩)
          | (refine ⟨ap_some (by unfold sp_few; rw [if_pos (by omega)]; unfold fewV; rw [if_neg (by omega), ← v1, ← m1, ← gg]), cRel_keep hR (fun a b h1 h2 _ _ _ => hr41f a b h2)⟩)
    ·
      show zG x LX 17 [some (zr 0), some (zi a), some (zi b), some (zr 1)] [zi 0] S
      refine z_if_ne (pc := 17) (tgt := 23) h dX10_few_17 (by decide) ⟨by decide, by decide⟩ (fun hc17 => absurd hc17 (by decide)) (fun hc17 => ?_)
      refine z_bipush (pc := 20) h dX10_few_20 rfl ?_
      exact z_iret (pc := 22) h dX10_few_22 rfl (⟨ap_some (by first | (subst hr2; unfold sp_few; rw [if_neg (by omega)]) | (unfold sp_few; rw [if_neg (by omega)])), hR⟩)
  ·
    show zG x LX 5 [some (zr 0), some (zi a), some (zi b), none] [zr 5] S
    refine z_astore_n (pc := 5) (loc' := [some (zr 0), some (zi a), some (zi b), some (zr 5)]) h dX10_few_5 rfl (Nat.le_of_ble_eq_true rfl) rfl rfl ?_
    refine z_aload_n (pc := 6) h dX10_few_6 rfl ?_
    refine z_ifnull_r (pc := 7) h dX10_few_7 ?_
    refine z_iload_n (pc := 10) h dX10_few_10 rfl ?_
    refine z_iconst (pc := 11) h dX10_few_11 ?_
    refine z_bipush (pc := 12) h dX10_few_12 rfl ?_
    refine z_callS (pc := 14) (rest := ([] : List zV)) h (m_X10_within b 0 60 S ⟨by omega, by omega⟩ ⟨by decide, by decide⟩ ⟨by decide, by decide⟩) dX10_few_14 mcX10_within msX10_within mlX10_75 rfl rfl ⟨by decide, by decide⟩ rfl (Nat.le_of_ble_eq_true rfl) ?_
    rintro _ _ ⟨rfl, ⟨hr14, rfl⟩ | ⟨hr14, rfl⟩⟩
    ·
      show zG x LX 17 [some (zr 0), some (zi a), some (zi b), some (zr 5)] [zi 1] S
      refine z_if_ne (pc := 17) (tgt := 23) h dX10_few_17 (by decide) ⟨by decide, by decide⟩ (fun hc17 => ?_) (fun hc17 => absurd hc17 (by decide))
      refine z_aload_n (pc := 23) h dX10_few_23 rfl ?_
      refine z_getI (pc := 24) h dX10_few_24 clX7 lkX10_129 (by decide) rfl rfl ?_
      refine z_if_ne (pc := 27) (tgt := 35) h dX10_few_27 (by decide) ⟨by omega, by omega⟩ (fun hc27 => ?_) (fun hc27 => ?_)
      ·
        refine z_aload_n (pc := 35) h dX10_few_35 rfl ?_
        refine z_iload_n (pc := 36) h dX10_few_36 rfl ?_
        refine z_aload_n (pc := 37) h dX10_few_37 rfl ?_
        refine z_getI (pc := 38) h dX10_few_38 clX10 lkX10_64 (by decide) rfl rfl ?_
        refine z_callV (pc := 41) (rest := ([] : List zV)) h (m_X7_fewest 5 b (S 0 9) S isStrip5 (by first | assumption | omega) (by first | assumption | omega) (by first | assumption | omega) (by first | assumption | omega)) dX10_few_41 mcX7_fewest miX7_fewest mlX10_235 rfl rfl ⟨by decide, by decide⟩ clX7 rfl rfl rfl (Nat.le_of_ble_eq_true rfl) ?_
        rintro _ S41 ⟨rfl, hr41f⟩
        show zG x LX 44 [some (zr 0), some (zi a), some (zi b), some (zr 5)] [zi ((fewF (S 0 9) (pvX S 5) (S 5 4) b : Nat) : Int)] S41
        refine z_iret (pc := 44) h dX10_few_44 rfl ?_
        subst hr2
        first
          | (refine ⟨ap_some (by unfold sp_few; rw [if_pos (by omega)]; unfold fewV; rw [if_pos (by omega)]), hR⟩)
          | (refine ⟨ap_some (by unfold sp_few; rw [if_pos (by omega)]; unfold fewV; rw [if_neg (by omega), ← v0, ← m0, ← gg]), cRel_keep hR (fun a b h1 h2 _ _ _ => hr41f a b h1)⟩)
          | (refine ⟨ap_some (by unfold sp_few; rw [if_pos (by omega)]; unfold fewV; rw [if_neg (by omega), ← v1, ← m1, ← gg]), cRel_keep hR (fun a b h1 h2 _ _ _ => hr41f a b h2)⟩)
      ·
        refine z_bipush (pc := 30) h dX10_few_30 rfl ?_
        refine z_goto (pc := 32) (tgt := 44) h dX10_few_32 (by decide) ?_
        refine z_iret (pc := 44) h dX10_few_44 rfl ?_
        subst hr2
        first
          | (refine ⟨ap_some (by unfold sp_few; rw [if_pos (by omega)]; unfold fewV; rw [if_pos (by omega)]), hR⟩)
          | (refine ⟨ap_some (by unfold sp_few; rw [if_pos (by omega)]; unfold fewV; rw [if_neg (by omega), ← v0, ← m0, ← gg]), cRel_keep hR (fun a b h1 h2 _ _ _ => hr41f a b h1)⟩)
          | (refine ⟨ap_some (by unfold sp_few; rw [if_pos (by omega)]; unfold fewV; rw [if_neg (by omega), ← v1, ← m1, ← gg]), cRel_keep hR (fun a b h1 h2 _ _ _ => hr41f a b h2)⟩)
    ·
      show zG x LX 17 [some (zr 0), some (zi a), some (zi b), some (zr 5)] [zi 0] S
      refine z_if_ne (pc := 17) (tgt := 23) h dX10_few_17 (by decide) ⟨by decide, by decide⟩ (fun hc17 => absurd hc17 (by decide)) (fun hc17 => ?_)
      refine z_bipush (pc := 20) h dX10_few_20 rfl ?_
      exact z_iret (pc := 22) h dX10_few_22 rfl (⟨ap_some (by first | (subst hr2; unfold sp_few; rw [if_neg (by omega)]) | (unfold sp_few; rw [if_neg (by omega)])), hR⟩)
  ·
    show zG x LX 5 [some (zr 0), some (zi a), some (zi b), none] [zn] S
    refine z_nstore_n (pc := 5) (loc' := [some (zr 0), some (zi a), some (zi b), some (zn)]) h dX10_few_5 rfl (Nat.le_of_ble_eq_true rfl) rfl rfl ?_
    refine z_nload_n (pc := 6) h dX10_few_6 rfl ?_
    refine z_ifnull_n (pc := 7) (tgt := 20) h dX10_few_7 (by decide) ?_
    refine z_bipush (pc := 20) h dX10_few_20 rfl ?_
    exact z_iret (pc := 22) h dX10_few_22 rfl (⟨ap_some (by first | (subst hr2; unfold sp_few; rw [if_neg (by omega)]) | (unfold sp_few; rw [if_neg (by omega)])), hR⟩)

/-! blades, on both sides -/
def offO (it : Nat → Int) (P : Int) (y : Nat) : Int := (it y % 60 - P * y) % 60
theorem offO_b (it : Nat → Int) (P : Int) (y : Nat) : 0 ≤ offO it P y ∧ offO it P y ≤ 59 := by unfold offO; omega
def pk (it : Nat → Int) (P : Int) (G : Int → Int) : Nat → Int
  | 0 => 0
  | n + 1 => pk it P G n + G (offO it P n)
theorem pk_s (it : Nat → Int) (P : Int) (G : Int → Int) {y : Int} (hy : 0 ≤ y) : pk it P G (y + 1).toNat = pk it P G y.toNat + G (offO it P y.toNat) := by
  rw [show (y + 1).toNat = y.toNat + 1 by omega]
  rfl
def dsF (s o : Int) : Int := if (o - s) % 60 ≤ 30 then (o - s) % 60 else 60 - (o - s) % 60
def ahF (s o : Int) : Int := if 1 ≤ (o - s) % 60 ∧ (o - s) % 60 ≤ 30 then 1 else 0
def isF (w o : Int) : Int := if o = w then 1 else 0
theorem ds_b (s o : Int) : 0 ≤ dsF s o ∧ dsF s o ≤ 30 := by unfold dsF; split <;> omega
theorem ds_step (s o : Int) : dsF (s + 1) o = dsF s o + (1 - 2 * ahF s o) := by unfold dsF ahF; split <;> split <;> split <;> omega
theorem ah_step {s o : Int} (ho : 0 ≤ o ∧ o ≤ 59) : ahF (s + 1) o = ahF s o + (isF ((s + 31) % 60) o - isF ((s + 1) % 60) o) := by unfold ahF isF; split <;> split <;> split <;> split <;> omega
theorem pk_ds (it : Nat → Int) (P s : Int) : ∀ n : Nat, pk it P (dsF (s + 1)) n = pk it P (dsF s) n + (n - 2 * pk it P (ahF s) n)
  | 0 => by unfold pk; omega
  | n + 1 => by
    have h1 := pk_ds it P s n
    have h2 := ds_step s (offO it P n)
    unfold pk
    omega
theorem pk_ah (it : Nat → Int) (P s : Int) : ∀ n : Nat, pk it P (ahF (s + 1)) n = pk it P (ahF s) n + (pk it P (isF ((s + 31) % 60)) n - pk it P (isF ((s + 1) % 60)) n)
  | 0 => by unfold pk; omega
  | n + 1 => by
    have h1 := pk_ah it P s n
    have h2 := ah_step (s := s) (offO_b it P n)
    unfold pk
    omega
theorem pkd_b (it : Nat → Int) (P s : Int) : ∀ n : Nat, 0 ≤ pk it P (dsF s) n ∧ pk it P (dsF s) n ≤ 30 * n
  | 0 => by unfold pk; omega
  | n + 1 => by
    have h1 := pkd_b it P s n
    have h2 := ds_b s (offO it P n)
    unfold pk
    omega
theorem pk_c {it : Nat → Int} {P : Int} {G H : Int → Int} (h : ∀ o, 0 ≤ o ∧ o ≤ 59 → G o = H o) : ∀ n : Nat, pk it P G n = pk it P H n
  | 0 => rfl
  | n + 1 => by
    unfold pk
    rw [pk_c h n, h _ (offO_b it P n)]
theorem pk_it {it jt : Nat → Int} {P : Int} {G : Int → Int} : ∀ n : Nat, (∀ y, y < n → it y = jt y) → pk it P G n = pk jt P G n
  | 0, _ => rfl
  | n + 1, h => by
    unfold pk
    rw [pk_it n (fun y hy => h y (by omega))]
    unfold offO
    rw [h n (by omega)]
def swR (f : Int → Int) (lo : Int) : Nat → Int
  | 0 => 0
  | k + 1 => swR f lo k + f (lo + k)
theorem sw_s (f : Int → Int) (lo : Int) {k w : Int} (hk : 0 ≤ k) (hw : lo + k = w) : swR f lo (k + 1).toNat = swR f lo k.toNat + f w := by
  rw [show (k + 1).toNat = k.toNat + 1 by omega, ← hw]
  show swR f lo k.toNat + f (lo + ((k.toNat : Nat) : Int)) = _
  rw [show ((k.toNat : Nat) : Int) = k by omega]
theorem sw_add (f g : Int → Int) (lo : Int) : ∀ k : Nat, swR (fun w => f w + g w) lo k = swR f lo k + swR g lo k
  | 0 => rfl
  | k + 1 => by
    have := sw_add f g lo k
    unfold swR
    omega
theorem sw_z (G : Int → Int) (lo : Int) : ∀ k : Nat, swR (fun w => 0 * G w) lo k = 0
  | 0 => rfl
  | k + 1 => by
    have := sw_z G lo k
    unfold swR
    rw [Int.zero_mul]
    omega
theorem sw_is (o lo : Int) (G : Int → Int) : ∀ k : Nat, swR (fun w => isF w o * G w) lo k = if lo ≤ o ∧ o < lo + k then G o else 0
  | 0 => by unfold swR; rw [if_neg (by omega)]
  | k + 1 => by
    have h := sw_is o lo G k
    unfold swR
    rw [h]
    show _ + isF (lo + k) o * G (lo + k) = _
    unfold isF
    by_cases h1 : o = lo + k
    · rw [if_neg (by omega), if_pos h1, if_pos (by omega), h1]
      omega
    · rw [if_neg h1, Int.zero_mul, Int.add_zero]
      by_cases h2 : lo ≤ o ∧ o < lo + k
      · rw [if_pos h2, if_pos (by omega)]
      · rw [if_neg h2, if_neg (by omega)]
theorem sw_pk (it : Nat → Int) (P lo : Int) (G : Int → Int) (k : Nat) : ∀ n : Nat, swR (fun w => pk it P (isF w) n * G w) lo k = pk it P (fun o => if lo ≤ o ∧ o < lo + k then G o else 0) n
  | 0 => sw_z G lo k
  | n + 1 => by
    have h : (fun w => pk it P (isF w) (n + 1) * G w) = fun w => pk it P (isF w) n * G w + isF w (offO it P n) * G w := funext fun w => Int.add_mul _ _ _
    rw [h, sw_add, sw_pk it P lo G k n, sw_is]
    rfl
theorem sw_ah (it : Nat → Int) (P : Int) (n : Nat) : swR (fun w => pk it P (isF w) n * 1) 1 30 = pk it P (ahF 0) n := by
  rw [sw_pk it P 1 (fun _ => 1) 30 n]
  exact pk_c (fun o ho => by show (if 1 ≤ o ∧ o < 1 + ((30 : Nat) : Int) then (1 : Int) else 0) = _; unfold ahF; split <;> split <;> omega) n
theorem sw_ds (it : Nat → Int) (P : Int) (n : Nat) : swR (fun w => pk it P (isF w) n * min w (60 - w)) 0 60 = pk it P (dsF 0) n := by
  rw [sw_pk it P 0 (fun w => min w (60 - w)) 60 n]
  exact pk_c (fun o ho => by show (if 0 ≤ o ∧ o < 0 + ((60 : Nat) : Int) then min o (60 - o) else 0) = _; unfold dsF; split <;> split <;> omega) n
/-- laws from t on: the first with the least -/
def fmR (W : Int → Int) : Nat → Nat → Int × Int → Int × Int
  | 0, _, q => q
  | r + 1, t, q => fmR W r (t + 1) (if W (t : Int) < q.2 then ((t : Int), W (t : Int)) else q)
theorem fm_0 {W : Int → Int} {r t : Nat} {q : Int × Int} (h : r = 0) : fmR W r t q = q := by subst h; rfl
theorem fm_s {W : Int → Int} {r r' t : Nat} {z : Int} {q : Int × Int} (h : r = r' + 1) (hz : (t : Int) = z) : fmR W r t q = fmR W r' (z + 1).toNat (if W z < q.2 then (z, W z) else q) := by
  subst h
  subst hz
  rw [show ((t : Int) + 1).toNat = t + 1 by omega]
  rfl
theorem fmR_le {W : Int → Int} : ∀ (r t : Nat) (q : Int × Int), (fmR W r t q).2 ≤ q.2
  | 0, _, q => Int.le_refl _
  | r + 1, t, q => by
    rw [fm_s (r' := r) (z := (t : Int)) rfl rfl]
    refine Int.le_trans (fmR_le r _ _) ?_
    split
    · next h => exact Int.le_of_lt h
    · exact Int.le_refl _
def btW (it : Nat → Int) (n : Nat) (t : Int) : Int := pk it (t / 60) (dsF (t % 60)) n
def bldF (it : Nat → Int) (n : Nat) : Int × Int := fmR (btW it n) 3600 0 (0, 1000000)
theorem btW_b (it : Nat → Int) {n : Nat} (hn : n ≤ 60) (t : Int) : 0 ≤ btW it n t ∧ btW it n t ≤ 1800 := by
  have := pkd_b it (t / 60) (t % 60) n
  unfold btW
  omega
theorem bldF_2 (it : Nat → Int) {n : Nat} (hn : n ≤ 60) : (bldF it n).2 ≤ 1800 ∧ ∀ g v : Int, 1800 < v → fmR (btW it n) 3600 0 (g, v) = bldF it n := by
  have hb := btW_b it hn 0
  have h1 : ∀ g v : Int, 1800 < v → fmR (btW it n) 3600 0 (g, v) = fmR (btW it n) 3599 1 (0, btW it n 0) := fun g v hv => by
    rw [fm_s (r' := 3599) (z := 0) rfl rfl, if_pos (show btW it n 0 < v by omega)]
    rfl
  refine ⟨?_, fun g v hv => by unfold bldF; rw [h1 g v hv, h1 0 1000000 (by decide)]⟩
  unfold bldF
  rw [h1 0 1000000 (by decide)]
  exact Int.le_trans (fmR_le 3599 1 _) hb.2
def btP (it : Nat → Int) (n : Nat) (S1 : SS) (t : Int) : Prop := ∃ q : Int × Int, S1 41 3 = q.2 ∧ (0 ≤ q.2 ∧ q.2 ≤ 3600) ∧ (q.2 = 3600 ∨ (q.1 / 60 = S1 41 1 ∧ q.1 % 60 = S1 41 2)) ∧ fmR (btW it n) (3600 - t).toNat t.toNat q = bldF it n
theorem btP_b {it : Nat → Int} {n : Nat} {S1 : SS} {t : Int} (h : btP it n S1 t) : 0 ≤ S1 41 3 ∧ S1 41 3 ≤ 3600 := by
  obtain ⟨q, q1, q2, -⟩ := h
  omega
theorem btP_0 {it : Nat → Int} {n : Nat} {S1 : SS} (hn : n ≤ 60) (h : S1 41 3 = 3600) : btP it n S1 0 := ⟨(0, 3600), h, ⟨by decide, by decide⟩, Or.inl rfl, (bldF_2 it hn).2 _ _ (by decide)⟩
theorem btP_e {it : Nat → Int} {n : Nat} {S1 S2 : SS} {t : Int} (h : btP it n S1 t) (e : ∀ j, S2 41 j = S1 41 j) : btP it n S2 t := by
  obtain ⟨q, q1, q2, q3, q4⟩ := h
  exact ⟨q, by rw [e]; exact q1, q2, by rw [e, e]; exact q3, q4⟩
theorem btP_t {it : Nat → Int} {n : Nat} {S1 S2 : SS} {s p w : Int} (h : btP it n S1 (60 * s + p)) (hn : n ≤ 60) (hs : 0 ≤ s ∧ s ≤ 59) (hp : 0 ≤ p ∧ p ≤ 59) (hw : w = pk it s (dsF p) n) (hl : w < S1 41 3) (h6 : S2 41 3 = w) (h4 : S2 41 1 = s) (h5 : S2 41 2 = p) : btP it n S2 (60 * s + (p + 1)) := by
  obtain ⟨q, q1, q2, q3, q4⟩ := h
  have hW : btW it n (60 * s + p) = w := by
    unfold btW
    rw [show (60 * s + p) / 60 = s by omega, show (60 * s + p) % 60 = p by omega, hw]
  have hb := btW_b it hn (60 * s + p)
  rw [fm_s (r' := (3600 - (60 * s + (p + 1))).toNat) (z := 60 * s + p) (by omega) (by omega), hW, if_pos (by rw [← q1]; exact hl)] at q4
  refine ⟨(60 * s + p, w), h6, ⟨by show 0 ≤ w; omega, by show w ≤ _; omega⟩, Or.inr ⟨?_, ?_⟩, ?_⟩
  · show (60 * s + p) / 60 = _
    omega
  · show (60 * s + p) % 60 = _
    omega
  · rw [show 60 * s + (p + 1) = 60 * s + p + 1 by omega] at q4 ⊢
    exact q4
theorem btP_f {it : Nat → Int} {n : Nat} {S1 : SS} {s p w : Int} (h : btP it n S1 (60 * s + p)) (hs : 0 ≤ s ∧ s ≤ 59) (hp : 0 ≤ p ∧ p ≤ 59) (hw : w = pk it s (dsF p) n) (hl : S1 41 3 ≤ w) : btP it n S1 (60 * s + (p + 1)) := by
  obtain ⟨q, q1, q2, q3, q4⟩ := h
  have hW : btW it n (60 * s + p) = w := by
    unfold btW
    rw [show (60 * s + p) / 60 = s by omega, show (60 * s + p) % 60 = p by omega, hw]
  rw [fm_s (r' := (3600 - (60 * s + (p + 1))).toNat) (z := 60 * s + p) (by omega) (by omega), hW, if_neg (by rw [← q1]; omega)] at q4
  refine ⟨q, q1, q2, q3, ?_⟩
  rw [show 60 * s + (p + 1) = 60 * s + p + 1 by omega] at q4 ⊢
  exact q4
theorem btP_x {it : Nat → Int} {n : Nat} {S1 : SS} {t : Int} (h : btP it n S1 t) (ht : t = 3600) (hn : n ≤ 60) : S1 41 1 = (bldF it n).1 / 60 ∧ S1 41 2 = (bldF it n).1 % 60 ∧ S1 41 3 = (bldF it n).2 := by
  subst ht
  obtain ⟨q, q1, q2, q3, q4⟩ := h
  rw [fm_0 (by decide)] at q4
  have h2 := (bldF_2 it hn).1
  rw [← q4] at h2 ⊢
  rcases q3 with q3 | ⟨q3, q5⟩
  · omega
  · exact ⟨q3.symm, q5.symm, q1⟩
def itA (A : SS) (a : Int) : Nat → Int := fun y => A 17 (60 * a.toNat + y)
def nIt (A : SS) (a : Int) : Nat := (A 16 a.toNat).toNat
def bentF (A : SS) (a w : Int) : Int := if w = 0 then (bldF (itA A a) (nIt A a)).1 / 60 else if w = 1 then (bldF (itA A a) (nIt A a)).1 % 60 else (bldF (itA A a) (nIt A a)).2
def sp_bent (A : SS) (a w : Int) : Int := if isH a ∧ (0 ≤ w ∧ w ≤ 2) then (if A 14 a.toNat = 0 then -11 else if A 16 a.toNat = 0 then -3 else bentF A a w) else -2
def st_bent (A : SS) (a w : Int) : SS := if isH a ∧ (0 ≤ w ∧ w ≤ 2) then (if A 14 a.toNat = 0 then up2 A 0 23 1 else A) else A
abbrev hist (it : Nat → Int) (P : Int) (n : Nat) (S : SS) : Prop := ∀ w : Nat, w < 60 → S 42 w = pk it P (isF w) n
theorem hist_at {it : Nat → Int} {P : Int} {n : Nat} {S : SS} (h : hist it P n S) {w : Int} (hw : 0 ≤ w ∧ w ≤ 59) : S 42 w.toNat = pk it P (isF w) n := by
  rw [h w.toNat (by omega), show ((w.toNat : Nat) : Int) = w by omega]

set_option maxRecDepth 100000 in
set_option maxHeartbeats 4000000 in
theorem m_X0_rowsAhead (it : Nat → Int) (P : Int) (n : Nat) (S : SS) (hH : hist it P n S) : zM LX yX0_rowsAhead cX0_rowsAhead 3 (some .int) 0 0 [zr 41] S (fun r S' => S = S' ∧ r = some (zi (pk it P (ahF 0) n))) := by
  refine zM_of (own := RX0) rfl (by decide +kernel) [some (zr 41), none, none] (Nat.le_of_ble_eq_true rfl) rfl ?_
  intro x h
  refine z_iconst (pc := 0) h dX0_rowsAhead_0 ?_
  refine z_istore_n (pc := 1) (loc' := [some (zr 41), some (zi 0), none]) h dX0_rowsAhead_1 rfl (Nat.le_of_ble_eq_true rfl) rfl rfl ?_
  refine z_iconst (pc := 2) h dX0_rowsAhead_2 ?_
  refine z_istore_n (pc := 3) (loc' := [some (zr 41), some (zi 0), some (zi 1)]) h dX0_rowsAhead_3 rfl (Nat.le_of_ble_eq_true rfl) rfl rfl ?_
  have J4 : ∀ (N : Nat) (z w : Int) (hw : 1 ≤ w ∧ w ≤ 31) (hz : z = swR (fun w => pk it P (isF w) n * 1) 1 (w - 1).toNat) , (31 - w).toNat = N → zG x LX 4 [some (zr 41), some (zi z), some (zi w)] ([] : List zV) S := by
    intro N
    induction N using Nat.strongRecOn with
    | _ N ih4 => ?_
    intro z w hw hz hN4
    refine z_iload_n (pc := 4) h dX0_rowsAhead_4 rfl ?_
    refine z_bipush (pc := 5) h dX0_rowsAhead_5 rfl ?_
    refine z_icmp_gt (pc := 7) (tgt := 25) h dX0_rowsAhead_7 (by decide) ⟨by omega, by omega⟩ ⟨by decide, by decide⟩ (fun hc7 => ?_) (fun hc7 => ?_)
    ·
      refine z_iload_n (pc := 25) h dX0_rowsAhead_25 rfl ?_
      exact z_iret (pc := 26) h dX0_rowsAhead_26 rfl ⟨rfl, congrArg (fun z => some (zi z)) (by rw [hz, show (w - 1).toNat = 30 by omega, sw_ah])⟩
    ·
      refine z_iload_n (pc := 10) h dX0_rowsAhead_10 rfl ?_
      refine z_aload_n (pc := 11) h dX0_rowsAhead_11 rfl ?_
      refine z_getR (a := 42) (pc := 12) h dX0_rowsAhead_12 clX0 lkX0_9 (by decide) rfl rfl ?_
      refine z_iload_n (pc := 15) h dX0_rowsAhead_15 rfl ?_
      refine z_iald (pc := 16) h dX0_rowsAhead_16 rfl (by decide) (by omega) (by omega) ?_
      refine z_iadd (pc := 17) h dX0_rowsAhead_17 ?_
      refine z_istore_n (pc := 18) (loc' := [some (zr 41), some (zi (z + (S 42 w.toNat))), some (zi w)]) h dX0_rowsAhead_18 rfl (Nat.le_of_ble_eq_true rfl) rfl rfl ?_
      refine z_iinc (pc := 19) (loc' := [some (zr 41), some (zi (z + (S 42 w.toNat))), some (zi (w + 1))]) h dX0_rowsAhead_19 rfl (Nat.le_of_ble_eq_true rfl) rfl rfl ?_
      refine z_goto (pc := 22) (tgt := 4) h dX0_rowsAhead_22 (by decide) ?_
      exact ih4 _ (by omega) (z + (S 42 w.toNat)) (w + 1) (by omega) (by rw [show w + 1 - 1 = (w - 1) + 1 by omega, sw_s _ _ (w := w) (by omega) (by omega), ← hz, hist_at hH (by omega), Int.mul_one]) rfl
  exact J4 _ 0 1 (by omega) (rfl) rfl

set_option maxRecDepth 100000 in
set_option maxHeartbeats 4000000 in
theorem m_X0_sumFromZero (it : Nat → Int) (P : Int) (n : Nat) (S : SS) (hH : hist it P n S) : zM LX yX0_sumFromZero cX0_sumFromZero 3 (some .int) 1 21 [zr 41] S (fun r S' => S = S' ∧ r = some (zi (pk it P (dsF 0) n))) := by
  refine zM_of (own := RX0) rfl (by decide +kernel) [some (zr 41), none, none] (Nat.le_of_ble_eq_true rfl) rfl ?_
  intro x h
  refine z_iconst (pc := 0) h dX0_sumFromZero_0 ?_
  refine z_istore_n (pc := 1) (loc' := [some (zr 41), some (zi 0), none]) h dX0_sumFromZero_1 rfl (Nat.le_of_ble_eq_true rfl) rfl rfl ?_
  refine z_iconst (pc := 2) h dX0_sumFromZero_2 ?_
  refine z_istore_n (pc := 3) (loc' := [some (zr 41), some (zi 0), some (zi 0)]) h dX0_sumFromZero_3 rfl (Nat.le_of_ble_eq_true rfl) rfl rfl ?_
  have J4 : ∀ (N : Nat) (z w : Int) (hw : 0 ≤ w ∧ w ≤ 60) (hz : z = swR (fun w => pk it P (isF w) n * min w (60 - w)) 0 w.toNat) , (60 - w).toNat = N → zG x LX 4 [some (zr 41), some (zi z), some (zi w)] ([] : List zV) S := by
    intro N
    induction N using Nat.strongRecOn with
    | _ N ih4 => ?_
    intro z w hw hz hN4
    refine z_iload_n (pc := 4) h dX0_sumFromZero_4 rfl ?_
    refine z_bipush (pc := 5) h dX0_sumFromZero_5 rfl ?_
    refine z_icmp_ge (pc := 7) (tgt := 34) h dX0_sumFromZero_7 (by decide) ⟨by omega, by omega⟩ ⟨by decide, by decide⟩ (fun hc7 => ?_) (fun hc7 => ?_)
    ·
      refine z_iload_n (pc := 34) h dX0_sumFromZero_34 rfl ?_
      exact z_iret (pc := 35) h dX0_sumFromZero_35 rfl ⟨rfl, congrArg (fun z => some (zi z)) (by rw [hz, show w.toNat = 60 by omega, sw_ds])⟩
    ·
      refine z_iload_n (pc := 10) h dX0_sumFromZero_10 rfl ?_
      refine z_aload_n (pc := 11) h dX0_sumFromZero_11 rfl ?_
      refine z_getR (a := 42) (pc := 12) h dX0_sumFromZero_12 clX0 lkX0_9 (by decide) rfl rfl ?_
      refine z_iload_n (pc := 15) h dX0_sumFromZero_15 rfl ?_
      refine z_iald (pc := 16) h dX0_sumFromZero_16 rfl (by decide) (by omega) (by omega) ?_
      refine z_iload_n (pc := 17) h dX0_sumFromZero_17 rfl ?_
      refine z_bipush (pc := 18) h dX0_sumFromZero_18 rfl ?_
      refine z_iload_n (pc := 20) h dX0_sumFromZero_20 rfl ?_
      refine z_isub (pc := 21) h dX0_sumFromZero_21 ?_
      refine z_callS (pc := 22) (rest := [zi (S 42 w.toNat), zi z]) h (m_J9_min_7cf53 w (60 - w) S ⟨by omega, by omega⟩ ⟨by omega, by omega⟩) dX0_sumFromZero_22 mcJ9_min_7cf53 msJ9_min_7cf53 mlX0_61 rfl rfl ⟨by decide, by decide⟩ rfl (Nat.le_of_ble_eq_true rfl) ?_
      rintro _ _ ⟨rfl, rfl⟩
      show zG x LX 25 [some (zr 41), some (zi z), some (zi w)] [zi (min w (60 - w)), zi (S 42 w.toNat), zi z] S
      refine z_imul (pc := 25) h dX0_sumFromZero_25 ?_
      refine z_iadd (pc := 26) h dX0_sumFromZero_26 ?_
      refine z_istore_n (pc := 27) (loc' := [some (zr 41), some (zi (z + ((S 42 w.toNat) * (min w (60 - w))))), some (zi w)]) h dX0_sumFromZero_27 rfl (Nat.le_of_ble_eq_true rfl) rfl rfl ?_
      refine z_iinc (pc := 28) (loc' := [some (zr 41), some (zi (z + ((S 42 w.toNat) * (min w (60 - w))))), some (zi (w + 1))]) h dX0_sumFromZero_28 rfl (Nat.le_of_ble_eq_true rfl) rfl rfl ?_
      refine z_goto (pc := 31) (tgt := 4) h dX0_sumFromZero_31 (by decide) ?_
      exact ih4 _ (by omega) (z + ((S 42 w.toNat) * (min w (60 - w)))) (w + 1) (by omega) (by rw [sw_s _ _ (w := w) (by omega) (by omega), ← hz, hist_at hH (by omega)]) rfl
  exact J4 _ 0 0 (by omega) (rfl) rfl

set_option maxRecDepth 100000 in
set_option maxHeartbeats 4000000 in
theorem m_X0_weighStarts (it : Nat → Int) (n P : Int) (S : SS) (hH : hist it P n.toNat S) (hn : 0 ≤ n ∧ n ≤ 60) (hP : 0 ≤ P ∧ P ≤ 59) (hI : btP it n.toNat S (60 * P)) : zM LX yX0_weighStarts cX0_weighStarts 6 none 2 43 [zr 41, zi n, zi P] S (fun r S' => r = none ∧ (∀ x y, ¬ (x = 41 ∧ 1 ≤ y) → S' x y = S x y) ∧ btP it n.toNat S' (60 * P + 60)) := by
  refine zM_of (own := RX0) rfl (by decide +kernel) [some (zr 41), some (zi n), some (zi P), none, none, none] (Nat.le_of_ble_eq_true rfl) rfl ?_
  intro x h
  refine z_aload_n (pc := 0) h dX0_weighStarts_0 rfl ?_
  refine z_callV (pc := 1) (rest := ([] : List zV)) h (m_X0_rowsAhead it P n.toNat S (by first | assumption | omega)) dX0_weighStarts_1 mcX0_rowsAhead miX0_rowsAhead mlX0_48 rfl rfl ⟨by decide, by decide⟩ clX0 rfl rfl rfl (Nat.le_of_ble_eq_true rfl) ?_
  rintro _ _ ⟨rfl, rfl⟩
  show zG x LX 4 [some (zr 41), some (zi n), some (zi P), none, none, none] [zi (pk it P (ahF 0) n.toNat)] S
  refine z_istore_n (pc := 4) (loc' := [some (zr 41), some (zi n), some (zi P), some (zi (pk it P (ahF 0) n.toNat)), none, none]) h dX0_weighStarts_4 rfl (Nat.le_of_ble_eq_true rfl) rfl rfl ?_
  refine z_aload_n (pc := 5) h dX0_weighStarts_5 rfl ?_
  refine z_callV (pc := 6) (rest := ([] : List zV)) h (m_X0_sumFromZero it P n.toNat S (by first | assumption | omega)) dX0_weighStarts_6 mcX0_sumFromZero miX0_sumFromZero mlX0_52 rfl rfl ⟨by decide, by decide⟩ clX0 rfl rfl rfl (Nat.le_of_ble_eq_true rfl) ?_
  rintro _ _ ⟨rfl, rfl⟩
  show zG x LX 9 [some (zr 41), some (zi n), some (zi P), some (zi (pk it P (ahF 0) n.toNat)), none, none] [zi (pk it P (dsF 0) n.toNat)] S
  refine z_istore (pc := 9) (loc' := [some (zr 41), some (zi n), some (zi P), some (zi (pk it P (ahF 0) n.toNat)), some (zi (pk it P (dsF 0) n.toNat)), none]) h dX0_weighStarts_9 (Nat.le_of_ble_eq_true rfl) rfl rfl ?_
  refine z_iconst (pc := 11) h dX0_weighStarts_11 ?_
  refine z_istore (pc := 12) (loc' := [some (zr 41), some (zi n), some (zi P), some (zi (pk it P (ahF 0) n.toNat)), some (zi (pk it P (dsF 0) n.toNat)), some (zi 0)]) h dX0_weighStarts_12 (Nat.le_of_ble_eq_true rfl) rfl rfl ?_
  have J14 : ∀ (N : Nat) (u z p : Int) (S1 : SS) (hp : 0 ≤ p ∧ p ≤ 60) (hu : u = pk it P (ahF p) n.toNat) (hz : z = pk it P (dsF p) n.toNat) (hF : ∀ x y, ¬ (x = 41 ∧ 1 ≤ y) → S1 x y = S x y) (hJ : btP it n.toNat S1 (60 * P + p)) , (60 - p).toNat = N → zG x LX 14 [some (zr 41), some (zi n), some (zi P), some (zi u), some (zi z), some (zi p)] ([] : List zV) S1 := by
    intro N
    induction N using Nat.strongRecOn with
    | _ N ih14 => ?_
    intro u z p S1 hp hu hz hF hJ hN14
    refine z_iload (pc := 14) h dX0_weighStarts_14 rfl ?_
    refine z_bipush (pc := 16) h dX0_weighStarts_16 rfl ?_
    refine z_icmp_ge (pc := 18) (tgt := 92) h dX0_weighStarts_18 (by decide) ⟨by omega, by omega⟩ ⟨by decide, by decide⟩ (fun hc18 => ?_) (fun hc18 => ?_)
    ·
      exact z_vret (pc := 92) h dX0_weighStarts_92 rfl (⟨rfl, hF, by rw [show p = 60 by omega] at hJ; exact hJ⟩)
    ·
      have hzb := pkd_b it P p n.toNat
      have hlb := btP_b hJ
      have hs1 : ∀ y, S1 42 y = S 42 y := fun y => hF _ _ (by omega)
      have hi1 := hist_at hH (w := (p + 31) % 60) (by omega)
      have hi2 := hist_at hH (w := (p + 1) % 60) (by omega)
      refine z_iload (pc := 21) h dX0_weighStarts_21 rfl ?_
      refine z_aload_n (pc := 23) h dX0_weighStarts_23 rfl ?_
      refine z_getI (pc := 24) h dX0_weighStarts_24 clX0 lkX0_15 (by decide) rfl rfl ?_
      refine z_icmp_ge (pc := 27) (tgt := 47) h dX0_weighStarts_27 (by decide) ⟨by omega, by omega⟩ ⟨by omega, by omega⟩ (fun hc27 => ?_) (fun hc27 => ?_)
      ·
        refine z_iload (pc := 47) h dX0_weighStarts_47 rfl ?_
        refine z_iload_n (pc := 49) h dX0_weighStarts_49 rfl ?_
        refine z_iconst (pc := 50) h dX0_weighStarts_50 ?_
        refine z_iload_n (pc := 51) h dX0_weighStarts_51 rfl ?_
        refine z_imul (pc := 52) h dX0_weighStarts_52 ?_
        refine z_isub (pc := 53) h dX0_weighStarts_53 ?_
        refine z_iadd (pc := 54) h dX0_weighStarts_54 ?_
        refine z_istore (pc := 55) (loc' := [some (zr 41), some (zi n), some (zi P), some (zi u), some (zi (z + (n - (2 * u)))), some (zi p)]) h dX0_weighStarts_55 (Nat.le_of_ble_eq_true rfl) rfl rfl ?_
        refine z_iload_n (pc := 57) h dX0_weighStarts_57 rfl ?_
        refine z_aload_n (pc := 58) h dX0_weighStarts_58 rfl ?_
        refine z_getR (a := 42) (pc := 59) h dX0_weighStarts_59 clX0 lkX0_9 (by decide) rfl rfl ?_
        refine z_iload (pc := 62) h dX0_weighStarts_62 rfl ?_
        refine z_bipush (pc := 64) h dX0_weighStarts_64 rfl ?_
        refine z_iadd (pc := 66) h dX0_weighStarts_66 ?_
        refine z_bipush (pc := 67) h dX0_weighStarts_67 rfl ?_
        refine z_iremN (pc := 69) h dX0_weighStarts_69 ⟨by omega, by omega⟩ ⟨by decide, by decide⟩ ?_
        refine z_iald (pc := 70) h dX0_weighStarts_70 rfl (by decide) (by omega) (by omega) ?_
        refine z_cv (b := (pk it P (isF ((p + 31) % 60)) n.toNat)) (by first | (rw [hs1]; exact hi1) | (show S1 42 _ = _; rw [hs1]; exact hi1)) ?_
        refine z_aload_n (pc := 71) h dX0_weighStarts_71 rfl ?_
        refine z_getR (a := 42) (pc := 72) h dX0_weighStarts_72 clX0 lkX0_9 (by decide) rfl rfl ?_
        refine z_iload (pc := 75) h dX0_weighStarts_75 rfl ?_
        refine z_iconst (pc := 77) h dX0_weighStarts_77 ?_
        refine z_iadd (pc := 78) h dX0_weighStarts_78 ?_
        refine z_bipush (pc := 79) h dX0_weighStarts_79 rfl ?_
        refine z_iremN (pc := 81) h dX0_weighStarts_81 ⟨by omega, by omega⟩ ⟨by decide, by decide⟩ ?_
        refine z_iald (pc := 82) h dX0_weighStarts_82 rfl (by decide) (by omega) (by omega) ?_
        refine z_cv (b := (pk it P (isF ((p + 1) % 60)) n.toNat)) (by first | (rw [hs1]; exact hi2) | (show S1 42 _ = _; rw [hs1]; exact hi2)) ?_
        refine z_isub (pc := 83) h dX0_weighStarts_83 ?_
        refine z_iadd (pc := 84) h dX0_weighStarts_84 ?_
        refine z_istore_n (pc := 85) (loc' := [some (zr 41), some (zi n), some (zi P), some (zi (u + ((pk it P (isF ((p + 31) % 60)) n.toNat) - (pk it P (isF ((p + 1) % 60)) n.toNat)))), some (zi (z + (n - (2 * u)))), some (zi p)]) h dX0_weighStarts_85 rfl (Nat.le_of_ble_eq_true rfl) rfl rfl ?_
        refine z_iinc (pc := 86) (loc' := [some (zr 41), some (zi n), some (zi P), some (zi (u + ((pk it P (isF ((p + 31) % 60)) n.toNat) - (pk it P (isF ((p + 1) % 60)) n.toNat)))), some (zi (z + (n - (2 * u)))), some (zi (p + 1))]) h dX0_weighStarts_86 rfl (Nat.le_of_ble_eq_true rfl) rfl rfl ?_
        refine z_goto (pc := 89) (tgt := 14) h dX0_weighStarts_89 (by decide) ?_
        exact ih14 _ (by omega) (u + ((pk it P (isF ((p + 31) % 60)) n.toNat) - (pk it P (isF ((p + 1) % 60)) n.toNat))) (z + (n - (2 * u))) (p + 1) S1 (by omega) (by rw [pk_ah, hu]) (by rw [pk_ds, hz, hu, show ((n.toNat : Nat) : Int) = n by omega]) (by first | exact hF | (intro x y q; rw [up2_e, if_neg (by omega), up2_e, if_neg (by omega), up2_e, if_neg (by omega)]; exact hF x y q)) (by first | exact btP_f hJ (by omega) (by omega) hz hc27 | exact btP_t hJ (by omega) (by omega) (by omega) hz hc27 (by rw [up2_j _ _ (by decide), up2_j _ _ (by decide), up2_s]) (by rw [up2_j _ _ (by decide), up2_s]) (up2_s _ _ _ _)) rfl
      ·
        refine z_aload_n (pc := 30) h dX0_weighStarts_30 rfl ?_
        refine z_iload (pc := 31) h dX0_weighStarts_31 rfl ?_
        refine z_putI (pc := 33) h dX0_weighStarts_33 clX0 lkX0_15 (by decide) rfl rfl rfl rfl ?_
        refine z_aload_n (pc := 36) h dX0_weighStarts_36 rfl ?_
        refine z_iload_n (pc := 37) h dX0_weighStarts_37 rfl ?_
        refine z_putI (pc := 38) h dX0_weighStarts_38 clX0 lkX0_55 (by decide) rfl rfl rfl rfl ?_
        refine z_aload_n (pc := 41) h dX0_weighStarts_41 rfl ?_
        refine z_iload (pc := 42) h dX0_weighStarts_42 rfl ?_
        refine z_putI (pc := 44) h dX0_weighStarts_44 clX0 lkX0_58 (by decide) rfl rfl rfl rfl ?_
        refine z_iload (pc := 47) h dX0_weighStarts_47 rfl ?_
        refine z_iload_n (pc := 49) h dX0_weighStarts_49 rfl ?_
        refine z_iconst (pc := 50) h dX0_weighStarts_50 ?_
        refine z_iload_n (pc := 51) h dX0_weighStarts_51 rfl ?_
        refine z_imul (pc := 52) h dX0_weighStarts_52 ?_
        refine z_isub (pc := 53) h dX0_weighStarts_53 ?_
        refine z_iadd (pc := 54) h dX0_weighStarts_54 ?_
        refine z_istore (pc := 55) (loc' := [some (zr 41), some (zi n), some (zi P), some (zi u), some (zi (z + (n - (2 * u)))), some (zi p)]) h dX0_weighStarts_55 (Nat.le_of_ble_eq_true rfl) rfl rfl ?_
        refine z_iload_n (pc := 57) h dX0_weighStarts_57 rfl ?_
        refine z_aload_n (pc := 58) h dX0_weighStarts_58 rfl ?_
        refine z_getR (a := 42) (pc := 59) h dX0_weighStarts_59 clX0 lkX0_9 (by decide) rfl rfl ?_
        refine z_iload (pc := 62) h dX0_weighStarts_62 rfl ?_
        refine z_bipush (pc := 64) h dX0_weighStarts_64 rfl ?_
        refine z_iadd (pc := 66) h dX0_weighStarts_66 ?_
        refine z_bipush (pc := 67) h dX0_weighStarts_67 rfl ?_
        refine z_iremN (pc := 69) h dX0_weighStarts_69 ⟨by omega, by omega⟩ ⟨by decide, by decide⟩ ?_
        refine z_iald (pc := 70) h dX0_weighStarts_70 rfl (by decide) (by omega) (by omega) ?_
        refine z_cv (b := (S1 42 (Int.toNat ((p + 31) % 60)))) (by rw [up2_k _ _ (by decide), up2_k _ _ (by decide), up2_k _ _ (by decide)]) ?_
        refine z_cv (b := (pk it P (isF ((p + 31) % 60)) n.toNat)) (by first | (rw [hs1]; exact hi1) | (show S1 42 _ = _; rw [hs1]; exact hi1)) ?_
        refine z_aload_n (pc := 71) h dX0_weighStarts_71 rfl ?_
        refine z_getR (a := 42) (pc := 72) h dX0_weighStarts_72 clX0 lkX0_9 (by decide) rfl rfl ?_
        refine z_iload (pc := 75) h dX0_weighStarts_75 rfl ?_
        refine z_iconst (pc := 77) h dX0_weighStarts_77 ?_
        refine z_iadd (pc := 78) h dX0_weighStarts_78 ?_
        refine z_bipush (pc := 79) h dX0_weighStarts_79 rfl ?_
        refine z_iremN (pc := 81) h dX0_weighStarts_81 ⟨by omega, by omega⟩ ⟨by decide, by decide⟩ ?_
        refine z_iald (pc := 82) h dX0_weighStarts_82 rfl (by decide) (by omega) (by omega) ?_
        refine z_cv (b := (S1 42 (Int.toNat ((p + 1) % 60)))) (by rw [up2_k _ _ (by decide), up2_k _ _ (by decide), up2_k _ _ (by decide)]) ?_
        refine z_cv (b := (pk it P (isF ((p + 1) % 60)) n.toNat)) (by first | (rw [hs1]; exact hi2) | (show S1 42 _ = _; rw [hs1]; exact hi2)) ?_
        refine z_isub (pc := 83) h dX0_weighStarts_83 ?_
        refine z_iadd (pc := 84) h dX0_weighStarts_84 ?_
        refine z_istore_n (pc := 85) (loc' := [some (zr 41), some (zi n), some (zi P), some (zi (u + ((pk it P (isF ((p + 31) % 60)) n.toNat) - (pk it P (isF ((p + 1) % 60)) n.toNat)))), some (zi (z + (n - (2 * u)))), some (zi p)]) h dX0_weighStarts_85 rfl (Nat.le_of_ble_eq_true rfl) rfl rfl ?_
        refine z_iinc (pc := 86) (loc' := [some (zr 41), some (zi n), some (zi P), some (zi (u + ((pk it P (isF ((p + 31) % 60)) n.toNat) - (pk it P (isF ((p + 1) % 60)) n.toNat)))), some (zi (z + (n - (2 * u)))), some (zi (p + 1))]) h dX0_weighStarts_86 rfl (Nat.le_of_ble_eq_true rfl) rfl rfl ?_
        refine z_goto (pc := 89) (tgt := 14) h dX0_weighStarts_89 (by decide) ?_
        exact ih14 _ (by omega) (u + ((pk it P (isF ((p + 31) % 60)) n.toNat) - (pk it P (isF ((p + 1) % 60)) n.toNat))) (z + (n - (2 * u))) (p + 1) (up2 (up2 (up2 S1 41 3 z) 41 1 P) 41 2 p) (by omega) (by rw [pk_ah, hu]) (by rw [pk_ds, hz, hu, show ((n.toNat : Nat) : Int) = n by omega]) (by first | exact hF | (intro x y q; rw [up2_e, if_neg (by omega), up2_e, if_neg (by omega), up2_e, if_neg (by omega)]; exact hF x y q)) (by first | exact btP_f hJ (by omega) (by omega) hz hc27 | exact btP_t hJ (by omega) (by omega) (by omega) hz hc27 (by rw [up2_j _ _ (by decide), up2_j _ _ (by decide), up2_s]) (by rw [up2_j _ _ (by decide), up2_s]) (up2_s _ _ _ _)) rfl
  exact J14 _ (pk it P (ahF 0) n.toNat) (pk it P (dsF 0) n.toNat) 0 S (by omega) (rfl) (rfl) (fun _ _ _ => rfl) (by rw [Int.add_zero]; exact hI) rfl

set_option maxRecDepth 100000 in
set_option maxHeartbeats 4000000 in
theorem m_X0_unbend (k : Nat) (a P : Int) (A S : SS) (hk : isSheet k) (hs : isH a) (hke : k = 16 + 2 * a.toNat) (hL : relH S A k a.toNat) (hm : MI A) (hP : 0 ≤ P ∧ P ≤ 59) : zM LX yX0_unbend cX0_unbend 5 none 2 43 [zr 41, zr k, zi P] S (fun r S' => r = none ∧ (∀ x y, x ≠ 42 → S' x y = S x y) ∧ hist (itA A a) P (nIt A a) S') := by
  refine zM_of (own := RX0) rfl (by decide +kernel) [some (zr 41), some (zr k), some (zi P), none, none] (Nat.le_of_ble_eq_true rfl) rfl ?_
  intro x h
  have hn := mi_hn hm a.toNat
  have e3 : S k 3 = A 16 a.toNat := hL.2.2.1
  refine z_aload_n (pc := 0) h dX0_unbend_0 rfl ?_
  refine z_getR (a := 42) (pc := 1) h dX0_unbend_1 clX0 lkX0_9 (by decide) rfl rfl ?_
  refine z_iconst (pc := 4) h dX0_unbend_4 ?_
  refine z_callS (pc := 5) (rest := ([] : List zV)) h (m_J7_fill_53178 42 0 S rfl) dX0_unbend_5 mcJ7_fill_53178 msJ7_fill_53178 mlX0_32 rfl rfl ⟨by decide, by decide⟩ rfl (Nat.le_of_ble_eq_true rfl) ?_
  rintro _ S5 ⟨rfl, hr5a, hr5b⟩
  show zG x LX 8 [some (zr 41), some (zr k), some (zi P), none, none] ([] : List zV) S5
  refine z_iconst (pc := 8) h dX0_unbend_8 ?_
  refine z_istore_n (pc := 9) (loc' := [some (zr 41), some (zr k), some (zi P), some (zi 0), none]) h dX0_unbend_9 rfl (Nat.le_of_ble_eq_true rfl) rfl rfl ?_
  have J10 : ∀ (N : Nat) (i : Int) (S1 : SS) (hi : 0 ≤ i ∧ i ≤ A 16 a.toNat) (hF : ∀ x y, x ≠ 42 → S1 x y = S x y) (hH : hist (itA A a) P i.toNat S1) , (A 16 a.toNat - i).toNat = N → zG x LX 10 [some (zr 41), some (zr k), some (zi P), some (zi i), none] ([] : List zV) S1 := by
    intro N
    induction N using Nat.strongRecOn with
    | _ N ih10 => ?_
    intro i S1 hi hF hH hN10
    have e31 : S1 k 3 = A 16 a.toNat := by rw [hF _ _ (by omega)]; exact e3
    refine z_iload_n (pc := 10) h dX0_unbend_10 rfl ?_
    refine z_aload_n (pc := 11) h dX0_unbend_11 rfl ?_
    refine z_getI (pc := 12) h dX0_unbend_12 clX6 lkX0_23 (by decide) hk.1 rfl ?_
    refine z_icmp_ge (pc := 15) (tgt := 56) h dX0_unbend_15 (by decide) ⟨by omega, by omega⟩ ⟨by omega, by omega⟩ (fun hc15 => ?_) (fun hc15 => ?_)
    ·
      exact z_vret (pc := 56) h dX0_unbend_56 rfl (⟨rfl, hF, by unfold nIt; rw [show i = A 16 a.toNat by omega] at hH; exact hH⟩)
    ·
      have hob := offO_b (itA A a) P i.toNat
      have hxi : S1 (k + 1) i.toNat = itA A a i.toNat := by rw [hF _ _ (by omega)]; exact hL.2.2.2 i.toNat (by omega)
      have hx32 : r32 (itA A a i.toNat) := mi_hi hm _
      have hmb := mul_bd (a := P) (A := 59) (b := i) (B := 60) hP (by omega)
      refine z_aload_n (pc := 18) h dX0_unbend_18 rfl ?_
      refine z_iload_n (pc := 19) h dX0_unbend_19 rfl ?_
      refine z_callV (pc := 20) (rest := ([] : List zV)) h (m_X6_itemAt k i S1 (by assumption) (by first | assumption | omega) ⟨by omega, by omega⟩) dX0_unbend_20 mcX6_itemAt miX6_itemAt mlX0_38 rfl rfl ⟨by decide, by decide⟩ clX6 hk.1 rfl rfl (Nat.le_of_ble_eq_true rfl) ?_
      rintro _ _ ⟨rfl, rfl⟩
      show zG x LX 23 [some (zr 41), some (zr k), some (zi P), some (zi i), none] [zi (itF (S1 (k + 1)) (S1 k 3) i)] S1
      refine z_cv (b := (itA A a i.toNat)) (by unfold itF; rw [if_pos (by omega)]; exact hxi) ?_
      refine z_bipush (pc := 23) h dX0_unbend_23 rfl ?_
      refine z_callS (pc := 25) (rest := ([] : List zV)) h (m_J9_floorMod_7cf53 (itA A a i.toNat) 60 S1 ⟨by omega, by omega⟩ (by first | assumption | omega)) dX0_unbend_25 mcJ9_floorMod_7cf53 msJ9_floorMod_7cf53 mlX0_42 rfl rfl ⟨by decide, by decide⟩ rfl (Nat.le_of_ble_eq_true rfl) ?_
      rintro _ _ ⟨rfl, rfl⟩
      show zG x LX 28 [some (zr 41), some (zr k), some (zi P), some (zi i), none] [zi ((itA A a i.toNat) % 60)] S1
      refine z_istore (pc := 28) (loc' := [some (zr 41), some (zr k), some (zi P), some (zi i), some (zi ((itA A a i.toNat) % 60))]) h dX0_unbend_28 (Nat.le_of_ble_eq_true rfl) rfl rfl ?_
      refine z_aload_n (pc := 30) h dX0_unbend_30 rfl ?_
      refine z_getR (a := 42) (pc := 31) h dX0_unbend_31 clX0 lkX0_9 (by decide) rfl rfl ?_
      refine z_iload (pc := 34) h dX0_unbend_34 rfl ?_
      refine z_iload_n (pc := 36) h dX0_unbend_36 rfl ?_
      refine z_iload_n (pc := 37) h dX0_unbend_37 rfl ?_
      refine z_imul (pc := 38) h dX0_unbend_38 ?_
      refine z_isub (pc := 39) h dX0_unbend_39 ?_
      refine z_bipush (pc := 40) h dX0_unbend_40 rfl ?_
      refine z_callS (pc := 42) (rest := [zr 42]) h (m_J9_floorMod_7cf53 (((itA A a i.toNat) % 60) - (P * i)) 60 S1 ⟨by omega, by omega⟩ (by first | assumption | omega)) dX0_unbend_42 mcJ9_floorMod_7cf53 msJ9_floorMod_7cf53 mlX0_42 rfl rfl ⟨by decide, by decide⟩ rfl (Nat.le_of_ble_eq_true rfl) ?_
      rintro _ _ ⟨rfl, rfl⟩
      show zG x LX 45 [some (zr 41), some (zr k), some (zi P), some (zi i), some (zi ((itA A a i.toNat) % 60))] [zi ((((itA A a i.toNat) % 60) - (P * i)) % 60), zr 42] S1
      refine z_cv (b := (offO (itA A a) P i.toNat)) (by unfold offO; rw [show ((i.toNat : Nat) : Int) = i by omega]) ?_
      refine z_dup2 (pc := 45) h dX0_unbend_45 rfl rfl ?_
      refine z_iald (pc := 46) h dX0_unbend_46 rfl (by decide) (by omega) (by omega) ?_
      refine z_iconst (pc := 47) h dX0_unbend_47 ?_
      refine z_iadd (pc := 48) h dX0_unbend_48 ?_
      refine z_iast (pc := 49) h dX0_unbend_49 rfl (by decide) (by omega) (by omega) ?_
      refine z_iinc (pc := 50) (loc' := [some (zr 41), some (zr k), some (zi P), some (zi (i + 1)), some (zi ((itA A a i.toNat) % 60))]) h dX0_unbend_50 rfl (Nat.le_of_ble_eq_true rfl) rfl rfl ?_
      refine z_goto (pc := 53) (tgt := 10) h dX0_unbend_53 (by decide) ?_
      refine z_forget [true, true, true, true, false] (loc' := [some (zr 41), some (zr k), some (zi P), some (zi (i + 1)), none]) rfl ?_
      exact ih10 _ (by omega) (i + 1) (up2 S1 42 (Int.toNat (offO (itA A a) P i.toNat)) ((S1 42 (Int.toNat (offO (itA A a) P i.toNat))) + 1)) (by omega) (fun x y q => by rw [up2_k _ _ q]; exact hF x y q) (by intro w hw; rw [pk_s _ _ _ hi.1]; by_cases hj : w = (offO (itA A a) P i.toNat).toNat; (subst hj; rw [up2_s, hH _ hw]; unfold isF; rw [if_pos (by omega)]); (rw [up2_j _ _ hj, hH w hw]; unfold isF; rw [if_neg (by omega), Int.add_zero])) rfl
  exact J10 _ 0 S5 (by omega) (fun x y q => hr5b x y (fun q2 => q q2.1)) (fun w hw => hr5a w hw) rfl

set_option maxRecDepth 100000 in
set_option maxHeartbeats 4000000 in
theorem m_X0_search (k : Nat) (a : Int) (A S : SS) (hk : isSheet k) (hs : isH a) (hke : k = 16 + 2 * a.toNat) (hL : relH S A k a.toNat) (hm : MI A) : zM LX yX0_search cX0_search 3 none 3 68 [zr 41, zr k] S (fun r S' => r = none ∧ (∀ x y, ¬ (x = 41 ∧ 1 ≤ y) → x ≠ 42 → S' x y = S x y) ∧ S' 41 1 = (bldF (itA A a) (nIt A a)).1 / 60 ∧ S' 41 2 = (bldF (itA A a) (nIt A a)).1 % 60 ∧ S' 41 3 = (bldF (itA A a) (nIt A a)).2) := by
  refine zM_of (own := RX0) rfl (by decide +kernel) [some (zr 41), some (zr k), none] (Nat.le_of_ble_eq_true rfl) rfl ?_
  intro x h
  have hn := mi_hn hm a.toNat
  have e3 : S k 3 = A 16 a.toNat := hL.2.2.1
  have hN : nIt A a = (A 16 a.toNat).toNat := rfl
  refine z_aload_n (pc := 0) h dX0_search_0 rfl ?_
  refine z_sipush (pc := 1) h dX0_search_1 rfl ?_
  refine z_putI (pc := 4) h dX0_search_4 clX0 lkX0_15 (by decide) rfl rfl rfl rfl ?_
  refine z_iconst (pc := 7) h dX0_search_7 ?_
  refine z_istore_n (pc := 8) (loc' := [some (zr 41), some (zr k), some (zi 0)]) h dX0_search_8 rfl (Nat.le_of_ble_eq_true rfl) rfl rfl ?_
  have J9 : ∀ (N : Nat) (p : Int) (S1 : SS) (hp : 0 ≤ p ∧ p ≤ 60) (hF : ∀ x y, ¬ (x = 41 ∧ 1 ≤ y) → x ≠ 42 → S1 x y = S x y) (hI : btP (itA A a) (nIt A a) S1 (60 * p)) , (60 - p).toNat = N → zG x LX 9 [some (zr 41), some (zr k), some (zi p)] ([] : List zV) S1 := by
    intro N
    induction N using Nat.strongRecOn with
    | _ N ih9 => ?_
    intro p S1 hp hF hI hN9
    refine z_iload_n (pc := 9) h dX0_search_9 rfl ?_
    refine z_bipush (pc := 10) h dX0_search_10 rfl ?_
    refine z_icmp_ge (pc := 12) (tgt := 36) h dX0_search_12 (by decide) ⟨by omega, by omega⟩ ⟨by decide, by decide⟩ (fun hc12 => ?_) (fun hc12 => ?_)
    ·
      exact z_vret (pc := 36) h dX0_search_36 rfl (⟨rfl, hF, btP_x hI (by omega) (by omega)⟩)
    ·
      have hL1 : relH S1 A k a.toNat := relH_keep hL (funext fun y => hF _ _ (by omega) (by omega)) (funext fun y => hF _ _ (by omega) (by omega)) rfl rfl rfl (fun _ _ => rfl)
      refine z_aload_n (pc := 15) h dX0_search_15 rfl ?_
      refine z_aload_n (pc := 16) h dX0_search_16 rfl ?_
      refine z_iload_n (pc := 17) h dX0_search_17 rfl ?_
      refine z_callV (pc := 18) (rest := ([] : List zV)) h (m_X0_unbend k a p A S1 (by assumption) (by first | assumption | omega) (by first | assumption | omega) hL1 (by first | assumption | omega) (by first | assumption | omega)) dX0_search_18 mcX0_unbend miX0_unbend mlX0_19 rfl rfl ⟨by decide, by decide⟩ clX0 rfl rfl rfl (Nat.le_of_ble_eq_true rfl) ?_
      rintro _ S18 ⟨rfl, hr18f, hr18h⟩
      show zG x LX 21 [some (zr 41), some (zr k), some (zi p)] ([] : List zV) S18
      have e31 : S18 k 3 = A 16 a.toNat := by rw [hr18f _ _ (by omega)]; exact hL1.2.2.1
      refine z_aload_n (pc := 21) h dX0_search_21 rfl ?_
      refine z_aload_n (pc := 22) h dX0_search_22 rfl ?_
      refine z_getI (pc := 23) h dX0_search_23 clX6 lkX0_23 (by decide) hk.1 rfl ?_
      refine z_cv (b := (A 16 a.toNat)) (by exact e31) ?_
      refine z_iload_n (pc := 26) h dX0_search_26 rfl ?_
      refine z_callV (pc := 27) (rest := ([] : List zV)) h (m_X0_weighStarts (itA A a) (A 16 a.toNat) p S18 hr18h (by first | assumption | omega) (by first | assumption | omega) (btP_e hI (fun j => hr18f _ _ (by decide)))) dX0_search_27 mcX0_weighStarts miX0_weighStarts mlX0_28 rfl rfl ⟨by decide, by decide⟩ clX0 rfl rfl rfl (Nat.le_of_ble_eq_true rfl) ?_
      rintro _ S27 ⟨rfl, hr27f, hr27b⟩
      show zG x LX 30 [some (zr 41), some (zr k), some (zi p)] ([] : List zV) S27
      refine z_iinc (pc := 30) (loc' := [some (zr 41), some (zr k), some (zi (p + 1))]) h dX0_search_30 rfl (Nat.le_of_ble_eq_true rfl) rfl rfl ?_
      refine z_goto (pc := 33) (tgt := 9) h dX0_search_33 (by decide) ?_
      exact ih9 _ (by omega) (p + 1) S27 (by omega) (fun x y q q2 => by rw [hr27f x y q, hr18f x y q2]; exact hF x y q q2) (by rw [show 60 * (p + 1) = 60 * p + 60 by omega]; exact hr27b) rfl
  exact J9 _ 0 (up2 S 41 3 3600) (by omega) (fun x y q _ => by rw [up2_e, if_neg (by omega)]) (btP_0 (by omega) (up2_s _ _ _ _)) rfl

set_option maxRecDepth 100000 in
set_option maxHeartbeats 4000000 in
theorem m_X10_bent (a b : Int) (A S : SS) (ha : r32 a) (hb : r32 b) (hR : cRel S A) : zM LX yX10_bent cX10_bent 4 (some .int) 4 90 [zr 0, zi a, zi b] S (fun r S' => r = some (zi (sp_bent A a b)) ∧ cRel S' (st_bent A a b)) := by
  refine zM_of (own := RX10) rfl (by decide +kernel) [some (zr 0), some (zi a), some (zi b), none] (Nat.le_of_ble_eq_true rfl) rfl ?_
  intro x h
  refine z_aload_n (pc := 0) h dX10_bent_0 rfl ?_
  refine z_iload_n (pc := 1) h dX10_bent_1 rfl ?_
  refine z_callV (pc := 2) (rest := ([] : List zV)) h (m_X10_sheetAt a S ⟨by omega, by omega⟩) dX10_bent_2 mcX10_sheetAt miX10_sheetAt mlX10_168 rfl rfl ⟨by decide, by decide⟩ clX10 rfl rfl rfl (Nat.le_of_ble_eq_true rfl) ?_
  rintro _ _ ⟨rfl, ⟨hr2, v2, hr2k, hr2e, rfl⟩ | ⟨hr2, rfl⟩⟩
  ·
    show zG x LX 5 [some (zr 0), some (zi a), some (zi b), none] [zr v2] S
    refine z_astore_n (pc := 5) (loc' := [some (zr 0), some (zi a), some (zi b), some (zr v2)]) h dX10_bent_5 rfl (Nat.le_of_ble_eq_true rfl) rfl rfl ?_
    refine z_aload_n (pc := 6) h dX10_bent_6 rfl ?_
    refine z_ifnull_r (pc := 7) h dX10_bent_7 ?_
    refine z_iload_n (pc := 10) h dX10_bent_10 rfl ?_
    refine z_iconst (pc := 11) h dX10_bent_11 ?_
    refine z_iconst (pc := 12) h dX10_bent_12 ?_
    refine z_callS (pc := 13) (rest := ([] : List zV)) h (m_X10_within b 0 2 S ⟨by omega, by omega⟩ ⟨by decide, by decide⟩ ⟨by decide, by decide⟩) dX10_bent_13 mcX10_within msX10_within mlX10_75 rfl rfl ⟨by decide, by decide⟩ rfl (Nat.le_of_ble_eq_true rfl) ?_
    rintro _ _ ⟨rfl, ⟨hr13, rfl⟩ | ⟨hr13, rfl⟩⟩
    ·
      show zG x LX 16 [some (zr 0), some (zi a), some (zi b), some (zr v2)] [zi 1] S
      refine z_if_ne (pc := 16) (tgt := 22) h dX10_bent_16 (by decide) ⟨by decide, by decide⟩ (fun hc16 => ?_) (fun hc16 => absurd hc16 (by decide))
      obtain ⟨g0, g1, g2, g3, g4, g5, g6⟩ := rel_sheet hR hr2 hr2e
      refine z_aload_n (pc := 22) h dX10_bent_22 rfl ?_
      refine z_getI (pc := 23) h dX10_bent_23 clX6 lkX10_172 (by decide) hr2k.1 rfl ?_
      refine z_if_eq (pc := 26) (tgt := 35) h dX10_bent_26 (by decide) ⟨by omega, by omega⟩ (fun hc26 => ?_) (fun hc26 => ?_)
      ·
        refine z_aload_n (pc := 35) h dX10_bent_35 rfl ?_
        refine z_getI (pc := 36) h dX10_bent_36 clX6 lkX10_179 (by decide) hr2k.1 rfl ?_
        refine z_if_ne (pc := 39) (tgt := 45) h dX10_bent_39 (by decide) ⟨by omega, by omega⟩ (fun hc39 => ?_) (fun hc39 => ?_)
        ·
          refine z_aload_n (pc := 45) h dX10_bent_45 rfl ?_
          refine z_getR (a := 41) (pc := 46) h dX10_bent_46 clX10 lkX10_60 (by decide) rfl rfl ?_
          refine z_aload_n (pc := 49) h dX10_bent_49 rfl ?_
          refine z_callV (pc := 50) (rest := ([] : List zV)) h (m_X0_search v2 a A S hr2k hr2 hr2e g0 hR.1) dX10_bent_50 mcX0_search miX0_search mlX10_257 rfl rfl ⟨by decide, by decide⟩ clX0 rfl rfl rfl (Nat.le_of_ble_eq_true rfl) ?_
          rintro _ S50 ⟨rfl, hr50f, hr50a, hr50b, hr50c⟩
          show zG x LX 53 [some (zr 0), some (zi a), some (zi b), some (zr v2)] ([] : List zV) S50
          refine z_iload_n (pc := 53) h dX10_bent_53 rfl ?_
          refine z_if_ne (pc := 54) (tgt := 67) h dX10_bent_54 (by decide) ⟨by omega, by omega⟩ (fun hc54 => ?_) (fun hc54 => ?_)
          ·
            refine z_iload_n (pc := 67) h dX10_bent_67 rfl ?_
            refine z_iconst (pc := 68) h dX10_bent_68 ?_
            refine z_icmp_ne (pc := 69) (tgt := 82) h dX10_bent_69 (by decide) ⟨by omega, by omega⟩ ⟨by decide, by decide⟩ (fun hc69 => ?_) (fun hc69 => ?_)
            ·
              refine z_aload_n (pc := 82) h dX10_bent_82 rfl ?_
              refine z_getR (a := 41) (pc := 83) h dX10_bent_83 clX10 lkX10_60 (by decide) rfl rfl ?_
              refine z_getI (pc := 86) h dX10_bent_86 clX0 lkX10_264 (by decide) rfl rfl ?_
              refine z_iret (pc := 89) h dX10_bent_89 rfl ?_
              refine ⟨ap_some ?_, by unfold st_bent; rw [if_pos (by omega), if_neg (by omega)]; exact cRel_keep hR (fun x y h1 h2 h3 h4 h5 => hr50f x y (by omega) (by omega))⟩
              unfold sp_bent
              rw [if_pos (by omega), if_neg (by omega), if_neg (by omega)]
              unfold bentF
              first
                | (rw [if_pos (by omega)]; exact hr50a)
                | (rw [if_neg (by omega), if_pos (by omega)]; exact hr50b)
                | (rw [if_neg (by omega), if_neg (by omega)]; exact hr50c)
            ·
              refine z_aload_n (pc := 72) h dX10_bent_72 rfl ?_
              refine z_getR (a := 41) (pc := 73) h dX10_bent_73 clX10 lkX10_60 (by decide) rfl rfl ?_
              refine z_getI (pc := 76) h dX10_bent_76 clX0 lkX10_263 (by decide) rfl rfl ?_
              refine z_goto (pc := 79) (tgt := 89) h dX10_bent_79 (by decide) ?_
              refine z_iret (pc := 89) h dX10_bent_89 rfl ?_
              refine ⟨ap_some ?_, by unfold st_bent; rw [if_pos (by omega), if_neg (by omega)]; exact cRel_keep hR (fun x y h1 h2 h3 h4 h5 => hr50f x y (by omega) (by omega))⟩
              unfold sp_bent
              rw [if_pos (by omega), if_neg (by omega), if_neg (by omega)]
              unfold bentF
              first
                | (rw [if_pos (by omega)]; exact hr50a)
                | (rw [if_neg (by omega), if_pos (by omega)]; exact hr50b)
                | (rw [if_neg (by omega), if_neg (by omega)]; exact hr50c)
          ·
            refine z_aload_n (pc := 57) h dX10_bent_57 rfl ?_
            refine z_getR (a := 41) (pc := 58) h dX10_bent_58 clX10 lkX10_60 (by decide) rfl rfl ?_
            refine z_getI (pc := 61) h dX10_bent_61 clX0 lkX10_260 (by decide) rfl rfl ?_
            refine z_goto (pc := 64) (tgt := 89) h dX10_bent_64 (by decide) ?_
            refine z_iret (pc := 89) h dX10_bent_89 rfl ?_
            refine ⟨ap_some ?_, by unfold st_bent; rw [if_pos (by omega), if_neg (by omega)]; exact cRel_keep hR (fun x y h1 h2 h3 h4 h5 => hr50f x y (by omega) (by omega))⟩
            unfold sp_bent
            rw [if_pos (by omega), if_neg (by omega), if_neg (by omega)]
            unfold bentF
            first
              | (rw [if_pos (by omega)]; exact hr50a)
              | (rw [if_neg (by omega), if_pos (by omega)]; exact hr50b)
              | (rw [if_neg (by omega), if_neg (by omega)]; exact hr50c)
        ·
          refine z_bipush (pc := 42) h dX10_bent_42 rfl ?_
          refine z_iret (pc := 44) h dX10_bent_44 rfl ?_
          exact ⟨ap_some (by unfold sp_bent; rw [if_pos (by omega), if_neg (by omega), if_pos (by omega)]), by unfold st_bent; rw [if_pos (by omega), if_neg (by omega)]; exact hR⟩
      ·
        refine z_aload_n (pc := 29) h dX10_bent_29 rfl ?_
        refine z_iconst (pc := 30) h dX10_bent_30 ?_
        refine z_callV (pc := 31) (rest := ([] : List zV)) h (m_X10_finding 1 S ) dX10_bent_31 mcX10_finding miX10_finding mlX10_176 rfl rfl ⟨by decide, by decide⟩ clX10 rfl rfl rfl (Nat.le_of_ble_eq_true rfl) ?_
        rintro _ _ ⟨rfl, rfl⟩
        show zG x LX 34 [some (zr 0), some (zi a), some (zi b), some (zr v2)] [zi (-10 - 1)] (up2 S 0 11 1)
        refine z_iret (pc := 34) h dX10_bent_34 rfl ?_
        exact ⟨ap_some (by unfold sp_bent; rw [if_pos (by omega), if_pos (by omega)]; try omega), by unfold st_bent; rw [if_pos (by omega), if_pos (by omega)]; exact cRel_find hR (by omega)⟩
    ·
      show zG x LX 16 [some (zr 0), some (zi a), some (zi b), some (zr v2)] [zi 0] S
      refine z_if_ne (pc := 16) (tgt := 22) h dX10_bent_16 (by decide) ⟨by decide, by decide⟩ (fun hc16 => absurd hc16 (by decide)) (fun hc16 => ?_)
      refine z_bipush (pc := 19) h dX10_bent_19 rfl ?_
      refine z_iret (pc := 21) h dX10_bent_21 rfl ?_
      exact ⟨ap_some (by unfold sp_bent; rw [if_neg (by omega)]), by unfold st_bent; rw [if_neg (by omega)]; exact hR⟩
  ·
    show zG x LX 5 [some (zr 0), some (zi a), some (zi b), none] [zn] S
    refine z_nstore_n (pc := 5) (loc' := [some (zr 0), some (zi a), some (zi b), some (zn)]) h dX10_bent_5 rfl (Nat.le_of_ble_eq_true rfl) rfl rfl ?_
    refine z_nload_n (pc := 6) h dX10_bent_6 rfl ?_
    refine z_ifnull_n (pc := 7) (tgt := 19) h dX10_bent_7 (by decide) ?_
    refine z_bipush (pc := 19) h dX10_bent_19 rfl ?_
    refine z_iret (pc := 21) h dX10_bent_21 rfl ?_
    exact ⟨ap_some (by unfold sp_bent; rw [if_neg (by omega)]), by unfold st_bent; rw [if_neg (by omega)]; exact hR⟩

def wayF (a b : Int) : Int := if 30 < (b - a + 60) % 60 then (b - a + 60) % 60 - 60 else (b - a + 60) % 60
theorem wayF_b (a b : Int) : -29 ≤ wayF a b ∧ wayF a b ≤ 30 := by unfold wayF; split <;> omega
theorem way_ds {t y P x : Int} {it : Nat → Int} (ht : 0 ≤ t) (hx : it y.toNat = x) (hP : t / 60 = P) (hy : 0 ≤ y) : absI (wayF ((t % 60 + P * y) % 60) (x % 60)) = dsF (t % 60) (offO it P y.toNat) := by
  unfold dsF offO wayF absI
  rw [hx, show ((y.toNat : Nat) : Int) = y by omega]
  generalize P * y = u
  (repeat' split) <;> omega

set_option maxRecDepth 100000 in
set_option maxHeartbeats 4000000 in
theorem m_X11_way (a b : Int) (S : SS) (ha : 0 ≤ a ∧ a ≤ 59) (hb : 0 ≤ b ∧ b ≤ 59) : zM LM yX11_way cX11_way 3 (some .int) 0 0 [zi a, zi b] S (fun r S' => S = S' ∧ r = some (zi (wayF a b))) := by
  refine zM_of (own := RX11) rfl (by decide +kernel) [some (zi a), some (zi b), none] (Nat.le_of_ble_eq_true rfl) rfl ?_
  intro x h
  refine z_iload_n (pc := 0) h dX11_way_0 rfl ?_
  refine z_iload_n (pc := 1) h dX11_way_1 rfl ?_
  refine z_isub (pc := 2) h dX11_way_2 ?_
  refine z_bipush (pc := 3) h dX11_way_3 rfl ?_
  refine z_iadd (pc := 5) h dX11_way_5 ?_
  refine z_bipush (pc := 6) h dX11_way_6 rfl ?_
  refine z_iremN (pc := 8) h dX11_way_8 ⟨by omega, by omega⟩ ⟨by decide, by decide⟩ ?_
  refine z_istore_n (pc := 9) (loc' := [some (zi a), some (zi b), some (zi (((b - a) + 60) % 60))]) h dX11_way_9 rfl (Nat.le_of_ble_eq_true rfl) rfl rfl ?_
  refine z_iload_n (pc := 10) h dX11_way_10 rfl ?_
  refine z_bipush (pc := 11) h dX11_way_11 rfl ?_
  refine z_icmp_le (pc := 13) (tgt := 23) h dX11_way_13 (by decide) ⟨by omega, by omega⟩ ⟨by decide, by decide⟩ (fun hc13 => ?_) (fun hc13 => ?_)
  ·
    refine z_iload_n (pc := 23) h dX11_way_23 rfl ?_
    exact z_iret (pc := 24) h dX11_way_24 rfl ⟨rfl, congrArg (fun z => some (zi z)) (by unfold wayF; first | (rw [if_pos (by omega)]) | (rw [if_neg (by omega)]))⟩
  ·
    refine z_iload_n (pc := 16) h dX11_way_16 rfl ?_
    refine z_bipush (pc := 17) h dX11_way_17 rfl ?_
    refine z_isub (pc := 19) h dX11_way_19 ?_
    refine z_goto (pc := 20) (tgt := 24) h dX11_way_20 (by decide) ?_
    exact z_iret (pc := 24) h dX11_way_24 rfl ⟨rfl, congrArg (fun z => some (zi z)) (by unfold wayF; first | (rw [if_pos (by omega)]) | (rw [if_neg (by omega)]))⟩

set_option maxRecDepth 100000 in
set_option maxHeartbeats 4000000 in
theorem m_X11_bent (a b : Int) (A S : SS) (ha : r32 a) (hb : r32 b) (hR : mRel S A) (hm : MI A) : zM LM yX11_bent cX11_bent 9 (some .int) 2 42 [zr 0, zi a, zi b] S (fun r S' => r = some (zi (sp_bent A a b)) ∧ mRel S' (st_bent A a b)) := by
  refine zM_of (own := RX11) rfl (by decide +kernel) [some (zr 0), some (zi a), some (zi b), none, none, none, none, none, none] (Nat.le_of_ble_eq_true rfl) rfl ?_
  intro x h
  refine z_iload_n (pc := 0) h dX11_bent_0 rfl ?_
  refine z_callS (pc := 1) (rest := ([] : List zV)) h (m_X11_isSheet a S ⟨by omega, by omega⟩) dX11_bent_1 mcX11_isSheet msX11_isSheet mlX11_135 rfl rfl ⟨by decide, by decide⟩ rfl (Nat.le_of_ble_eq_true rfl) ?_
  rintro _ _ ⟨rfl, ⟨hr1, rfl⟩ | ⟨hr1, rfl⟩⟩
  ·
    show zG x LM 4 [some (zr 0), some (zi a), some (zi b), none, none, none, none, none, none] [zi 1] S
    refine z_if_eq (pc := 4) (tgt := 16) h dX11_bent_4 (by decide) ⟨by decide, by decide⟩ (fun hc4 => absurd hc4 (by decide)) (fun hc4 => ?_)
    refine z_iload_n (pc := 7) h dX11_bent_7 rfl ?_
    refine z_iconst (pc := 8) h dX11_bent_8 ?_
    refine z_iconst (pc := 9) h dX11_bent_9 ?_
    refine z_callS (pc := 10) (rest := ([] : List zV)) h (m_X11_in b 0 2 S ⟨by omega, by omega⟩ ⟨by decide, by decide⟩ ⟨by decide, by decide⟩) dX11_bent_10 mcX11_in msX11_in mlX11_75 rfl rfl ⟨by decide, by decide⟩ rfl (Nat.le_of_ble_eq_true rfl) ?_
    rintro _ _ ⟨rfl, ⟨hr10, rfl⟩ | ⟨hr10, rfl⟩⟩
    ·
      show zG x LM 13 [some (zr 0), some (zi a), some (zi b), none, none, none, none, none, none] [zi 1] S
      refine z_if_ne (pc := 13) (tgt := 19) h dX11_bent_13 (by decide) ⟨by decide, by decide⟩ (fun hc13 => ?_) (fun hc13 => absurd hc13 (by decide))
      have e14 : S 14 a.toNat = A 14 a.toNat := mr_at hR _ (by decide)
      have e16 : S 16 a.toNat = A 16 a.toNat := mr_at hR _ (by decide)
      have b14 := mi_h hm a.toNat
      have b16 := mi_hn hm a.toNat
      have hN : nIt A a = (A 16 a.toNat).toNat := rfl
      refine z_aload_n (pc := 19) h dX11_bent_19 rfl ?_
      refine z_getR (a := 14) (pc := 20) h dX11_bent_20 clX11 lkX11_49 (by decide) rfl rfl ?_
      refine z_iload_n (pc := 23) h dX11_bent_23 rfl ?_
      refine z_zald (pc := 24) h dX11_bent_24 rfl (by decide) (by omega) (by omega) ?_
      refine z_if_ne (pc := 25) (tgt := 34) h dX11_bent_25 (by decide) ⟨by omega, by omega⟩ (fun hc25 => ?_) (fun hc25 => ?_)
      ·
        refine z_aload_n (pc := 34) h dX11_bent_34 rfl ?_
        refine z_getR (a := 16) (pc := 35) h dX11_bent_35 clX11 lkX11_56 (by decide) rfl rfl ?_
        refine z_iload_n (pc := 38) h dX11_bent_38 rfl ?_
        refine z_iald (pc := 39) h dX11_bent_39 rfl (by decide) (by omega) (by omega) ?_
        refine z_if_ne (pc := 40) (tgt := 46) h dX11_bent_40 (by decide) ⟨by omega, by omega⟩ (fun hc40 => ?_) (fun hc40 => ?_)
        ·
          refine z_iconst (pc := 46) h dX11_bent_46 ?_
          refine z_istore_n (pc := 47) (loc' := [some (zr 0), some (zi a), some (zi b), some (zi 0), none, none, none, none, none]) h dX11_bent_47 rfl (Nat.le_of_ble_eq_true rfl) rfl rfl ?_
          refine z_ldc (pc := 48) (a := 1000000) h kcX11_141 dX11_bent_48 (by decide) ?_
          refine z_istore (pc := 50) (loc' := [some (zr 0), some (zi a), some (zi b), some (zi 0), some (zi 1000000), none, none, none, none]) h dX11_bent_50 (Nat.le_of_ble_eq_true rfl) rfl rfl ?_
          refine z_iconst (pc := 52) h dX11_bent_52 ?_
          refine z_istore (pc := 53) (loc' := [some (zr 0), some (zi a), some (zi b), some (zi 0), some (zi 1000000), some (zi 0), none, none, none]) h dX11_bent_53 (Nat.le_of_ble_eq_true rfl) rfl rfl ?_
          have J55 : ∀ (N : Nat) (best least t : Int) (ht : 0 ≤ t ∧ t ≤ 3600) (hz0 : 0 ≤ best ∧ best ≤ 3599) (hyb : 0 ≤ least ∧ least ≤ 1000000) (hI : fmR (btW (itA A a) (nIt A a)) (3600 - t).toNat t.toNat (best, least) = bldF (itA A a) (nIt A a)) , (3600 - t).toNat = N → zG x LM 55 [some (zr 0), some (zi a), some (zi b), some (zi best), some (zi least), some (zi t), none, none, none] ([] : List zV) S := by
            intro N
            induction N using Nat.strongRecOn with
            | _ N ih55 => ?_
            intro best least t ht hz0 hyb hI hN55
            refine z_iload (pc := 55) h dX11_bent_55 rfl ?_
            refine z_sipush (pc := 57) h dX11_bent_57 rfl ?_
            refine z_icmp_ge (pc := 60) (tgt := 175) h dX11_bent_60 (by decide) ⟨by omega, by omega⟩ ⟨by decide, by decide⟩ (fun hc60 => ?_) (fun hc60 => ?_)
            ·
              refine z_iload_n (pc := 175) h dX11_bent_175 rfl ?_
              refine z_if_ne (pc := 176) (tgt := 186) h dX11_bent_176 (by decide) ⟨by omega, by omega⟩ (fun hc176 => ?_) (fun hc176 => ?_)
              ·
                refine z_iload_n (pc := 186) h dX11_bent_186 rfl ?_
                refine z_iconst (pc := 187) h dX11_bent_187 ?_
                refine z_icmp_ne (pc := 188) (tgt := 198) h dX11_bent_188 (by decide) ⟨by omega, by omega⟩ ⟨by decide, by decide⟩ (fun hc188 => ?_) (fun hc188 => ?_)
                ·
                  refine z_iload (pc := 198) h dX11_bent_198 rfl ?_
                  refine z_iret (pc := 200) h dX11_bent_200 rfl ?_
                  refine ⟨ap_some ?_, by unfold st_bent; rw [if_pos (by omega), if_neg (by omega)]; exact hR⟩
                  unfold sp_bent
                  rw [if_pos (by omega), if_neg (by omega), if_neg (by omega)]
                  unfold bentF
                  rw [fm_0 (by omega)] at hI
                  rw [← hI]
                  first
                    | (rw [if_pos (by omega)])
                    | (rw [if_neg (by omega), if_pos (by omega)])
                    | (rw [if_neg (by omega), if_neg (by omega)])
                ·
                  refine z_iload_n (pc := 191) h dX11_bent_191 rfl ?_
                  refine z_bipush (pc := 192) h dX11_bent_192 rfl ?_
                  refine z_iremN (pc := 194) h dX11_bent_194 ⟨by omega, by omega⟩ ⟨by decide, by decide⟩ ?_
                  refine z_goto (pc := 195) (tgt := 200) h dX11_bent_195 (by decide) ?_
                  refine z_iret (pc := 200) h dX11_bent_200 rfl ?_
                  refine ⟨ap_some ?_, by unfold st_bent; rw [if_pos (by omega), if_neg (by omega)]; exact hR⟩
                  unfold sp_bent
                  rw [if_pos (by omega), if_neg (by omega), if_neg (by omega)]
                  unfold bentF
                  rw [fm_0 (by omega)] at hI
                  rw [← hI]
                  first
                    | (rw [if_pos (by omega)])
                    | (rw [if_neg (by omega), if_pos (by omega)])
                    | (rw [if_neg (by omega), if_neg (by omega)])
              ·
                refine z_iload_n (pc := 179) h dX11_bent_179 rfl ?_
                refine z_bipush (pc := 180) h dX11_bent_180 rfl ?_
                refine z_idivN (pc := 182) h dX11_bent_182 ⟨by omega, by omega⟩ ⟨by decide, by decide⟩ ?_
                refine z_goto (pc := 183) (tgt := 200) h dX11_bent_183 (by decide) ?_
                refine z_iret (pc := 200) h dX11_bent_200 rfl ?_
                refine ⟨ap_some ?_, by unfold st_bent; rw [if_pos (by omega), if_neg (by omega)]; exact hR⟩
                unfold sp_bent
                rw [if_pos (by omega), if_neg (by omega), if_neg (by omega)]
                unfold bentF
                rw [fm_0 (by omega)] at hI
                rw [← hI]
                first
                  | (rw [if_pos (by omega)])
                  | (rw [if_neg (by omega), if_pos (by omega)])
                  | (rw [if_neg (by omega), if_neg (by omega)])
            ·
              refine z_iconst (pc := 63) h dX11_bent_63 ?_
              refine z_istore (pc := 64) (loc' := [some (zr 0), some (zi a), some (zi b), some (zi best), some (zi least), some (zi t), some (zi 0), none, none]) h dX11_bent_64 (Nat.le_of_ble_eq_true rfl) rfl rfl ?_
              refine z_iconst (pc := 66) h dX11_bent_66 ?_
              refine z_istore (pc := 67) (loc' := [some (zr 0), some (zi a), some (zi b), some (zi best), some (zi least), some (zi t), some (zi 0), some (zi 0), none]) h dX11_bent_67 (Nat.le_of_ble_eq_true rfl) rfl rfl ?_
              have J69 : ∀ (N : Nat) (z y : Int) (hy : 0 ≤ y ∧ y ≤ A 16 a.toNat) (hz : z = pk (itA A a) (t / 60) (dsF (t % 60)) y.toNat) , (A 16 a.toNat - y).toNat = N → zG x LM 69 [some (zr 0), some (zi a), some (zi b), some (zi best), some (zi least), some (zi t), some (zi z), some (zi y), none] ([] : List zV) S := by
                intro N
                induction N using Nat.strongRecOn with
                | _ N ih69 => ?_
                intro z y hy hz hN69
                refine z_iload (pc := 69) h dX11_bent_69 rfl ?_
                refine z_aload_n (pc := 71) h dX11_bent_71 rfl ?_
                refine z_getR (a := 16) (pc := 72) h dX11_bent_72 clX11 lkX11_56 (by decide) rfl rfl ?_
                refine z_iload_n (pc := 75) h dX11_bent_75 rfl ?_
                refine z_iald (pc := 76) h dX11_bent_76 rfl (by decide) (by omega) (by omega) ?_
                refine z_icmp_ge (pc := 77) (tgt := 139) h dX11_bent_77 (by decide) ⟨by omega, by omega⟩ ⟨by omega, by omega⟩ (fun hc77 => ?_) (fun hc77 => ?_)
                ·
                  have hwb := btW_b (itA A a) (n := nIt A a) (by omega) t
                  have hzW : z = (btW (itA A a) (nIt A a) t) := by unfold btW; rw [hz, show y = A 16 a.toNat by omega]; rfl
                  refine z_iload (pc := 139) h dX11_bent_139 rfl ?_
                  have J152 : ∀ (z2 : Int) (hz2 : z2 = if (btW (itA A a) (nIt A a) t) < least then t else best) (hz3 : 0 ≤ z2 ∧ z2 ≤ 3599) , zG x LM 152 [some (zr 0), some (zi a), some (zi b), some (zi best), some (zi least), some (zi t), some (zi z), none, none] [zi z2] S := by
                    intro z2 hz2 hz3
                    refine z_istore_n (pc := 152) (loc' := [some (zr 0), some (zi a), some (zi b), some (zi z2), some (zi least), some (zi t), some (zi z), none, none]) h dX11_bent_152 rfl (Nat.le_of_ble_eq_true rfl) rfl rfl ?_
                    have J167 : ∀ (y2 : Int) (hI2 : fmR (btW (itA A a) (nIt A a)) (3600 - (t + 1)).toNat (t + 1).toNat (z2, y2) = bldF (itA A a) (nIt A a)) (hy3 : 0 ≤ y2 ∧ y2 ≤ 1000000) , zG x LM 167 [some (zr 0), some (zi a), some (zi b), some (zi z2), some (zi least), some (zi t), some (zi z), none, none] [zi y2] S := by
                      intro y2 hI2 hy3
                      refine z_istore (pc := 167) (loc' := [some (zr 0), some (zi a), some (zi b), some (zi z2), some (zi y2), some (zi t), some (zi z), none, none]) h dX11_bent_167 (Nat.le_of_ble_eq_true rfl) rfl rfl ?_
                      refine z_iinc (pc := 169) (loc' := [some (zr 0), some (zi a), some (zi b), some (zi z2), some (zi y2), some (zi (t + 1)), some (zi z), none, none]) h dX11_bent_169 rfl (Nat.le_of_ble_eq_true rfl) rfl rfl ?_
                      refine z_goto (pc := 172) (tgt := 55) h dX11_bent_172 (by decide) ?_
                      refine z_forget [true, true, true, true, true, true, false, true, true] (loc' := [some (zr 0), some (zi a), some (zi b), some (zi z2), some (zi y2), some (zi (t + 1)), none, none, none]) rfl ?_
                      exact ih55 _ (by omega) z2 y2 (t + 1) (by omega) (by omega) (by omega) (by exact hI2) rfl
                    refine z_iload (pc := 153) h dX11_bent_153 rfl ?_
                    refine z_iload (pc := 155) h dX11_bent_155 rfl ?_
                    refine z_icmp_ge (pc := 157) (tgt := 165) h dX11_bent_157 (by decide) ⟨by omega, by omega⟩ ⟨by omega, by omega⟩ (fun hc157 => ?_) (fun hc157 => ?_)
                    ·
                      refine z_iload (pc := 165) h dX11_bent_165 rfl ?_
                      exact J167 least (by rw [fm_s (r' := (3600 - (t + 1)).toNat) (z := t) (by omega) (by omega)] at hI; rw [hz2]; first | (rw [if_pos (by show _ < least; omega)] at hI; rw [if_pos (by omega), hzW]; exact hI) | (rw [if_neg (by show ¬ (_ < least); omega)] at hI; rw [if_neg (by omega)]; exact hI)) (by omega)
                    ·
                      refine z_iload (pc := 160) h dX11_bent_160 rfl ?_
                      refine z_goto (pc := 162) (tgt := 167) h dX11_bent_162 (by decide) ?_
                      exact J167 z (by rw [fm_s (r' := (3600 - (t + 1)).toNat) (z := t) (by omega) (by omega)] at hI; rw [hz2]; first | (rw [if_pos (by show _ < least; omega)] at hI; rw [if_pos (by omega), hzW]; exact hI) | (rw [if_neg (by show ¬ (_ < least); omega)] at hI; rw [if_neg (by omega)]; exact hI)) (by omega)
                  refine z_iload (pc := 141) h dX11_bent_141 rfl ?_
                  refine z_icmp_ge (pc := 143) (tgt := 151) h dX11_bent_143 (by decide) ⟨by omega, by omega⟩ ⟨by omega, by omega⟩ (fun hc143 => ?_) (fun hc143 => ?_)
                  ·
                    refine z_iload_n (pc := 151) h dX11_bent_151 rfl ?_
                    refine z_forget [true, true, true, true, true, true, true, false, true] (loc' := [some (zr 0), some (zi a), some (zi b), some (zi best), some (zi least), some (zi t), some (zi z), none, none]) rfl ?_
                    exact J152 best (by first | (rw [if_pos (by omega)]) | (rw [if_neg (by omega)])) (by omega)
                  ·
                    refine z_iload (pc := 146) h dX11_bent_146 rfl ?_
                    refine z_goto (pc := 148) (tgt := 152) h dX11_bent_148 (by decide) ?_
                    refine z_forget [true, true, true, true, true, true, true, false, true] (loc' := [some (zr 0), some (zi a), some (zi b), some (zi best), some (zi least), some (zi t), some (zi z), none, none]) rfl ?_
                    exact J152 t (by first | (rw [if_pos (by omega)]) | (rw [if_neg (by omega)])) (by omega)
                ·
                  have hx : S 17 (60 * a + y).toNat = itA A a y.toNat := by unfold itA; rw [show 60 * a.toNat + y.toNat = (60 * a + y).toNat by omega]; exact mr_at hR _ (by decide)
                  have hx32 : r32 (itA A a y.toNat) := mi_hi hm _
                  have htb := tmod_p (a := itA A a y.toNat) (b := 60) (by decide)
                  have htc := tmod_bounds (a := itA A a y.toNat) (M := 60) (by decide)
                  have hmb := mul_bd (a := t / 60) (A := 59) (b := y) (B := 60) (by omega) (by omega)
                  have hwfb := wayF_b ((t % 60 + t / 60 * y) % 60) (itA A a y.toNat % 60)
                  have hdb := ds_b (t % 60) (offO (itA A a) (t / 60) y.toNat)
                  refine z_aload_n (pc := 80) h dX11_bent_80 rfl ?_
                  refine z_getR (a := 17) (pc := 81) h dX11_bent_81 clX11 lkX11_59 (by decide) rfl rfl ?_
                  refine z_bipush (pc := 84) h dX11_bent_84 rfl ?_
                  refine z_iload_n (pc := 86) h dX11_bent_86 rfl ?_
                  refine z_imul (pc := 87) h dX11_bent_87 ?_
                  refine z_iload (pc := 88) h dX11_bent_88 rfl ?_
                  refine z_iadd (pc := 90) h dX11_bent_90 ?_
                  refine z_iald (pc := 91) h dX11_bent_91 rfl (by decide) (by omega) (by omega) ?_
                  refine z_cv (b := (itA A a y.toNat)) (by exact hx) ?_
                  refine z_bipush (pc := 92) h dX11_bent_92 rfl ?_
                  refine z_irem (pc := 94) h dX11_bent_94 ⟨by omega, by omega⟩ ⟨by omega, by omega⟩ (by omega) ?_
                  refine z_bipush (pc := 95) h dX11_bent_95 rfl ?_
                  refine z_iadd (pc := 97) h dX11_bent_97 ?_
                  refine z_bipush (pc := 98) h dX11_bent_98 rfl ?_
                  refine z_iremN (pc := 100) h dX11_bent_100 ⟨by omega, by omega⟩ ⟨by decide, by decide⟩ ?_
                  refine z_cv (b := (itA A a y.toNat % 60)) (by omega) ?_
                  refine z_istore (pc := 101) (loc' := [some (zr 0), some (zi a), some (zi b), some (zi best), some (zi least), some (zi t), some (zi z), some (zi y), some (zi (itA A a y.toNat % 60))]) h dX11_bent_101 (Nat.le_of_ble_eq_true rfl) rfl rfl ?_
                  refine z_iload (pc := 103) h dX11_bent_103 rfl ?_
                  refine z_iload (pc := 105) h dX11_bent_105 rfl ?_
                  refine z_bipush (pc := 107) h dX11_bent_107 rfl ?_
                  refine z_iremN (pc := 109) h dX11_bent_109 ⟨by omega, by omega⟩ ⟨by decide, by decide⟩ ?_
                  refine z_iload (pc := 110) h dX11_bent_110 rfl ?_
                  refine z_bipush (pc := 112) h dX11_bent_112 rfl ?_
                  refine z_idivN (pc := 114) h dX11_bent_114 ⟨by omega, by omega⟩ ⟨by decide, by decide⟩ ?_
                  refine z_iload (pc := 115) h dX11_bent_115 rfl ?_
                  refine z_imul (pc := 117) h dX11_bent_117 ?_
                  refine z_iadd (pc := 118) h dX11_bent_118 ?_
                  refine z_bipush (pc := 119) h dX11_bent_119 rfl ?_
                  refine z_iremN (pc := 121) h dX11_bent_121 ⟨by omega, by omega⟩ ⟨by decide, by decide⟩ ?_
                  refine z_iload (pc := 122) h dX11_bent_122 rfl ?_
                  refine z_callS (pc := 124) (rest := [zi z]) h (m_X11_way (((t % 60) + ((t / 60) * y)) % 60) (itA A a y.toNat % 60) S (by first | assumption | omega) (by first | assumption | omega)) dX11_bent_124 mcX11_way msX11_way mlX11_159 rfl rfl ⟨by decide, by decide⟩ rfl (Nat.le_of_ble_eq_true rfl) ?_
                  rintro _ _ ⟨rfl, rfl⟩
                  show zG x LM 127 [some (zr 0), some (zi a), some (zi b), some (zi best), some (zi least), some (zi t), some (zi z), some (zi y), some (zi (itA A a y.toNat % 60))] [zi (wayF (((t % 60) + ((t / 60) * y)) % 60) (itA A a y.toNat % 60)), zi z] S
                  refine z_callS (pc := 127) (rest := [zi z]) h (m_X11_amount (wayF (((t % 60) + ((t / 60) * y)) % 60) (itA A a y.toNat % 60)) S ⟨by omega, by omega⟩) dX11_bent_127 mcX11_amount msX11_amount mlX11_67 rfl rfl ⟨by decide, by decide⟩ rfl (Nat.le_of_ble_eq_true rfl) ?_
                  rintro _ _ ⟨rfl, rfl⟩
                  show zG x LM 130 [some (zr 0), some (zi a), some (zi b), some (zi best), some (zi least), some (zi t), some (zi z), some (zi y), some (zi (itA A a y.toNat % 60))] [zi (absI (wayF (((t % 60) + ((t / 60) * y)) % 60) (itA A a y.toNat % 60))), zi z] S
                  refine z_cv (b := (dsF (t % 60) (offO (itA A a) (t / 60) y.toNat))) (by exact way_ds (by omega) rfl rfl (by omega)) ?_
                  refine z_iadd (pc := 130) h dX11_bent_130 ?_
                  refine z_istore (pc := 131) (loc' := [some (zr 0), some (zi a), some (zi b), some (zi best), some (zi least), some (zi t), some (zi (z + (dsF (t % 60) (offO (itA A a) (t / 60) y.toNat)))), some (zi y), some (zi (itA A a y.toNat % 60))]) h dX11_bent_131 (Nat.le_of_ble_eq_true rfl) rfl rfl ?_
                  refine z_iinc (pc := 133) (loc' := [some (zr 0), some (zi a), some (zi b), some (zi best), some (zi least), some (zi t), some (zi (z + (dsF (t % 60) (offO (itA A a) (t / 60) y.toNat)))), some (zi (y + 1)), some (zi (itA A a y.toNat % 60))]) h dX11_bent_133 rfl (Nat.le_of_ble_eq_true rfl) rfl rfl ?_
                  refine z_goto (pc := 136) (tgt := 69) h dX11_bent_136 (by decide) ?_
                  refine z_forget [true, true, true, true, true, true, true, true, false] (loc' := [some (zr 0), some (zi a), some (zi b), some (zi best), some (zi least), some (zi t), some (zi (z + (dsF (t % 60) (offO (itA A a) (t / 60) y.toNat)))), some (zi (y + 1)), none]) rfl ?_
                  exact ih69 _ (by omega) (z + (dsF (t % 60) (offO (itA A a) (t / 60) y.toNat))) (y + 1) (by omega) (by rw [pk_s _ _ _ hy.1, ← hz]) rfl
              exact J69 _ 0 0 (by omega) (rfl) rfl
          exact J55 _ 0 1000000 0 (by omega) (by omega) (by omega) (rfl) rfl
        ·
          refine z_bipush (pc := 43) h dX11_bent_43 rfl ?_
          refine z_iret (pc := 45) h dX11_bent_45 rfl ?_
          exact ⟨ap_some (by unfold sp_bent; rw [if_pos (by omega), if_neg (by omega), if_pos (by omega)]), by unfold st_bent; rw [if_pos (by omega), if_neg (by omega)]; exact hR⟩
      ·
        refine z_aload_n (pc := 28) h dX11_bent_28 rfl ?_
        refine z_iconst (pc := 29) h dX11_bent_29 ?_
        refine z_callV (pc := 30) (rest := ([] : List zV)) h (m_X11_meets 1 S ) dX11_bent_30 mcX11_meets miX11_meets mlX11_138 rfl rfl ⟨by decide, by decide⟩ clX11 rfl rfl rfl (Nat.le_of_ble_eq_true rfl) ?_
        rintro _ _ ⟨rfl, rfl⟩
        show zG x LM 33 [some (zr 0), some (zi a), some (zi b), none, none, none, none, none, none] [zi (-10 - 1)] (up2 S 0 23 1)
        refine z_iret (pc := 33) h dX11_bent_33 rfl ?_
        exact ⟨ap_some (by unfold sp_bent; rw [if_pos (by omega), if_pos (by omega)]; try omega), by unfold st_bent; rw [if_pos (by omega), if_pos (by omega)]; exact mr_up hR 23 _ (by decide)⟩
    ·
      show zG x LM 13 [some (zr 0), some (zi a), some (zi b), none, none, none, none, none, none] [zi 0] S
      refine z_if_ne (pc := 13) (tgt := 19) h dX11_bent_13 (by decide) ⟨by decide, by decide⟩ (fun hc13 => absurd hc13 (by decide)) (fun hc13 => ?_)
      refine z_bipush (pc := 16) h dX11_bent_16 rfl ?_
      refine z_iret (pc := 18) h dX11_bent_18 rfl ?_
      exact ⟨ap_some (by unfold sp_bent; rw [if_neg (by omega)]), by unfold st_bent; rw [if_neg (by omega)]; exact hR⟩
  ·
    show zG x LM 4 [some (zr 0), some (zi a), some (zi b), none, none, none, none, none, none] [zi 0] S
    refine z_if_eq (pc := 4) (tgt := 16) h dX11_bent_4 (by decide) ⟨by decide, by decide⟩ (fun hc4 => ?_) (fun hc4 => absurd hc4 (by decide))
    refine z_bipush (pc := 16) h dX11_bent_16 rfl ?_
    refine z_iret (pc := 18) h dX11_bent_18 rfl ?_
    exact ⟨ap_some (by unfold sp_bent; rw [if_neg (by omega)]), by unfold st_bent; rw [if_neg (by omega)]; exact hR⟩

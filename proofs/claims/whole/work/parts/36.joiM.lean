/-! JOINED: the reference -/
def orL : List Nat → Nat
  | [] => 0
  | d :: ds => orL ds ||| 2 ^ d
def dst : List Nat → Prop
  | [] => True
  | d :: ds => (orL ds).testBit d = false ∧ dst ds
def csL (A : SS) : Nat → List Nat → Int
  | _, [] => 0
  | p, d :: ds => coA A p d + csL A (p + 1) ds
def nsL (A : SS) : Nat → List Nat → Int
  | _, [] => 0
  | p, d :: ds => wyA A p d + nsL A (p + 1) ds
theorem csL_b {A : SS} (hm : MI A) : ∀ (ds : List Nat) (p : Nat), 0 ≤ csL A p ds ∧ csL A p ds ≤ 90 * ds.length
  | [], p => ⟨Int.le_refl _, by show (0 : Int) ≤ 90 * ((0 : Nat) : Int); decide⟩
  | d :: ds, p => by
    have h1 := csL_b hm ds (p + 1)
    have h2 := coA_b hm p d
    rw [List.length_cons]
    unfold csL
    omega
theorem nsL_b (A : SS) : ∀ (ds : List Nat) (p : Nat), -(30 * (ds.length : Int)) ≤ nsL A p ds ∧ nsL A p ds ≤ 30 * ds.length
  | [], p => ⟨by show -(30 * ((0 : Nat) : Int)) ≤ 0; decide, by show (0 : Int) ≤ 30 * ((0 : Nat) : Int); decide⟩
  | d :: ds, p => by
    have h1 := nsL_b A ds (p + 1)
    have h2 := wyA_b A p d
    rw [List.length_cons]
    unfold nsL
    omega
theorem gv_t {A : SS} {m : Nat} (hm : m ≤ 6) : ∀ (ds : List Nat) (tk : Nat), tk < 2 ^ m → (∀ d ∈ ds, d < m) → (dst ds → (∀ i, tk.testBit i = true → (orL ds).testBit i = false) → gv (jc A) (jw A) z0 l0 ds tk 0 = (1, csL A (popc tk) ds, nsL A (popc tk) ds, nsL A (popc tk) ds, nsL A (popc tk) ds, ds)) ∧ (¬ (dst ds ∧ ∀ i, tk.testBit i = true → (orL ds).testBit i = false) → gv (jc A) (jw A) z0 l0 ds tk 0 = tE)
  | [], tk, _, _ => ⟨fun _ _ => rfl, fun h => absurd ⟨trivial, fun i _ => Nat.zero_testBit i⟩ h⟩
  | d :: ds, tk, ht, hd => by
    have hdm := hd d List.mem_cons_self
    by_cases hb : tk.testBit d = true
    · have e : gv (jc A) (jw A) z0 l0 (d :: ds) tk 0 = tE := if_pos hb
      refine ⟨fun _ h2 => ?_, fun _ => e⟩
      have h3 := h2 d hb
      have h4 : (orL ds ||| 2 ^ d).testBit d = false := h3
      rw [testBit_set, decide_eq_true rfl, Bool.or_true] at h4
      cases h4
    · have hbf : tk.testBit d = false := Bool.eq_false_iff.mpr hb
      obtain ⟨p1, p2, p3⟩ := popc_set hm ht hdm hbf
      obtain ⟨i1, i2⟩ := gv_t hm ds (tk ||| 2 ^ d) p2 (fun x hx => hd x (List.mem_cons_of_mem _ hx))
      have e : gv (jc A) (jw A) z0 l0 (d :: ds) tk 0 = tS (coA A (popc tk) d) (wyA A (popc tk) d) d (gv (jc A) (jw A) z0 l0 ds (tk ||| 2 ^ d) 0) := if_neg hb
      have iff1 : (dst (d :: ds) ∧ ∀ i, tk.testBit i = true → (orL (d :: ds)).testBit i = false) ↔ (dst ds ∧ ∀ i, (tk ||| 2 ^ d).testBit i = true → (orL ds).testBit i = false) := by
        constructor
        · rintro ⟨⟨h1, h2⟩, h3⟩
          refine ⟨h2, fun i hi => ?_⟩
          rw [testBit_set] at hi
          by_cases hid : d = i
          · subst hid; exact h1
          · rw [decide_eq_false hid, Bool.or_false] at hi
            have h4 : (orL ds ||| 2 ^ d).testBit i = false := h3 i hi
            rw [testBit_set, decide_eq_false hid, Bool.or_false] at h4
            exact h4
        · rintro ⟨h1, h2⟩
          refine ⟨⟨h2 d (set_d tk d), h1⟩, fun i hi => ?_⟩
          show (orL ds ||| 2 ^ d).testBit i = false
          have hid : d ≠ i := fun q => by subst q; rw [hbf] at hi; cases hi
          rw [testBit_set, decide_eq_false hid, Bool.or_false]
          exact h2 i (by rw [testBit_set, hi, Bool.true_or])
      constructor
      · intro h1 h2
        obtain ⟨h3, h4⟩ := iff1.mp ⟨h1, h2⟩
        rw [e, i1 h3 h4, tS_1 (show (1 : Int) ≠ 0 by decide), p1]
        rfl
      · intro h1
        rw [e, i2 (fun q => h1 (iff1.mpr q)), tS_0 rfl]
theorem dgs_len (m c : Nat) : ∀ n : Nat, (dgs m n c).length = n
  | 0 => rfl
  | n + 1 => by show (dgs m n c).length + 1 = n + 1; rw [dgs_len m c n]
theorem dgs_lt {m : Nat} (hm : 0 < m) (c : Nat) : ∀ (n : Nat), ∀ d ∈ dgs m n c, d < m
  | 0, d, h => by cases h
  | n + 1, d, h => by
    rcases List.mem_cons.mp h with q | q
    · rw [q]; exact Nat.mod_lt _ hm
    · exact dgs_lt hm c n d q
theorem dgs_drop (m c : Nat) : ∀ (n j : Nat), j ≤ n → (dgs m n c).drop (n - j) = dgs m j c
  | 0, j, h => by
    have : j = 0 := by omega
    subst this
    rfl
  | n + 1, j, h => by
    by_cases e : j = n + 1
    · subst e; rw [Nat.sub_self]; rfl
    · rw [show n + 1 - j = (n - j) + 1 by omega]
      show (dgs m n c).drop (n - j) = _
      exact dgs_drop m c n j (by omega)
theorem orL_lt {m : Nat} : ∀ ds : List Nat, (∀ d ∈ ds, d < m) → orL ds < 2 ^ m
  | [], _ => Nat.two_pow_pos m
  | d :: ds, h => Nat.or_lt_two_pow (orL_lt ds (fun x hx => h x (List.mem_cons_of_mem _ hx))) (Nat.pow_lt_pow_right (by decide) (h d List.mem_cons_self))
def GJ (A : SS) (m n : Nat) : Nat → TS := fun c => gv (jc A) (jw A) z0 l0 (dgs m n c) 0 0
theorem GJ_e {A : SS} {m n c : Nat} (hm : m ≤ 6) (h : 0 < m ∨ n = 0) : (dst (dgs m n c) → GJ A m n c = (1, csL A 0 (dgs m n c), nsL A 0 (dgs m n c), nsL A 0 (dgs m n c), nsL A 0 (dgs m n c), dgs m n c)) ∧ (¬ dst (dgs m n c) → GJ A m n c = tE) := by
  have hd : ∀ d ∈ dgs m n c, d < m := by
    rcases h with h | h
    · exact dgs_lt h c n
    · subst h; intro d hd; cases hd
  obtain ⟨h1, h2⟩ := gv_t (A := A) hm (dgs m n c) 0 (Nat.two_pow_pos m) hd
  refine ⟨fun q => h1 q (fun i hi => by rw [Nat.zero_testBit] at hi; cases hi), fun q => h2 (fun q2 => q q2.1)⟩
theorem GJ_W (A : SS) (m n c : Nat) : tW (GJ A m n c) := gv_W _ _ _ _ _ _ _
theorem GJ_all (A : SS) : tF (GJ A (manN A) (fewN A)) (manN A ^ fewN A) tE = jT A := code_R (manN A) (jc A) (jw A) z0 l0 (fewN A) 0 0
/-- what the reference keeps -/
def accQ (n : Nat) (S1 : SS) (x : TS) : Prop := (x.1 = 0 ∧ S1 0 10 = 1000000 ∧ S1 0 11 = 0 ∧ S1 0 12 = 0 ∧ S1 0 13 = 0) ∨ (0 < x.1 ∧ S1 0 10 = x.2.1 ∧ S1 0 11 = x.1 ∧ S1 0 12 = x.2.2.2.2.1 ∧ (S1 0 13 = if x.2.2.1 = x.2.2.2.1 then 0 else 1) ∧ (x.2.2.1 ≤ x.2.2.2.2.1 ∧ x.2.2.2.2.1 ≤ x.2.2.2.1) ∧ ∀ k : Nat, k < n → S1 10 k = ((x.2.2.2.2.2.getD k 0 : Nat) : Int))
theorem accQ_lt {n : Nat} {s v : Int} {S1 S2 : SS} {x : TS} {ds : List Nat} (h : accQ n S1 x) (hs : s < S1 0 10) (h1 : S2 0 10 = s) (h2 : S2 0 11 = 1) (h3 : S2 0 12 = v) (h4 : S2 0 13 = 0) (h5 : ∀ k : Nat, k < n → S2 10 k = ((ds.getD k 0 : Nat) : Int)) : accQ n S2 (tC x (1, s, v, v, v, ds)) := by
  have e : tC x (1, s, v, v, v, ds) = (1, s, v, v, v, ds) := by
    rcases h with ⟨q, -⟩ | ⟨q, q1, -⟩
    · exact tC_1 (show (1 : Int) ≠ 0 by decide) q
    · exact tC_lt (show (1 : Int) ≠ 0 by decide) (show s < x.2.1 by omega)
  rw [e]
  exact Or.inr ⟨by show (0 : Int) < 1; decide, h1, h2, h3, by show S2 0 13 = if v = v then 0 else 1; rw [if_pos rfl]; exact h4, ⟨Int.le_refl _, Int.le_refl _⟩, h5⟩
theorem accQ_eq {n : Nat} {s v : Int} {S1 S2 : SS} {x : TS} {ds : List Nat} (h : accQ n S1 x) (hf : s < 1000000) (hs : s = S1 0 10) (h1 : S2 0 10 = S1 0 10) (h2 : S2 0 11 = S1 0 11 + 1) (h3 : S2 0 12 = S1 0 12) (h4 : (v = S1 0 12 ∧ S2 0 13 = S1 0 13) ∨ (v ≠ S1 0 12 ∧ S2 0 13 = 1)) (h5 : ∀ k : Nat, S2 10 k = S1 10 k) : accQ n S2 (tC x (1, s, v, v, v, ds)) := by
  rcases h with ⟨q, q1, -⟩ | ⟨q, q1, q2, q3, q4, q5, q6⟩
  · omega
  · rw [tC_eq (show x.1 ≠ 0 by omega) (show (1 : Int) ≠ 0 by decide) (show s = x.2.1 by omega)]
    refine Or.inr ⟨by show 0 < x.1 + 1; omega, by rw [h1]; exact q1, by show S2 0 11 = x.1 + 1; omega, by rw [h3]; exact q3, ?_, ?_, fun k hk => by rw [h5]; exact q6 k hk⟩
    · show S2 0 13 = if min x.2.2.1 v = max x.2.2.2.1 v then 0 else 1
      rcases h4 with ⟨h6, h7⟩ | ⟨h6, h7⟩
      · rw [h7, q4, show min x.2.2.1 v = x.2.2.1 by omega, show max x.2.2.2.1 v = x.2.2.2.1 by omega]
      · rw [h7, if_neg (by omega)]
    · show min x.2.2.1 v ≤ x.2.2.2.2.1 ∧ x.2.2.2.2.1 ≤ max x.2.2.2.1 v
      omega
theorem accQ_gt {n : Nat} {s v : Int} {S1 : SS} {x : TS} {ds : List Nat} (h : accQ n S1 x) (hf : s < 1000000) (hs : S1 0 10 < s) : accQ n S1 (tC x (1, s, v, v, v, ds)) := by
  rcases h with ⟨q, q1, -⟩ | ⟨q, q1, q2⟩
  · omega
  · rw [tC_gt (show x.1 ≠ 0 by omega) (show x.2.1 < s by omega)]
    exact Or.inr ⟨q, q1, q2⟩
theorem accQ_n {n : Nat} {S1 : SS} {x : TS} (h : accQ n S1 x) (hb : (0 ≤ x.2.1 ∧ x.2.1 ≤ 1000) ∧ (-1000 ≤ x.2.2.2.2.1 ∧ x.2.2.2.2.1 ≤ 1000)) : (0 ≤ S1 0 10 ∧ S1 0 10 ≤ 1000000) ∧ (-1000 ≤ S1 0 12 ∧ S1 0 12 ≤ 1000) := by
  rcases h with ⟨q, q1, q2, q3, q4⟩ | ⟨q, q1, q2, q3, q4⟩ <;> omega
theorem tC_5 (x y : TS) : ((tC x y).2.1 = x.2.1 ∧ (tC x y).2.2.2.2.1 = x.2.2.2.2.1) ∨ ((tC x y).2.1 = y.2.1 ∧ (tC x y).2.2.2.2.1 = y.2.2.2.2.1) := by
  by_cases h1 : y.1 = 0
  · rw [tC_0 h1]; exact Or.inl ⟨rfl, rfl⟩
  · by_cases h2 : x.1 = 0
    · rw [tC_1 h1 h2]; exact Or.inr ⟨rfl, rfl⟩
    · rcases tC_c h2 h1 with ⟨-, h⟩ | ⟨-, h⟩ | ⟨-, h⟩ <;> rw [h]
      · exact Or.inr ⟨rfl, rfl⟩
      · exact Or.inl ⟨rfl, rfl⟩
      · exact Or.inl ⟨rfl, rfl⟩
def bnd (x : TS) : Prop := (0 ≤ x.2.1 ∧ x.2.1 ≤ 1000) ∧ (-1000 ≤ x.2.2.2.2.1 ∧ x.2.2.2.2.1 ≤ 1000)
theorem bnd_C {x y : TS} (hx : bnd x) (hy : bnd y) : bnd (tC x y) := by
  unfold bnd
  rcases tC_5 x y with ⟨a, b⟩ | ⟨a, b⟩ <;> rw [a, b]
  · exact hx
  · exact hy

set_option maxRecDepth 100000 in
set_option maxHeartbeats 4000000 in
theorem m_X11_joins (A S : SS) (hR : mRel S A) (hm : MI A) : zM LM yX11_joins cX11_joins 15 none 1 22 [zr 0] S (fun r S' => r = none ∧ mRel S' A ∧ accQ (fewN A) S' (jT A) ∧ 0 < (jT A).1) := by
  refine zM_of (own := RX11) rfl (by decide +kernel) [some (zr 0), none, none, none, none, none, none, none, none, none, none, none, none, none, none] (Nat.le_of_ble_eq_true rfl) rfl ?_
  intro x h
  have d0 : S 6 0 = dA A 0 := mr_at hR _ (by decide)
  have d1 : S 6 1 = dA A 1 := mr_at hR _ (by decide)
  have b0 := dA_b hm (a := 0) (by decide)
  have b1 := dA_b hm (a := 1) (by decide)
  obtain ⟨f, hf⟩ : ∃ f, fewN A = f := ⟨_, rfl⟩
  obtain ⟨m, hmn⟩ : ∃ m, manN A = m := ⟨_, rfl⟩
  have hf1 : (f : Int) = min (dA A 0) (dA A 1) := by rw [← hf]; unfold fewN; omega
  have hm1 : (m : Int) = max (dA A 0) (dA A 1) := by rw [← hmn]; unfold manN; omega
  have hfm : f ≤ m ∧ m ≤ 6 := by omega
  have hGA := GJ_all A
  rw [hf, hmn] at hGA
  rw [hf] at h
  have hpb : ∀ i, i ≤ 6 → m ^ i ≤ 46656 := fun i hi => Nat.le_trans (Nat.le_trans (Nat.pow_le_pow_left hfm.2 i) (Nat.pow_le_pow_right (by decide) hi)) (by decide)
  have hpf := hpb f (by omega)
  have hmf : 0 < m ∨ f = 0 := by omega
  have hwu := mi_u hm
  refine z_aload_n (pc := 0) h dX11_joins_0 rfl ?_
  have J20 : ∀ (u : Int) (hu : (u = 1 ∧ dA A 1 < dA A 0) ∨ (u = 0 ∧ ¬ dA A 1 < dA A 0)) , zG x LM 20 [some (zr 0), none, none, none, none, none, none, none, none, none, none, none, none, none, none] [zi u] S := by
    intro u hu
    refine z_istore_n (pc := 20) (loc' := [some (zr 0), some (zi u), none, none, none, none, none, none, none, none, none, none, none, none, none]) h dX11_joins_20 rfl (Nat.le_of_ble_eq_true rfl) rfl rfl ?_
    refine z_aload_n (pc := 21) h dX11_joins_21 rfl ?_
    refine z_getR (a := 6) (pc := 22) h dX11_joins_22 clX11 lkX11_25 (by decide) rfl rfl ?_
    refine z_iload_n (pc := 25) h dX11_joins_25 rfl ?_
    refine z_iald (pc := 26) h dX11_joins_26 rfl (by decide) (by omega) (by omega) ?_
    refine z_cv (b := (f : Int)) (by rcases hu with ⟨q1, q2⟩ | ⟨q1, q2⟩; (rw [q1]; show S 6 1 = _; omega); (rw [q1]; show S 6 0 = _; omega)) ?_
    refine z_istore_n (pc := 27) (loc' := [some (zr 0), some (zi u), some (zi (f : Int)), none, none, none, none, none, none, none, none, none, none, none, none]) h dX11_joins_27 rfl (Nat.le_of_ble_eq_true rfl) rfl rfl ?_
    refine z_aload_n (pc := 28) h dX11_joins_28 rfl ?_
    refine z_getR (a := 6) (pc := 29) h dX11_joins_29 clX11 lkX11_25 (by decide) rfl rfl ?_
    refine z_iconst (pc := 32) h dX11_joins_32 ?_
    refine z_iload_n (pc := 33) h dX11_joins_33 rfl ?_
    refine z_isub (pc := 34) h dX11_joins_34 ?_
    refine z_iald (pc := 35) h dX11_joins_35 rfl (by decide) (by omega) (by omega) ?_
    refine z_cv (b := (m : Int)) (by rcases hu with ⟨q1, q2⟩ | ⟨q1, q2⟩; (rw [q1]; show S 6 0 = _; omega); (rw [q1]; show S 6 1 = _; omega)) ?_
    refine z_istore_n (pc := 36) (loc' := [some (zr 0), some (zi u), some (zi (f : Int)), some (zi (m : Int)), none, none, none, none, none, none, none, none, none, none, none]) h dX11_joins_36 rfl (Nat.le_of_ble_eq_true rfl) rfl rfl ?_
    refine z_aload_n (pc := 37) h dX11_joins_37 rfl ?_
    refine z_ldc (pc := 38) (a := 1000000) h kcX11_141 dX11_joins_38 (by decide) ?_
    refine z_putI (pc := 40) h dX11_joins_40 clX11 lkX11_142 (by decide) rfl rfl rfl rfl ?_
    refine z_aload_n (pc := 43) h dX11_joins_43 rfl ?_
    refine z_iconst (pc := 44) h dX11_joins_44 ?_
    refine z_putI (pc := 45) h dX11_joins_45 clX11 lkX11_146 (by decide) rfl rfl rfl rfl ?_
    refine z_aload_n (pc := 48) h dX11_joins_48 rfl ?_
    refine z_iconst (pc := 49) h dX11_joins_49 ?_
    refine z_putI (pc := 50) h dX11_joins_50 clX11 lkX11_149 (by decide) rfl rfl rfl rfl ?_
    refine z_aload_n (pc := 53) h dX11_joins_53 rfl ?_
    refine z_iconst (pc := 54) h dX11_joins_54 ?_
    refine z_putI (pc := 55) h dX11_joins_55 clX11 lkX11_152 (by decide) rfl rfl rfl rfl ?_
    refine z_iconst (pc := 58) h dX11_joins_58 ?_
    refine z_istore (pc := 59) (loc' := [some (zr 0), some (zi u), some (zi (f : Int)), some (zi (m : Int)), some (zi 1), none, none, none, none, none, none, none, none, none, none]) h dX11_joins_59 (Nat.le_of_ble_eq_true rfl) rfl rfl ?_
    refine z_iconst (pc := 61) h dX11_joins_61 ?_
    refine z_istore (pc := 62) (loc' := [some (zr 0), some (zi u), some (zi (f : Int)), some (zi (m : Int)), some (zi 1), some (zi 0), none, none, none, none, none, none, none, none, none]) h dX11_joins_62 (Nat.le_of_ble_eq_true rfl) rfl rfl ?_
    have J64 : ∀ (N : Nat) (p i : Int) (hi : 0 ≤ i ∧ i ≤ f) (hp : p = ((m ^ i.toNat : Nat) : Int)) , ((f : Int) - i).toNat = N → zG x LM 64 [some (zr 0), some (zi u), some (zi (f : Int)), some (zi (m : Int)), some (zi p), some (zi i), none, none, none, none, none, none, none, none, none] ([] : List zV) (up2 (up2 (up2 (up2 S 0 10 1000000) 0 11 0) 0 12 0) 0 13 0) := by
      intro N
      induction N using Nat.strongRecOn with
      | _ N ih64 => ?_
      intro p i hi hp hN64
      refine z_iload (pc := 64) h dX11_joins_64 rfl ?_
      refine z_iload_n (pc := 66) h dX11_joins_66 rfl ?_
      refine z_icmp_ge (pc := 67) (tgt := 82) h dX11_joins_67 (by decide) ⟨by omega, by omega⟩ ⟨by omega, by omega⟩ (fun hc67 => ?_) (fun hc67 => ?_)
      ·
        refine z_iconst (pc := 82) h dX11_joins_82 ?_
        refine z_istore (pc := 83) (loc' := [some (zr 0), some (zi u), some (zi (f : Int)), some (zi (m : Int)), some (zi p), some (zi 0), none, none, none, none, none, none, none, none, none]) h dX11_joins_83 (Nat.le_of_ble_eq_true rfl) rfl rfl ?_
        have J85 : ∀ (N : Nat) (c : Int) (S1 : SS) (hc : 0 ≤ c ∧ c ≤ ((m ^ f : Nat) : Int)) (hacc : accQ f S1 (tF (GJ A m f) c.toNat tE)) (hab : bnd (tF (GJ A m f) c.toNat tE)) (hE : ∀ x y, x ≠ 9 → x ≠ 10 → ¬ (x = 0 ∧ 10 ≤ y ∧ y ≤ 13) → S1 x y = S x y) , (((m ^ f : Nat) : Int) - c).toNat = N → zG x LM 85 [some (zr 0), some (zi u), some (zi (f : Int)), some (zi (m : Int)), some (zi ((m ^ f : Nat) : Int)), some (zi c), none, none, none, none, none, none, none, none, none] ([] : List zV) S1 := by
          intro N
          induction N using Nat.strongRecOn with
          | _ N ih85 => ?_
          intro c S1 hc hacc hab hE hN85
          refine z_iload (pc := 85) h dX11_joins_85 rfl ?_
          refine z_iload (pc := 87) h dX11_joins_87 rfl ?_
          refine z_icmp_ge (pc := 89) (tgt := 411) h dX11_joins_89 (by decide) ⟨by omega, by omega⟩ ⟨by omega, by omega⟩ (fun hc89 => ?_) (fun hc89 => ?_)
          ·
            refine z_vret (pc := 411) h dX11_joins_411 rfl ?_
            have hcf : c.toNat = m ^ f := by omega
            rw [hcf, hGA] at hacc
            exact ⟨rfl, mr_e hR (fun a b a1 a2 a3 a4 a5 a6 => hE a b a3 a4 (by omega)) (fun b => by rw [hE _ _ (by decide) (by decide) (by omega)]; exact hR.2 b), hacc, by unfold jT; rw [hf, hmn]; exact jR_pos hfm.2 (Nat.two_pow_pos m) (by show 0 + f ≤ m; omega)⟩
          ·
            refine z_iload (pc := 92) h dX11_joins_92 rfl ?_
            refine z_istore (pc := 94) (loc' := [some (zr 0), some (zi u), some (zi (f : Int)), some (zi (m : Int)), some (zi ((m ^ f : Nat) : Int)), some (zi c), some (zi c), none, none, none, none, none, none, none, none]) h dX11_joins_94 (Nat.le_of_ble_eq_true rfl) rfl rfl ?_
            refine z_iconst (pc := 96) h dX11_joins_96 ?_
            refine z_istore (pc := 97) (loc' := [some (zr 0), some (zi u), some (zi (f : Int)), some (zi (m : Int)), some (zi ((m ^ f : Nat) : Int)), some (zi c), some (zi c), some (zi 0), none, none, none, none, none, none, none]) h dX11_joins_97 (Nat.le_of_ble_eq_true rfl) rfl rfl ?_
            refine z_iconst (pc := 99) h dX11_joins_99 ?_
            refine z_istore (pc := 100) (loc' := [some (zr 0), some (zi u), some (zi (f : Int)), some (zi (m : Int)), some (zi ((m ^ f : Nat) : Int)), some (zi c), some (zi c), some (zi 0), some (zi 0), none, none, none, none, none, none]) h dX11_joins_100 (Nat.le_of_ble_eq_true rfl) rfl rfl ?_
            refine z_iconst (pc := 102) h dX11_joins_102 ?_
            refine z_istore (pc := 103) (loc' := [some (zr 0), some (zi u), some (zi (f : Int)), some (zi (m : Int)), some (zi ((m ^ f : Nat) : Int)), some (zi c), some (zi c), some (zi 0), some (zi 0), some (zi 0), none, none, none, none, none]) h dX11_joins_103 (Nat.le_of_ble_eq_true rfl) rfl rfl ?_
            refine z_iconst (pc := 105) h dX11_joins_105 ?_
            refine z_istore (pc := 106) (loc' := [some (zr 0), some (zi u), some (zi (f : Int)), some (zi (m : Int)), some (zi ((m ^ f : Nat) : Int)), some (zi c), some (zi c), some (zi 0), some (zi 0), some (zi 0), some (zi 1), none, none, none, none]) h dX11_joins_106 (Nat.le_of_ble_eq_true rfl) rfl rfl ?_
            refine z_iload_n (pc := 108) h dX11_joins_108 rfl ?_
            refine z_iconst (pc := 109) h dX11_joins_109 ?_
            refine z_isub (pc := 110) h dX11_joins_110 ?_
            refine z_istore (pc := 111) (loc' := [some (zr 0), some (zi u), some (zi (f : Int)), some (zi (m : Int)), some (zi ((m ^ f : Nat) : Int)), some (zi c), some (zi c), some (zi 0), some (zi 0), some (zi 0), some (zi 1), some (zi ((f : Int) - 1)), none, none, none]) h dX11_joins_111 (Nat.le_of_ble_eq_true rfl) rfl rfl ?_
            have J113 : ∀ (N : Nat) (l us sm nt is k : Int) (S2 : SS) (hk : -1 ≤ k ∧ k ≤ (f : Int) - 1) (hl : l = ((c.toNat / m ^ ((f : Int) - 1 - k).toNat : Nat) : Int)) (hus : us = ((orL (dgs m ((f : Int) - 1 - k).toNat c.toNat) : Nat) : Int)) (hsm : sm = csL A (k + 1).toNat (dgs m ((f : Int) - 1 - k).toNat c.toNat)) (hnt : nt = nsL A (k + 1).toNat (dgs m ((f : Int) - 1 - k).toNat c.toNat)) (his : (is = 1 ∧ dst (dgs m ((f : Int) - 1 - k).toNat c.toNat)) ∨ (is = 0 ∧ ¬ dst (dgs m ((f : Int) - 1 - k).toNat c.toNat))) (hrw : ∀ i : Nat, k < (i : Int) → i < f → S2 9 i = (((dgs m f c.toNat).getD i 0 : Nat) : Int)) (hE2 : ∀ x y, x ≠ 9 → S2 x y = S1 x y) , (k + 1).toNat = N → zG x LM 113 [some (zr 0), some (zi u), some (zi (f : Int)), some (zi (m : Int)), some (zi ((m ^ f : Nat) : Int)), some (zi c), some (zi l), some (zi us), some (zi sm), some (zi nt), some (zi is), some (zi k), none, none, none] ([] : List zV) S2 := by
              intro N
              induction N using Nat.strongRecOn with
              | _ N ih113 => ?_
              intro l us sm nt is k S2 hk hl hus hsm hnt his hrw hE2 hN113
              refine z_iload (pc := 113) h dX11_joins_113 rfl ?_
              refine z_if_lt (pc := 115) (tgt := 295) h dX11_joins_115 (by decide) ⟨by omega, by omega⟩ (fun hc115 => ?_) (fun hc115 => ?_)
              ·
                have hk1 : k = -1 := by omega
                have hDD : (dgs m ((f : Int) - 1 - k).toNat c.toNat) = (dgs m f c.toNat) := by rw [show ((f : Int) - 1 - k).toNat = f by omega]
                rw [hDD] at hus hsm hnt his
                rw [show (k + 1).toNat = 0 by omega] at hsm hnt
                have hcb := csL_b hm (dgs m f c.toNat) 0
                have hnb := nsL_b A (dgs m f c.toNat) 0
                rw [dgs_len] at hcb hnb
                obtain ⟨ge1, ge2⟩ := GJ_e (A := A) (c := c.toNat) hfm.2 hmf
                have hg0 : ∀ _u : Unit, is = 0 → GJ A m f c.toNat = tE := fun _ q => ge2 (by rcases his with ⟨r1, r2⟩ | ⟨r1, r2⟩; omega; exact r2)
                have hg1 : ∀ _u : Unit, is = 1 → GJ A m f c.toNat = (1, sm, nt, nt, nt, (dgs m f c.toNat)) := fun _ q => by rw [ge1 (by rcases his with ⟨r1, r2⟩ | ⟨r1, r2⟩; exact r2; omega), ← hsm, ← hnt]
                clear ge1 ge2
                have hgb : bnd (GJ A m f c.toNat) := by rcases his with ⟨r1, r2⟩ | ⟨r1, r2⟩; (rw [hg1 () r1]; exact ⟨⟨by show 0 ≤ sm; omega, by show sm ≤ 1000; omega⟩, by show -1000 ≤ nt; omega, by show nt ≤ 1000; omega⟩); (rw [hg0 () r1]; exact ⟨⟨by show (0 : Int) ≤ 0; decide, by show (0 : Int) ≤ 1000; decide⟩, by show (-1000 : Int) ≤ 0; decide, by show (0 : Int) ≤ 1000; decide⟩)
                have haccb := accQ_n hacc hab
                have hEE : ∀ x y, x ≠ 9 → x ≠ 10 → ¬ (x = 0 ∧ 10 ≤ y ∧ y ≤ 13) → S2 x y = S x y := fun x y q1 q2 q3 => by rw [hE2 x y q1]; exact hE x y q1 q2 q3
                have e0 : ∀ y, S2 0 y = S1 0 y := fun y => hE2 _ _ (by decide)
                have hacc2 : accQ f S2 (tF (GJ A m f) c.toNat tE) := by unfold accQ at hacc ⊢; rw [e0, e0, e0, e0]; rcases hacc with q | ⟨r1, r2, r3, r4, r5, r6, r7⟩; exact Or.inl q; exact Or.inr ⟨r1, r2, r3, r4, r5, r6, fun i hi => by rw [hE2 _ _ (by decide)]; exact r7 i hi⟩
                have e010 := e0 10
                have haccb2 := accQ_n hacc2 hab
                refine z_iload (pc := 295) h dX11_joins_295 rfl ?_
                have J405 : ∀ (S5 : SS) (hA5 : accQ f S5 (tC (tF (GJ A m f) c.toNat tE) (GJ A m f c.toNat))) (hE5 : ∀ x y, x ≠ 9 → x ≠ 10 → ¬ (x = 0 ∧ 10 ≤ y ∧ y ≤ 13) → S5 x y = S x y) , zG x LM 405 [some (zr 0), some (zi u), some (zi (f : Int)), some (zi (m : Int)), some (zi ((m ^ f : Nat) : Int)), some (zi c), none, none, none, none, none, none, none, none, none] ([] : List zV) S5 := by
                  intro S5 hA5 hE5
                  refine z_iinc (pc := 405) (loc' := [some (zr 0), some (zi u), some (zi (f : Int)), some (zi (m : Int)), some (zi ((m ^ f : Nat) : Int)), some (zi (c + 1)), none, none, none, none, none, none, none, none, none]) h dX11_joins_405 rfl (Nat.le_of_ble_eq_true rfl) rfl rfl ?_
                  refine z_goto (pc := 408) (tgt := 85) h dX11_joins_408 (by decide) ?_
                  exact ih85 _ (by omega) (c + 1) S5 (by omega) (by rw [show (c + 1).toNat = c.toNat + 1 by omega]; exact hA5) (by rw [show (c + 1).toNat = c.toNat + 1 by omega]; exact bnd_C hab hgb) (by exact hE5) rfl
                refine z_if_eq (pc := 297) (tgt := 360) h dX11_joins_297 (by decide) ⟨by omega, by omega⟩ (fun hc297 => ?_) (fun hc297 => ?_)
                ·
                  refine z_iload (pc := 360) h dX11_joins_360 rfl ?_
                  refine z_if_eq (pc := 362) (tgt := 405) h dX11_joins_362 (by decide) ⟨by omega, by omega⟩ (fun hc362 => ?_) (fun hc362 => ?_)
                  ·
                    refine z_forget [true, true, true, true, true, true, false, false, false, false, false, false, true, true, true] (loc' := [some (zr 0), some (zi u), some (zi (f : Int)), some (zi (m : Int)), some (zi ((m ^ f : Nat) : Int)), some (zi c), none, none, none, none, none, none, none, none, none]) rfl ?_
                    exact J405 S2 (by first | exact absurd hc297 hc362 | exact absurd hc362 hc297 | (rw [hg0 () hc297, tC_0 rfl]; exact hacc2) | (have h9x := g10; rw [hg1 () (his.resolve_right (fun q => hc297 q.1)).1]; first | exact absurd g10.1.symm hc371 | exact absurd g10.2.2.1.symm hc391 | exact accQ_lt hacc2 hc306 (by rw [up2_j _ _ (by decide), up2_j _ _ (by decide)]; exact g10.1) (by rw [up2_j _ _ (by decide), up2_s, g10.2.1]; rfl) (by rw [up2_j _ _ (by decide), up2_j _ _ (by decide)]; exact g10.2.2.1) (by rw [up2_s]; exact g10.2.2.2) (fun i hi => by rw [up2_k _ _ (by decide), up2_k _ _ (by decide)]; exact hc3 i (by omega))) | (have h9x : sm = S2 0 10 := hc371; rw [hg1 () (his.resolve_right (fun q => hc297 q.1)).1]; first | exact accQ_eq hacc2 (by omega) h9x (by rw [up2_j _ _ (by decide), up2_j _ _ (by decide)]) (by rw [up2_j _ _ (by decide), up2_s]) (by rw [up2_j _ _ (by decide), up2_j _ _ (by decide)]) (Or.inl ⟨hc391, up2_s _ _ _ _⟩) (fun i => by rw [up2_k _ _ (by decide), up2_k _ _ (by decide)]) | exact accQ_eq hacc2 (by omega) h9x (by rw [up2_j _ _ (by decide), up2_j _ _ (by decide)]) (by rw [up2_j _ _ (by decide), up2_s]) (by rw [up2_j _ _ (by decide), up2_j _ _ (by decide)]) (Or.inr ⟨hc391, up2_s _ _ _ _⟩) (fun i => by rw [up2_k _ _ (by decide), up2_k _ _ (by decide)])) | (have h9x : ¬ sm = S2 0 10 := hc371; rw [hg1 () (his.resolve_right (fun q => hc297 q.1)).1]; exact accQ_gt hacc2 (by omega) (by omega))) (by first | (have h9x := hE3; first | exact hE3 | exact (fun x y q1 q2 q3 => by rw [up2_e, if_neg (by omega), up2_e, if_neg (by omega)]; exact hE3 x y q1 q2 q3)) | exact hEE | exact (fun x y q1 q2 q3 => by rw [up2_e, if_neg (by omega), up2_e, if_neg (by omega)]; exact hEE x y q1 q2 q3))
                  ·
                    refine z_iload (pc := 365) h dX11_joins_365 rfl ?_
                    refine z_aload_n (pc := 367) h dX11_joins_367 rfl ?_
                    refine z_getI (pc := 368) h dX11_joins_368 clX11 lkX11_142 (by decide) rfl rfl ?_
                    refine z_icmp_ne (pc := 371) (tgt := 405) h dX11_joins_371 (by decide) ⟨by omega, by omega⟩ ⟨by omega, by omega⟩ (fun hc371 => ?_) (fun hc371 => ?_)
                    ·
                      refine z_forget [true, true, true, true, true, true, false, false, false, false, false, false, true, true, true] (loc' := [some (zr 0), some (zi u), some (zi (f : Int)), some (zi (m : Int)), some (zi ((m ^ f : Nat) : Int)), some (zi c), none, none, none, none, none, none, none, none, none]) rfl ?_
                      exact J405 S2 (by first | exact absurd hc297 hc362 | exact absurd hc362 hc297 | (rw [hg0 () hc297, tC_0 rfl]; exact hacc2) | (have h9x := g10; rw [hg1 () (his.resolve_right (fun q => hc297 q.1)).1]; first | exact absurd g10.1.symm hc371 | exact absurd g10.2.2.1.symm hc391 | exact accQ_lt hacc2 hc306 (by rw [up2_j _ _ (by decide), up2_j _ _ (by decide)]; exact g10.1) (by rw [up2_j _ _ (by decide), up2_s, g10.2.1]; rfl) (by rw [up2_j _ _ (by decide), up2_j _ _ (by decide)]; exact g10.2.2.1) (by rw [up2_s]; exact g10.2.2.2) (fun i hi => by rw [up2_k _ _ (by decide), up2_k _ _ (by decide)]; exact hc3 i (by omega))) | (have h9x : sm = S2 0 10 := hc371; rw [hg1 () (his.resolve_right (fun q => hc297 q.1)).1]; first | exact accQ_eq hacc2 (by omega) h9x (by rw [up2_j _ _ (by decide), up2_j _ _ (by decide)]) (by rw [up2_j _ _ (by decide), up2_s]) (by rw [up2_j _ _ (by decide), up2_j _ _ (by decide)]) (Or.inl ⟨hc391, up2_s _ _ _ _⟩) (fun i => by rw [up2_k _ _ (by decide), up2_k _ _ (by decide)]) | exact accQ_eq hacc2 (by omega) h9x (by rw [up2_j _ _ (by decide), up2_j _ _ (by decide)]) (by rw [up2_j _ _ (by decide), up2_s]) (by rw [up2_j _ _ (by decide), up2_j _ _ (by decide)]) (Or.inr ⟨hc391, up2_s _ _ _ _⟩) (fun i => by rw [up2_k _ _ (by decide), up2_k _ _ (by decide)])) | (have h9x : ¬ sm = S2 0 10 := hc371; rw [hg1 () (his.resolve_right (fun q => hc297 q.1)).1]; exact accQ_gt hacc2 (by omega) (by omega))) (by first | (have h9x := hE3; first | exact hE3 | exact (fun x y q1 q2 q3 => by rw [up2_e, if_neg (by omega), up2_e, if_neg (by omega)]; exact hE3 x y q1 q2 q3)) | exact hEE | exact (fun x y q1 q2 q3 => by rw [up2_e, if_neg (by omega), up2_e, if_neg (by omega)]; exact hEE x y q1 q2 q3))
                    ·
                      refine z_aload_n (pc := 374) h dX11_joins_374 rfl ?_
                      refine z_dup (pc := 375) h dX11_joins_375 rfl ?_
                      refine z_getI (pc := 376) h dX11_joins_376 clX11 lkX11_146 (by decide) rfl rfl ?_
                      refine z_iconst (pc := 379) h dX11_joins_379 ?_
                      refine z_iadd (pc := 380) h dX11_joins_380 ?_
                      refine z_putI (pc := 381) h dX11_joins_381 clX11 lkX11_146 (by decide) rfl rfl rfl rfl ?_
                      refine z_aload_n (pc := 384) h dX11_joins_384 rfl ?_
                      refine z_iload (pc := 385) h dX11_joins_385 rfl ?_
                      refine z_aload_n (pc := 387) h dX11_joins_387 rfl ?_
                      refine z_getI (pc := 388) h dX11_joins_388 clX11 lkX11_149 (by decide) rfl rfl ?_
                      refine z_cv (b := (S2 0 12)) (by rw [up2_j _ _ (by decide)]) ?_
                      refine z_icmp_eq (pc := 391) (tgt := 398) h dX11_joins_391 (by decide) ⟨by omega, by omega⟩ ⟨by omega, by omega⟩ (fun hc391 => ?_) (fun hc391 => ?_)
                      ·
                        refine z_aload_n (pc := 398) h dX11_joins_398 rfl ?_
                        refine z_getI (pc := 399) h dX11_joins_399 clX11 lkX11_152 (by decide) rfl rfl ?_
                        refine z_cv (b := (S2 0 13)) (by rw [up2_j _ _ (by decide)]) ?_
                        refine z_putI (pc := 402) h dX11_joins_402 clX11 lkX11_152 (by decide) rfl rfl rfl rfl ?_
                        refine z_forget [true, true, true, true, true, true, false, false, false, false, false, false, true, true, true] (loc' := [some (zr 0), some (zi u), some (zi (f : Int)), some (zi (m : Int)), some (zi ((m ^ f : Nat) : Int)), some (zi c), none, none, none, none, none, none, none, none, none]) rfl ?_
                        exact J405 (up2 (up2 S2 0 11 ((S2 0 11) + 1)) 0 13 (S2 0 13)) (by first | exact absurd hc297 hc362 | exact absurd hc362 hc297 | (rw [hg0 () hc297, tC_0 rfl]; exact hacc2) | (have h9x := g10; rw [hg1 () (his.resolve_right (fun q => hc297 q.1)).1]; first | exact absurd g10.1.symm hc371 | exact absurd g10.2.2.1.symm hc391 | exact accQ_lt hacc2 hc306 (by rw [up2_j _ _ (by decide), up2_j _ _ (by decide)]; exact g10.1) (by rw [up2_j _ _ (by decide), up2_s, g10.2.1]; rfl) (by rw [up2_j _ _ (by decide), up2_j _ _ (by decide)]; exact g10.2.2.1) (by rw [up2_s]; exact g10.2.2.2) (fun i hi => by rw [up2_k _ _ (by decide), up2_k _ _ (by decide)]; exact hc3 i (by omega))) | (have h9x : sm = S2 0 10 := hc371; rw [hg1 () (his.resolve_right (fun q => hc297 q.1)).1]; first | exact accQ_eq hacc2 (by omega) h9x (by rw [up2_j _ _ (by decide), up2_j _ _ (by decide)]) (by rw [up2_j _ _ (by decide), up2_s]) (by rw [up2_j _ _ (by decide), up2_j _ _ (by decide)]) (Or.inl ⟨hc391, up2_s _ _ _ _⟩) (fun i => by rw [up2_k _ _ (by decide), up2_k _ _ (by decide)]) | exact accQ_eq hacc2 (by omega) h9x (by rw [up2_j _ _ (by decide), up2_j _ _ (by decide)]) (by rw [up2_j _ _ (by decide), up2_s]) (by rw [up2_j _ _ (by decide), up2_j _ _ (by decide)]) (Or.inr ⟨hc391, up2_s _ _ _ _⟩) (fun i => by rw [up2_k _ _ (by decide), up2_k _ _ (by decide)])) | (have h9x : ¬ sm = S2 0 10 := hc371; rw [hg1 () (his.resolve_right (fun q => hc297 q.1)).1]; exact accQ_gt hacc2 (by omega) (by omega))) (by first | (have h9x := hE3; first | exact hE3 | exact (fun x y q1 q2 q3 => by rw [up2_e, if_neg (by omega), up2_e, if_neg (by omega)]; exact hE3 x y q1 q2 q3)) | exact hEE | exact (fun x y q1 q2 q3 => by rw [up2_e, if_neg (by omega), up2_e, if_neg (by omega)]; exact hEE x y q1 q2 q3))
                      ·
                        refine z_iconst (pc := 394) h dX11_joins_394 ?_
                        refine z_goto (pc := 395) (tgt := 402) h dX11_joins_395 (by decide) ?_
                        refine z_putI (pc := 402) h dX11_joins_402 clX11 lkX11_152 (by decide) rfl rfl rfl rfl ?_
                        refine z_forget [true, true, true, true, true, true, false, false, false, false, false, false, true, true, true] (loc' := [some (zr 0), some (zi u), some (zi (f : Int)), some (zi (m : Int)), some (zi ((m ^ f : Nat) : Int)), some (zi c), none, none, none, none, none, none, none, none, none]) rfl ?_
                        exact J405 (up2 (up2 S2 0 11 ((S2 0 11) + 1)) 0 13 1) (by first | exact absurd hc297 hc362 | exact absurd hc362 hc297 | (rw [hg0 () hc297, tC_0 rfl]; exact hacc2) | (have h9x := g10; rw [hg1 () (his.resolve_right (fun q => hc297 q.1)).1]; first | exact absurd g10.1.symm hc371 | exact absurd g10.2.2.1.symm hc391 | exact accQ_lt hacc2 hc306 (by rw [up2_j _ _ (by decide), up2_j _ _ (by decide)]; exact g10.1) (by rw [up2_j _ _ (by decide), up2_s, g10.2.1]; rfl) (by rw [up2_j _ _ (by decide), up2_j _ _ (by decide)]; exact g10.2.2.1) (by rw [up2_s]; exact g10.2.2.2) (fun i hi => by rw [up2_k _ _ (by decide), up2_k _ _ (by decide)]; exact hc3 i (by omega))) | (have h9x : sm = S2 0 10 := hc371; rw [hg1 () (his.resolve_right (fun q => hc297 q.1)).1]; first | exact accQ_eq hacc2 (by omega) h9x (by rw [up2_j _ _ (by decide), up2_j _ _ (by decide)]) (by rw [up2_j _ _ (by decide), up2_s]) (by rw [up2_j _ _ (by decide), up2_j _ _ (by decide)]) (Or.inl ⟨hc391, up2_s _ _ _ _⟩) (fun i => by rw [up2_k _ _ (by decide), up2_k _ _ (by decide)]) | exact accQ_eq hacc2 (by omega) h9x (by rw [up2_j _ _ (by decide), up2_j _ _ (by decide)]) (by rw [up2_j _ _ (by decide), up2_s]) (by rw [up2_j _ _ (by decide), up2_j _ _ (by decide)]) (Or.inr ⟨hc391, up2_s _ _ _ _⟩) (fun i => by rw [up2_k _ _ (by decide), up2_k _ _ (by decide)])) | (have h9x : ¬ sm = S2 0 10 := hc371; rw [hg1 () (his.resolve_right (fun q => hc297 q.1)).1]; exact accQ_gt hacc2 (by omega) (by omega))) (by first | (have h9x := hE3; first | exact hE3 | exact (fun x y q1 q2 q3 => by rw [up2_e, if_neg (by omega), up2_e, if_neg (by omega)]; exact hE3 x y q1 q2 q3)) | exact hEE | exact (fun x y q1 q2 q3 => by rw [up2_e, if_neg (by omega), up2_e, if_neg (by omega)]; exact hEE x y q1 q2 q3))
                ·
                  refine z_iload (pc := 300) h dX11_joins_300 rfl ?_
                  refine z_aload_n (pc := 302) h dX11_joins_302 rfl ?_
                  refine z_getI (pc := 303) h dX11_joins_303 clX11 lkX11_142 (by decide) rfl rfl ?_
                  refine z_icmp_ge (pc := 306) (tgt := 360) h dX11_joins_306 (by decide) ⟨by omega, by omega⟩ ⟨by omega, by omega⟩ (fun hc306 => ?_) (fun hc306 => ?_)
                  ·
                    refine z_iload (pc := 360) h dX11_joins_360 rfl ?_
                    refine z_if_eq (pc := 362) (tgt := 405) h dX11_joins_362 (by decide) ⟨by omega, by omega⟩ (fun hc362 => ?_) (fun hc362 => ?_)
                    ·
                      refine z_forget [true, true, true, true, true, true, false, false, false, false, false, false, true, true, true] (loc' := [some (zr 0), some (zi u), some (zi (f : Int)), some (zi (m : Int)), some (zi ((m ^ f : Nat) : Int)), some (zi c), none, none, none, none, none, none, none, none, none]) rfl ?_
                      exact J405 S2 (by first | exact absurd hc297 hc362 | exact absurd hc362 hc297 | (rw [hg0 () hc297, tC_0 rfl]; exact hacc2) | (have h9x := g10; rw [hg1 () (his.resolve_right (fun q => hc297 q.1)).1]; first | exact absurd g10.1.symm hc371 | exact absurd g10.2.2.1.symm hc391 | exact accQ_lt hacc2 hc306 (by rw [up2_j _ _ (by decide), up2_j _ _ (by decide)]; exact g10.1) (by rw [up2_j _ _ (by decide), up2_s, g10.2.1]; rfl) (by rw [up2_j _ _ (by decide), up2_j _ _ (by decide)]; exact g10.2.2.1) (by rw [up2_s]; exact g10.2.2.2) (fun i hi => by rw [up2_k _ _ (by decide), up2_k _ _ (by decide)]; exact hc3 i (by omega))) | (have h9x : sm = S2 0 10 := hc371; rw [hg1 () (his.resolve_right (fun q => hc297 q.1)).1]; first | exact accQ_eq hacc2 (by omega) h9x (by rw [up2_j _ _ (by decide), up2_j _ _ (by decide)]) (by rw [up2_j _ _ (by decide), up2_s]) (by rw [up2_j _ _ (by decide), up2_j _ _ (by decide)]) (Or.inl ⟨hc391, up2_s _ _ _ _⟩) (fun i => by rw [up2_k _ _ (by decide), up2_k _ _ (by decide)]) | exact accQ_eq hacc2 (by omega) h9x (by rw [up2_j _ _ (by decide), up2_j _ _ (by decide)]) (by rw [up2_j _ _ (by decide), up2_s]) (by rw [up2_j _ _ (by decide), up2_j _ _ (by decide)]) (Or.inr ⟨hc391, up2_s _ _ _ _⟩) (fun i => by rw [up2_k _ _ (by decide), up2_k _ _ (by decide)])) | (have h9x : ¬ sm = S2 0 10 := hc371; rw [hg1 () (his.resolve_right (fun q => hc297 q.1)).1]; exact accQ_gt hacc2 (by omega) (by omega))) (by first | (have h9x := hE3; first | exact hE3 | exact (fun x y q1 q2 q3 => by rw [up2_e, if_neg (by omega), up2_e, if_neg (by omega)]; exact hE3 x y q1 q2 q3)) | exact hEE | exact (fun x y q1 q2 q3 => by rw [up2_e, if_neg (by omega), up2_e, if_neg (by omega)]; exact hEE x y q1 q2 q3))
                    ·
                      refine z_iload (pc := 365) h dX11_joins_365 rfl ?_
                      refine z_aload_n (pc := 367) h dX11_joins_367 rfl ?_
                      refine z_getI (pc := 368) h dX11_joins_368 clX11 lkX11_142 (by decide) rfl rfl ?_
                      refine z_icmp_ne (pc := 371) (tgt := 405) h dX11_joins_371 (by decide) ⟨by omega, by omega⟩ ⟨by omega, by omega⟩ (fun hc371 => ?_) (fun hc371 => ?_)
                      ·
                        refine z_forget [true, true, true, true, true, true, false, false, false, false, false, false, true, true, true] (loc' := [some (zr 0), some (zi u), some (zi (f : Int)), some (zi (m : Int)), some (zi ((m ^ f : Nat) : Int)), some (zi c), none, none, none, none, none, none, none, none, none]) rfl ?_
                        exact J405 S2 (by first | exact absurd hc297 hc362 | exact absurd hc362 hc297 | (rw [hg0 () hc297, tC_0 rfl]; exact hacc2) | (have h9x := g10; rw [hg1 () (his.resolve_right (fun q => hc297 q.1)).1]; first | exact absurd g10.1.symm hc371 | exact absurd g10.2.2.1.symm hc391 | exact accQ_lt hacc2 hc306 (by rw [up2_j _ _ (by decide), up2_j _ _ (by decide)]; exact g10.1) (by rw [up2_j _ _ (by decide), up2_s, g10.2.1]; rfl) (by rw [up2_j _ _ (by decide), up2_j _ _ (by decide)]; exact g10.2.2.1) (by rw [up2_s]; exact g10.2.2.2) (fun i hi => by rw [up2_k _ _ (by decide), up2_k _ _ (by decide)]; exact hc3 i (by omega))) | (have h9x : sm = S2 0 10 := hc371; rw [hg1 () (his.resolve_right (fun q => hc297 q.1)).1]; first | exact accQ_eq hacc2 (by omega) h9x (by rw [up2_j _ _ (by decide), up2_j _ _ (by decide)]) (by rw [up2_j _ _ (by decide), up2_s]) (by rw [up2_j _ _ (by decide), up2_j _ _ (by decide)]) (Or.inl ⟨hc391, up2_s _ _ _ _⟩) (fun i => by rw [up2_k _ _ (by decide), up2_k _ _ (by decide)]) | exact accQ_eq hacc2 (by omega) h9x (by rw [up2_j _ _ (by decide), up2_j _ _ (by decide)]) (by rw [up2_j _ _ (by decide), up2_s]) (by rw [up2_j _ _ (by decide), up2_j _ _ (by decide)]) (Or.inr ⟨hc391, up2_s _ _ _ _⟩) (fun i => by rw [up2_k _ _ (by decide), up2_k _ _ (by decide)])) | (have h9x : ¬ sm = S2 0 10 := hc371; rw [hg1 () (his.resolve_right (fun q => hc297 q.1)).1]; exact accQ_gt hacc2 (by omega) (by omega))) (by first | (have h9x := hE3; first | exact hE3 | exact (fun x y q1 q2 q3 => by rw [up2_e, if_neg (by omega), up2_e, if_neg (by omega)]; exact hE3 x y q1 q2 q3)) | exact hEE | exact (fun x y q1 q2 q3 => by rw [up2_e, if_neg (by omega), up2_e, if_neg (by omega)]; exact hEE x y q1 q2 q3))
                      ·
                        refine z_aload_n (pc := 374) h dX11_joins_374 rfl ?_
                        refine z_dup (pc := 375) h dX11_joins_375 rfl ?_
                        refine z_getI (pc := 376) h dX11_joins_376 clX11 lkX11_146 (by decide) rfl rfl ?_
                        refine z_iconst (pc := 379) h dX11_joins_379 ?_
                        refine z_iadd (pc := 380) h dX11_joins_380 ?_
                        refine z_putI (pc := 381) h dX11_joins_381 clX11 lkX11_146 (by decide) rfl rfl rfl rfl ?_
                        refine z_aload_n (pc := 384) h dX11_joins_384 rfl ?_
                        refine z_iload (pc := 385) h dX11_joins_385 rfl ?_
                        refine z_aload_n (pc := 387) h dX11_joins_387 rfl ?_
                        refine z_getI (pc := 388) h dX11_joins_388 clX11 lkX11_149 (by decide) rfl rfl ?_
                        refine z_cv (b := (S2 0 12)) (by rw [up2_j _ _ (by decide)]) ?_
                        refine z_icmp_eq (pc := 391) (tgt := 398) h dX11_joins_391 (by decide) ⟨by omega, by omega⟩ ⟨by omega, by omega⟩ (fun hc391 => ?_) (fun hc391 => ?_)
                        ·
                          refine z_aload_n (pc := 398) h dX11_joins_398 rfl ?_
                          refine z_getI (pc := 399) h dX11_joins_399 clX11 lkX11_152 (by decide) rfl rfl ?_
                          refine z_cv (b := (S2 0 13)) (by rw [up2_j _ _ (by decide)]) ?_
                          refine z_putI (pc := 402) h dX11_joins_402 clX11 lkX11_152 (by decide) rfl rfl rfl rfl ?_
                          refine z_forget [true, true, true, true, true, true, false, false, false, false, false, false, true, true, true] (loc' := [some (zr 0), some (zi u), some (zi (f : Int)), some (zi (m : Int)), some (zi ((m ^ f : Nat) : Int)), some (zi c), none, none, none, none, none, none, none, none, none]) rfl ?_
                          exact J405 (up2 (up2 S2 0 11 ((S2 0 11) + 1)) 0 13 (S2 0 13)) (by first | exact absurd hc297 hc362 | exact absurd hc362 hc297 | (rw [hg0 () hc297, tC_0 rfl]; exact hacc2) | (have h9x := g10; rw [hg1 () (his.resolve_right (fun q => hc297 q.1)).1]; first | exact absurd g10.1.symm hc371 | exact absurd g10.2.2.1.symm hc391 | exact accQ_lt hacc2 hc306 (by rw [up2_j _ _ (by decide), up2_j _ _ (by decide)]; exact g10.1) (by rw [up2_j _ _ (by decide), up2_s, g10.2.1]; rfl) (by rw [up2_j _ _ (by decide), up2_j _ _ (by decide)]; exact g10.2.2.1) (by rw [up2_s]; exact g10.2.2.2) (fun i hi => by rw [up2_k _ _ (by decide), up2_k _ _ (by decide)]; exact hc3 i (by omega))) | (have h9x : sm = S2 0 10 := hc371; rw [hg1 () (his.resolve_right (fun q => hc297 q.1)).1]; first | exact accQ_eq hacc2 (by omega) h9x (by rw [up2_j _ _ (by decide), up2_j _ _ (by decide)]) (by rw [up2_j _ _ (by decide), up2_s]) (by rw [up2_j _ _ (by decide), up2_j _ _ (by decide)]) (Or.inl ⟨hc391, up2_s _ _ _ _⟩) (fun i => by rw [up2_k _ _ (by decide), up2_k _ _ (by decide)]) | exact accQ_eq hacc2 (by omega) h9x (by rw [up2_j _ _ (by decide), up2_j _ _ (by decide)]) (by rw [up2_j _ _ (by decide), up2_s]) (by rw [up2_j _ _ (by decide), up2_j _ _ (by decide)]) (Or.inr ⟨hc391, up2_s _ _ _ _⟩) (fun i => by rw [up2_k _ _ (by decide), up2_k _ _ (by decide)])) | (have h9x : ¬ sm = S2 0 10 := hc371; rw [hg1 () (his.resolve_right (fun q => hc297 q.1)).1]; exact accQ_gt hacc2 (by omega) (by omega))) (by first | (have h9x := hE3; first | exact hE3 | exact (fun x y q1 q2 q3 => by rw [up2_e, if_neg (by omega), up2_e, if_neg (by omega)]; exact hE3 x y q1 q2 q3)) | exact hEE | exact (fun x y q1 q2 q3 => by rw [up2_e, if_neg (by omega), up2_e, if_neg (by omega)]; exact hEE x y q1 q2 q3))
                        ·
                          refine z_iconst (pc := 394) h dX11_joins_394 ?_
                          refine z_goto (pc := 395) (tgt := 402) h dX11_joins_395 (by decide) ?_
                          refine z_putI (pc := 402) h dX11_joins_402 clX11 lkX11_152 (by decide) rfl rfl rfl rfl ?_
                          refine z_forget [true, true, true, true, true, true, false, false, false, false, false, false, true, true, true] (loc' := [some (zr 0), some (zi u), some (zi (f : Int)), some (zi (m : Int)), some (zi ((m ^ f : Nat) : Int)), some (zi c), none, none, none, none, none, none, none, none, none]) rfl ?_
                          exact J405 (up2 (up2 S2 0 11 ((S2 0 11) + 1)) 0 13 1) (by first | exact absurd hc297 hc362 | exact absurd hc362 hc297 | (rw [hg0 () hc297, tC_0 rfl]; exact hacc2) | (have h9x := g10; rw [hg1 () (his.resolve_right (fun q => hc297 q.1)).1]; first | exact absurd g10.1.symm hc371 | exact absurd g10.2.2.1.symm hc391 | exact accQ_lt hacc2 hc306 (by rw [up2_j _ _ (by decide), up2_j _ _ (by decide)]; exact g10.1) (by rw [up2_j _ _ (by decide), up2_s, g10.2.1]; rfl) (by rw [up2_j _ _ (by decide), up2_j _ _ (by decide)]; exact g10.2.2.1) (by rw [up2_s]; exact g10.2.2.2) (fun i hi => by rw [up2_k _ _ (by decide), up2_k _ _ (by decide)]; exact hc3 i (by omega))) | (have h9x : sm = S2 0 10 := hc371; rw [hg1 () (his.resolve_right (fun q => hc297 q.1)).1]; first | exact accQ_eq hacc2 (by omega) h9x (by rw [up2_j _ _ (by decide), up2_j _ _ (by decide)]) (by rw [up2_j _ _ (by decide), up2_s]) (by rw [up2_j _ _ (by decide), up2_j _ _ (by decide)]) (Or.inl ⟨hc391, up2_s _ _ _ _⟩) (fun i => by rw [up2_k _ _ (by decide), up2_k _ _ (by decide)]) | exact accQ_eq hacc2 (by omega) h9x (by rw [up2_j _ _ (by decide), up2_j _ _ (by decide)]) (by rw [up2_j _ _ (by decide), up2_s]) (by rw [up2_j _ _ (by decide), up2_j _ _ (by decide)]) (Or.inr ⟨hc391, up2_s _ _ _ _⟩) (fun i => by rw [up2_k _ _ (by decide), up2_k _ _ (by decide)])) | (have h9x : ¬ sm = S2 0 10 := hc371; rw [hg1 () (his.resolve_right (fun q => hc297 q.1)).1]; exact accQ_gt hacc2 (by omega) (by omega))) (by first | (have h9x := hE3; first | exact hE3 | exact (fun x y q1 q2 q3 => by rw [up2_e, if_neg (by omega), up2_e, if_neg (by omega)]; exact hE3 x y q1 q2 q3)) | exact hEE | exact (fun x y q1 q2 q3 => by rw [up2_e, if_neg (by omega), up2_e, if_neg (by omega)]; exact hEE x y q1 q2 q3))
                  ·
                    refine z_aload_n (pc := 309) h dX11_joins_309 rfl ?_
                    refine z_iload (pc := 310) h dX11_joins_310 rfl ?_
                    refine z_putI (pc := 312) h dX11_joins_312 clX11 lkX11_142 (by decide) rfl rfl rfl rfl ?_
                    refine z_aload_n (pc := 315) h dX11_joins_315 rfl ?_
                    refine z_iconst (pc := 316) h dX11_joins_316 ?_
                    refine z_putI (pc := 317) h dX11_joins_317 clX11 lkX11_146 (by decide) rfl rfl rfl rfl ?_
                    refine z_aload_n (pc := 320) h dX11_joins_320 rfl ?_
                    refine z_iload (pc := 321) h dX11_joins_321 rfl ?_
                    refine z_putI (pc := 323) h dX11_joins_323 clX11 lkX11_149 (by decide) rfl rfl rfl rfl ?_
                    refine z_aload_n (pc := 326) h dX11_joins_326 rfl ?_
                    refine z_iconst (pc := 327) h dX11_joins_327 ?_
                    refine z_putI (pc := 328) h dX11_joins_328 clX11 lkX11_152 (by decide) rfl rfl rfl rfl ?_
                    refine z_iconst (pc := 331) h dX11_joins_331 ?_
                    refine z_istore (pc := 332) (loc' := [some (zr 0), some (zi u), some (zi (f : Int)), some (zi (m : Int)), some (zi ((m ^ f : Nat) : Int)), some (zi c), some (zi l), some (zi us), some (zi sm), some (zi nt), some (zi is), some (zi 0), none, none, none]) h dX11_joins_332 (Nat.le_of_ble_eq_true rfl) rfl rfl ?_
                    have J334 : ∀ (N : Nat) (k2 : Int) (S3 : SS) (hk2 : 0 ≤ k2 ∧ k2 ≤ f) (g10 : S3 0 10 = sm ∧ S3 0 11 = 0 ∧ S3 0 12 = nt ∧ S3 0 13 = 0) (h93 : ∀ i : Nat, i < f → S3 9 i = (((dgs m f c.toNat).getD i 0 : Nat) : Int)) (hE3 : ∀ x y, x ≠ 9 → x ≠ 10 → ¬ (x = 0 ∧ 10 ≤ y ∧ y ≤ 13) → S3 x y = S x y) (hc3 : ∀ i : Nat, (i : Int) < k2 → S3 10 i = (((dgs m f c.toNat).getD i 0 : Nat) : Int)) , ((f : Int) - k2).toNat = N → zG x LM 334 [some (zr 0), some (zi u), some (zi (f : Int)), some (zi (m : Int)), some (zi ((m ^ f : Nat) : Int)), some (zi c), some (zi l), some (zi us), some (zi sm), some (zi nt), some (zi is), some (zi k2), none, none, none] ([] : List zV) S3 := by
                      intro N
                      induction N using Nat.strongRecOn with
                      | _ N ih334 => ?_
                      intro k2 S3 hk2 g10 h93 hE3 hc3 hN334
                      refine z_iload (pc := 334) h dX11_joins_334 rfl ?_
                      refine z_iload_n (pc := 336) h dX11_joins_336 rfl ?_
                      refine z_icmp_ge (pc := 337) (tgt := 360) h dX11_joins_337 (by decide) ⟨by omega, by omega⟩ ⟨by omega, by omega⟩ (fun hc337 => ?_) (fun hc337 => ?_)
                      ·
                        refine z_iload (pc := 360) h dX11_joins_360 rfl ?_
                        refine z_if_eq (pc := 362) (tgt := 405) h dX11_joins_362 (by decide) ⟨by omega, by omega⟩ (fun hc362 => ?_) (fun hc362 => ?_)
                        ·
                          refine z_forget [true, true, true, true, true, true, false, false, false, false, false, false, true, true, true] (loc' := [some (zr 0), some (zi u), some (zi (f : Int)), some (zi (m : Int)), some (zi ((m ^ f : Nat) : Int)), some (zi c), none, none, none, none, none, none, none, none, none]) rfl ?_
                          exact J405 S3 (by first | exact absurd hc297 hc362 | exact absurd hc362 hc297 | (rw [hg0 () hc297, tC_0 rfl]; exact hacc2) | (have h9x := g10; rw [hg1 () (his.resolve_right (fun q => hc297 q.1)).1]; first | exact absurd g10.1.symm hc371 | exact absurd g10.2.2.1.symm hc391 | exact accQ_lt hacc2 hc306 (by rw [up2_j _ _ (by decide), up2_j _ _ (by decide)]; exact g10.1) (by rw [up2_j _ _ (by decide), up2_s, g10.2.1]; rfl) (by rw [up2_j _ _ (by decide), up2_j _ _ (by decide)]; exact g10.2.2.1) (by rw [up2_s]; exact g10.2.2.2) (fun i hi => by rw [up2_k _ _ (by decide), up2_k _ _ (by decide)]; exact hc3 i (by omega))) | (have h9x : sm = S2 0 10 := hc371; rw [hg1 () (his.resolve_right (fun q => hc297 q.1)).1]; first | exact accQ_eq hacc2 (by omega) h9x (by rw [up2_j _ _ (by decide), up2_j _ _ (by decide)]) (by rw [up2_j _ _ (by decide), up2_s]) (by rw [up2_j _ _ (by decide), up2_j _ _ (by decide)]) (Or.inl ⟨hc391, up2_s _ _ _ _⟩) (fun i => by rw [up2_k _ _ (by decide), up2_k _ _ (by decide)]) | exact accQ_eq hacc2 (by omega) h9x (by rw [up2_j _ _ (by decide), up2_j _ _ (by decide)]) (by rw [up2_j _ _ (by decide), up2_s]) (by rw [up2_j _ _ (by decide), up2_j _ _ (by decide)]) (Or.inr ⟨hc391, up2_s _ _ _ _⟩) (fun i => by rw [up2_k _ _ (by decide), up2_k _ _ (by decide)])) | (have h9x : ¬ sm = S2 0 10 := hc371; rw [hg1 () (his.resolve_right (fun q => hc297 q.1)).1]; exact accQ_gt hacc2 (by omega) (by omega))) (by first | (have h9x := hE3; first | exact hE3 | exact (fun x y q1 q2 q3 => by rw [up2_e, if_neg (by omega), up2_e, if_neg (by omega)]; exact hE3 x y q1 q2 q3)) | exact hEE | exact (fun x y q1 q2 q3 => by rw [up2_e, if_neg (by omega), up2_e, if_neg (by omega)]; exact hEE x y q1 q2 q3))
                        ·
                          refine z_iload (pc := 365) h dX11_joins_365 rfl ?_
                          refine z_aload_n (pc := 367) h dX11_joins_367 rfl ?_
                          refine z_getI (pc := 368) h dX11_joins_368 clX11 lkX11_142 (by decide) rfl rfl ?_
                          refine z_icmp_ne (pc := 371) (tgt := 405) h dX11_joins_371 (by decide) ⟨by omega, by omega⟩ ⟨by omega, by omega⟩ (fun hc371 => ?_) (fun hc371 => ?_)
                          ·
                            refine z_forget [true, true, true, true, true, true, false, false, false, false, false, false, true, true, true] (loc' := [some (zr 0), some (zi u), some (zi (f : Int)), some (zi (m : Int)), some (zi ((m ^ f : Nat) : Int)), some (zi c), none, none, none, none, none, none, none, none, none]) rfl ?_
                            exact J405 S3 (by first | exact absurd hc297 hc362 | exact absurd hc362 hc297 | (rw [hg0 () hc297, tC_0 rfl]; exact hacc2) | (have h9x := g10; rw [hg1 () (his.resolve_right (fun q => hc297 q.1)).1]; first | exact absurd g10.1.symm hc371 | exact absurd g10.2.2.1.symm hc391 | exact accQ_lt hacc2 hc306 (by rw [up2_j _ _ (by decide), up2_j _ _ (by decide)]; exact g10.1) (by rw [up2_j _ _ (by decide), up2_s, g10.2.1]; rfl) (by rw [up2_j _ _ (by decide), up2_j _ _ (by decide)]; exact g10.2.2.1) (by rw [up2_s]; exact g10.2.2.2) (fun i hi => by rw [up2_k _ _ (by decide), up2_k _ _ (by decide)]; exact hc3 i (by omega))) | (have h9x : sm = S2 0 10 := hc371; rw [hg1 () (his.resolve_right (fun q => hc297 q.1)).1]; first | exact accQ_eq hacc2 (by omega) h9x (by rw [up2_j _ _ (by decide), up2_j _ _ (by decide)]) (by rw [up2_j _ _ (by decide), up2_s]) (by rw [up2_j _ _ (by decide), up2_j _ _ (by decide)]) (Or.inl ⟨hc391, up2_s _ _ _ _⟩) (fun i => by rw [up2_k _ _ (by decide), up2_k _ _ (by decide)]) | exact accQ_eq hacc2 (by omega) h9x (by rw [up2_j _ _ (by decide), up2_j _ _ (by decide)]) (by rw [up2_j _ _ (by decide), up2_s]) (by rw [up2_j _ _ (by decide), up2_j _ _ (by decide)]) (Or.inr ⟨hc391, up2_s _ _ _ _⟩) (fun i => by rw [up2_k _ _ (by decide), up2_k _ _ (by decide)])) | (have h9x : ¬ sm = S2 0 10 := hc371; rw [hg1 () (his.resolve_right (fun q => hc297 q.1)).1]; exact accQ_gt hacc2 (by omega) (by omega))) (by first | (have h9x := hE3; first | exact hE3 | exact (fun x y q1 q2 q3 => by rw [up2_e, if_neg (by omega), up2_e, if_neg (by omega)]; exact hE3 x y q1 q2 q3)) | exact hEE | exact (fun x y q1 q2 q3 => by rw [up2_e, if_neg (by omega), up2_e, if_neg (by omega)]; exact hEE x y q1 q2 q3))
                          ·
                            refine z_aload_n (pc := 374) h dX11_joins_374 rfl ?_
                            refine z_dup (pc := 375) h dX11_joins_375 rfl ?_
                            refine z_getI (pc := 376) h dX11_joins_376 clX11 lkX11_146 (by decide) rfl rfl ?_
                            refine z_iconst (pc := 379) h dX11_joins_379 ?_
                            refine z_iadd (pc := 380) h dX11_joins_380 ?_
                            refine z_putI (pc := 381) h dX11_joins_381 clX11 lkX11_146 (by decide) rfl rfl rfl rfl ?_
                            refine z_aload_n (pc := 384) h dX11_joins_384 rfl ?_
                            refine z_iload (pc := 385) h dX11_joins_385 rfl ?_
                            refine z_aload_n (pc := 387) h dX11_joins_387 rfl ?_
                            refine z_getI (pc := 388) h dX11_joins_388 clX11 lkX11_149 (by decide) rfl rfl ?_
                            refine z_cv (b := (S3 0 12)) (by rw [up2_j _ _ (by decide)]) ?_
                            refine z_icmp_eq (pc := 391) (tgt := 398) h dX11_joins_391 (by decide) ⟨by omega, by omega⟩ ⟨by omega, by omega⟩ (fun hc391 => ?_) (fun hc391 => ?_)
                            ·
                              refine z_aload_n (pc := 398) h dX11_joins_398 rfl ?_
                              refine z_getI (pc := 399) h dX11_joins_399 clX11 lkX11_152 (by decide) rfl rfl ?_
                              refine z_cv (b := (S3 0 13)) (by rw [up2_j _ _ (by decide)]) ?_
                              refine z_putI (pc := 402) h dX11_joins_402 clX11 lkX11_152 (by decide) rfl rfl rfl rfl ?_
                              refine z_forget [true, true, true, true, true, true, false, false, false, false, false, false, true, true, true] (loc' := [some (zr 0), some (zi u), some (zi (f : Int)), some (zi (m : Int)), some (zi ((m ^ f : Nat) : Int)), some (zi c), none, none, none, none, none, none, none, none, none]) rfl ?_
                              exact J405 (up2 (up2 S3 0 11 ((S3 0 11) + 1)) 0 13 (S3 0 13)) (by first | exact absurd hc297 hc362 | exact absurd hc362 hc297 | (rw [hg0 () hc297, tC_0 rfl]; exact hacc2) | (have h9x := g10; rw [hg1 () (his.resolve_right (fun q => hc297 q.1)).1]; first | exact absurd g10.1.symm hc371 | exact absurd g10.2.2.1.symm hc391 | exact accQ_lt hacc2 hc306 (by rw [up2_j _ _ (by decide), up2_j _ _ (by decide)]; exact g10.1) (by rw [up2_j _ _ (by decide), up2_s, g10.2.1]; rfl) (by rw [up2_j _ _ (by decide), up2_j _ _ (by decide)]; exact g10.2.2.1) (by rw [up2_s]; exact g10.2.2.2) (fun i hi => by rw [up2_k _ _ (by decide), up2_k _ _ (by decide)]; exact hc3 i (by omega))) | (have h9x : sm = S2 0 10 := hc371; rw [hg1 () (his.resolve_right (fun q => hc297 q.1)).1]; first | exact accQ_eq hacc2 (by omega) h9x (by rw [up2_j _ _ (by decide), up2_j _ _ (by decide)]) (by rw [up2_j _ _ (by decide), up2_s]) (by rw [up2_j _ _ (by decide), up2_j _ _ (by decide)]) (Or.inl ⟨hc391, up2_s _ _ _ _⟩) (fun i => by rw [up2_k _ _ (by decide), up2_k _ _ (by decide)]) | exact accQ_eq hacc2 (by omega) h9x (by rw [up2_j _ _ (by decide), up2_j _ _ (by decide)]) (by rw [up2_j _ _ (by decide), up2_s]) (by rw [up2_j _ _ (by decide), up2_j _ _ (by decide)]) (Or.inr ⟨hc391, up2_s _ _ _ _⟩) (fun i => by rw [up2_k _ _ (by decide), up2_k _ _ (by decide)])) | (have h9x : ¬ sm = S2 0 10 := hc371; rw [hg1 () (his.resolve_right (fun q => hc297 q.1)).1]; exact accQ_gt hacc2 (by omega) (by omega))) (by first | (have h9x := hE3; first | exact hE3 | exact (fun x y q1 q2 q3 => by rw [up2_e, if_neg (by omega), up2_e, if_neg (by omega)]; exact hE3 x y q1 q2 q3)) | exact hEE | exact (fun x y q1 q2 q3 => by rw [up2_e, if_neg (by omega), up2_e, if_neg (by omega)]; exact hEE x y q1 q2 q3))
                            ·
                              refine z_iconst (pc := 394) h dX11_joins_394 ?_
                              refine z_goto (pc := 395) (tgt := 402) h dX11_joins_395 (by decide) ?_
                              refine z_putI (pc := 402) h dX11_joins_402 clX11 lkX11_152 (by decide) rfl rfl rfl rfl ?_
                              refine z_forget [true, true, true, true, true, true, false, false, false, false, false, false, true, true, true] (loc' := [some (zr 0), some (zi u), some (zi (f : Int)), some (zi (m : Int)), some (zi ((m ^ f : Nat) : Int)), some (zi c), none, none, none, none, none, none, none, none, none]) rfl ?_
                              exact J405 (up2 (up2 S3 0 11 ((S3 0 11) + 1)) 0 13 1) (by first | exact absurd hc297 hc362 | exact absurd hc362 hc297 | (rw [hg0 () hc297, tC_0 rfl]; exact hacc2) | (have h9x := g10; rw [hg1 () (his.resolve_right (fun q => hc297 q.1)).1]; first | exact absurd g10.1.symm hc371 | exact absurd g10.2.2.1.symm hc391 | exact accQ_lt hacc2 hc306 (by rw [up2_j _ _ (by decide), up2_j _ _ (by decide)]; exact g10.1) (by rw [up2_j _ _ (by decide), up2_s, g10.2.1]; rfl) (by rw [up2_j _ _ (by decide), up2_j _ _ (by decide)]; exact g10.2.2.1) (by rw [up2_s]; exact g10.2.2.2) (fun i hi => by rw [up2_k _ _ (by decide), up2_k _ _ (by decide)]; exact hc3 i (by omega))) | (have h9x : sm = S2 0 10 := hc371; rw [hg1 () (his.resolve_right (fun q => hc297 q.1)).1]; first | exact accQ_eq hacc2 (by omega) h9x (by rw [up2_j _ _ (by decide), up2_j _ _ (by decide)]) (by rw [up2_j _ _ (by decide), up2_s]) (by rw [up2_j _ _ (by decide), up2_j _ _ (by decide)]) (Or.inl ⟨hc391, up2_s _ _ _ _⟩) (fun i => by rw [up2_k _ _ (by decide), up2_k _ _ (by decide)]) | exact accQ_eq hacc2 (by omega) h9x (by rw [up2_j _ _ (by decide), up2_j _ _ (by decide)]) (by rw [up2_j _ _ (by decide), up2_s]) (by rw [up2_j _ _ (by decide), up2_j _ _ (by decide)]) (Or.inr ⟨hc391, up2_s _ _ _ _⟩) (fun i => by rw [up2_k _ _ (by decide), up2_k _ _ (by decide)])) | (have h9x : ¬ sm = S2 0 10 := hc371; rw [hg1 () (his.resolve_right (fun q => hc297 q.1)).1]; exact accQ_gt hacc2 (by omega) (by omega))) (by first | (have h9x := hE3; first | exact hE3 | exact (fun x y q1 q2 q3 => by rw [up2_e, if_neg (by omega), up2_e, if_neg (by omega)]; exact hE3 x y q1 q2 q3)) | exact hEE | exact (fun x y q1 q2 q3 => by rw [up2_e, if_neg (by omega), up2_e, if_neg (by omega)]; exact hEE x y q1 q2 q3))
                      ·
                        refine z_aload_n (pc := 340) h dX11_joins_340 rfl ?_
                        refine z_getR (a := 10) (pc := 341) h dX11_joins_341 clX11 lkX11_37 (by decide) rfl rfl ?_
                        refine z_iload (pc := 344) h dX11_joins_344 rfl ?_
                        refine z_aload_n (pc := 346) h dX11_joins_346 rfl ?_
                        refine z_getR (a := 9) (pc := 347) h dX11_joins_347 clX11 lkX11_34 (by decide) rfl rfl ?_
                        refine z_iload (pc := 350) h dX11_joins_350 rfl ?_
                        refine z_iald (pc := 352) h dX11_joins_352 rfl (by decide) (by omega) (by omega) ?_
                        refine z_iast (pc := 353) h dX11_joins_353 rfl (by decide) (by omega) (by omega) ?_
                        refine z_iinc (pc := 354) (loc' := [some (zr 0), some (zi u), some (zi (f : Int)), some (zi (m : Int)), some (zi ((m ^ f : Nat) : Int)), some (zi c), some (zi l), some (zi us), some (zi sm), some (zi nt), some (zi is), some (zi (k2 + 1)), none, none, none]) h dX11_joins_354 rfl (Nat.le_of_ble_eq_true rfl) rfl rfl ?_
                        refine z_goto (pc := 357) (tgt := 334) h dX11_joins_357 (by decide) ?_
                        exact ih334 _ (by omega) (k2 + 1) (up2 S3 10 k2.toNat (S3 9 k2.toNat)) (by omega) (by rw [up2_k _ _ (by decide), up2_k _ _ (by decide), up2_k _ _ (by decide), up2_k _ _ (by decide)]; exact g10) (fun i hi => by rw [up2_k _ _ (by decide)]; exact h93 i hi) (fun x y q1 q2 q3 => by rw [up2_k _ _ q2]; exact hE3 x y q1 q2 q3) (by intro i hi; by_cases hik : i = k2.toNat; (subst hik; rw [up2_s]; exact h93 _ (by omega)); (rw [up2_j _ _ hik]; exact hc3 i (by omega))) rfl
                    exact J334 _ 0 (up2 (up2 (up2 (up2 S2 0 10 sm) 0 11 0) 0 12 nt) 0 13 0) (by omega) (⟨by rw [up2_j _ _ (by decide), up2_j _ _ (by decide), up2_j _ _ (by decide), up2_s], by rw [up2_j _ _ (by decide), up2_j _ _ (by decide), up2_s], by rw [up2_j _ _ (by decide), up2_s], up2_s _ _ _ _⟩) (fun i hi => by rw [up2_k _ _ (by decide), up2_k _ _ (by decide), up2_k _ _ (by decide), up2_k _ _ (by decide)]; exact hrw i (by omega) hi) (fun x y q1 q2 q3 => by rw [up2_e, if_neg (by omega), up2_e, if_neg (by omega), up2_e, if_neg (by omega), up2_e, if_neg (by omega), hE2 x y q1]; exact hE x y q1 q2 q3) (fun i hi => by omega) rfl
              ·
                obtain ⟨j, hJ⟩ : ∃ j, ((f : Int) - 1 - k).toNat = j := ⟨_, rfl⟩
                obtain ⟨dg, hdg⟩ : ∃ dg, c.toNat / m ^ j % m = dg := ⟨_, rfl⟩
                have hm0 : 0 < m := by omega
                have hdgm : dg < m := by rw [← hdg]; exact Nat.mod_lt _ hm0
                have hJ1 : ((f : Int) - 1 - (k + -1)).toNat = j + 1 := by omega
                have hds1 : dgs m (j + 1) c.toNat = dg :: dgs m j c.toNat := by rw [← hdg]; rfl
                have hgd : (dgs m f c.toNat).getD k.toNat 0 = dg := (drop_s (R := (dgs m f c.toNat)) (i := k.toNat) (rest := dgs m j c.toNat) (by rw [← hds1, show k.toNat = f - (j + 1) by omega]; exact dgs_drop m c.toNat f (j + 1) (by omega))).1
                have hRS1 : mRel S1 A := mr_e hR (fun a b a1 a2 a3 a4 a5 a6 => hE a b a3 a4 (by omega)) (fun b => by rw [hE _ _ (by decide) (by decide) (by omega)]; exact hR.2 b)
                have hlb : 0 ≤ l ∧ l ≤ 46656 := by rw [hl]; have h9 := Nat.div_le_self c.toNat (m ^ ((f : Int) - 1 - k).toNat); generalize c.toNat / m ^ ((f : Int) - 1 - k).toNat = z at h9 ⊢; omega
                have husb : orL (dgs m ((f : Int) - 1 - k).toNat c.toNat) < 64 := Nat.lt_of_lt_of_le (orL_lt (m := m) _ (dgs_lt hm0 _ _)) (pow6 hfm.2).2
                have hq9 : ∀ x y, x ≠ 9 → up2 S2 9 k.toNat ((dg : Nat) : Int) x y = S1 x y := fun x y q => by rw [up2_k _ _ q]; exact hE2 x y q
                have hdpw := pw_b (j := ((dg : Nat) : Int)) (by omega)
                have hwb := wyA_b A k.toNat dg
                have hd32 : 0 ≤ ((dg : Nat) : Int) ∧ ((dg : Nat) : Int) ≤ 5 := by omega
                have hfd : fdA A k.toNat dg = if A 8 (6 * u + k).toNat = A 8 (6 * (1 - u) + ((dg : Nat) : Int)).toNat then 0 else A 5 1 := by
                  unfold fdA
                  rcases hu with ⟨q1, q2⟩ | ⟨q1, q2⟩
                  · rw [if_pos q2, q1, show (6 * 1 + k).toNat = 6 + k.toNat by omega, show (6 * (1 - 1) + ((dg : Nat) : Int)).toNat = dg by omega]
                    by_cases q : A 8 dg = A 8 (6 + k.toNat)
                    · rw [if_pos q, if_pos q.symm]
                    · rw [if_neg q, if_neg (fun q3 => q q3.symm)]
                  · rw [if_neg q2, q1, show (6 * 0 + k).toNat = k.toNat by omega, show (6 * (1 - 0) + ((dg : Nat) : Int)).toNat = 6 + dg by omega]
                refine z_aload_n (pc := 118) h dX11_joins_118 rfl ?_
                refine z_getR (a := 9) (pc := 119) h dX11_joins_119 clX11 lkX11_34 (by decide) rfl rfl ?_
                refine z_iload (pc := 122) h dX11_joins_122 rfl ?_
                refine z_iload (pc := 124) h dX11_joins_124 rfl ?_
                refine z_iload_n (pc := 126) h dX11_joins_126 rfl ?_
                refine z_iremN (pc := 127) h dX11_joins_127 ⟨by omega, by omega⟩ ⟨by omega, by omega⟩ ?_
                refine z_cv (b := ((dg : Nat) : Int)) (by rw [hl, hJ, ← Int.natCast_emod, hdg]) ?_
                refine z_iast (pc := 128) h dX11_joins_128 rfl (by decide) (by omega) (by omega) ?_
                refine z_iload (pc := 129) h dX11_joins_129 rfl ?_
                refine z_iload_n (pc := 131) h dX11_joins_131 rfl ?_
                refine z_idivN (pc := 132) h dX11_joins_132 ⟨by omega, by omega⟩ ⟨by omega, by omega⟩ ?_
                refine z_cv (b := ((c.toNat / m ^ (j + 1) : Nat) : Int)) (by rw [hl, hJ, ← Int.natCast_ediv, Nat.pow_succ, Nat.div_div_eq_div_mul]) ?_
                refine z_istore (pc := 133) (loc' := [some (zr 0), some (zi u), some (zi (f : Int)), some (zi (m : Int)), some (zi ((m ^ f : Nat) : Int)), some (zi c), some (zi ((c.toNat / m ^ (j + 1) : Nat) : Int)), some (zi us), some (zi sm), some (zi nt), some (zi is), some (zi k), none, none, none]) h dX11_joins_133 (Nat.le_of_ble_eq_true rfl) rfl rfl ?_
                have J160 : ∀ (is2 : Int) (his2 : (is2 = 1 ∧ dst (dg :: dgs m j c.toNat)) ∨ (is2 = 0 ∧ ¬ dst (dg :: dgs m j c.toNat))) , zG x LM 160 [some (zr 0), some (zi u), some (zi (f : Int)), some (zi (m : Int)), some (zi ((m ^ f : Nat) : Int)), some (zi c), some (zi ((c.toNat / m ^ (j + 1) : Nat) : Int)), some (zi us), some (zi sm), some (zi nt), none, some (zi k), none, none, none] [zi is2] (up2 S2 9 k.toNat ((dg : Nat) : Int)) := by
                  intro is2 his2
                  refine z_istore (pc := 160) (loc' := [some (zr 0), some (zi u), some (zi (f : Int)), some (zi (m : Int)), some (zi ((m ^ f : Nat) : Int)), some (zi c), some (zi ((c.toNat / m ^ (j + 1) : Nat) : Int)), some (zi us), some (zi sm), some (zi nt), some (zi is2), some (zi k), none, none, none]) h dX11_joins_160 (Nat.le_of_ble_eq_true rfl) rfl rfl ?_
                  refine z_iload (pc := 162) h dX11_joins_162 rfl ?_
                  refine z_iconst (pc := 164) h dX11_joins_164 ?_
                  refine z_aload_n (pc := 165) h dX11_joins_165 rfl ?_
                  refine z_getR (a := 9) (pc := 166) h dX11_joins_166 clX11 lkX11_34 (by decide) rfl rfl ?_
                  refine z_iload (pc := 169) h dX11_joins_169 rfl ?_
                  refine z_iald (pc := 171) h dX11_joins_171 rfl (by decide) (by omega) (by omega) ?_
                  refine z_cv (b := ((dg : Nat) : Int)) (by rw [up2_s]) ?_
                  refine z_ishl (pc := 172) h dX11_joins_172 ⟨by omega, by omega⟩ ?_
                  refine z_ior (pc := 173) h dX11_joins_173 ⟨by omega, by omega⟩ ⟨hdpw.1, Int.le_trans hdpw.2 (by decide)⟩ ?_
                  refine z_cv (b := ((orL (dg :: (dgs m ((f : Int) - 1 - k).toNat c.toNat)) : Nat) : Int)) (by rw [hus, or_v (Int.natCast_nonneg _) (Int.natCast_nonneg dg), Int.toNat_natCast]; rfl) ?_
                  refine z_istore (pc := 174) (loc' := [some (zr 0), some (zi u), some (zi (f : Int)), some (zi (m : Int)), some (zi ((m ^ f : Nat) : Int)), some (zi c), some (zi ((c.toNat / m ^ (j + 1) : Nat) : Int)), some (zi ((orL (dg :: (dgs m ((f : Int) - 1 - k).toNat c.toNat)) : Nat) : Int)), some (zi sm), some (zi nt), some (zi is2), some (zi k), none, none, none]) h dX11_joins_174 (Nat.le_of_ble_eq_true rfl) rfl rfl ?_
                  refine z_bipush (pc := 176) h dX11_joins_176 rfl ?_
                  refine z_iload_n (pc := 178) h dX11_joins_178 rfl ?_
                  refine z_imul (pc := 179) h dX11_joins_179 ?_
                  refine z_iload (pc := 180) h dX11_joins_180 rfl ?_
                  refine z_iadd (pc := 182) h dX11_joins_182 ?_
                  refine z_istore (pc := 183) (loc' := [some (zr 0), some (zi u), some (zi (f : Int)), some (zi (m : Int)), some (zi ((m ^ f : Nat) : Int)), some (zi c), some (zi ((c.toNat / m ^ (j + 1) : Nat) : Int)), some (zi ((orL (dg :: (dgs m ((f : Int) - 1 - k).toNat c.toNat)) : Nat) : Int)), some (zi sm), some (zi nt), some (zi is2), some (zi k), some (zi ((6 * u) + k)), none, none]) h dX11_joins_183 (Nat.le_of_ble_eq_true rfl) rfl rfl ?_
                  refine z_bipush (pc := 185) h dX11_joins_185 rfl ?_
                  refine z_iconst (pc := 187) h dX11_joins_187 ?_
                  refine z_iload_n (pc := 188) h dX11_joins_188 rfl ?_
                  refine z_isub (pc := 189) h dX11_joins_189 ?_
                  refine z_imul (pc := 190) h dX11_joins_190 ?_
                  refine z_aload_n (pc := 191) h dX11_joins_191 rfl ?_
                  refine z_getR (a := 9) (pc := 192) h dX11_joins_192 clX11 lkX11_34 (by decide) rfl rfl ?_
                  refine z_iload (pc := 195) h dX11_joins_195 rfl ?_
                  refine z_iald (pc := 197) h dX11_joins_197 rfl (by decide) (by omega) (by omega) ?_
                  refine z_cv (b := ((dg : Nat) : Int)) (by rw [up2_s]) ?_
                  refine z_iadd (pc := 198) h dX11_joins_198 ?_
                  refine z_istore (pc := 199) (loc' := [some (zr 0), some (zi u), some (zi (f : Int)), some (zi (m : Int)), some (zi ((m ^ f : Nat) : Int)), some (zi c), some (zi ((c.toNat / m ^ (j + 1) : Nat) : Int)), some (zi ((orL (dg :: (dgs m ((f : Int) - 1 - k).toNat c.toNat)) : Nat) : Int)), some (zi sm), some (zi nt), some (zi is2), some (zi k), some (zi ((6 * u) + k)), some (zi ((6 * (1 - u)) + ((dg : Nat) : Int))), none]) h dX11_joins_199 (Nat.le_of_ble_eq_true rfl) rfl rfl ?_
                  have J242 : zG x LM 242 [some (zr 0), some (zi u), some (zi (f : Int)), some (zi (m : Int)), some (zi ((m ^ f : Nat) : Int)), some (zi c), some (zi ((c.toNat / m ^ (j + 1) : Nat) : Int)), some (zi ((orL (dg :: (dgs m ((f : Int) - 1 - k).toNat c.toNat)) : Nat) : Int)), some (zi sm), some (zi nt), some (zi is2), some (zi k), some (zi (6 * u + k)), some (zi (6 * (1 - u) + ((dg : Nat) : Int))), none] [zi (wyA A k.toNat dg)] (up2 S2 9 k.toNat ((dg : Nat) : Int)) := by
                    refine z_istore (pc := 242) (loc' := [some (zr 0), some (zi u), some (zi (f : Int)), some (zi (m : Int)), some (zi ((m ^ f : Nat) : Int)), some (zi c), some (zi ((c.toNat / m ^ (j + 1) : Nat) : Int)), some (zi ((orL (dg :: (dgs m ((f : Int) - 1 - k).toNat c.toNat)) : Nat) : Int)), some (zi sm), some (zi nt), some (zi is2), some (zi k), some (zi (6 * u + k)), some (zi (6 * (1 - u) + ((dg : Nat) : Int))), some (zi (wyA A k.toNat dg))]) h dX11_joins_242 (Nat.le_of_ble_eq_true rfl) rfl rfl ?_
                    refine z_iload (pc := 244) h dX11_joins_244 rfl ?_
                    refine z_iload (pc := 246) h dX11_joins_246 rfl ?_
                    refine z_iadd (pc := 248) h dX11_joins_248 ?_
                    refine z_istore (pc := 249) (loc' := [some (zr 0), some (zi u), some (zi (f : Int)), some (zi (m : Int)), some (zi ((m ^ f : Nat) : Int)), some (zi c), some (zi ((c.toNat / m ^ (j + 1) : Nat) : Int)), some (zi ((orL (dg :: (dgs m ((f : Int) - 1 - k).toNat c.toNat)) : Nat) : Int)), some (zi sm), some (zi (nt + (wyA A k.toNat dg))), some (zi is2), some (zi k), some (zi (6 * u + k)), some (zi (6 * (1 - u) + ((dg : Nat) : Int))), some (zi (wyA A k.toNat dg))]) h dX11_joins_249 (Nat.le_of_ble_eq_true rfl) rfl rfl ?_
                    refine z_iload (pc := 251) h dX11_joins_251 rfl ?_
                    refine z_iload (pc := 253) h dX11_joins_253 rfl ?_
                    refine z_callS (pc := 255) (rest := [zi sm]) h (m_X11_amount (wyA A k.toNat dg) (up2 S2 9 k.toNat ((dg : Nat) : Int)) ⟨by omega, by omega⟩) dX11_joins_255 mcX11_amount msX11_amount mlX11_67 rfl rfl ⟨by decide, by decide⟩ rfl (Nat.le_of_ble_eq_true rfl) ?_
                    rintro _ _ ⟨rfl, rfl⟩
                    show zG x LM 258 [some (zr 0), some (zi u), some (zi (f : Int)), some (zi (m : Int)), some (zi ((m ^ f : Nat) : Int)), some (zi c), some (zi ((c.toNat / m ^ (j + 1) : Nat) : Int)), some (zi ((orL (dg :: (dgs m ((f : Int) - 1 - k).toNat c.toNat)) : Nat) : Int)), some (zi sm), some (zi (nt + (wyA A k.toNat dg))), some (zi is2), some (zi k), some (zi (6 * u + k)), some (zi (6 * (1 - u) + ((dg : Nat) : Int))), some (zi (wyA A k.toNat dg))] [zi (absI (wyA A k.toNat dg)), zi sm] (up2 S2 9 k.toNat ((dg : Nat) : Int))
                    have v1 := mi_df hm (6 * u + k).toNat
                    have v2 := mi_df hm (6 * (1 - u) + ((dg : Nat) : Int)).toNat
                    refine z_aload_n (pc := 258) h dX11_joins_258 rfl ?_
                    refine z_getR (a := 8) (pc := 259) h dX11_joins_259 clX11 lkX11_31 (by decide) rfl rfl ?_
                    refine z_iload (pc := 262) h dX11_joins_262 rfl ?_
                    refine z_iald (pc := 264) h dX11_joins_264 rfl (by decide) (by omega) (by omega) ?_
                    refine z_cv (b := (S2 8 (Int.toNat (6 * u + k)))) (by rw [up2_k _ _ (by decide)] <;> rfl) ?_
                    refine z_cv (b := (A 8 (6 * u + k).toNat)) (by rw [hE2 _ _ (by decide)]; exact mr_at hRS1 _ (by decide)) ?_
                    refine z_aload_n (pc := 265) h dX11_joins_265 rfl ?_
                    refine z_getR (a := 8) (pc := 266) h dX11_joins_266 clX11 lkX11_31 (by decide) rfl rfl ?_
                    refine z_iload (pc := 269) h dX11_joins_269 rfl ?_
                    refine z_iald (pc := 271) h dX11_joins_271 rfl (by decide) (by omega) (by omega) ?_
                    refine z_cv (b := (S2 8 (Int.toNat (6 * (1 - u) + ((dg : Nat) : Int))))) (by rw [up2_k _ _ (by decide)] <;> rfl) ?_
                    refine z_cv (b := (A 8 (6 * (1 - u) + ((dg : Nat) : Int)).toNat)) (by rw [hE2 _ _ (by decide)]; exact mr_at hRS1 _ (by decide)) ?_
                    refine z_icmp_ne (pc := 272) (tgt := 279) h dX11_joins_272 (by decide) ⟨by omega, by omega⟩ ⟨by omega, by omega⟩ (fun hc272 => ?_) (fun hc272 => ?_)
                    ·
                      refine z_aload_n (pc := 279) h dX11_joins_279 rfl ?_
                      refine z_getR (a := 5) (pc := 280) h dX11_joins_280 clX11 lkX11_22 (by decide) rfl rfl ?_
                      refine z_iconst (pc := 283) h dX11_joins_283 ?_
                      refine z_iald (pc := 284) h dX11_joins_284 rfl (by decide) (by decide) (by decide) ?_
                      refine z_cv (b := (S2 5 1)) (by rw [up2_k _ _ (by decide)] <;> rfl) ?_
                      refine z_cv (b := (A 5 1)) (by rw [hE2 _ _ (by decide)]; exact mr_at hRS1 _ (by decide)) ?_
                      refine z_iadd (pc := 285) h dX11_joins_285 ?_
                      refine z_iadd (pc := 286) h dX11_joins_286 ?_
                      refine z_istore (pc := 287) (loc' := [some (zr 0), some (zi u), some (zi (f : Int)), some (zi (m : Int)), some (zi ((m ^ f : Nat) : Int)), some (zi c), some (zi ((c.toNat / m ^ (j + 1) : Nat) : Int)), some (zi ((orL (dg :: (dgs m ((f : Int) - 1 - k).toNat c.toNat)) : Nat) : Int)), some (zi (sm + ((absI (wyA A k.toNat dg)) + (A 5 1)))), some (zi (nt + (wyA A k.toNat dg))), some (zi is2), some (zi k), some (zi (6 * u + k)), some (zi (6 * (1 - u) + ((dg : Nat) : Int))), some (zi (wyA A k.toNat dg))]) h dX11_joins_287 (Nat.le_of_ble_eq_true rfl) rfl rfl ?_
                      refine z_iinc (pc := 289) (loc' := [some (zr 0), some (zi u), some (zi (f : Int)), some (zi (m : Int)), some (zi ((m ^ f : Nat) : Int)), some (zi c), some (zi ((c.toNat / m ^ (j + 1) : Nat) : Int)), some (zi ((orL (dg :: (dgs m ((f : Int) - 1 - k).toNat c.toNat)) : Nat) : Int)), some (zi (sm + ((absI (wyA A k.toNat dg)) + (A 5 1)))), some (zi (nt + (wyA A k.toNat dg))), some (zi is2), some (zi (k + (-1))), some (zi (6 * u + k)), some (zi (6 * (1 - u) + ((dg : Nat) : Int))), some (zi (wyA A k.toNat dg))]) h dX11_joins_289 rfl (Nat.le_of_ble_eq_true rfl) rfl rfl ?_
                      refine z_goto (pc := 292) (tgt := 113) h dX11_joins_292 (by decide) ?_
                      refine z_forget [true, true, true, true, true, true, true, true, true, true, true, true, false, false, false] (loc' := [some (zr 0), some (zi u), some (zi (f : Int)), some (zi (m : Int)), some (zi ((m ^ f : Nat) : Int)), some (zi c), some (zi ((c.toNat / m ^ (j + 1) : Nat) : Int)), some (zi ((orL (dg :: (dgs m ((f : Int) - 1 - k).toNat c.toNat)) : Nat) : Int)), some (zi (sm + ((absI (wyA A k.toNat dg)) + (A 5 1)))), some (zi (nt + (wyA A k.toNat dg))), some (zi is2), some (zi (k + (-1))), none, none, none]) rfl ?_
                      exact ih113 _ (by omega) ((c.toNat / m ^ (j + 1) : Nat) : Int) ((orL (dg :: (dgs m ((f : Int) - 1 - k).toNat c.toNat)) : Nat) : Int) (sm + ((absI (wyA A k.toNat dg)) + (A 5 1))) (nt + (wyA A k.toNat dg)) is2 (k + (-1)) (up2 S2 9 k.toNat ((dg : Nat) : Int)) (by omega) (by rw [hJ1]) (by rw [hJ1, hds1, hJ]) (by rw [hJ1, hds1, show (k + -1 + 1).toNat = k.toNat by omega]; show _ = coA A k.toNat dg + csL A (k.toNat + 1) _; rw [hsm, hJ, show (k + 1).toNat = k.toNat + 1 by omega]; unfold coA; rw [hfd]; first | (rw [if_pos (by assumption)]; omega) | (rw [if_neg (by assumption)]; omega)) (by rw [hJ1, hds1, show (k + -1 + 1).toNat = k.toNat by omega]; show _ = wyA A k.toNat dg + nsL A (k.toNat + 1) _; rw [hnt, hJ, show (k + 1).toNat = k.toNat + 1 by omega]; omega) (by rw [hJ1, hds1]; exact his2) (by intro i h1 h2; by_cases hik : i = k.toNat; (subst hik; rw [up2_s, hgd]); (rw [up2_j _ _ hik]; exact hrw i (by omega) h2)) (fun x y q => by rw [up2_k _ _ q]; exact hE2 x y q) rfl
                    ·
                      refine z_iconst (pc := 275) h dX11_joins_275 ?_
                      refine z_goto (pc := 276) (tgt := 285) h dX11_joins_276 (by decide) ?_
                      refine z_iadd (pc := 285) h dX11_joins_285 ?_
                      refine z_iadd (pc := 286) h dX11_joins_286 ?_
                      refine z_istore (pc := 287) (loc' := [some (zr 0), some (zi u), some (zi (f : Int)), some (zi (m : Int)), some (zi ((m ^ f : Nat) : Int)), some (zi c), some (zi ((c.toNat / m ^ (j + 1) : Nat) : Int)), some (zi ((orL (dg :: (dgs m ((f : Int) - 1 - k).toNat c.toNat)) : Nat) : Int)), some (zi (sm + ((absI (wyA A k.toNat dg)) + 0))), some (zi (nt + (wyA A k.toNat dg))), some (zi is2), some (zi k), some (zi (6 * u + k)), some (zi (6 * (1 - u) + ((dg : Nat) : Int))), some (zi (wyA A k.toNat dg))]) h dX11_joins_287 (Nat.le_of_ble_eq_true rfl) rfl rfl ?_
                      refine z_iinc (pc := 289) (loc' := [some (zr 0), some (zi u), some (zi (f : Int)), some (zi (m : Int)), some (zi ((m ^ f : Nat) : Int)), some (zi c), some (zi ((c.toNat / m ^ (j + 1) : Nat) : Int)), some (zi ((orL (dg :: (dgs m ((f : Int) - 1 - k).toNat c.toNat)) : Nat) : Int)), some (zi (sm + ((absI (wyA A k.toNat dg)) + 0))), some (zi (nt + (wyA A k.toNat dg))), some (zi is2), some (zi (k + (-1))), some (zi (6 * u + k)), some (zi (6 * (1 - u) + ((dg : Nat) : Int))), some (zi (wyA A k.toNat dg))]) h dX11_joins_289 rfl (Nat.le_of_ble_eq_true rfl) rfl rfl ?_
                      refine z_goto (pc := 292) (tgt := 113) h dX11_joins_292 (by decide) ?_
                      refine z_forget [true, true, true, true, true, true, true, true, true, true, true, true, false, false, false] (loc' := [some (zr 0), some (zi u), some (zi (f : Int)), some (zi (m : Int)), some (zi ((m ^ f : Nat) : Int)), some (zi c), some (zi ((c.toNat / m ^ (j + 1) : Nat) : Int)), some (zi ((orL (dg :: (dgs m ((f : Int) - 1 - k).toNat c.toNat)) : Nat) : Int)), some (zi (sm + ((absI (wyA A k.toNat dg)) + 0))), some (zi (nt + (wyA A k.toNat dg))), some (zi is2), some (zi (k + (-1))), none, none, none]) rfl ?_
                      exact ih113 _ (by omega) ((c.toNat / m ^ (j + 1) : Nat) : Int) ((orL (dg :: (dgs m ((f : Int) - 1 - k).toNat c.toNat)) : Nat) : Int) (sm + ((absI (wyA A k.toNat dg)) + 0)) (nt + (wyA A k.toNat dg)) is2 (k + (-1)) (up2 S2 9 k.toNat ((dg : Nat) : Int)) (by omega) (by rw [hJ1]) (by rw [hJ1, hds1, hJ]) (by rw [hJ1, hds1, show (k + -1 + 1).toNat = k.toNat by omega]; show _ = coA A k.toNat dg + csL A (k.toNat + 1) _; rw [hsm, hJ, show (k + 1).toNat = k.toNat + 1 by omega]; unfold coA; rw [hfd]; first | (rw [if_pos (by assumption)]; omega) | (rw [if_neg (by assumption)]; omega)) (by rw [hJ1, hds1, show (k + -1 + 1).toNat = k.toNat by omega]; show _ = wyA A k.toNat dg + nsL A (k.toNat + 1) _; rw [hnt, hJ, show (k + 1).toNat = k.toNat + 1 by omega]; omega) (by rw [hJ1, hds1]; exact his2) (by intro i h1 h2; by_cases hik : i = k.toNat; (subst hik; rw [up2_s, hgd]); (rw [up2_j _ _ hik]; exact hrw i (by omega) h2)) (fun x y q => by rw [up2_k _ _ q]; exact hE2 x y q) rfl
                  refine z_iload_n (pc := 201) h dX11_joins_201 rfl ?_
                  refine z_if_ne (pc := 202) (tgt := 225) h dX11_joins_202 (by decide) ⟨by omega, by omega⟩ (fun hc202 => ?_) (fun hc202 => ?_)
                  ·
                    have hu0 : u = 1 ∧ dA A 1 < dA A 0 := by omega
                    have hmine7 : S1 7 (6 * u + k).toNat = A 7 (6 + k.toNat) := by rw [hu0.1, show (6 * 1 + k).toNat = 6 + k.toNat by omega]; exact mr_at hRS1 _ (by decide)
                    have hoth7 : S1 7 (6 * (1 - u) + ((dg : Nat) : Int)).toNat = A 7 dg := by rw [hu0.1, show (6 * (1 - 1) + ((dg : Nat) : Int)).toNat = dg by omega]; exact mr_at hRS1 _ (by decide)
                    have i1 := mi_dp hm (6 + k.toNat)
                    have i2 := mi_dp hm dg
                    refine z_aload_n (pc := 225) h dX11_joins_225 rfl ?_
                    refine z_getR (a := 7) (pc := 226) h dX11_joins_226 clX11 lkX11_28 (by decide) rfl rfl ?_
                    refine z_iload (pc := 229) h dX11_joins_229 rfl ?_
                    refine z_iald (pc := 231) h dX11_joins_231 rfl (by decide) (by omega) (by omega) ?_
                    refine z_cv (b := (S2 7 (Int.toNat ((6 * (1 - u)) + ((dg : Nat) : Int))))) (by rw [up2_k _ _ (by decide)] <;> rfl) ?_
                    refine z_cv (b := (A 7 dg)) (by rw [hE2 _ _ (by decide)]; exact hoth7) ?_
                    refine z_aload_n (pc := 232) h dX11_joins_232 rfl ?_
                    refine z_getR (a := 7) (pc := 233) h dX11_joins_233 clX11 lkX11_28 (by decide) rfl rfl ?_
                    refine z_iload (pc := 236) h dX11_joins_236 rfl ?_
                    refine z_iald (pc := 238) h dX11_joins_238 rfl (by decide) (by omega) (by omega) ?_
                    refine z_cv (b := (S2 7 (Int.toNat ((6 * u) + k)))) (by rw [up2_k _ _ (by decide)] <;> rfl) ?_
                    refine z_cv (b := (A 7 (6 + k.toNat))) (by rw [hE2 _ _ (by decide)]; exact hmine7) ?_
                    refine z_callS (pc := 239) (rest := ([] : List zV)) h (m_X11_way (A 7 dg) (A 7 (6 + k.toNat)) (up2 S2 9 k.toNat ((dg : Nat) : Int)) (by first | assumption | omega) (by first | assumption | omega)) dX11_joins_239 mcX11_way msX11_way mlX11_159 rfl rfl ⟨by decide, by decide⟩ rfl (Nat.le_of_ble_eq_true rfl) ?_
                    rintro _ _ ⟨rfl, rfl⟩
                    show zG x LM 242 [some (zr 0), some (zi u), some (zi (f : Int)), some (zi (m : Int)), some (zi ((m ^ f : Nat) : Int)), some (zi c), some (zi ((c.toNat / m ^ (j + 1) : Nat) : Int)), some (zi ((orL (dg :: (dgs m ((f : Int) - 1 - k).toNat c.toNat)) : Nat) : Int)), some (zi sm), some (zi nt), some (zi is2), some (zi k), some (zi ((6 * u) + k)), some (zi ((6 * (1 - u)) + ((dg : Nat) : Int))), none] [zi (wayF (A 7 dg) (A 7 (6 + k.toNat)))] (up2 S2 9 k.toNat ((dg : Nat) : Int))
                    refine z_cv (b := (wyA A k.toNat dg)) (by unfold wyA; rw [if_pos hu0.2]) ?_
                    exact J242  
                  ·
                    have hu0 : u = 0 ∧ ¬ dA A 1 < dA A 0 := by omega
                    have hmine7 : S1 7 (6 * u + k).toNat = A 7 k.toNat := by rw [hu0.1, show (6 * 0 + k).toNat = k.toNat by omega]; exact mr_at hRS1 _ (by decide)
                    have hoth7 : S1 7 (6 * (1 - u) + ((dg : Nat) : Int)).toNat = A 7 (6 + dg) := by rw [hu0.1, show (6 * (1 - 0) + ((dg : Nat) : Int)).toNat = 6 + dg by omega]; exact mr_at hRS1 _ (by decide)
                    have i1 := mi_dp hm k.toNat
                    have i2 := mi_dp hm (6 + dg)
                    refine z_aload_n (pc := 205) h dX11_joins_205 rfl ?_
                    refine z_getR (a := 7) (pc := 206) h dX11_joins_206 clX11 lkX11_28 (by decide) rfl rfl ?_
                    refine z_iload (pc := 209) h dX11_joins_209 rfl ?_
                    refine z_iald (pc := 211) h dX11_joins_211 rfl (by decide) (by omega) (by omega) ?_
                    refine z_cv (b := (S2 7 (Int.toNat ((6 * u) + k)))) (by rw [up2_k _ _ (by decide)] <;> rfl) ?_
                    refine z_cv (b := (A 7 k.toNat)) (by rw [hE2 _ _ (by decide)]; exact hmine7) ?_
                    refine z_aload_n (pc := 212) h dX11_joins_212 rfl ?_
                    refine z_getR (a := 7) (pc := 213) h dX11_joins_213 clX11 lkX11_28 (by decide) rfl rfl ?_
                    refine z_iload (pc := 216) h dX11_joins_216 rfl ?_
                    refine z_iald (pc := 218) h dX11_joins_218 rfl (by decide) (by omega) (by omega) ?_
                    refine z_cv (b := (S2 7 (Int.toNat ((6 * (1 - u)) + ((dg : Nat) : Int))))) (by rw [up2_k _ _ (by decide)] <;> rfl) ?_
                    refine z_cv (b := (A 7 (6 + dg))) (by rw [hE2 _ _ (by decide)]; exact hoth7) ?_
                    refine z_callS (pc := 219) (rest := ([] : List zV)) h (m_X11_way (A 7 k.toNat) (A 7 (6 + dg)) (up2 S2 9 k.toNat ((dg : Nat) : Int)) (by first | assumption | omega) (by first | assumption | omega)) dX11_joins_219 mcX11_way msX11_way mlX11_159 rfl rfl ⟨by decide, by decide⟩ rfl (Nat.le_of_ble_eq_true rfl) ?_
                    rintro _ _ ⟨rfl, rfl⟩
                    show zG x LM 222 [some (zr 0), some (zi u), some (zi (f : Int)), some (zi (m : Int)), some (zi ((m ^ f : Nat) : Int)), some (zi c), some (zi ((c.toNat / m ^ (j + 1) : Nat) : Int)), some (zi ((orL (dg :: (dgs m ((f : Int) - 1 - k).toNat c.toNat)) : Nat) : Int)), some (zi sm), some (zi nt), some (zi is2), some (zi k), some (zi ((6 * u) + k)), some (zi ((6 * (1 - u)) + ((dg : Nat) : Int))), none] [zi (wayF (A 7 k.toNat) (A 7 (6 + dg)))] (up2 S2 9 k.toNat ((dg : Nat) : Int))
                    refine z_cv (b := (wyA A k.toNat dg)) (by unfold wyA; rw [if_neg hu0.2]) ?_
                    refine z_goto (pc := 222) (tgt := 242) h dX11_joins_222 (by decide) ?_
                    exact J242  
                refine z_iload (pc := 135) h dX11_joins_135 rfl ?_
                refine z_if_eq (pc := 137) (tgt := 159) h dX11_joins_137 (by decide) ⟨by omega, by omega⟩ (fun hc137 => ?_) (fun hc137 => ?_)
                ·
                  refine z_iconst (pc := 159) h dX11_joins_159 ?_
                  refine z_forget [true, true, true, true, true, true, true, true, true, true, false, true, true, true, true] (loc' := [some (zr 0), some (zi u), some (zi (f : Int)), some (zi (m : Int)), some (zi ((m ^ f : Nat) : Int)), some (zi c), some (zi ((c.toNat / m ^ (j + 1) : Nat) : Int)), some (zi us), some (zi sm), some (zi nt), none, some (zi k), none, none, none]) rfl ?_
                  exact J160 0 (by rw [hJ] at his hus; first | (right; exact ⟨rfl, fun q => by rcases his with ⟨r1, r2⟩ | ⟨r1, r2⟩; omega; exact r2 q.2⟩) | (have hr149x := hr149; rw [hus, Int.toNat_natCast, Int.toNat_natCast] at hr149x; first | (right; exact ⟨rfl, fun q => by have q3 := q.1; rw [hr149x] at q3; cases q3⟩) | (left; refine ⟨rfl, Bool.eq_false_iff.mpr hr149x, ?_⟩; rcases his with ⟨r1, r2⟩ | ⟨r1, r2⟩; exact r2; omega)))
                ·
                  refine z_iload (pc := 140) h dX11_joins_140 rfl ?_
                  refine z_aload_n (pc := 142) h dX11_joins_142 rfl ?_
                  refine z_getR (a := 9) (pc := 143) h dX11_joins_143 clX11 lkX11_34 (by decide) rfl rfl ?_
                  refine z_iload (pc := 146) h dX11_joins_146 rfl ?_
                  refine z_iald (pc := 148) h dX11_joins_148 rfl (by decide) (by omega) (by omega) ?_
                  refine z_cv (b := ((dg : Nat) : Int)) (by rw [up2_s]) ?_
                  refine z_callS (pc := 149) (rest := ([] : List zV)) h (m_X11_isIn us ((dg : Nat) : Int) (up2 S2 9 k.toNat ((dg : Nat) : Int)) (by first | assumption | omega) (by first | assumption | omega)) dX11_joins_149 mcX11_isIn msX11_isIn mlX11_155 rfl rfl ⟨by decide, by decide⟩ rfl (Nat.le_of_ble_eq_true rfl) ?_
                  rintro _ _ ⟨rfl, ⟨hr149, rfl⟩ | ⟨hr149, rfl⟩⟩
                  ·
                    show zG x LM 152 [some (zr 0), some (zi u), some (zi (f : Int)), some (zi (m : Int)), some (zi ((m ^ f : Nat) : Int)), some (zi c), some (zi ((c.toNat / m ^ (j + 1) : Nat) : Int)), some (zi us), some (zi sm), some (zi nt), some (zi is), some (zi k), none, none, none] [zi 1] (up2 S2 9 k.toNat ((dg : Nat) : Int))
                    refine z_if_ne (pc := 152) (tgt := 159) h dX11_joins_152 (by decide) ⟨by decide, by decide⟩ (fun hc152 => ?_) (fun hc152 => absurd hc152 (by decide))
                    refine z_iconst (pc := 159) h dX11_joins_159 ?_
                    refine z_forget [true, true, true, true, true, true, true, true, true, true, false, true, true, true, true] (loc' := [some (zr 0), some (zi u), some (zi (f : Int)), some (zi (m : Int)), some (zi ((m ^ f : Nat) : Int)), some (zi c), some (zi ((c.toNat / m ^ (j + 1) : Nat) : Int)), some (zi us), some (zi sm), some (zi nt), none, some (zi k), none, none, none]) rfl ?_
                    exact J160 0 (by rw [hJ] at his hus; first | (right; exact ⟨rfl, fun q => by rcases his with ⟨r1, r2⟩ | ⟨r1, r2⟩; omega; exact r2 q.2⟩) | (have hr149x := hr149; rw [hus, Int.toNat_natCast, Int.toNat_natCast] at hr149x; first | (right; exact ⟨rfl, fun q => by have q3 := q.1; rw [hr149x] at q3; cases q3⟩) | (left; refine ⟨rfl, Bool.eq_false_iff.mpr hr149x, ?_⟩; rcases his with ⟨r1, r2⟩ | ⟨r1, r2⟩; exact r2; omega)))
                  ·
                    show zG x LM 152 [some (zr 0), some (zi u), some (zi (f : Int)), some (zi (m : Int)), some (zi ((m ^ f : Nat) : Int)), some (zi c), some (zi ((c.toNat / m ^ (j + 1) : Nat) : Int)), some (zi us), some (zi sm), some (zi nt), some (zi is), some (zi k), none, none, none] [zi 0] (up2 S2 9 k.toNat ((dg : Nat) : Int))
                    refine z_if_ne (pc := 152) (tgt := 159) h dX11_joins_152 (by decide) ⟨by decide, by decide⟩ (fun hc152 => absurd hc152 (by decide)) (fun hc152 => ?_)
                    refine z_iconst (pc := 155) h dX11_joins_155 ?_
                    refine z_goto (pc := 156) (tgt := 160) h dX11_joins_156 (by decide) ?_
                    refine z_forget [true, true, true, true, true, true, true, true, true, true, false, true, true, true, true] (loc' := [some (zr 0), some (zi u), some (zi (f : Int)), some (zi (m : Int)), some (zi ((m ^ f : Nat) : Int)), some (zi c), some (zi ((c.toNat / m ^ (j + 1) : Nat) : Int)), some (zi us), some (zi sm), some (zi nt), none, some (zi k), none, none, none]) rfl ?_
                    exact J160 1 (by rw [hJ] at his hus; first | (right; exact ⟨rfl, fun q => by rcases his with ⟨r1, r2⟩ | ⟨r1, r2⟩; omega; exact r2 q.2⟩) | (have hr149x := hr149; rw [hus, Int.toNat_natCast, Int.toNat_natCast] at hr149x; first | (right; exact ⟨rfl, fun q => by have q3 := q.1; rw [hr149x] at q3; cases q3⟩) | (left; refine ⟨rfl, Bool.eq_false_iff.mpr hr149x, ?_⟩; rcases his with ⟨r1, r2⟩ | ⟨r1, r2⟩; exact r2; omega)))
            exact J113 _ c 0 0 0 1 ((f : Int) - 1) S1 (by omega) (by rw [show ((f : Int) - 1 - ((f : Int) - 1)).toNat = 0 by omega, Nat.pow_zero, Nat.div_one]; omega) (by rw [show ((f : Int) - 1 - ((f : Int) - 1)).toNat = 0 by omega]; rfl) (by rw [show ((f : Int) - 1 - ((f : Int) - 1)).toNat = 0 by omega]; rfl) (by rw [show ((f : Int) - 1 - ((f : Int) - 1)).toNat = 0 by omega]; rfl) (by left; rw [show ((f : Int) - 1 - ((f : Int) - 1)).toNat = 0 by omega]; exact ⟨rfl, trivial⟩) (fun i h1 h2 => by omega) (fun _ _ _ => rfl) rfl
        rw [show p = ((m ^ f : Nat) : Int) by rw [hp, show i.toNat = f by omega]]
        exact J85 _ 0 (up2 (up2 (up2 (up2 S 0 10 1000000) 0 11 0) 0 12 0) 0 13 0) (⟨by decide, Int.natCast_nonneg _⟩) (Or.inl ⟨rfl, by rw [up2_j _ _ (by decide), up2_j _ _ (by decide), up2_j _ _ (by decide), up2_s], by rw [up2_j _ _ (by decide), up2_j _ _ (by decide), up2_s], by rw [up2_j _ _ (by decide), up2_s], up2_s _ _ _ _⟩) (⟨⟨by show (0 : Int) ≤ 0; decide, by show (0 : Int) ≤ 1000; decide⟩, by show (-1000 : Int) ≤ 0; decide, by show (0 : Int) ≤ 1000; decide⟩) (fun x y q1 q2 q3 => by rw [up2_e, if_neg (by omega), up2_e, if_neg (by omega), up2_e, if_neg (by omega), up2_e, if_neg (by omega)]) rfl
      ·
        refine z_iload (pc := 70) h dX11_joins_70 rfl ?_
        refine z_iload_n (pc := 72) h dX11_joins_72 rfl ?_
        refine z_imul (pc := 73) h dX11_joins_73 ?_
        refine z_istore (pc := 74) (loc' := [some (zr 0), some (zi u), some (zi (f : Int)), some (zi (m : Int)), some (zi (p * (m : Int))), some (zi i), none, none, none, none, none, none, none, none, none]) h dX11_joins_74 (Nat.le_of_ble_eq_true rfl) rfl rfl ?_
        refine z_iinc (pc := 76) (loc' := [some (zr 0), some (zi u), some (zi (f : Int)), some (zi (m : Int)), some (zi (p * (m : Int))), some (zi (i + 1)), none, none, none, none, none, none, none, none, none]) h dX11_joins_76 rfl (Nat.le_of_ble_eq_true rfl) rfl rfl ?_
        refine z_goto (pc := 79) (tgt := 64) h dX11_joins_79 (by decide) ?_
        exact ih64 _ (by omega) (p * (m : Int)) (i + 1) (by omega) (by rw [show (i + 1).toNat = i.toNat + 1 by omega, Nat.pow_succ, Int.natCast_mul, ← hp]) rfl
    exact J64 _ 1 0 (by omega) (rfl) rfl
  refine z_getR (a := 6) (pc := 1) h dX11_joins_1 clX11 lkX11_25 (by decide) rfl rfl ?_
  refine z_iconst (pc := 4) h dX11_joins_4 ?_
  refine z_iald (pc := 5) h dX11_joins_5 rfl (by decide) (by decide) (by decide) ?_
  refine z_cv (b := (dA A 1)) (by exact d1) ?_
  refine z_aload_n (pc := 6) h dX11_joins_6 rfl ?_
  refine z_getR (a := 6) (pc := 7) h dX11_joins_7 clX11 lkX11_25 (by decide) rfl rfl ?_
  refine z_iconst (pc := 10) h dX11_joins_10 ?_
  refine z_iald (pc := 11) h dX11_joins_11 rfl (by decide) (by decide) (by decide) ?_
  refine z_cv (b := (dA A 0)) (by exact d0) ?_
  refine z_icmp_ge (pc := 12) (tgt := 19) h dX11_joins_12 (by decide) ⟨by omega, by omega⟩ ⟨by omega, by omega⟩ (fun hc12 => ?_) (fun hc12 => ?_)
  ·
    refine z_iconst (pc := 19) h dX11_joins_19 ?_
    exact J20 0 (by omega)
  ·
    refine z_iconst (pc := 15) h dX11_joins_15 ?_
    refine z_goto (pc := 16) (tgt := 20) h dX11_joins_16 (by decide) ?_
    exact J20 1 (by omega)

set_option maxRecDepth 100000 in
set_option maxHeartbeats 4000000 in
theorem m_X11_joinNow (a : Int) (A S : SS) (ha : r32 a) (hR : mRel S A) (hm : MI A) : zM LM yX11_joinNow cX11_joinNow 2 (some .int) 2 56 [zr 0, zi a] S (fun r S' => r = some (zi (joiV A a)) ∧ mRel S' A) := by
  refine zM_of (own := RX11) rfl (by decide +kernel) [some (zr 0), some (zi a)] (Nat.le_of_ble_eq_true rfl) rfl ?_
  intro x h
  refine z_aload_n (pc := 0) h dX11_joinNow_0 rfl ?_
  refine z_callV (pc := 1) (rest := ([] : List zV)) h (m_X11_joins _ S (by first | assumption | omega) (by first | assumption | omega)) dX11_joinNow_1 mcX11_joins miX11_joins mlX11_162 rfl rfl ⟨by decide, by decide⟩ clX11 rfl rfl rfl (Nat.le_of_ble_eq_true rfl) ?_
  rintro _ S1 ⟨rfl, hr1R, hr1A, hr1p⟩
  show zG x LM 4 [some (zr 0), some (zi a)] ([] : List zV) S1
  refine z_iload_n (pc := 4) h dX11_joinNow_4 rfl ?_
  refine z_if_ne (pc := 5) (tgt := 15) h dX11_joinNow_5 (by decide) ⟨by omega, by omega⟩ (fun hc5 => ?_) (fun hc5 => ?_)
  ·
    refine z_iload_n (pc := 15) h dX11_joinNow_15 rfl ?_
    refine z_iconst (pc := 16) h dX11_joinNow_16 ?_
    refine z_icmp_ne (pc := 17) (tgt := 27) h dX11_joinNow_17 (by decide) ⟨by omega, by omega⟩ ⟨by decide, by decide⟩ (fun hc17 => ?_) (fun hc17 => ?_)
    ·
      refine z_aload_n (pc := 27) h dX11_joinNow_27 rfl ?_
      refine z_getI (pc := 28) h dX11_joinNow_28 clX11 lkX11_152 (by decide) rfl rfl ?_
      refine z_iret (pc := 31) h dX11_joinNow_31 rfl ?_
      refine ⟨ap_some ?_, hr1R⟩
      rcases hr1A with ⟨q, -⟩ | ⟨-, q1, q2, q3, q4, -⟩
      · omega
      · unfold joiV
        first
        | (rw [if_pos (by omega)]; exact q1)
        | (rw [if_neg (by omega), if_pos (by omega)]; exact q2)
        | (rw [if_neg (by omega), if_neg (by omega)]; exact q4)
    ·
      refine z_aload_n (pc := 20) h dX11_joinNow_20 rfl ?_
      refine z_getI (pc := 21) h dX11_joinNow_21 clX11 lkX11_146 (by decide) rfl rfl ?_
      refine z_goto (pc := 24) (tgt := 31) h dX11_joinNow_24 (by decide) ?_
      refine z_iret (pc := 31) h dX11_joinNow_31 rfl ?_
      refine ⟨ap_some ?_, hr1R⟩
      rcases hr1A with ⟨q, -⟩ | ⟨-, q1, q2, q3, q4, -⟩
      · omega
      · unfold joiV
        first
        | (rw [if_pos (by omega)]; exact q1)
        | (rw [if_neg (by omega), if_pos (by omega)]; exact q2)
        | (rw [if_neg (by omega), if_neg (by omega)]; exact q4)
  ·
    refine z_aload_n (pc := 8) h dX11_joinNow_8 rfl ?_
    refine z_getI (pc := 9) h dX11_joinNow_9 clX11 lkX11_142 (by decide) rfl rfl ?_
    refine z_goto (pc := 12) (tgt := 31) h dX11_joinNow_12 (by decide) ?_
    refine z_iret (pc := 31) h dX11_joinNow_31 rfl ?_
    refine ⟨ap_some ?_, hr1R⟩
    rcases hr1A with ⟨q, -⟩ | ⟨-, q1, q2, q3, q4, -⟩
    · omega
    · unfold joiV
      first
      | (rw [if_pos (by omega)]; exact q1)
      | (rw [if_neg (by omega), if_pos (by omega)]; exact q2)
      | (rw [if_neg (by omega), if_neg (by omega)]; exact q4)

set_option maxRecDepth 100000 in
set_option maxHeartbeats 4000000 in
theorem m_X11_netNow (A S : SS) (hR : mRel S A) (hm : MI A) : zM LM yX11_netNow cX11_netNow 1 (some .int) 2 56 [zr 0] S (fun r S' => r = some (zi (netV A)) ∧ mRel S' A) := by
  refine zM_of (own := RX11) rfl (by decide +kernel) [some (zr 0)] (Nat.le_of_ble_eq_true rfl) rfl ?_
  intro x h
  refine z_aload_n (pc := 0) h dX11_netNow_0 rfl ?_
  refine z_callV (pc := 1) (rest := ([] : List zV)) h (m_X11_joins _ S (by first | assumption | omega) (by first | assumption | omega)) dX11_netNow_1 mcX11_joins miX11_joins mlX11_162 rfl rfl ⟨by decide, by decide⟩ clX11 rfl rfl rfl (Nat.le_of_ble_eq_true rfl) ?_
  rintro _ S1 ⟨rfl, hr1R, hr1A, hr1p⟩
  show zG x LM 4 [some (zr 0)] ([] : List zV) S1
  refine z_aload_n (pc := 4) h dX11_netNow_4 rfl ?_
  refine z_getI (pc := 5) h dX11_netNow_5 clX11 lkX11_149 (by decide) rfl rfl ?_
  refine z_iret (pc := 8) h dX11_netNow_8 rfl ?_
  refine ⟨ap_some ?_, hr1R⟩
  rcases hr1A with ⟨q, -⟩ | ⟨-, q1, q2, q3, -⟩
  · omega
  · exact q3

set_option maxRecDepth 100000 in
set_option maxHeartbeats 4000000 in
theorem m_X11_net (A S : SS) (hR : mRel S A) (hm : MI A) : zM LM yX11_net cX11_net 1 (some .int) 3 76 [zr 0] S (fun r S' => r = some (zi (netV A)) ∧ mRel S' A) := by
  refine zM_of (own := RX11) rfl (by decide +kernel) [some (zr 0)] (Nat.le_of_ble_eq_true rfl) rfl ?_
  intro x h
  refine z_aload_n (pc := 0) h dX11_net_0 rfl ?_
  refine z_callV (pc := 1) (rest := ([] : List zV)) h (m_X11_netNow _ S (by first | assumption | omega) (by first | assumption | omega)) dX11_net_1 mcX11_netNow miX11_netNow mlX11_168 rfl rfl ⟨by decide, by decide⟩ clX11 rfl rfl rfl (Nat.le_of_ble_eq_true rfl) ?_
  rintro _ S1 ⟨rfl, hr1R⟩
  show zG x LM 4 [some (zr 0)] [zi (netV A)] S1
  exact z_iret (pc := 4) h dX11_net_4 rfl (⟨rfl, hr1R⟩)

set_option maxRecDepth 100000 in
set_option maxHeartbeats 4000000 in
theorem m_X11_join (a : Int) (A S : SS) (ha : r32 a) (hR : mRel S A) (hm : MI A) : zM LM yX11_join cX11_join 2 (some .int) 3 77 [zr 0, zi a] S (fun r S' => r = some (zi (sp_join A a)) ∧ mRel S' A) := by
  refine zM_of (own := RX11) rfl (by decide +kernel) [some (zr 0), some (zi a)] (Nat.le_of_ble_eq_true rfl) rfl ?_
  intro x h
  refine z_iload_n (pc := 0) h dX11_join_0 rfl ?_
  refine z_iconst (pc := 1) h dX11_join_1 ?_
  refine z_iconst (pc := 2) h dX11_join_2 ?_
  refine z_callS (pc := 3) (rest := ([] : List zV)) h (m_X11_in a 0 2 S ⟨by omega, by omega⟩ ⟨by decide, by decide⟩ ⟨by decide, by decide⟩) dX11_join_3 mcX11_in msX11_in mlX11_75 rfl rfl ⟨by decide, by decide⟩ rfl (Nat.le_of_ble_eq_true rfl) ?_
  rintro _ _ ⟨rfl, ⟨hr3, rfl⟩ | ⟨hr3, rfl⟩⟩
  ·
    show zG x LM 6 [some (zr 0), some (zi a)] [zi 1] S
    refine z_if_eq (pc := 6) (tgt := 17) h dX11_join_6 (by decide) ⟨by decide, by decide⟩ (fun hc6 => absurd hc6 (by decide)) (fun hc6 => ?_)
    refine z_aload_n (pc := 9) h dX11_join_9 rfl ?_
    refine z_iload_n (pc := 10) h dX11_join_10 rfl ?_
    refine z_callV (pc := 11) (rest := ([] : List zV)) h (m_X11_joinNow a _ S ⟨by omega, by omega⟩ (by first | assumption | omega) (by first | assumption | omega)) dX11_join_11 mcX11_joinNow miX11_joinNow mlX11_165 rfl rfl ⟨by decide, by decide⟩ clX11 rfl rfl rfl (Nat.le_of_ble_eq_true rfl) ?_
    rintro _ S11 ⟨rfl, hr11R⟩
    show zG x LM 14 [some (zr 0), some (zi a)] [zi (joiV A a)] S11
    refine z_goto (pc := 14) (tgt := 19) h dX11_join_14 (by decide) ?_
    refine z_iret (pc := 19) h dX11_join_19 rfl ?_
    first
      | exact ⟨ap_some (by unfold sp_join; rw [if_pos (by omega)]), hr11R⟩
      | exact ⟨ap_some (by unfold sp_join; rw [if_neg (by omega)]), hR⟩
  ·
    show zG x LM 6 [some (zr 0), some (zi a)] [zi 0] S
    refine z_if_eq (pc := 6) (tgt := 17) h dX11_join_6 (by decide) ⟨by decide, by decide⟩ (fun hc6 => ?_) (fun hc6 => absurd hc6 (by decide))
    refine z_bipush (pc := 17) h dX11_join_17 rfl ?_
    refine z_iret (pc := 19) h dX11_join_19 rfl ?_
    first
      | exact ⟨ap_some (by unfold sp_join; rw [if_pos (by omega)]), hr11R⟩
      | exact ⟨ap_some (by unfold sp_join; rw [if_neg (by omega)]), hR⟩

set_option maxRecDepth 100000 in
set_option maxHeartbeats 4000000 in
theorem m_X11_joinedNow (a b : Int) (A S : SS) (ha : isS a) (hb : 0 ≤ b ∧ b < dA A a) (hR : mRel S A) (hm : MI A) : zM LM yX11_joinedNow cX11_joinedNow 5 (some .int) 2 56 [zr 0, zi a, zi b] S (fun r S' => r = some (zi (jodV A a b)) ∧ mRel S' A) := by
  refine zM_of (own := RX11) rfl (by decide +kernel) [some (zr 0), some (zi a), some (zi b), none, none] (Nat.le_of_ble_eq_true rfl) rfl ?_
  intro x h
  have b0 := dA_b hm (a := 0) (by decide)
  have b1 := dA_b hm (a := 1) (by decide)
  have hf : (fewN A : Int) = min (dA A 0) (dA A 1) := by unfold fewN; omega
  have hda2 : (a = 0 → dA A a = dA A 0) ∧ (a = 1 → dA A a = dA A 1) := ⟨fun q => by rw [q], fun q => by rw [q]⟩
  refine z_aload_n (pc := 0) h dX11_joinedNow_0 rfl ?_
  refine z_callV (pc := 1) (rest := ([] : List zV)) h (m_X11_joins _ S (by first | assumption | omega) (by first | assumption | omega)) dX11_joinedNow_1 mcX11_joins miX11_joins mlX11_162 rfl rfl ⟨by decide, by decide⟩ clX11 rfl rfl rfl (Nat.le_of_ble_eq_true rfl) ?_
  rintro _ S1 ⟨rfl, hr1R, hr1A, hr1p⟩
  show zG x LM 4 [some (zr 0), some (zi a), some (zi b), none, none] ([] : List zV) S1
  have d0 : S1 6 0 = dA A 0 := mr_at hr1R _ (by decide)
  have d1 : S1 6 1 = dA A 1 := mr_at hr1R _ (by decide)
  have hrr : ∀ k : Nat, k < fewN A → S1 10 k = (((rwA A).getD k 0 : Nat) : Int) := by rcases hr1A with ⟨q, -⟩ | ⟨-, -, -, -, -, -, q6⟩; omega; exact q6
  refine z_aload_n (pc := 4) h dX11_joinedNow_4 rfl ?_
  have J24 : ∀ (u : Int) (hu : (u = 1 ∧ dA A 1 < dA A 0 ∧ fiA A = 1) ∨ (u = 0 ∧ ¬ dA A 1 < dA A 0 ∧ fiA A = 0)) , zG x LM 24 [some (zr 0), some (zi a), some (zi b), none, none] [zi u] S1 := by
    intro u hu
    refine z_istore_n (pc := 24) (loc' := [some (zr 0), some (zi a), some (zi b), some (zi u), none]) h dX11_joinedNow_24 rfl (Nat.le_of_ble_eq_true rfl) rfl rfl ?_
    refine z_iload_n (pc := 25) h dX11_joinedNow_25 rfl ?_
    refine z_iload_n (pc := 26) h dX11_joinedNow_26 rfl ?_
    refine z_icmp_ne (pc := 27) (tgt := 37) h dX11_joinedNow_27 (by decide) ⟨by omega, by omega⟩ ⟨by omega, by omega⟩ (fun hc27 => ?_) (fun hc27 => ?_)
    ·
      refine z_iconst (pc := 37) h dX11_joinedNow_37 ?_
      refine z_istore (pc := 38) (loc' := [some (zr 0), some (zi a), some (zi b), some (zi u), some (zi 0)]) h dX11_joinedNow_38 (Nat.le_of_ble_eq_true rfl) rfl rfl ?_
      have J40 : ∀ (N : Nat) (z : Int) (hz : 0 ≤ z ∧ z ≤ fewN A) (hI : fdR (rwA A) b (fewN A - z.toNat) z.toNat = jodV A a b) , ((fewN A : Int) - z).toNat = N → zG x LM 40 [some (zr 0), some (zi a), some (zi b), some (zi u), some (zi z)] ([] : List zV) S1 := by
        intro N
        induction N using Nat.strongRecOn with
        | _ N ih40 => ?_
        intro z hz hI hN40
        refine z_iload (pc := 40) h dX11_joinedNow_40 rfl ?_
        refine z_aload_n (pc := 42) h dX11_joinedNow_42 rfl ?_
        refine z_getR (a := 6) (pc := 43) h dX11_joinedNow_43 clX11 lkX11_25 (by decide) rfl rfl ?_
        refine z_iload_n (pc := 46) h dX11_joinedNow_46 rfl ?_
        refine z_iald (pc := 47) h dX11_joinedNow_47 rfl (by decide) (by omega) (by omega) ?_
        refine z_cv (b := (fewN A : Int)) (by rcases hu with ⟨q1, q2, q3⟩ | ⟨q1, q2, q3⟩; (rw [q1]; show S1 6 1 = _; omega); (rw [q1]; show S1 6 0 = _; omega)) ?_
        refine z_icmp_ge (pc := 48) (tgt := 71) h dX11_joinedNow_48 (by decide) ⟨by omega, by omega⟩ ⟨by omega, by omega⟩ (fun hc48 => ?_) (fun hc48 => ?_)
        ·
          refine z_iconst (pc := 71) h dX11_joinedNow_71 ?_
          refine z_iret (pc := 72) h dX11_joinedNow_72 rfl ?_
          refine ⟨ap_some ?_, hr1R⟩
          first
            | (unfold jodV; rw [if_pos (by omega)]; done)
            | (rw [fd_0 (by omega)] at hI; exact hI)
            | (rw [fd_s (r' := fewN A - (z + 1).toNat) (by omega) hz.1, if_pos (by omega)] at hI; exact hI)
        ·
          refine z_aload_n (pc := 51) h dX11_joinedNow_51 rfl ?_
          refine z_getR (a := 10) (pc := 52) h dX11_joinedNow_52 clX11 lkX11_37 (by decide) rfl rfl ?_
          refine z_iload (pc := 55) h dX11_joinedNow_55 rfl ?_
          have hrb := rwA_b hm z.toNat
          refine z_iald (pc := 57) h dX11_joinedNow_57 rfl (by decide) (by omega) (by omega) ?_
          refine z_cv (b := (((rwA A).getD z.toNat 0 : Nat) : Int)) (by exact hrr _ (by omega)) ?_
          refine z_iload_n (pc := 58) h dX11_joinedNow_58 rfl ?_
          refine z_icmp_ne (pc := 59) (tgt := 65) h dX11_joinedNow_59 (by decide) ⟨by omega, by omega⟩ ⟨by omega, by omega⟩ (fun hc59 => ?_) (fun hc59 => ?_)
          ·
            refine z_iinc (pc := 65) (loc' := [some (zr 0), some (zi a), some (zi b), some (zi u), some (zi (z + 1))]) h dX11_joinedNow_65 rfl (Nat.le_of_ble_eq_true rfl) rfl rfl ?_
            refine z_goto (pc := 68) (tgt := 40) h dX11_joinedNow_68 (by decide) ?_
            exact ih40 _ (by omega) (z + 1) (by omega) (by rw [fd_s (r' := fewN A - (z + 1).toNat) (by omega) hz.1, if_neg (by omega)] at hI; exact hI) rfl
          ·
            refine z_iload (pc := 62) h dX11_joinedNow_62 rfl ?_
            refine z_iret (pc := 64) h dX11_joinedNow_64 rfl ?_
            refine ⟨ap_some ?_, hr1R⟩
            first
              | (unfold jodV; rw [if_pos (by omega)]; done)
              | (rw [fd_0 (by omega)] at hI; exact hI)
              | (rw [fd_s (r' := fewN A - (z + 1).toNat) (by omega) hz.1, if_pos (by omega)] at hI; exact hI)
      exact J40 _ 0 (by omega) (by unfold jodV; rw [if_neg (by omega)]; rfl) rfl
    ·
      refine z_aload_n (pc := 30) h dX11_joinedNow_30 rfl ?_
      refine z_getR (a := 10) (pc := 31) h dX11_joinedNow_31 clX11 lkX11_37 (by decide) rfl rfl ?_
      refine z_iload_n (pc := 34) h dX11_joinedNow_34 rfl ?_
      refine z_iald (pc := 35) h dX11_joinedNow_35 rfl (by decide) (by omega) (by omega) ?_
      refine z_cv (b := (((rwA A).getD b.toNat 0 : Nat) : Int)) (by exact hrr _ (by omega)) ?_
      refine z_iret (pc := 36) h dX11_joinedNow_36 rfl ?_
      refine ⟨ap_some ?_, hr1R⟩
      first
        | (unfold jodV; rw [if_pos (by omega)]; done)
        | (rw [fd_0 (by omega)] at hI; exact hI)
        | (rw [fd_s (r' := fewN A - (z + 1).toNat) (by omega) hz.1, if_pos (by omega)] at hI; exact hI)
  refine z_getR (a := 6) (pc := 5) h dX11_joinedNow_5 clX11 lkX11_25 (by decide) rfl rfl ?_
  refine z_iconst (pc := 8) h dX11_joinedNow_8 ?_
  refine z_iald (pc := 9) h dX11_joinedNow_9 rfl (by decide) (by decide) (by decide) ?_
  refine z_cv (b := (dA A 1)) (by exact d1) ?_
  refine z_aload_n (pc := 10) h dX11_joinedNow_10 rfl ?_
  refine z_getR (a := 6) (pc := 11) h dX11_joinedNow_11 clX11 lkX11_25 (by decide) rfl rfl ?_
  refine z_iconst (pc := 14) h dX11_joinedNow_14 ?_
  refine z_iald (pc := 15) h dX11_joinedNow_15 rfl (by decide) (by decide) (by decide) ?_
  refine z_cv (b := (dA A 0)) (by exact d0) ?_
  refine z_icmp_ge (pc := 16) (tgt := 23) h dX11_joinedNow_16 (by decide) ⟨by omega, by omega⟩ ⟨by omega, by omega⟩ (fun hc16 => ?_) (fun hc16 => ?_)
  ·
    refine z_iconst (pc := 23) h dX11_joinedNow_23 ?_
    exact J24 0 (by unfold fiA; split <;> omega)
  ·
    refine z_iconst (pc := 19) h dX11_joinedNow_19 ?_
    refine z_goto (pc := 20) (tgt := 24) h dX11_joinedNow_20 (by decide) ?_
    exact J24 1 (by unfold fiA; split <;> omega)

set_option maxRecDepth 100000 in
set_option maxHeartbeats 4000000 in
theorem m_X11_joined (a b : Int) (A S : SS) (ha : r32 a) (hb : r32 b) (hR : mRel S A) (hm : MI A) : zM LM yX11_joined cX11_joined 3 (some .int) 3 80 [zr 0, zi a, zi b] S (fun r S' => r = some (zi (sp_joined A a b)) ∧ mRel S' A) := by
  refine zM_of (own := RX11) rfl (by decide +kernel) [some (zr 0), some (zi a), some (zi b)] (Nat.le_of_ble_eq_true rfl) rfl ?_
  intro x h
  refine z_iload_n (pc := 0) h dX11_joined_0 rfl ?_
  refine z_iconst (pc := 1) h dX11_joined_1 ?_
  refine z_iconst (pc := 2) h dX11_joined_2 ?_
  refine z_callS (pc := 3) (rest := ([] : List zV)) h (m_X11_in a 0 1 S ⟨by omega, by omega⟩ ⟨by decide, by decide⟩ ⟨by decide, by decide⟩) dX11_joined_3 mcX11_in msX11_in mlX11_75 rfl rfl ⟨by decide, by decide⟩ rfl (Nat.le_of_ble_eq_true rfl) ?_
  rintro _ _ ⟨rfl, ⟨hr3, rfl⟩ | ⟨hr3, rfl⟩⟩
  ·
    show zG x LM 6 [some (zr 0), some (zi a), some (zi b)] [zi 1] S
    refine z_if_eq (pc := 6) (tgt := 34) h dX11_joined_6 (by decide) ⟨by decide, by decide⟩ (fun hc6 => absurd hc6 (by decide)) (fun hc6 => ?_)
    refine z_iload_n (pc := 9) h dX11_joined_9 rfl ?_
    refine z_iconst (pc := 10) h dX11_joined_10 ?_
    refine z_aload_n (pc := 11) h dX11_joined_11 rfl ?_
    refine z_getR (a := 6) (pc := 12) h dX11_joined_12 clX11 lkX11_25 (by decide) rfl rfl ?_
    have e6 : S 6 a.toNat = dA A a := mr_at hR _ (by decide)
    have e7 := dA_b hm (a := a) (by omega)
    refine z_iload_n (pc := 15) h dX11_joined_15 rfl ?_
    refine z_iald (pc := 16) h dX11_joined_16 rfl (by decide) (by omega) (by omega) ?_
    refine z_iconst (pc := 17) h dX11_joined_17 ?_
    refine z_isub (pc := 18) h dX11_joined_18 ?_
    refine z_callS (pc := 19) (rest := ([] : List zV)) h (m_X11_in b 0 ((S 6 a.toNat) - 1) S ⟨by omega, by omega⟩ ⟨by decide, by decide⟩ ⟨by omega, by omega⟩) dX11_joined_19 mcX11_in msX11_in mlX11_75 rfl rfl ⟨by decide, by decide⟩ rfl (Nat.le_of_ble_eq_true rfl) ?_
    rintro _ _ ⟨rfl, ⟨hr19, rfl⟩ | ⟨hr19, rfl⟩⟩
    ·
      show zG x LM 22 [some (zr 0), some (zi a), some (zi b)] [zi 1] S
      refine z_if_eq (pc := 22) (tgt := 34) h dX11_joined_22 (by decide) ⟨by decide, by decide⟩ (fun hc22 => absurd hc22 (by decide)) (fun hc22 => ?_)
      refine z_aload_n (pc := 25) h dX11_joined_25 rfl ?_
      refine z_iload_n (pc := 26) h dX11_joined_26 rfl ?_
      refine z_iload_n (pc := 27) h dX11_joined_27 rfl ?_
      refine z_callV (pc := 28) (rest := ([] : List zV)) h (m_X11_joinedNow a b A S (by first | assumption | omega) (by first | assumption | omega) (by first | assumption | omega) (by first | assumption | omega)) dX11_joined_28 mcX11_joinedNow miX11_joinedNow mlX11_172 rfl rfl ⟨by decide, by decide⟩ clX11 rfl rfl rfl (Nat.le_of_ble_eq_true rfl) ?_
      rintro _ S28 ⟨rfl, hr28R⟩
      show zG x LM 31 [some (zr 0), some (zi a), some (zi b)] [zi (jodV A a b)] S28
      refine z_goto (pc := 31) (tgt := 36) h dX11_joined_31 (by decide) ?_
      refine z_iret (pc := 36) h dX11_joined_36 rfl ?_
      first
        | exact ⟨ap_some (by unfold sp_joined; rw [if_pos (by omega)]), hr28R⟩
        | exact ⟨ap_some (by unfold sp_joined; rw [if_neg (by omega)]), hR⟩
    ·
      show zG x LM 22 [some (zr 0), some (zi a), some (zi b)] [zi 0] S
      refine z_if_eq (pc := 22) (tgt := 34) h dX11_joined_22 (by decide) ⟨by decide, by decide⟩ (fun hc22 => ?_) (fun hc22 => absurd hc22 (by decide))
      refine z_bipush (pc := 34) h dX11_joined_34 rfl ?_
      refine z_iret (pc := 36) h dX11_joined_36 rfl ?_
      first
        | exact ⟨ap_some (by unfold sp_joined; rw [if_pos (by omega)]), hr28R⟩
        | exact ⟨ap_some (by unfold sp_joined; rw [if_neg (by omega)]), hR⟩
  ·
    show zG x LM 6 [some (zr 0), some (zi a), some (zi b)] [zi 0] S
    refine z_if_eq (pc := 6) (tgt := 34) h dX11_joined_6 (by decide) ⟨by decide, by decide⟩ (fun hc6 => ?_) (fun hc6 => absurd hc6 (by decide))
    refine z_bipush (pc := 34) h dX11_joined_34 rfl ?_
    refine z_iret (pc := 36) h dX11_joined_36 rfl ?_
    first
      | exact ⟨ap_some (by unfold sp_joined; rw [if_pos (by omega)]), hr28R⟩
      | exact ⟨ap_some (by unfold sp_joined; rw [if_neg (by omega)]), hR⟩

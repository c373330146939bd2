/-! a layer over the kit: a side's cells are numbered; ints are whole numbers; one row an instruction -/
abbrev zV : Type := Int ⊕ (Int ⊕ Option Nat)
abbrev zi (a : Int) : zV := Sum.inl a
abbrev zl (a : Int) : zV := Sum.inr (Sum.inl a)
abbrev zr (k : Nat) : zV := Sum.inr (Sum.inr (some k))
abbrev zn : zV := Sum.inr (Sum.inr none)
def cv (ad : Nat → Nat) (v : zV) : Value := match v with
  | .inl a => .int (Int32.ofInt a)
  | .inr (.inl a) => .long (Int64.ofInt a)
  | .inr (.inr (some k)) => .ref (ad k)
  | .inr (.inr none) => .null
abbrev SS : Type := Nat → Nat → Int
abbrev LY : Type := Nat × Nat × List Nat
def fE (ad : Nat → Nat) (S : SS) (k j kd : Nat) : Value := match kd with
  | 0 => .int (Int32.ofInt (S k j))
  | 1 => if S k j < 0 then .null else .ref (ad (S k j).toNat)
  | c + 2 => .ref (ad c)
def flds (ad : Nat → Nat) (S : SS) (k : Nat) (ks : List Nat) : List Value := ks.mapIdx (fun j kd => fE ad S k j kd)
abbrev zT : Type := ClassId × ClassId × ClassId
def cE (ad : Nat → Nat) (T : zT) (S : SS) (k : Nat) (le : LY) : va_E := match le with
  | (0, ci, ks) => .inr (ci, flds ad S k ks)
  | (1, n, _) => .inl (T.1, n, .inl (fun j => Int32.ofInt (S k j)))
  | (2, n, _) => .inl (T.2.1, n, .inl (fun j => Int32.ofInt (S k j)))
  | (_ + 3, _, ks) => .inl (T.2.2, ks.length, .inr (.inr (.inr (.inr (fun j => (ks[j]?).map ad)))))
def wd (ad : Nat → Nat) (T : zT) (L : List LY) (S : SS) : va_W := L.mapIdx (fun k le => (ad k, cE ad T S k le))
def up2 (S : SS) (k j : Nat) (a : Int) : SS := fun x y => if x = k ∧ y = j then a else S x y
theorem up2_s (S : SS) (k j : Nat) (a : Int) : up2 S k j a k j = a := if_pos ⟨rfl, rfl⟩
theorem up2_k (S : SS) {k j x y : Nat} (a : Int) (h : x ≠ k) : up2 S k j a x y = S x y := if_neg (fun q => h q.1)
theorem up2_j (S : SS) {k j x y : Nat} (a : Int) (h : y ≠ j) : up2 S k j a x y = S x y := if_neg (fun q => h q.2)
theorem up2_e (S : SS) (k j x y : Nat) (a : Int) : up2 S k j a x y = if x = k ∧ y = j then a else S x y := rfl
theorem wd_at {ad : Nat → Nat} {T : zT} {L : List LY} {S : SS} {k : Nat} {le : LY} (h : L[k]? = some le) : (wd ad T L S)[k]? = some (ad k, cE ad T S k le) := by
  simp [wd, List.getElem?_mapIdx, h]
theorem wd_inv {ad : Nat → Nat} {T : zT} {L : List LY} {S : SS} {k : Nat} {q : Nat × va_E} (h : (wd ad T L S)[k]? = some q) : k < L.length ∧ q.1 = ad k := by
  have h1 := (List.getElem?_eq_some_iff.mp h).1
  have h2 : (wd ad T L S).length = L.length := by simp [wd]
  rw [h2] at h1
  refine ⟨h1, ?_⟩
  rw [wd_at (List.getElem?_eq_getElem h1)] at h
  cases h
  rfl
theorem wd_set {ad : Nat → Nat} {T : zT} {L : List LY} {S S' : SS} {k : Nat} {le : LY} {e : va_E} (h : L[k]? = some le) (he : cE ad T S' k le = e) (ho : ∀ a, a ≠ k → ∀ j, S' a j = S a j) : (wd ad T L S).set k (ad k, e) = wd ad T L S' := by
  apply List.ext_getElem?
  intro i
  have hk := (List.getElem?_eq_some_iff.mp h).1
  by_cases hi : i = k
  · subst hi
    rw [List.getElem?_set_self (by simp [wd]; exact hk), wd_at h, he]
  · rw [List.getElem?_set_ne (fun q => hi q.symm)]
    cases hL : L[i]? with
    | none =>
      have : L.length ≤ i := by simpa using hL
      rw [List.getElem?_eq_none (by simp [wd]; exact this), List.getElem?_eq_none (by simp [wd]; exact this)]
    | some l2 =>
      rw [wd_at hL, wd_at hL]
      have : S i = S' i := funext fun j => (ho i hi j).symm
      have hE : cE ad T S i l2 = cE ad T S' i l2 := by
        obtain ⟨t, n, ks⟩ := l2
        match t with
        | 0 => simp only [cE, flds, fE, this]
        | 1 => simp only [cE, this]
        | 2 => simp only [cE, this]
        | _ + 3 => rfl
      rw [hE]
theorem fld_at {ad : Nat → Nat} {S : SS} {k j kd : Nat} {ks : List Nat} (h : ks[j]? = some kd) : (flds ad S k ks)[j]? = some (fE ad S k j kd) := by
  simp [flds, List.getElem?_mapIdx, h]
theorem fld_set {ad : Nat → Nat} {S S' : SS} {k j kd : Nat} {ks : List Nat} {v : Value} (h : ks[j]? = some kd) (hv : fE ad S' k j kd = v) (ho : ∀ i, i ≠ j → S' k i = S k i) : flds ad S' k ks = (flds ad S k ks).set j v := by
  apply List.ext_getElem?
  intro i
  have hj := (List.getElem?_eq_some_iff.mp h).1
  by_cases hi : i = j
  · subst hi
    rw [List.getElem?_set_self (by simp [flds]; exact hj), fld_at h, hv]
  · rw [List.getElem?_set_ne (fun q => hi q.symm)]
    cases hL : ks[i]? with
    | none =>
      have : ks.length ≤ i := by simpa using hL
      rw [List.getElem?_eq_none (by simp [flds]; exact this), List.getElem?_eq_none (by simp [flds]; exact this)]
    | some k2 =>
      rw [fld_at hL, fld_at hL]
      match k2 with
      | 0 => simp only [fE, ho i hi]
      | 1 => simp only [fE, ho i hi]
      | _ + 2 => rfl
def zA (ad : Nat → Nat) (L : List LY) : Nat → Prop := fun q => ∃ k, k < L.length ∧ q = ad k
def zInj (ad : Nat → Nat) (n : Nat) : Prop := ∀ i j, i < n → j < n → ad i = ad j → i = j
theorem wd_D {ad : Nat → Nat} {T : zT} {L : List LY} {S : SS} (h : zInj ad L.length) : va_D (zA ad L) (wd ad T L S) := by
  refine ⟨fun i j a b hi hj e => ?_, fun k q hk => ?_⟩
  · obtain ⟨h1, h2⟩ := wd_inv hi
    obtain ⟨h3, h4⟩ := wd_inv hj
    exact h i j h1 h3 (by rw [← h2, ← h4, e])
  · obtain ⟨h1, h2⟩ := wd_inv hk
    exact ⟨k, h1, h2⟩
/-! the frame's variables -/
def prs (ad : Nat → Nat) : Nat → List (Option zV) → List (Nat × Value)
  | _, [] => []
  | i, none :: r => prs ad (i + 1) r
  | i, some v :: r => (i, cv ad v) :: prs ad (i + 1) r
theorem prs_mem {ad : Nat → Nat} {q : Nat × Value} : ∀ {loc : List (Option zV)} {b : Nat}, q ∈ prs ad b loc ↔ ∃ i v, loc[i]? = some (some v) ∧ q = (b + i, cv ad v)
  | [], b => by simp [prs]
  | none :: r, b => by
    rw [prs, prs_mem]
    constructor
    · rintro ⟨i, v, h, rfl⟩
      exact ⟨i + 1, v, by simpa using h, by rw [Nat.add_assoc, Nat.add_comm 1 i]⟩
    · rintro ⟨i, v, h, rfl⟩
      cases i with
      | zero => simp at h
      | succ i => exact ⟨i, v, by simpa using h, by rw [Nat.add_assoc, Nat.add_comm 1 i]⟩
  | some w :: r, b => by
    rw [prs, List.mem_cons, prs_mem]
    constructor
    · rintro (rfl | ⟨i, v, h, rfl⟩)
      · exact ⟨0, w, rfl, rfl⟩
      · exact ⟨i + 1, v, by simpa using h, by rw [Nat.add_assoc, Nat.add_comm 1 i]⟩
    · rintro ⟨i, v, h, rfl⟩
      cases i with
      | zero =>
        left
        simp at h
        subst h
        rfl
      | succ i => exact Or.inr ⟨i, v, by simpa using h, by rw [Nat.add_assoc, Nat.add_comm 1 i]⟩
def zL (ad : Nat → Nat) (ls : Array Slot) (loc : List (Option zV)) : Prop := lv_has ls loc.length (prs ad 0 loc)
theorem zL_at {ad : Nat → Nat} {ls : Array Slot} {loc : List (Option zV)} (h : zL ad ls loc) {i : Nat} {v : zV} (hv : loc[i]? = some (some v)) : ls[i]? = some (.val (cv ad v)) :=
  h.2.2 (i, cv ad v) (prs_mem.mpr ⟨i, v, hv, by rw [Nat.zero_add]⟩)
def zok (loc : List (Option zV)) (i : Nat) : Bool := match i with
  | 0 => true
  | k + 1 => match loc[k]? with
    | some (some (.inr (.inl _))) => false
    | _ => true
theorem cv_cat {ad : Nat → Nat} {v : zV} (h : (cv ad v).category = 2) : ∃ a, v = zl a := by
  match v with
  | .inl a => simp [cv, Value.category] at h
  | .inr (.inl a) => exact ⟨a, rfl⟩
  | .inr (.inr (some k)) => simp [cv, Value.category] at h
  | .inr (.inr none) => simp [cv, Value.category] at h
theorem zL_set1 {ad : Nat → Nat} {ls : Array Slot} {loc : List (Option zV)} {i : Nat} {v : zV} (hi : i < loc.length) (hok : zok loc i = true)
    (h : lv_has ls loc.length ((i, cv ad v) :: (prs ad 0 loc).filter (fun q => !(q.1 == i) && !(q.1 + 1 == i && q.2.category == 2)))) : zL ad ls (loc.set i (some v)) := by
  refine ⟨by rw [List.length_set]; exact h.1, h.2.1, fun q hq => ?_⟩
  obtain ⟨j, w, hj, rfl⟩ := prs_mem.mp hq
  rw [Nat.zero_add]
  by_cases hji : j = i
  · subst hji
    rw [List.getElem?_set_self hi] at hj
    cases hj
    exact h.2.2 _ List.mem_cons_self
  · rw [List.getElem?_set_ne (fun z => hji z.symm)] at hj
    refine h.2.2 (j, cv ad w) (List.mem_cons_of_mem _ (List.mem_filter.mpr ⟨prs_mem.mpr ⟨j, w, hj, by rw [Nat.zero_add]⟩, ?_⟩))
    have h1 : (j == i) = false := by simpa using hji
    by_cases hs : j + 1 = i
    · have h2 : ((cv ad w).category == 2) = false := by
        cases hc : (cv ad w).category == 2 with
        | false => rfl
        | true =>
          obtain ⟨a, rfl⟩ := cv_cat (by simpa using hc)
          subst hs
          simp [zok, hj] at hok
      simp [h1, h2]
    · have h2 : (j + 1 == i) = false := by simpa using hs
      simp [h1, h2]
theorem zL_set2 {ad : Nat → Nat} {ls : Array Slot} {loc : List (Option zV)} {i : Nat} {v : zV} (hi : i + 1 < loc.length) (hok : zok loc i = true)
    (h : lv_has ls loc.length ((i, cv ad v) :: (prs ad 0 loc).filter (fun q => !(q.1 == i) && (!(q.1 == i + 1) && !(q.1 + 1 == i && q.2.category == 2))))) : zL ad ls ((loc.set i (some v)).set (i + 1) none) := by
  refine ⟨by rw [List.length_set, List.length_set]; exact h.1, h.2.1, fun q hq => ?_⟩
  obtain ⟨j, w, hj, rfl⟩ := prs_mem.mp hq
  rw [Nat.zero_add]
  by_cases hj1 : j = i + 1
  · subst hj1
    rw [List.getElem?_set_self (by rw [List.length_set]; exact hi)] at hj
    cases hj
  rw [List.getElem?_set_ne (fun z => hj1 z.symm)] at hj
  by_cases hji : j = i
  · subst hji
    rw [List.getElem?_set_self (by omega)] at hj
    cases hj
    exact h.2.2 _ List.mem_cons_self
  · rw [List.getElem?_set_ne (fun z => hji z.symm)] at hj
    refine h.2.2 (j, cv ad w) (List.mem_cons_of_mem _ (List.mem_filter.mpr ⟨prs_mem.mpr ⟨j, w, hj, by rw [Nat.zero_add]⟩, ?_⟩))
    have h1 : (j == i) = false := by simpa using hji
    have h3 : (j == i + 1) = false := by simpa using hj1
    by_cases hs : j + 1 = i
    · have h2 : ((cv ad w).category == 2) = false := by
        cases hc : (cv ad w).category == 2 with
        | false => rfl
        | true =>
          obtain ⟨a, rfl⟩ := cv_cat (by simpa using hc)
          subst hs
          simp [zok, hj] at hok
      simp [h1, h2, h3]
    · have h2 : (j + 1 == i) = false := by simpa using hs
      simp [h1, h2, h3]
def zent : List zV → List (Option zV)
  | [] => []
  | v :: r => match v with
    | .inr (.inl a) => some (zl a) :: none :: zent r
    | v => some v :: zent r
theorem zent_len (ad : Nat → Nat) : ∀ av : List zV, (lg_sl (av.map (cv ad))).length = (zent av).length
  | [] => rfl
  | v :: r => by
    have ih := zent_len ad r
    match v with
    | .inl a => simpa [lg_sl, zent, cv, Value.category] using ih
    | .inr (.inl a) => simpa [lg_sl, zent, cv, Value.category] using ih
    | .inr (.inr (some k)) => simpa [lg_sl, zent, cv, Value.category] using ih
    | .inr (.inr none) => simpa [lg_sl, zent, cv, Value.category] using ih
theorem zent_prs (ad : Nat → Nat) : ∀ (av : List zV) (i : Nat), prs ad i (zent av) = lv_args i (av.map (cv ad))
  | [], i => rfl
  | v :: r, i => by
    match v with
    | .inl a => simp [zent, prs, lv_args, cv, Value.category, zent_prs ad r]
    | .inr (.inl a) => simp [zent, prs, lv_args, cv, Value.category, zent_prs ad r]
    | .inr (.inr (some k)) => simp [zent, prs, lv_args, cv, Value.category, zent_prs ad r]
    | .inr (.inr none) => simp [zent, prs, lv_args, cv, Value.category, zent_prs ad r]
theorem prs_rep (ad : Nat → Nat) (n : Nat) : ∀ (l : List (Option zV)) (i : Nat), prs ad i (l ++ List.replicate n none) = prs ad i l
  | [], i => by
    induction n generalizing i with
    | zero => rfl
    | succ n ih => simpa [List.replicate_succ, prs] using ih (i + 1)
  | none :: r, i => by simp [prs, prs_rep ad n r]
  | some v :: r, i => by simp [prs, prs_rep ad n r]
theorem zL_entry {ad : Nat → Nat} {av : List zV} {n : Nat} {loc : List (Option zV)} (hle : (zent av).length ≤ n) (hloc : zent av ++ List.replicate (n - (zent av).length) none = loc) :
    zL ad ((lg_sl (av.map (cv ad)) ++ List.replicate (n - (lg_sl (av.map (cv ad))).length) Slot.unset).toArray) loc := by
  have h := lv_entry (av.map (cv ad)) (n := n) (by rw [zent_len]; exact hle)
  subst hloc
  unfold zL
  rw [prs_rep, zent_prs]
  have : (zent av ++ List.replicate (n - (zent av).length) (none : Option zV)).length = n := by simp; omega
  rw [this]
  exact h
/-! the judgement -/
abbrev zX : Type := Program × Launch × Env × Room × State × MethodId × Array Value × List Frame × Method × Code × (State → Prop) × va_G × (Nat → Nat) × zT
def zG (x : zX) (L : List LY) (pc : Nat) (loc : List (Option zV)) (st : List zV) (S : SS) : Prop := match x with
  | (p, l, e, R, s, m, args, below, meth, c, Q, D, ad, T) => ∀ (H : Heap) (locs : List Loc) (ls : Array Slot), va_P D vwCl (wd ad T L S) H → va_S (zA ad L) s.heap H locs → zL ad ls loc → W p l e R s m args below meth c H locs 0 0 Q (F0 m pc ls (st.map (cv ad)))
def zQ (L : List LY) (ad : Nat → Nat) (T : zT) (D : va_G) (Post : Option zV → SS → Prop) : Array Value → State → Outcome → State → Prop := fun _ st o t => (∃ (r : Option zV) (S' : SS), o = .returned (r.map (cv ad)) ∧ Post r S' ∧ va_P D vwCl (wd ad T L S') t.heap) ∧ va_F (zA ad L) st t
def zTy (T : zT) : List (ClassId × FieldType) := [(T.1, .int), (T.2.1, .boolean), (T.2.2, .object "DrumSlits$Sheet")]
def zOK (x : zX) (L : List LY) (cc : ByteArray) (own : String) (nL : Nat) (ret : Option FieldType) (fr lc : Nat) (Post : Option zV → SS → Prop) : Prop := match x with
  | (p, l, e, R, s, m, args, below, meth, c, Q, D, ad, T) => p.tables.exec = Jvm.exec ∧ c.code = cc ∧ c.maxLocals = nL ∧ s.vm.findClass own = some m.cls ∧ (∀ w ∈ TB, w.before args s = true) ∧ va_K D vwCl (zTy T) s ∧ zN s ∧ zInj ad L.length ∧ meth.locks = false ∧ meth.sig.returnType = ret ∧ R.frames = fr ∧ R.locals = lc ∧ Q = MQ below (zQ L ad T D Post) args s 0 0 (zA ad L)
def zM (L : List LY) (y : MethodName) (cc : ByteArray) (nL : Nat) (ret : Option FieldType) (fr lc : Nat) (av : List zV) (S : SS) (Post : Option zV → SS → Prop) : Prop :=
  ∀ (l : Launch) (D : va_G) (ad : Nat → Nat) (T : zT), zInj ad L.length → Met l y (Cond.code y cc nL ret :: TB) ({ frames := fr, cells := 0, slots := 0, locals := lc }) (va_Pc (av.map (cv ad)) (fun U => va_P D vwCl (wd ad T L S) U.heap ∧ va_K D vwCl (zTy T) U ∧ zN U)) (zQ L ad T D Post) 0 0 (zA ad L)
theorem zM_of {L : List LY} {y : MethodName} {cc : ByteArray} {nL : Nat} {ret : Option FieldType} {fr lc : Nat} {av : List zV} {S : SS} {Post : Option zV → SS → Prop} (own : String) (ho : y.cls = own) (hy : plainName own = true) (loc : List (Option zV)) (hle : (zent av).length ≤ nL) (hloc : zent av ++ List.replicate (nL - (zent av).length) none = loc)
    (body : ∀ x : zX, zOK x L cc own nL ret fr lc Post → zG x L 0 loc [] S) : zM L y cc nL ret fr lc av S Post := by
  subst ho
  intro l D ad T hinj
  refine Met.ofW (cc := cc) (maxL := nL) (ret := ret) hy rfl ?_
  intro p e s m args below meth c s₁ B hml hv
  obtain ⟨rfl, hP, hK, hN⟩ := hv
  have hts := atoms_spec (ws := Cond.code y cc nL ret :: TB) B.pre
  rw [lg_entry_eq]
  have hG := body (p, l, e, (headSpec (Cond.code y cc nL ret :: TB) ({ frames := fr, cells := 0, slots := 0, locals := lc })).room, s, m, (av.map (cv ad)).toArray, below, meth, c, MQ below (zQ L ad T D Post) (av.map (cv ad)).toArray s 0 0 (zA ad L), D, ad, T) ⟨B.exec, B.bytes, hml, findClass_of_methodNamed B.named, fun w hw => hts w (List.mem_cons_of_mem _ hw), hK, hN, hinj, B.notSynchronized, B.returns, rfl, rfl, rfl⟩
  exact hG s.heap [] _ hP va_S.rf (zL_entry hle hloc)
theorem zM_ofF {L : List LY} {y : MethodName} {cc : ByteArray} {nL : Nat} {ret : Option FieldType} {fr lc : Nat} {av : List zV} {S : SS} {Post : Option zV → SS → Prop} (own : String) (ho : y.cls = own) (hy : plainFor y = true) (loc : List (Option zV)) (hle : (zent av).length ≤ nL) (hloc : zent av ++ List.replicate (nL - (zent av).length) none = loc)
    (body : ∀ x : zX, zOK x L cc own nL ret fr lc Post → zG x L 0 loc [] S) : zM L y cc nL ret fr lc av S Post := by
  subst ho
  intro l D ad T hinj
  refine va_MetF (cc := cc) (maxL := nL) (ret := ret) hy rfl ?_
  intro p e s m args below meth c s₁ B hml hv
  obtain ⟨rfl, hP, hK, hN⟩ := hv
  have hts := atoms_spec (ws := Cond.code y cc nL ret :: TB) B.pre
  rw [lg_entry_eq]
  have hG := body (p, l, e, (headSpec (Cond.code y cc nL ret :: TB) ({ frames := fr, cells := 0, slots := 0, locals := lc })).room, s, m, (av.map (cv ad)).toArray, below, meth, c, MQ below (zQ L ad T D Post) (av.map (cv ad)).toArray s 0 0 (zA ad L), D, ad, T) ⟨B.exec, B.bytes, hml, findClass_of_methodNamed B.named, fun w hw => hts w (List.mem_cons_of_mem _ hw), hK, hN, hinj, B.notSynchronized, B.returns, rfl, rfl, rfl⟩
  exact hG s.heap [] _ hP va_S.rf (zL_entry hle hloc)
theorem zG_eq {x : zX} {L : List LY} {pc pc' : Nat} {loc loc' : List (Option zV)} {st st' : List zV} {S S' : SS} (k : zG x L pc' loc' st' S') (h1 : pc = pc') (h2 : loc = loc') (h3 : st = st') (h4 : S = S') : zG x L pc loc st S := by subst h1; subst h2; subst h3; subst h4; exact k
theorem zM_post {L : List LY} {y : MethodName} {cc : ByteArray} {nL : Nat} {ret : Option FieldType} {fr lc : Nat} {av : List zV} {S : SS} {Post Post2 : Option zV → SS → Prop} (h : zM L y cc nL ret fr lc av S Post) (hp : ∀ r S', Post r S' → Post2 r S') : zM L y cc nL ret fr lc av S Post2 := by
  intro l D ad T hinj p e ha hc hk s m args below hf hfit hheap happ
  obtain ⟨n, o, h1, h2, h3, ⟨⟨r, S', hr, hq, hP⟩, hF⟩, h4⟩ := h l D ad T hinj p e ha hc hk s m args below hf hfit hheap happ
  exact ⟨n, o, h1, h2, h3, ⟨⟨r, S', hr, hp r S' hq, hP⟩, hF⟩, h4⟩

abbrev r32 (a : Int) : Prop := -2147483648 ≤ a ∧ a ≤ 2147483647
theorem i32_t {a : Int} (h : r32 a) : (Int32.ofInt a).toInt = a := Int32.toInt_ofInt_of_le (by have := h.1; omega) (by have := h.2; omega)
theorem i32_e {a b : Int} (ha : r32 a) (hb : r32 b) : Int32.ofInt a = Int32.ofInt b ↔ a = b := ⟨fun h => by rw [← i32_t ha, ← i32_t hb, h], fun h => by rw [h]⟩
theorem i32_l {a b : Int} (ha : r32 a) (hb : r32 b) : Int32.ofInt a < Int32.ofInt b ↔ a < b := by rw [Int32.lt_iff_toInt_lt, i32_t ha, i32_t hb]
theorem i32_le {a b : Int} (ha : r32 a) (hb : r32 b) : Int32.ofInt a ≤ Int32.ofInt b ↔ a ≤ b := by rw [Int32.le_iff_toInt_le, i32_t ha, i32_t hb]
theorem i32_c {a : Int} {n : Nat} (h0 : 0 ≤ a) (h1 : a < n) (hn : n ≤ 2147483647) : vp_in (Int32.ofInt a) n ∧ (Int32.ofInt a).toNatClampNeg = a.toNat := by
  have h : (Int32.ofInt a).toInt = a := i32_t ⟨by omega, by omega⟩
  refine ⟨vp_in_iff.mpr ⟨by rw [h]; exact h0, by rw [h]; exact h1⟩, ?_⟩
  show (Int32.ofInt a).toInt.toNat = a.toNat
  rw [h]
theorem i64_t {a : Int} (h : -9223372036854775808 ≤ a ∧ a ≤ 9223372036854775807) : (Int64.ofInt a).toInt = a := Int64.toInt_ofInt_of_le (by have := h.1; omega) (by have := h.2; omega)
theorem i32_0 : Int32.ofInt 0 = 0 := rfl
theorem i32_n0 {b : Int} (hb : r32 b) (h : b ≠ 0) : ¬ Int32.ofInt b = 0 := fun q => h ((i32_e hb ⟨by decide, by decide⟩).mp q)
theorem i32_div {a b : Int} (ha : r32 a) (hb : r32 b) : Int32.ofInt (a.tdiv b) = Int32.ofInt a / Int32.ofInt b := Int32.ofInt_tdiv (by have := ha.1; exact this) (by have := ha.2; exact this) (by have := hb.1; exact this) (by have := hb.2; exact this)
theorem i32_rem {a b : Int} (ha : r32 a) (hb : r32 b) : Int32.ofInt (a.tmod b) = Int32.ofInt a - Int32.ofInt a / Int32.ofInt b * Int32.ofInt b := by
  rw [← i32_div ha hb, ← Int32.ofInt_mul, ← Int32.ofInt_sub]
  congr 1
  have := Int.tmod_def a b
  rw [this, Int.mul_comm]
theorem i32_l64 {a : Int} (ha : r32 a) : (Int32.ofInt a).toInt64 = Int64.ofInt a := Int32.toInt64_ofInt (by have := ha.1; exact this) (by have := ha.2; exact this)
theorem i32_b (a : Int) : (Int32.ofInt a).toInt8.toInt32 = Int32.ofInt (a.bmod 256) := by
  rw [Int32.toInt8_ofInt]
  rw [show (Int8.ofInt a).toInt32 = Int32.ofInt (Int8.ofInt a).toInt from (Int32.ofInt_int8ToInt _).symm, Int8.toInt_ofInt]
theorem i32_s (a : Int) : (Int32.ofInt a).toInt16.toInt32 = Int32.ofInt (a.bmod 65536) := by
  rw [show (Int32.ofInt a).toInt16 = Int16.ofInt a from Int16.toInt_inj.mp (by simp)]
  rw [show (Int16.ofInt a).toInt32 = Int32.ofInt (Int16.ofInt a).toInt from (Int32.ofInt_int16ToInt _).symm, Int16.toInt_ofInt]
theorem i32_nat {a : Int} (h : 0 ≤ a) : Int32.ofInt a = Int32.ofNat a.toNat := by
  obtain ⟨n, rfl⟩ := Int.eq_ofNat_of_zero_le h
  exact (Int32.ofInt_eq_ofNat).trans rfl
theorem i32_sh : ∀ n : Nat, n < 32 → (((Int32.ofNat n) &&& 31).toBitVec.smod 32).toNat = n := by decide +kernel
theorem i32_shl (a : Int) {b : Int} (hb : 0 ≤ b ∧ b < 32) : Int32.ofInt a <<< (Int32.ofInt b &&& 31) = Int32.ofInt (a * 2 ^ b.toNat) := by
  obtain ⟨n, rfl⟩ := Int.eq_ofNat_of_zero_le hb.1
  have hn : n < 32 := by omega
  have hs := i32_sh n hn
  rw [i32_nat hb.1, Int.toNat_natCast]
  apply Int32.toBitVec_inj.mp
  apply BitVec.eq_of_toNat_eq
  rw [pk_shl _ _ n hs]
  show (BitVec.ofInt 32 a).toNat * 2 ^ n % 2 ^ 32 = (BitVec.ofInt 32 (a * 2 ^ n)).toNat
  rw [BitVec.toNat_ofInt, BitVec.toNat_ofInt]
  apply Int.ofNat.inj
  show (((a % ((2 ^ 32 : Nat) : Int)).toNat * 2 ^ n % 2 ^ 32 : Nat) : Int) = (((a * 2 ^ n) % ((2 ^ 32 : Nat) : Int)).toNat : Int)
  rw [Int.natCast_emod, Int.natCast_mul, Int.toNat_of_nonneg (Int.emod_nonneg _ (by decide)), Int.toNat_of_nonneg (Int.emod_nonneg _ (by decide)), Int.natCast_pow, Int.mul_emod, Int.emod_emod, ← Int.mul_emod]
  rfl
theorem i32_shr {a : Int} (ha : r32 a) {b : Int} (hb : 0 ≤ b ∧ b < 32) : Int32.ofInt a >>> (Int32.ofInt b &&& 31) = Int32.ofInt (a / 2 ^ b.toNat) := by
  obtain ⟨n, rfl⟩ := Int.eq_ofNat_of_zero_le hb.1
  have hn : n < 32 := by omega
  have hs := i32_sh n hn
  rw [i32_nat hb.1, Int.toNat_natCast]
  apply Int32.toInt_inj.mp
  have hp : (0 : Int) < 2 ^ n := Int.pow_pos (by decide)
  have hr : r32 (a / 2 ^ n) := by
    refine ⟨Int.le_ediv_of_mul_le hp ?_, Int.ediv_le_of_le_mul hp ?_⟩
    · have h1 : (2147483648 : Int) * 1 ≤ 2147483648 * 2 ^ n := Int.mul_le_mul_of_nonneg_left hp (by decide)
      have := ha.1
      omega
    · have h1 : (2147483647 : Int) * 1 ≤ 2147483647 * 2 ^ n := Int.mul_le_mul_of_nonneg_left hp (by decide)
      have := ha.2
      omega
  rw [pk_shr _ _ n hs, i32_t ha, i32_t hr, Int.shiftRight_eq_div_pow]
  rw [Int.natCast_pow]
  rfl
theorem i32_and {a b : Int} (ha : 0 ≤ a ∧ a ≤ 2147483647) (hb : 0 ≤ b ∧ b ≤ 2147483647) : Int32.ofInt a &&& Int32.ofInt b = Int32.ofInt ((a.toNat &&& b.toNat : Nat) : Int) := by
  rw [i32_nat ha.1, i32_nat hb.1]
  apply Int32.toBitVec_inj.mp
  show BitVec.ofNat 32 a.toNat &&& BitVec.ofNat 32 b.toNat = BitVec.ofInt 32 ((a.toNat &&& b.toNat : Nat) : Int)
  rw [BitVec.ofInt_natCast]
  apply BitVec.eq_of_toNat_eq
  have h1 : a.toNat < 2 ^ 32 := by omega
  have h2 : b.toNat < 2 ^ 32 := by omega
  rw [BitVec.toNat_and, BitVec.toNat_ofNat, BitVec.toNat_ofNat, BitVec.toNat_ofNat, Nat.mod_eq_of_lt h1, Nat.mod_eq_of_lt h2, Nat.mod_eq_of_lt]
  exact Nat.lt_of_le_of_lt Nat.and_le_left h1
theorem i32_or {a b : Int} (ha : 0 ≤ a ∧ a ≤ 2147483647) (hb : 0 ≤ b ∧ b ≤ 2147483647) : Int32.ofInt a ||| Int32.ofInt b = Int32.ofInt ((a.toNat ||| b.toNat : Nat) : Int) := by
  rw [i32_nat ha.1, i32_nat hb.1]
  apply Int32.toBitVec_inj.mp
  show BitVec.ofNat 32 a.toNat ||| BitVec.ofNat 32 b.toNat = BitVec.ofInt 32 ((a.toNat ||| b.toNat : Nat) : Int)
  rw [BitVec.ofInt_natCast]
  apply BitVec.eq_of_toNat_eq
  have h1 : a.toNat < 2 ^ 32 := by omega
  have h2 : b.toNat < 2 ^ 32 := by omega
  rw [BitVec.toNat_or, BitVec.toNat_ofNat, BitVec.toNat_ofNat, BitVec.toNat_ofNat, Nat.mod_eq_of_lt h1, Nat.mod_eq_of_lt h2, Nat.mod_eq_of_lt]
  exact Nat.or_lt_two_pow h1 h2
theorem cv_c1 {ad : Nat → Nat} {v : zV} (h : (match v with | .inr (.inl _) => false | _ => true) = true) : (cv ad v).category = 1 := by
  match v with
  | .inl a => rfl
  | .inr (.inl a) => cases h
  | .inr (.inr (some k)) => rfl
  | .inr (.inr none) => rfl
theorem i32_eqT {a b : Int} (ha : r32 a) (hb : r32 b) (h : Int32.ofInt a = Int32.ofInt b) : a = b := (i32_e ha hb).mp h
theorem i32_eqF {a b : Int} (ha : r32 a) (hb : r32 b) (h : ¬ Int32.ofInt a = Int32.ofInt b) : ¬ a = b := fun q => h (by rw [q])
theorem i32_neT {a b : Int} (ha : r32 a) (hb : r32 b) (h : Int32.ofInt a ≠ Int32.ofInt b) : ¬ a = b := fun q => h (by rw [q])
theorem i32_neF {a b : Int} (ha : r32 a) (hb : r32 b) (h : Int32.ofInt a = Int32.ofInt b) : a = b := (i32_e ha hb).mp h
theorem i32_ltT {a b : Int} (ha : r32 a) (hb : r32 b) (h : Int32.ofInt a < Int32.ofInt b) : a < b := (i32_l ha hb).mp h
theorem i32_ltF {a b : Int} (ha : r32 a) (hb : r32 b) (h : ¬ Int32.ofInt a < Int32.ofInt b) : b ≤ a := Int.not_lt.mp (fun q => h ((i32_l ha hb).mpr q))
theorem i32_geT {a b : Int} (ha : r32 a) (hb : r32 b) (h : Int32.ofInt b ≤ Int32.ofInt a) : b ≤ a := (i32_le hb ha).mp h
theorem i32_geF {a b : Int} (ha : r32 a) (hb : r32 b) (h : ¬ Int32.ofInt b ≤ Int32.ofInt a) : a < b := Int.not_le.mp (fun q => h ((i32_le hb ha).mpr q))
theorem i32_gtT {a b : Int} (ha : r32 a) (hb : r32 b) (h : Int32.ofInt b < Int32.ofInt a) : b < a := (i32_l hb ha).mp h
theorem i32_gtF {a b : Int} (ha : r32 a) (hb : r32 b) (h : ¬ Int32.ofInt b < Int32.ofInt a) : a ≤ b := Int.not_lt.mp (fun q => h ((i32_l hb ha).mpr q))
theorem i32_leT {a b : Int} (ha : r32 a) (hb : r32 b) (h : Int32.ofInt a ≤ Int32.ofInt b) : a ≤ b := (i32_le ha hb).mp h
theorem i32_leF {a b : Int} (ha : r32 a) (hb : r32 b) (h : ¬ Int32.ofInt a ≤ Int32.ofInt b) : b < a := Int.not_le.mp (fun q => h ((i32_le ha hb).mpr q))
section
variable {x : zX} {L : List LY} {cc : ByteArray} {own : String} {nL : Nat} {ret : Option FieldType} {fr lc : Nat} {Post : Option zV → SS → Prop} {pc : Nat} {loc loc' : List (Option zV)} {st : List zV} {S : SS}
theorem z_iconst (h : zOK x L cc own nL ret fr lc Post) {n : Int} (hd : decode cc pc = .ok (.iconst n, 1)) (k : zG x L (pc + 1) loc (zi n :: st) S) : zG x L pc loc (st) S := by
  obtain ⟨p, l, e, R, s, m, args, below, meth, c, Q, D, ad, T⟩ := x
  obtain ⟨hx, hb, hml, hown, hts, hK, hN, hinj, hlk, hret, hfr, hlc, hQ⟩ := h
  intro H locs ls hP hS hL
  exact lv_iconst hx hb hd rfl (k H locs ls hP hS hL)
theorem z_bipush (h : zOK x L cc own nL ret fr lc Post) {n : Int} (hd : decode cc pc = .ok (.bipush n, 2)) (hn : (Int8.ofInt n).toInt32 = Int32.ofInt n) (k : zG x L (pc + 2) loc (zi n :: st) S) : zG x L pc loc (st) S := by
  obtain ⟨p, l, e, R, s, m, args, below, meth, c, Q, D, ad, T⟩ := x
  obtain ⟨hx, hb, hml, hown, hts, hK, hN, hinj, hlk, hret, hfr, hlc, hQ⟩ := h
  intro H locs ls hP hS hL
  exact lv_bipush hx hb hd hn (k H locs ls hP hS hL)
theorem z_sipush (h : zOK x L cc own nL ret fr lc Post) {n : Int} (hd : decode cc pc = .ok (.sipush n, 3)) (hn : (Int16.ofInt n).toInt32 = Int32.ofInt n) (k : zG x L (pc + 3) loc (zi n :: st) S) : zG x L pc loc (st) S := by
  obtain ⟨p, l, e, R, s, m, args, below, meth, c, Q, D, ad, T⟩ := x
  obtain ⟨hx, hb, hml, hown, hts, hK, hN, hinj, hlk, hret, hfr, hlc, hQ⟩ := h
  intro H locs ls hP hS hL
  exact lv_sipush hx hb hd hn (k H locs ls hP hS hL)
theorem z_lconst (h : zOK x L cc own nL ret fr lc Post) {n : Fin 2} {a : Int} (hd : decode cc pc = .ok (.lconst n, 1)) (hn : Int64.ofNat (n : Nat) = Int64.ofInt a) (k : zG x L (pc + 1) loc (zl a :: st) S) : zG x L pc loc (st) S := by
  obtain ⟨p, l, e, R, s, m, args, below, meth, c, Q, D, ad, T⟩ := x
  obtain ⟨hx, hb, hml, hown, hts, hK, hN, hinj, hlk, hret, hfr, hlc, hQ⟩ := h
  intro H locs ls hP hS hL
  exact lv_lconst hx hb hd hn (k H locs ls hP hS hL)
theorem z_ldc (h : zOK x L cc own nL ret fr lc Post) {index : Nat} {v : Int32} {a : Int} (hc : Cond.constant own index v ∈ TB) (hd : decode cc pc = .ok (.ldc index, 2)) (hn : v = Int32.ofInt a) (k : zG x L (pc + 2) loc (zi a :: st) S) : zG x L pc loc (st) S := by
  obtain ⟨p, l, e, R, s, m, args, below, meth, c, Q, D, ad, T⟩ := x
  obtain ⟨hx, hb, hml, hown, hts, hK, hN, hinj, hlk, hret, hfr, hlc, hQ⟩ := h
  intro H locs ls hP hS hL
  subst hn
  exact lv_ldc hx hb hown (hts _ hc) hd (k H locs ls hP hS hL)
theorem z_ldcw (h : zOK x L cc own nL ret fr lc Post) {index : Nat} {v : Int32} {a : Int} (hc : Cond.constant own index v ∈ TB) (hd : decode cc pc = .ok (.ldc_w index, 3)) (hn : v = Int32.ofInt a) (k : zG x L (pc + 3) loc (zi a :: st) S) : zG x L pc loc (st) S := by
  obtain ⟨p, l, e, R, s, m, args, below, meth, c, Q, D, ad, T⟩ := x
  obtain ⟨hx, hb, hml, hown, hts, hK, hN, hinj, hlk, hret, hfr, hlc, hQ⟩ := h
  intro H locs ls hP hS hL
  subst hn
  exact lv_ldcw hx hb hown (hts _ hc) hd (k H locs ls hP hS hL)
theorem z_ldc2 (h : zOK x L cc own nL ret fr lc Post) {index : Nat} {v : Int64} {a : Int} (hc : Cond.constantLong own index v ∈ TB) (hd : decode cc pc = .ok (.ldc2_w index, 3)) (hn : v = Int64.ofInt a) (k : zG x L (pc + 3) loc (zl a :: st) S) : zG x L pc loc (st) S := by
  obtain ⟨p, l, e, R, s, m, args, below, meth, c, Q, D, ad, T⟩ := x
  obtain ⟨hx, hb, hml, hown, hts, hK, hN, hinj, hlk, hret, hfr, hlc, hQ⟩ := h
  intro H locs ls hP hS hL
  subst hn
  exact lv_ldc2 hx hb hown (hts _ hc) hd (k H locs ls hP hS hL)
theorem z_null (h : zOK x L cc own nL ret fr lc Post) (hd : decode cc pc = .ok (.aconst_null, 1)) (k : zG x L (pc + 1) loc (zn :: st) S) : zG x L pc loc (st) S := by
  obtain ⟨p, l, e, R, s, m, args, below, meth, c, Q, D, ad, T⟩ := x
  obtain ⟨hx, hb, hml, hown, hts, hK, hN, hinj, hlk, hret, hfr, hlc, hQ⟩ := h
  intro H locs ls hP hS hL
  exact lv_null hx hb hd (k H locs ls hP hS hL)
theorem z_iload_n (h : zOK x L cc own nL ret fr lc Post) {n : Fin 4} {a : Int} (hd : decode cc pc = .ok (.iload_n n, 1)) (hv : loc[(n : Nat)]? = some (some (zi a))) (k : zG x L (pc + 1) loc (zi a :: st) S) : zG x L pc loc (st) S := by
  obtain ⟨p, l, e, R, s, m, args, below, meth, c, Q, D, ad, T⟩ := x
  obtain ⟨hx, hb, hml, hown, hts, hK, hN, hinj, hlk, hret, hfr, hlc, hQ⟩ := h
  intro H locs ls hP hS hL
  exact lv_iload_n hx hb hd rfl (zL_at hL hv) (k H locs ls hP hS hL)
theorem z_iload (h : zOK x L cc own nL ret fr lc Post) {i : Nat} {a : Int} (hd : decode cc pc = .ok (.iload i, 2)) (hv : loc[i]? = some (some (zi a))) (k : zG x L (pc + 2) loc (zi a :: st) S) : zG x L pc loc (st) S := by
  obtain ⟨p, l, e, R, s, m, args, below, meth, c, Q, D, ad, T⟩ := x
  obtain ⟨hx, hb, hml, hown, hts, hK, hN, hinj, hlk, hret, hfr, hlc, hQ⟩ := h
  intro H locs ls hP hS hL
  exact lv_iload hx hb hd (zL_at hL hv) (k H locs ls hP hS hL)
theorem z_istore_n (h : zOK x L cc own nL ret fr lc Post) {n : Fin 4} {i : Nat} {a : Int} (hd : decode cc pc = .ok (.istore_n n, 1)) (hi : (n : Nat) = i) (hn : i < loc.length) (hok : zok loc i = true) (hl : loc.set i (some (zi a)) = loc') (k : zG x L (pc + 1) loc' st S) : zG x L pc loc (zi a :: st) S := by
  obtain ⟨p, l, e, R, s, m, args, below, meth, c, Q, D, ad, T⟩ := x
  obtain ⟨hx, hb, hml, hown, hts, hK, hN, hinj, hlk, hret, hfr, hlc, hQ⟩ := h
  intro H locs ls hP hS hL
  subst hl
  refine lv_istore_n hx hb hd hi hL hn rfl (fun ls' h' => ?_)
  exact k H locs ls' hP hS (zL_set1 (v := zi a) hn hok h')
theorem z_istore (h : zOK x L cc own nL ret fr lc Post) {i : Nat} {a : Int} (hd : decode cc pc = .ok (.istore i, 2)) (hn : i < loc.length) (hok : zok loc i = true) (hl : loc.set i (some (zi a)) = loc') (k : zG x L (pc + 2) loc' st S) : zG x L pc loc (zi a :: st) S := by
  obtain ⟨p, l, e, R, s, m, args, below, meth, c, Q, D, ad, T⟩ := x
  obtain ⟨hx, hb, hml, hown, hts, hK, hN, hinj, hlk, hret, hfr, hlc, hQ⟩ := h
  intro H locs ls hP hS hL
  subst hl
  refine lv_istore hx hb hd hL hn rfl (fun ls' h' => ?_)
  exact k H locs ls' hP hS (zL_set1 (v := zi a) hn hok h')
theorem z_lload_n (h : zOK x L cc own nL ret fr lc Post) {n : Fin 4} {a : Int} (hd : decode cc pc = .ok (.lload_n n, 1)) (hv : loc[(n : Nat)]? = some (some (zl a))) (k : zG x L (pc + 1) loc (zl a :: st) S) : zG x L pc loc (st) S := by
  obtain ⟨p, l, e, R, s, m, args, below, meth, c, Q, D, ad, T⟩ := x
  obtain ⟨hx, hb, hml, hown, hts, hK, hN, hinj, hlk, hret, hfr, hlc, hQ⟩ := h
  intro H locs ls hP hS hL
  exact lv_lload_n hx hb hd rfl (zL_at hL hv) (k H locs ls hP hS hL)
theorem z_lload (h : zOK x L cc own nL ret fr lc Post) {i : Nat} {a : Int} (hd : decode cc pc = .ok (.lload i, 2)) (hv : loc[i]? = some (some (zl a))) (k : zG x L (pc + 2) loc (zl a :: st) S) : zG x L pc loc (st) S := by
  obtain ⟨p, l, e, R, s, m, args, below, meth, c, Q, D, ad, T⟩ := x
  obtain ⟨hx, hb, hml, hown, hts, hK, hN, hinj, hlk, hret, hfr, hlc, hQ⟩ := h
  intro H locs ls hP hS hL
  exact lv_lload hx hb hd (zL_at hL hv) (k H locs ls hP hS hL)
theorem z_lstore_n (h : zOK x L cc own nL ret fr lc Post) {n : Fin 4} {i : Nat} {a : Int} (hd : decode cc pc = .ok (.lstore_n n, 1)) (hi : (n : Nat) = i) (hn : i + 1 < loc.length) (hok : zok loc i = true) (hl : (loc.set i (some (zl a))).set (i + 1) none = loc') (k : zG x L (pc + 1) loc' st S) : zG x L pc loc (zl a :: st) S := by
  obtain ⟨p, l, e, R, s, m, args, below, meth, c, Q, D, ad, T⟩ := x
  obtain ⟨hx, hb, hml, hown, hts, hK, hN, hinj, hlk, hret, hfr, hlc, hQ⟩ := h
  intro H locs ls hP hS hL
  subst hl
  refine lv_lstore_n hx hb hd hi hL hn rfl (fun ls' h' => ?_)
  exact k H locs ls' hP hS (zL_set2 (v := zl a) hn hok h')
theorem z_lstore (h : zOK x L cc own nL ret fr lc Post) {i : Nat} {a : Int} (hd : decode cc pc = .ok (.lstore i, 2)) (hn : i + 1 < loc.length) (hok : zok loc i = true) (hl : (loc.set i (some (zl a))).set (i + 1) none = loc') (k : zG x L (pc + 2) loc' st S) : zG x L pc loc (zl a :: st) S := by
  obtain ⟨p, l, e, R, s, m, args, below, meth, c, Q, D, ad, T⟩ := x
  obtain ⟨hx, hb, hml, hown, hts, hK, hN, hinj, hlk, hret, hfr, hlc, hQ⟩ := h
  intro H locs ls hP hS hL
  subst hl
  refine lv_lstore hx hb hd hL hn rfl (fun ls' h' => ?_)
  exact k H locs ls' hP hS (zL_set2 (v := zl a) hn hok h')
theorem z_aload_n (h : zOK x L cc own nL ret fr lc Post) {n : Fin 4} {a : Nat} (hd : decode cc pc = .ok (.aload_n n, 1)) (hv : loc[(n : Nat)]? = some (some (zr a))) (k : zG x L (pc + 1) loc (zr a :: st) S) : zG x L pc loc (st) S := by
  obtain ⟨p, l, e, R, s, m, args, below, meth, c, Q, D, ad, T⟩ := x
  obtain ⟨hx, hb, hml, hown, hts, hK, hN, hinj, hlk, hret, hfr, hlc, hQ⟩ := h
  intro H locs ls hP hS hL
  exact lv_aload_n hx hb hd rfl (zL_at hL hv) (k H locs ls hP hS hL)
theorem z_aload (h : zOK x L cc own nL ret fr lc Post) {i : Nat} {a : Nat} (hd : decode cc pc = .ok (.aload i, 2)) (hv : loc[i]? = some (some (zr a))) (k : zG x L (pc + 2) loc (zr a :: st) S) : zG x L pc loc (st) S := by
  obtain ⟨p, l, e, R, s, m, args, below, meth, c, Q, D, ad, T⟩ := x
  obtain ⟨hx, hb, hml, hown, hts, hK, hN, hinj, hlk, hret, hfr, hlc, hQ⟩ := h
  intro H locs ls hP hS hL
  exact lv_aload hx hb hd (zL_at hL hv) (k H locs ls hP hS hL)
theorem z_astore_n (h : zOK x L cc own nL ret fr lc Post) {n : Fin 4} {i : Nat} {a : Nat} (hd : decode cc pc = .ok (.astore_n n, 1)) (hi : (n : Nat) = i) (hn : i < loc.length) (hok : zok loc i = true) (hl : loc.set i (some (zr a)) = loc') (k : zG x L (pc + 1) loc' st S) : zG x L pc loc (zr a :: st) S := by
  obtain ⟨p, l, e, R, s, m, args, below, meth, c, Q, D, ad, T⟩ := x
  obtain ⟨hx, hb, hml, hown, hts, hK, hN, hinj, hlk, hret, hfr, hlc, hQ⟩ := h
  intro H locs ls hP hS hL
  subst hl
  refine lv_astore_n hx hb hd hi hL hn rfl (fun ls' h' => ?_)
  exact k H locs ls' hP hS (zL_set1 (v := zr a) hn hok h')
theorem z_astore (h : zOK x L cc own nL ret fr lc Post) {i : Nat} {a : Nat} (hd : decode cc pc = .ok (.astore i, 2)) (hn : i < loc.length) (hok : zok loc i = true) (hl : loc.set i (some (zr a)) = loc') (k : zG x L (pc + 2) loc' st S) : zG x L pc loc (zr a :: st) S := by
  obtain ⟨p, l, e, R, s, m, args, below, meth, c, Q, D, ad, T⟩ := x
  obtain ⟨hx, hb, hml, hown, hts, hK, hN, hinj, hlk, hret, hfr, hlc, hQ⟩ := h
  intro H locs ls hP hS hL
  subst hl
  refine lv_astore hx hb hd hL hn rfl (fun ls' h' => ?_)
  exact k H locs ls' hP hS (zL_set1 (v := zr a) hn hok h')
theorem z_nload_n (h : zOK x L cc own nL ret fr lc Post) {n : Fin 4} (hd : decode cc pc = .ok (.aload_n n, 1)) (hv : loc[(n : Nat)]? = some (some zn)) (k : zG x L (pc + 1) loc (zn :: st) S) : zG x L pc loc (st) S := by
  obtain ⟨p, l, e, R, s, m, args, below, meth, c, Q, D, ad, T⟩ := x
  obtain ⟨hx, hb, hml, hown, hts, hK, hN, hinj, hlk, hret, hfr, hlc, hQ⟩ := h
  intro H locs ls hP hS hL
  exact lv_aload_nN hx hb hd rfl (zL_at hL hv) (k H locs ls hP hS hL)
theorem z_nload (h : zOK x L cc own nL ret fr lc Post) {i : Nat} (hd : decode cc pc = .ok (.aload i, 2)) (hv : loc[i]? = some (some zn)) (k : zG x L (pc + 2) loc (zn :: st) S) : zG x L pc loc (st) S := by
  obtain ⟨p, l, e, R, s, m, args, below, meth, c, Q, D, ad, T⟩ := x
  obtain ⟨hx, hb, hml, hown, hts, hK, hN, hinj, hlk, hret, hfr, hlc, hQ⟩ := h
  intro H locs ls hP hS hL
  exact lv_aloadN hx hb hd (zL_at hL hv) (k H locs ls hP hS hL)
theorem z_nstore_n (h : zOK x L cc own nL ret fr lc Post) {n : Fin 4} {i : Nat} (hd : decode cc pc = .ok (.astore_n n, 1)) (hi : (n : Nat) = i) (hn : i < loc.length) (hok : zok loc i = true) (hl : loc.set i (some zn) = loc') (k : zG x L (pc + 1) loc' st S) : zG x L pc loc (zn :: st) S := by
  obtain ⟨p, l, e, R, s, m, args, below, meth, c, Q, D, ad, T⟩ := x
  obtain ⟨hx, hb, hml, hown, hts, hK, hN, hinj, hlk, hret, hfr, hlc, hQ⟩ := h
  intro H locs ls hP hS hL
  subst hl
  refine lv_astore_nN hx hb hd hi hL hn rfl (fun ls' h' => ?_)
  exact k H locs ls' hP hS (zL_set1 (v := zn) hn hok h')
theorem z_nstore (h : zOK x L cc own nL ret fr lc Post) {i : Nat} (hd : decode cc pc = .ok (.astore i, 2)) (hn : i < loc.length) (hok : zok loc i = true) (hl : loc.set i (some zn) = loc') (k : zG x L (pc + 2) loc' st S) : zG x L pc loc (zn :: st) S := by
  obtain ⟨p, l, e, R, s, m, args, below, meth, c, Q, D, ad, T⟩ := x
  obtain ⟨hx, hb, hml, hown, hts, hK, hN, hinj, hlk, hret, hfr, hlc, hQ⟩ := h
  intro H locs ls hP hS hL
  subst hl
  refine lv_astoreN hx hb hd hL hn rfl (fun ls' h' => ?_)
  exact k H locs ls' hP hS (zL_set1 (v := zn) hn hok h')
theorem z_iinc (h : zOK x L cc own nL ret fr lc Post) {i : Nat} {n a : Int} (hd : decode cc pc = .ok (.iinc i n, 3)) (hv : loc[i]? = some (some (zi a))) (hn : i < loc.length) (hok : zok loc i = true) (hl : loc.set i (some (zi (a + n))) = loc') (k : zG x L (pc + 3) loc' st S) : zG x L pc loc (st) S := by
  obtain ⟨p, l, e, R, s, m, args, below, meth, c, Q, D, ad, T⟩ := x
  obtain ⟨hx, hb, hml, hown, hts, hK, hN, hinj, hlk, hret, hfr, hlc, hQ⟩ := h
  intro H locs ls hP hS hL
  subst hl
  obtain ⟨j, hj⟩ := List.getElem?_of_mem (prs_mem (ad := ad) (b := 0) (q := (i, cv ad (zi a))).mpr ⟨i, zi a, hv, by rw [Nat.zero_add]⟩)
  refine lv_iinc (k := j) (x := Int32.ofInt a) (v := Int32.ofInt (a + n)) hx hb hd hL hj (Int32.ofInt_add a n).symm hn rfl (fun ls' h' => ?_)
  exact k H locs ls' hP hS (zL_set1 (v := zi (a + n)) hn hok h')
theorem z_iadd (h : zOK x L cc own nL ret fr lc Post) {a b : Int} (hd : decode cc pc = .ok (.iadd, 1)) (k : zG x L (pc + 1) loc (zi (a + b) :: st) S) : zG x L pc loc (zi b :: zi a :: st) S := by
  obtain ⟨p, l, e, R, s, m, args, below, meth, c, Q, D, ad, T⟩ := x
  obtain ⟨hx, hb, hml, hown, hts, hK, hN, hinj, hlk, hret, hfr, hlc, hQ⟩ := h
  intro H locs ls hP hS hL
  have k2 := k H locs ls hP hS hL
  simp only [List.map_cons, cv, Int32.ofInt_add] at k2 ⊢
  exact lv_iadd hx hb hd k2
theorem z_isub (h : zOK x L cc own nL ret fr lc Post) {a b : Int} (hd : decode cc pc = .ok (.isub, 1)) (k : zG x L (pc + 1) loc (zi (a - b) :: st) S) : zG x L pc loc (zi b :: zi a :: st) S := by
  obtain ⟨p, l, e, R, s, m, args, below, meth, c, Q, D, ad, T⟩ := x
  obtain ⟨hx, hb, hml, hown, hts, hK, hN, hinj, hlk, hret, hfr, hlc, hQ⟩ := h
  intro H locs ls hP hS hL
  have k2 := k H locs ls hP hS hL
  simp only [List.map_cons, cv, Int32.ofInt_sub] at k2 ⊢
  exact lv_isub hx hb hd k2
theorem z_imul (h : zOK x L cc own nL ret fr lc Post) {a b : Int} (hd : decode cc pc = .ok (.imul, 1)) (k : zG x L (pc + 1) loc (zi (a * b) :: st) S) : zG x L pc loc (zi b :: zi a :: st) S := by
  obtain ⟨p, l, e, R, s, m, args, below, meth, c, Q, D, ad, T⟩ := x
  obtain ⟨hx, hb, hml, hown, hts, hK, hN, hinj, hlk, hret, hfr, hlc, hQ⟩ := h
  intro H locs ls hP hS hL
  have k2 := k H locs ls hP hS hL
  simp only [List.map_cons, cv, Int32.ofInt_mul] at k2 ⊢
  exact lv_imul hx hb hd k2
theorem z_ineg (h : zOK x L cc own nL ret fr lc Post) {a : Int} (hd : decode cc pc = .ok (.ineg, 1)) (k : zG x L (pc + 1) loc (zi (-a) :: st) S) : zG x L pc loc (zi a :: st) S := by
  obtain ⟨p, l, e, R, s, m, args, below, meth, c, Q, D, ad, T⟩ := x
  obtain ⟨hx, hb, hml, hown, hts, hK, hN, hinj, hlk, hret, hfr, hlc, hQ⟩ := h
  intro H locs ls hP hS hL
  have k2 := k H locs ls hP hS hL
  simp only [List.map_cons, cv, Int32.ofInt_neg] at k2 ⊢
  exact lv_ineg hx hb hd k2
theorem z_ladd (h : zOK x L cc own nL ret fr lc Post) {a b : Int} (hd : decode cc pc = .ok (.ladd, 1)) (k : zG x L (pc + 1) loc (zl (a + b) :: st) S) : zG x L pc loc (zl b :: zl a :: st) S := by
  obtain ⟨p, l, e, R, s, m, args, below, meth, c, Q, D, ad, T⟩ := x
  obtain ⟨hx, hb, hml, hown, hts, hK, hN, hinj, hlk, hret, hfr, hlc, hQ⟩ := h
  intro H locs ls hP hS hL
  have k2 := k H locs ls hP hS hL
  simp only [List.map_cons, cv, Int64.ofInt_add] at k2 ⊢
  exact lv_ladd hx hb hd k2
theorem z_lsub (h : zOK x L cc own nL ret fr lc Post) {a b : Int} (hd : decode cc pc = .ok (.lsub, 1)) (k : zG x L (pc + 1) loc (zl (a - b) :: st) S) : zG x L pc loc (zl b :: zl a :: st) S := by
  obtain ⟨p, l, e, R, s, m, args, below, meth, c, Q, D, ad, T⟩ := x
  obtain ⟨hx, hb, hml, hown, hts, hK, hN, hinj, hlk, hret, hfr, hlc, hQ⟩ := h
  intro H locs ls hP hS hL
  have k2 := k H locs ls hP hS hL
  simp only [List.map_cons, cv, Int64.ofInt_sub] at k2 ⊢
  exact lv_lsub hx hb hd k2
theorem z_lmul (h : zOK x L cc own nL ret fr lc Post) {a b : Int} (hd : decode cc pc = .ok (.lmul, 1)) (k : zG x L (pc + 1) loc (zl (a * b) :: st) S) : zG x L pc loc (zl b :: zl a :: st) S := by
  obtain ⟨p, l, e, R, s, m, args, below, meth, c, Q, D, ad, T⟩ := x
  obtain ⟨hx, hb, hml, hown, hts, hK, hN, hinj, hlk, hret, hfr, hlc, hQ⟩ := h
  intro H locs ls hP hS hL
  have k2 := k H locs ls hP hS hL
  simp only [List.map_cons, cv, Int64.ofInt_mul] at k2 ⊢
  exact lv_lmul hx hb hd k2
theorem z_idiv (h : zOK x L cc own nL ret fr lc Post) {a b : Int} (hd : decode cc pc = .ok (.idiv, 1)) (ha : r32 a) (hbb : r32 b) (hne : b ≠ 0) (k : zG x L (pc + 1) loc (zi (a.tdiv b) :: st) S) : zG x L pc loc (zi b :: zi a :: st) S := by
  obtain ⟨p, l, e, R, s, m, args, below, meth, c, Q, D, ad, T⟩ := x
  obtain ⟨hx, hb, hml, hown, hts, hK, hN, hinj, hlk, hret, hfr, hlc, hQ⟩ := h
  intro H locs ls hP hS hL
  have k2 := k H locs ls hP hS hL
  simp only [List.map_cons, cv] at k2 ⊢
  rw [i32_div ha hbb] at k2
  exact lv_idiv hx hb hd (i32_n0 hbb hne) k2
theorem z_irem (h : zOK x L cc own nL ret fr lc Post) {a b : Int} (hd : decode cc pc = .ok (.irem, 1)) (ha : r32 a) (hbb : r32 b) (hne : b ≠ 0) (k : zG x L (pc + 1) loc (zi (a.tmod b) :: st) S) : zG x L pc loc (zi b :: zi a :: st) S := by
  obtain ⟨p, l, e, R, s, m, args, below, meth, c, Q, D, ad, T⟩ := x
  obtain ⟨hx, hb, hml, hown, hts, hK, hN, hinj, hlk, hret, hfr, hlc, hQ⟩ := h
  intro H locs ls hP hS hL
  have k2 := k H locs ls hP hS hL
  simp only [List.map_cons, cv] at k2 ⊢
  rw [i32_rem ha hbb] at k2
  exact lv_irem hx hb hd (i32_n0 hbb hne) k2
theorem z_idivN (h : zOK x L cc own nL ret fr lc Post) {a b : Int} (hd : decode cc pc = .ok (.idiv, 1)) (ha : 0 ≤ a ∧ a ≤ 2147483647) (hbb : 0 < b ∧ b ≤ 2147483647) (k : zG x L (pc + 1) loc (zi (a / b) :: st) S) : zG x L pc loc (zi b :: zi a :: st) S := by
  obtain ⟨p, l, e, R, s, m, args, below, meth, c, Q, D, ad, T⟩ := x
  obtain ⟨hx, hb, hml, hown, hts, hK, hN, hinj, hlk, hret, hfr, hlc, hQ⟩ := h
  intro H locs ls hP hS hL
  have k2 := k H locs ls hP hS hL
  simp only [List.map_cons, cv] at k2 ⊢
  rw [← Int.tdiv_eq_ediv_of_nonneg ha.1, i32_div ⟨by omega, ha.2⟩ ⟨by omega, hbb.2⟩] at k2
  exact lv_idiv hx hb hd (i32_n0 ⟨by omega, hbb.2⟩ (by omega)) k2
theorem z_iremN (h : zOK x L cc own nL ret fr lc Post) {a b : Int} (hd : decode cc pc = .ok (.irem, 1)) (ha : 0 ≤ a ∧ a ≤ 2147483647) (hbb : 0 < b ∧ b ≤ 2147483647) (k : zG x L (pc + 1) loc (zi (a % b) :: st) S) : zG x L pc loc (zi b :: zi a :: st) S := by
  obtain ⟨p, l, e, R, s, m, args, below, meth, c, Q, D, ad, T⟩ := x
  obtain ⟨hx, hb, hml, hown, hts, hK, hN, hinj, hlk, hret, hfr, hlc, hQ⟩ := h
  intro H locs ls hP hS hL
  have k2 := k H locs ls hP hS hL
  simp only [List.map_cons, cv] at k2 ⊢
  rw [← Int.tmod_eq_emod_of_nonneg ha.1, i32_rem ⟨by omega, ha.2⟩ ⟨by omega, hbb.2⟩] at k2
  exact lv_irem hx hb hd (i32_n0 ⟨by omega, hbb.2⟩ (by omega)) k2
theorem z_ishl (h : zOK x L cc own nL ret fr lc Post) {a b : Int} (hd : decode cc pc = .ok (.ishl, 1)) (hbb : 0 ≤ b ∧ b < 32) (k : zG x L (pc + 1) loc (zi (a * 2 ^ b.toNat) :: st) S) : zG x L pc loc (zi b :: zi a :: st) S := by
  obtain ⟨p, l, e, R, s, m, args, below, meth, c, Q, D, ad, T⟩ := x
  obtain ⟨hx, hb, hml, hown, hts, hK, hN, hinj, hlk, hret, hfr, hlc, hQ⟩ := h
  intro H locs ls hP hS hL
  have k2 := k H locs ls hP hS hL
  simp only [List.map_cons, cv] at k2 ⊢
  rw [← i32_shl a hbb] at k2
  exact lv_ishl hx hb hd k2
theorem z_ishr (h : zOK x L cc own nL ret fr lc Post) {a b : Int} (hd : decode cc pc = .ok (.ishr, 1)) (ha : r32 a) (hbb : 0 ≤ b ∧ b < 32) (k : zG x L (pc + 1) loc (zi (a / 2 ^ b.toNat) :: st) S) : zG x L pc loc (zi b :: zi a :: st) S := by
  obtain ⟨p, l, e, R, s, m, args, below, meth, c, Q, D, ad, T⟩ := x
  obtain ⟨hx, hb, hml, hown, hts, hK, hN, hinj, hlk, hret, hfr, hlc, hQ⟩ := h
  intro H locs ls hP hS hL
  have k2 := k H locs ls hP hS hL
  simp only [List.map_cons, cv] at k2 ⊢
  rw [← i32_shr ha hbb] at k2
  exact lv_ishr hx hb hd k2
theorem z_iand (h : zOK x L cc own nL ret fr lc Post) {a b : Int} (hd : decode cc pc = .ok (.iand, 1)) (ha : 0 ≤ a ∧ a ≤ 2147483647) (hbb : 0 ≤ b ∧ b ≤ 2147483647) (k : zG x L (pc + 1) loc (zi ((a.toNat &&& b.toNat : Nat) : Int) :: st) S) : zG x L pc loc (zi b :: zi a :: st) S := by
  obtain ⟨p, l, e, R, s, m, args, below, meth, c, Q, D, ad, T⟩ := x
  obtain ⟨hx, hb, hml, hown, hts, hK, hN, hinj, hlk, hret, hfr, hlc, hQ⟩ := h
  intro H locs ls hP hS hL
  have k2 := k H locs ls hP hS hL
  simp only [List.map_cons, cv] at k2 ⊢
  rw [← i32_and ha hbb] at k2
  exact lv_iand hx hb hd k2
theorem z_ior (h : zOK x L cc own nL ret fr lc Post) {a b : Int} (hd : decode cc pc = .ok (.ior, 1)) (ha : 0 ≤ a ∧ a ≤ 2147483647) (hbb : 0 ≤ b ∧ b ≤ 2147483647) (k : zG x L (pc + 1) loc (zi ((a.toNat ||| b.toNat : Nat) : Int) :: st) S) : zG x L pc loc (zi b :: zi a :: st) S := by
  obtain ⟨p, l, e, R, s, m, args, below, meth, c, Q, D, ad, T⟩ := x
  obtain ⟨hx, hb, hml, hown, hts, hK, hN, hinj, hlk, hret, hfr, hlc, hQ⟩ := h
  intro H locs ls hP hS hL
  have k2 := k H locs ls hP hS hL
  simp only [List.map_cons, cv] at k2 ⊢
  rw [← i32_or ha hbb] at k2
  exact lv_ior hx hb hd k2
theorem z_i2l (h : zOK x L cc own nL ret fr lc Post) {a : Int} (hd : decode cc pc = .ok (.i2l, 1)) (ha : r32 a) (k : zG x L (pc + 1) loc (zl a :: st) S) : zG x L pc loc (zi a :: st) S := by
  obtain ⟨p, l, e, R, s, m, args, below, meth, c, Q, D, ad, T⟩ := x
  obtain ⟨hx, hb, hml, hown, hts, hK, hN, hinj, hlk, hret, hfr, hlc, hQ⟩ := h
  intro H locs ls hP hS hL
  exact lv_i2l hx hb hd (i32_l64 ha) (k H locs ls hP hS hL)
theorem z_i2b (h : zOK x L cc own nL ret fr lc Post) {a : Int} (hd : decode cc pc = .ok (.i2b, 1)) (k : zG x L (pc + 1) loc (zi (a.bmod 256) :: st) S) : zG x L pc loc (zi a :: st) S := by
  obtain ⟨p, l, e, R, s, m, args, below, meth, c, Q, D, ad, T⟩ := x
  obtain ⟨hx, hb, hml, hown, hts, hK, hN, hinj, hlk, hret, hfr, hlc, hQ⟩ := h
  intro H locs ls hP hS hL
  exact lv_i2b hx hb hd (i32_b a) (k H locs ls hP hS hL)
theorem z_i2s (h : zOK x L cc own nL ret fr lc Post) {a : Int} (hd : decode cc pc = .ok (.i2s, 1)) (k : zG x L (pc + 1) loc (zi (a.bmod 65536) :: st) S) : zG x L pc loc (zi a :: st) S := by
  obtain ⟨p, l, e, R, s, m, args, below, meth, c, Q, D, ad, T⟩ := x
  obtain ⟨hx, hb, hml, hown, hts, hK, hN, hinj, hlk, hret, hfr, hlc, hQ⟩ := h
  intro H locs ls hP hS hL
  exact lv_i2s hx hb hd (i32_s a) (k H locs ls hP hS hL)
theorem z_lcmp (h : zOK x L cc own nL ret fr lc Post) {a b : Int} (hd : decode cc pc = .ok (.lcmp, 1)) (ha : -9223372036854775808 ≤ a ∧ a ≤ 9223372036854775807) (hbb : -9223372036854775808 ≤ b ∧ b ≤ 9223372036854775807) (k1 : a < b → zG x L (pc + 1) loc (zi (-1) :: st) S) (k2 : a = b → zG x L (pc + 1) loc (zi 0 :: st) S) (k3 : b < a → zG x L (pc + 1) loc (zi 1 :: st) S) : zG x L pc loc (zl b :: zl a :: st) S := by
  obtain ⟨p, l, e, R, s, m, args, below, meth, c, Q, D, ad, T⟩ := x
  obtain ⟨hx, hb, hml, hown, hts, hK, hN, hinj, hlk, hret, hfr, hlc, hQ⟩ := h
  intro H locs ls hP hS hL
  refine W.lcmp hx hb hd ?_
  unfold lg_cmp
  rcases Int.lt_trichotomy a b with h1 | h1 | h1
  · rw [if_neg (by rw [gt_iff_lt, Int64.lt_iff_toInt_lt, i64_t ha, i64_t hbb]; omega), if_neg (by rw [← Int64.toInt_inj, i64_t ha, i64_t hbb]; omega)]
    exact k1 h1 H locs ls hP hS hL
  · subst h1
    rw [if_neg (by rw [gt_iff_lt, Int64.lt_iff_toInt_lt]; omega), if_pos rfl]
    exact k2 rfl H locs ls hP hS hL
  · rw [if_pos (by rw [gt_iff_lt, Int64.lt_iff_toInt_lt, i64_t ha, i64_t hbb]; omega)]
    exact k3 h1 H locs ls hP hS hL
theorem z_lcmp_eq (h : zOK x L cc own nL ret fr lc Post) {a : Int} (hd : decode cc pc = .ok (.lcmp, 1)) (k2 : zG x L (pc + 1) loc (zi 0 :: st) S) : zG x L pc loc (zl a :: zl a :: st) S := by
  obtain ⟨p, l, e, R, s, m, args, below, meth, c, Q, D, ad, T⟩ := x
  obtain ⟨hx, hb, hml, hown, hts, hK, hN, hinj, hlk, hret, hfr, hlc, hQ⟩ := h
  intro H locs ls hP hS hL
  refine W.lcmp hx hb hd ?_
  unfold lg_cmp
  rw [if_neg (by rw [gt_iff_lt, Int64.lt_iff_toInt_lt]; omega), if_pos rfl]
  exact k2 H locs ls hP hS hL
theorem z_dup (h : zOK x L cc own nL ret fr lc Post) {v : zV} (hd : decode cc pc = .ok (.dup, 1)) (hv : (match v with | .inr (.inl _) => false | _ => true) = true) (k : zG x L (pc + 1) loc (v :: v :: st) S) : zG x L pc loc (v :: st) S := by
  obtain ⟨p, l, e, R, s, m, args, below, meth, c, Q, D, ad, T⟩ := x
  obtain ⟨hx, hb, hml, hown, hts, hK, hN, hinj, hlk, hret, hfr, hlc, hQ⟩ := h
  intro H locs ls hP hS hL
  exact lv_dup hx hb hd (cv_c1 hv) (k H locs ls hP hS hL)
theorem z_pop (h : zOK x L cc own nL ret fr lc Post) {v : zV} (hd : decode cc pc = .ok (.pop, 1)) (hv : (match v with | .inr (.inl _) => false | _ => true) = true) (k : zG x L (pc + 1) loc st S) : zG x L pc loc (v :: st) S := by
  obtain ⟨p, l, e, R, s, m, args, below, meth, c, Q, D, ad, T⟩ := x
  obtain ⟨hx, hb, hml, hown, hts, hK, hN, hinj, hlk, hret, hfr, hlc, hQ⟩ := h
  intro H locs ls hP hS hL
  exact lv_pop hx hb hd (cv_c1 hv) (k H locs ls hP hS hL)
theorem z_dup2 (h : zOK x L cc own nL ret fr lc Post) {v w : zV} (hd : decode cc pc = .ok (.dup2, 1)) (hv : (match v with | .inr (.inl _) => false | _ => true) = true) (hw : (match w with | .inr (.inl _) => false | _ => true) = true) (k : zG x L (pc + 1) loc (v :: w :: v :: w :: st) S) : zG x L pc loc (v :: w :: st) S := by
  obtain ⟨p, l, e, R, s, m, args, below, meth, c, Q, D, ad, T⟩ := x
  obtain ⟨hx, hb, hml, hown, hts, hK, hN, hinj, hlk, hret, hfr, hlc, hQ⟩ := h
  intro H locs ls hP hS hL
  exact lv_dup2_11 hx hb hd (cv_c1 hv) (cv_c1 hw) (k H locs ls hP hS hL)
theorem z_goto (h : zOK x L cc own nL ret fr lc Post) {off : Int} {tgt : Nat} (hd : decode cc pc = .ok (.goto off, 3)) (ht : (pc : Int) + off = (tgt : Int)) (k : zG x L tgt loc st S) : zG x L pc loc (st) S := by
  obtain ⟨p, l, e, R, s, m, args, below, meth, c, Q, D, ad, T⟩ := x
  obtain ⟨hx, hb, hml, hown, hts, hK, hN, hinj, hlk, hret, hfr, hlc, hQ⟩ := h
  intro H locs ls hP hS hL
  exact lv_goto hx hb hd ht (k H locs ls hP hS hL)
theorem z_icmp_eq (h : zOK x L cc own nL ret fr lc Post) {a b : Int} {off : Int} {tgt : Nat} (hd : decode cc pc = .ok (.if_icmp .eq off, 3)) (ht : (pc : Int) + off = (tgt : Int)) (ha : r32 a) (hbb : r32 b) (kt : a = b → zG x L tgt loc st S) (kf : ¬ a = b → zG x L (pc + 3) loc st S) : zG x L pc loc (zi b :: zi a :: st) S := by
  obtain ⟨p, l, e, R, s, m, args, below, meth, c, Q, D, ad, T⟩ := x
  obtain ⟨hx, hb, hml, hown, hts, hK, hN, hinj, hlk, hret, hfr, hlc, hQ⟩ := h
  intro H locs ls hP hS hL
  exact lv_icmp_eq hx hb hd ht (fun q => kt (i32_eqT ha hbb q) H locs ls hP hS hL) (fun q => kf (i32_eqF ha hbb q) H locs ls hP hS hL)
theorem z_if_eq (h : zOK x L cc own nL ret fr lc Post) {a : Int} {off : Int} {tgt : Nat} (hd : decode cc pc = .ok (.ifCond .eq off, 3)) (ht : (pc : Int) + off = (tgt : Int)) (ha : r32 a) (kt : a = 0 → zG x L tgt loc st S) (kf : ¬ a = 0 → zG x L (pc + 3) loc st S) : zG x L pc loc (zi a :: st) S := by
  obtain ⟨p, l, e, R, s, m, args, below, meth, c, Q, D, ad, T⟩ := x
  obtain ⟨hx, hb, hml, hown, hts, hK, hN, hinj, hlk, hret, hfr, hlc, hQ⟩ := h
  intro H locs ls hP hS hL
  have hbb : r32 0 := ⟨by decide, by decide⟩
  exact lv_if_eq hx hb hd ht (fun q => kt (i32_eqT ha hbb q) H locs ls hP hS hL) (fun q => kf (i32_eqF ha hbb q) H locs ls hP hS hL)
theorem z_icmp_ne (h : zOK x L cc own nL ret fr lc Post) {a b : Int} {off : Int} {tgt : Nat} (hd : decode cc pc = .ok (.if_icmp .ne off, 3)) (ht : (pc : Int) + off = (tgt : Int)) (ha : r32 a) (hbb : r32 b) (kt : ¬ a = b → zG x L tgt loc st S) (kf : a = b → zG x L (pc + 3) loc st S) : zG x L pc loc (zi b :: zi a :: st) S := by
  obtain ⟨p, l, e, R, s, m, args, below, meth, c, Q, D, ad, T⟩ := x
  obtain ⟨hx, hb, hml, hown, hts, hK, hN, hinj, hlk, hret, hfr, hlc, hQ⟩ := h
  intro H locs ls hP hS hL
  exact lv_icmp_ne hx hb hd ht (fun q => kt (i32_neT ha hbb q) H locs ls hP hS hL) (fun q => kf (i32_neF ha hbb q) H locs ls hP hS hL)
theorem z_if_ne (h : zOK x L cc own nL ret fr lc Post) {a : Int} {off : Int} {tgt : Nat} (hd : decode cc pc = .ok (.ifCond .ne off, 3)) (ht : (pc : Int) + off = (tgt : Int)) (ha : r32 a) (kt : ¬ a = 0 → zG x L tgt loc st S) (kf : a = 0 → zG x L (pc + 3) loc st S) : zG x L pc loc (zi a :: st) S := by
  obtain ⟨p, l, e, R, s, m, args, below, meth, c, Q, D, ad, T⟩ := x
  obtain ⟨hx, hb, hml, hown, hts, hK, hN, hinj, hlk, hret, hfr, hlc, hQ⟩ := h
  intro H locs ls hP hS hL
  have hbb : r32 0 := ⟨by decide, by decide⟩
  exact lv_if_ne hx hb hd ht (fun q => kt (i32_neT ha hbb q) H locs ls hP hS hL) (fun q => kf (i32_neF ha hbb q) H locs ls hP hS hL)
theorem z_icmp_lt (h : zOK x L cc own nL ret fr lc Post) {a b : Int} {off : Int} {tgt : Nat} (hd : decode cc pc = .ok (.if_icmp .lt off, 3)) (ht : (pc : Int) + off = (tgt : Int)) (ha : r32 a) (hbb : r32 b) (kt : a < b → zG x L tgt loc st S) (kf : b ≤ a → zG x L (pc + 3) loc st S) : zG x L pc loc (zi b :: zi a :: st) S := by
  obtain ⟨p, l, e, R, s, m, args, below, meth, c, Q, D, ad, T⟩ := x
  obtain ⟨hx, hb, hml, hown, hts, hK, hN, hinj, hlk, hret, hfr, hlc, hQ⟩ := h
  intro H locs ls hP hS hL
  exact lv_icmp_lt hx hb hd ht (fun q => kt (i32_ltT ha hbb q) H locs ls hP hS hL) (fun q => kf (i32_ltF ha hbb q) H locs ls hP hS hL)
theorem z_if_lt (h : zOK x L cc own nL ret fr lc Post) {a : Int} {off : Int} {tgt : Nat} (hd : decode cc pc = .ok (.ifCond .lt off, 3)) (ht : (pc : Int) + off = (tgt : Int)) (ha : r32 a) (kt : a < 0 → zG x L tgt loc st S) (kf : 0 ≤ a → zG x L (pc + 3) loc st S) : zG x L pc loc (zi a :: st) S := by
  obtain ⟨p, l, e, R, s, m, args, below, meth, c, Q, D, ad, T⟩ := x
  obtain ⟨hx, hb, hml, hown, hts, hK, hN, hinj, hlk, hret, hfr, hlc, hQ⟩ := h
  intro H locs ls hP hS hL
  have hbb : r32 0 := ⟨by decide, by decide⟩
  exact lv_if_lt hx hb hd ht (fun q => kt (i32_ltT ha hbb q) H locs ls hP hS hL) (fun q => kf (i32_ltF ha hbb q) H locs ls hP hS hL)
theorem z_icmp_ge (h : zOK x L cc own nL ret fr lc Post) {a b : Int} {off : Int} {tgt : Nat} (hd : decode cc pc = .ok (.if_icmp .ge off, 3)) (ht : (pc : Int) + off = (tgt : Int)) (ha : r32 a) (hbb : r32 b) (kt : b ≤ a → zG x L tgt loc st S) (kf : a < b → zG x L (pc + 3) loc st S) : zG x L pc loc (zi b :: zi a :: st) S := by
  obtain ⟨p, l, e, R, s, m, args, below, meth, c, Q, D, ad, T⟩ := x
  obtain ⟨hx, hb, hml, hown, hts, hK, hN, hinj, hlk, hret, hfr, hlc, hQ⟩ := h
  intro H locs ls hP hS hL
  exact lv_icmp_ge hx hb hd ht (fun q => kt (i32_geT ha hbb q) H locs ls hP hS hL) (fun q => kf (i32_geF ha hbb q) H locs ls hP hS hL)
theorem z_if_ge (h : zOK x L cc own nL ret fr lc Post) {a : Int} {off : Int} {tgt : Nat} (hd : decode cc pc = .ok (.ifCond .ge off, 3)) (ht : (pc : Int) + off = (tgt : Int)) (ha : r32 a) (kt : 0 ≤ a → zG x L tgt loc st S) (kf : a < 0 → zG x L (pc + 3) loc st S) : zG x L pc loc (zi a :: st) S := by
  obtain ⟨p, l, e, R, s, m, args, below, meth, c, Q, D, ad, T⟩ := x
  obtain ⟨hx, hb, hml, hown, hts, hK, hN, hinj, hlk, hret, hfr, hlc, hQ⟩ := h
  intro H locs ls hP hS hL
  have hbb : r32 0 := ⟨by decide, by decide⟩
  exact lv_if_ge hx hb hd ht (fun q => kt (i32_geT ha hbb q) H locs ls hP hS hL) (fun q => kf (i32_geF ha hbb q) H locs ls hP hS hL)
theorem z_icmp_gt (h : zOK x L cc own nL ret fr lc Post) {a b : Int} {off : Int} {tgt : Nat} (hd : decode cc pc = .ok (.if_icmp .gt off, 3)) (ht : (pc : Int) + off = (tgt : Int)) (ha : r32 a) (hbb : r32 b) (kt : b < a → zG x L tgt loc st S) (kf : a ≤ b → zG x L (pc + 3) loc st S) : zG x L pc loc (zi b :: zi a :: st) S := by
  obtain ⟨p, l, e, R, s, m, args, below, meth, c, Q, D, ad, T⟩ := x
  obtain ⟨hx, hb, hml, hown, hts, hK, hN, hinj, hlk, hret, hfr, hlc, hQ⟩ := h
  intro H locs ls hP hS hL
  exact lv_icmp_gt hx hb hd ht (fun q => kt (i32_gtT ha hbb q) H locs ls hP hS hL) (fun q => kf (i32_gtF ha hbb q) H locs ls hP hS hL)
theorem z_if_gt (h : zOK x L cc own nL ret fr lc Post) {a : Int} {off : Int} {tgt : Nat} (hd : decode cc pc = .ok (.ifCond .gt off, 3)) (ht : (pc : Int) + off = (tgt : Int)) (ha : r32 a) (kt : 0 < a → zG x L tgt loc st S) (kf : a ≤ 0 → zG x L (pc + 3) loc st S) : zG x L pc loc (zi a :: st) S := by
  obtain ⟨p, l, e, R, s, m, args, below, meth, c, Q, D, ad, T⟩ := x
  obtain ⟨hx, hb, hml, hown, hts, hK, hN, hinj, hlk, hret, hfr, hlc, hQ⟩ := h
  intro H locs ls hP hS hL
  have hbb : r32 0 := ⟨by decide, by decide⟩
  exact lv_if_gt hx hb hd ht (fun q => kt (i32_gtT ha hbb q) H locs ls hP hS hL) (fun q => kf (i32_gtF ha hbb q) H locs ls hP hS hL)
theorem z_icmp_le (h : zOK x L cc own nL ret fr lc Post) {a b : Int} {off : Int} {tgt : Nat} (hd : decode cc pc = .ok (.if_icmp .le off, 3)) (ht : (pc : Int) + off = (tgt : Int)) (ha : r32 a) (hbb : r32 b) (kt : a ≤ b → zG x L tgt loc st S) (kf : b < a → zG x L (pc + 3) loc st S) : zG x L pc loc (zi b :: zi a :: st) S := by
  obtain ⟨p, l, e, R, s, m, args, below, meth, c, Q, D, ad, T⟩ := x
  obtain ⟨hx, hb, hml, hown, hts, hK, hN, hinj, hlk, hret, hfr, hlc, hQ⟩ := h
  intro H locs ls hP hS hL
  exact lv_icmp_le hx hb hd ht (fun q => kt (i32_leT ha hbb q) H locs ls hP hS hL) (fun q => kf (i32_leF ha hbb q) H locs ls hP hS hL)
theorem z_if_le (h : zOK x L cc own nL ret fr lc Post) {a : Int} {off : Int} {tgt : Nat} (hd : decode cc pc = .ok (.ifCond .le off, 3)) (ht : (pc : Int) + off = (tgt : Int)) (ha : r32 a) (kt : a ≤ 0 → zG x L tgt loc st S) (kf : 0 < a → zG x L (pc + 3) loc st S) : zG x L pc loc (zi a :: st) S := by
  obtain ⟨p, l, e, R, s, m, args, below, meth, c, Q, D, ad, T⟩ := x
  obtain ⟨hx, hb, hml, hown, hts, hK, hN, hinj, hlk, hret, hfr, hlc, hQ⟩ := h
  intro H locs ls hP hS hL
  have hbb : r32 0 := ⟨by decide, by decide⟩
  exact lv_if_le hx hb hd ht (fun q => kt (i32_leT ha hbb q) H locs ls hP hS hL) (fun q => kf (i32_leF ha hbb q) H locs ls hP hS hL)
theorem z_ifnull_r (h : zOK x L cc own nL ret fr lc Post) {a : Nat} {off : Int} (hd : decode cc pc = .ok (.ifnull off, 3)) (k : zG x L (pc + 3) loc st S) : zG x L pc loc (zr a :: st) S := by
  obtain ⟨p, l, e, R, s, m, args, below, meth, c, Q, D, ad, T⟩ := x
  obtain ⟨hx, hb, hml, hown, hts, hK, hN, hinj, hlk, hret, hfr, hlc, hQ⟩ := h
  intro H locs ls hP hS hL
  exact lv_ifnull hx hb hd (k H locs ls hP hS hL)
theorem z_ifnull_n (h : zOK x L cc own nL ret fr lc Post) {off : Int} {tgt : Nat} (hd : decode cc pc = .ok (.ifnull off, 3)) (ht : (pc : Int) + off = (tgt : Int)) (k : zG x L tgt loc st S) : zG x L pc loc (zn :: st) S := by
  obtain ⟨p, l, e, R, s, m, args, below, meth, c, Q, D, ad, T⟩ := x
  obtain ⟨hx, hb, hml, hown, hts, hK, hN, hinj, hlk, hret, hfr, hlc, hQ⟩ := h
  intro H locs ls hP hS hL
  exact lv_ifnullN hx hb hd ht (k H locs ls hP hS hL)
theorem z_ifnonnull_r (h : zOK x L cc own nL ret fr lc Post) {a : Nat} {off : Int} {tgt : Nat} (hd : decode cc pc = .ok (.ifnonnull off, 3)) (ht : (pc : Int) + off = (tgt : Int)) (k : zG x L tgt loc st S) : zG x L pc loc (zr a :: st) S := by
  obtain ⟨p, l, e, R, s, m, args, below, meth, c, Q, D, ad, T⟩ := x
  obtain ⟨hx, hb, hml, hown, hts, hK, hN, hinj, hlk, hret, hfr, hlc, hQ⟩ := h
  intro H locs ls hP hS hL
  exact lv_ifnonnull hx hb hd ht (k H locs ls hP hS hL)
theorem z_ifnonnull_n (h : zOK x L cc own nL ret fr lc Post) {off : Int} (hd : decode cc pc = .ok (.ifnonnull off, 3)) (k : zG x L (pc + 3) loc st S) : zG x L pc loc (zn :: st) S := by
  obtain ⟨p, l, e, R, s, m, args, below, meth, c, Q, D, ad, T⟩ := x
  obtain ⟨hx, hb, hml, hown, hts, hK, hN, hinj, hlk, hret, hfr, hlc, hQ⟩ := h
  intro H locs ls hP hS hL
  exact lv_ifnonnullN hx hb hd (k H locs ls hP hS hL)
theorem z_acmp_ne (h : zOK x L cc own nL ret fr lc Post) {a b : Nat} {off : Int} {tgt : Nat} (hd : decode cc pc = .ok (.if_acmp .ne off, 3)) (ht : (pc : Int) + off = (tgt : Int)) (ha : a < L.length) (hbb : b < L.length) (kt : ¬ a = b → zG x L tgt loc st S) (kf : a = b → zG x L (pc + 3) loc st S) : zG x L pc loc (zr b :: zr a :: st) S := by
  obtain ⟨p, l, e, R, s, m, args, below, meth, c, Q, D, ad, T⟩ := x
  obtain ⟨hx, hb, hml, hown, hts, hK, hN, hinj, hlk, hret, hfr, hlc, hQ⟩ := h
  intro H locs ls hP hS hL
  exact lv_acmp_ne (rx := some (ad a)) (ry := some (ad b)) hx hb hd ht (fun q => kt (fun z => q (by rw [z])) H locs ls hP hS hL) (fun q => kf (hinj a b ha hbb (Option.some.inj q)) H locs ls hP hS hL)
theorem z_tab_in (h : zOK x L cc own nL ret fr lc Post) {a : Int} {dflt lo hi : Int} {offs : Array Int} {len : Nat} {off : Int} {tgt : Nat} (hd : decode cc pc = .ok (.tableswitch dflt lo hi offs, len)) (ha : r32 a) (h1 : ¬ a < lo) (h2 : ¬ hi < a) (ho : offs[(a - lo).toNat]? = some off) (ht : (pc : Int) + off = (tgt : Int)) (k : zG x L tgt loc st S) : zG x L pc loc (zi a :: st) S := by
  obtain ⟨p, l, e, R, s, m, args, below, meth, c, Q, D, ad, T⟩ := x
  obtain ⟨hx, hb, hml, hown, hts, hK, hN, hinj, hlk, hret, hfr, hlc, hQ⟩ := h
  intro H locs ls hP hS hL
  exact lv_tableIn hx hb hd (by rw [i32_t ha]; exact h1) (by rw [i32_t ha]; exact h2) (by rw [i32_t ha]; exact ho) ht (k H locs ls hP hS hL)
theorem z_tab_out (h : zOK x L cc own nL ret fr lc Post) {a : Int} {dflt lo hi : Int} {offs : Array Int} {len : Nat} {tgt : Nat} (hd : decode cc pc = .ok (.tableswitch dflt lo hi offs, len)) (ha : r32 a) (h1 : a < lo ∨ hi < a) (ht : (pc : Int) + dflt = (tgt : Int)) (k : zG x L tgt loc st S) : zG x L pc loc (zi a :: st) S := by
  obtain ⟨p, l, e, R, s, m, args, below, meth, c, Q, D, ad, T⟩ := x
  obtain ⟨hx, hb, hml, hown, hts, hK, hN, hinj, hlk, hret, hfr, hlc, hQ⟩ := h
  intro H locs ls hP hS hL
  exact lv_tableOut hx hb hd (by rw [i32_t ha]; exact h1) ht (k H locs ls hP hS hL)
end

/-! dots, sheets, tries: what they answer, how the class's cells hold them -/
theorem cRel_look {X X' A A' : SS} {k l : Nat} (h : cRel X A) (hk : (k = 9 ∧ l = 0) ∨ (k = 12 ∧ l = 1)) (hX : ∀ a b, a ≠ k → a ≠ k + 1 → a ≠ k + 2 → X' a b = X a b) (hm : MI A') (hA : ∀ a, a ≠ 6 → a ≠ 7 → a ≠ 8 → A' a = A a) (h6 : ∀ j, j ≠ l → A' 6 j = A 6 j) (h7 : ∀ j, (j < 6 * l ∨ 6 * l + 6 ≤ j) → A' 7 j = A 7 j ∧ A' 8 j = A 8 j) (hn : relL X' A' k l) : cRel X' A' := by
  have hr : ∀ a, a ≠ k → a ≠ k + 1 → a ≠ k + 2 → X' a = X a := fun a a1 a2 a3 => funext fun b => hX a b a1 a2 a3
  have r0 := hA 0 (by omega) (by omega) (by omega)
  have r1 := hA 1 (by omega) (by omega) (by omega)
  have r2 := hA 2 (by omega) (by omega) (by omega)
  have r5 := hA 5 (by omega) (by omega) (by omega)
  have rr : ∀ a, 11 ≤ a → A' a = A a := fun a ha => hA a (by omega) (by omega) (by omega)
  obtain ⟨m, ⟨s0, s1⟩, ⟨f0, f1, f2⟩, ⟨l0, l1⟩, hh, t⟩ := h
  refine ⟨hm, ⟨relS_keep s0 (hr _ (by omega) (by omega) (by omega)) (hr _ (by omega) (by omega) (by omega)) (hr _ (by omega) (by omega) (by omega)) (fun j hj => by rw [r1]) (by rw [r2]), relS_keep s1 (hr _ (by omega) (by omega) (by omega)) (hr _ (by omega) (by omega) (by omega)) (hr _ (by omega) (by omega) (by omega)) (fun j hj => by rw [r1]) (by rw [r2])⟩, ?_, ⟨?_, ?_⟩, fun z hz => relH_keep (hh z hz) (hr _ (by omega) (by omega) (by omega)) (hr _ (by omega) (by omega) (by omega)) (by rw [rr 14 (by omega)]) (by rw [rr 15 (by omega)]) (by rw [rr 16 (by omega)]) (fun j hj => by rw [rr 17 (by omega)]), relT_keep t (by rw [hr 37 (by omega) (by omega) (by omega)]) (hr _ (by omega) (by omega) (by omega)) (hr _ (by omega) (by omega) (by omega)) (hr _ (by omega) (by omega) (by omega)) (by rw [r0]) (rr _ (by omega)) (rr _ (by omega)) (rr _ (by omega))⟩
  · rw [hr 0 (by omega) (by omega) (by omega), r5, r0]
    exact ⟨f0, f1, f2⟩
  · rcases hk with ⟨rfl, rfl⟩ | ⟨rfl, rfl⟩
    · exact hn
    · exact relL_keep l0 (hr _ (by omega) (by omega) (by omega)) (hr _ (by omega) (by omega) (by omega)) (hr _ (by omega) (by omega) (by omega)) (h6 _ (by omega)) (fun j hj => h7 _ (by omega))
  · rcases hk with ⟨rfl, rfl⟩ | ⟨rfl, rfl⟩
    · exact relL_keep l1 (hr _ (by omega) (by omega) (by omega)) (hr _ (by omega) (by omega) (by omega)) (hr _ (by omega) (by omega) (by omega)) (h6 _ (by omega)) (fun j hj => h7 _ (by omega))
    · exact hn
theorem cRel_sheet {X X' A A' : SS} {k s : Nat} (h : cRel X A) (hk : k = 16 + 2 * s ∧ s < 4) (hX : ∀ a b, a ≠ k → a ≠ k + 1 → X' a b = X a b) (hm : MI A') (hA : ∀ a, a < 14 → A' a = A a) (h6 : ∀ j, j ≠ s → A' 14 j = A 14 j ∧ A' 15 j = A 15 j ∧ A' 16 j = A 16 j) (h7 : ∀ j, (j < 60 * s ∨ 60 * s + 60 ≤ j) → A' 17 j = A 17 j) (hn : relH X' A' k s) : cRel X' A' := by
  have hr : ∀ a, a ≠ k → a ≠ k + 1 → X' a = X a := fun a a1 a2 => funext fun b => hX a b a1 a2
  have r0 := hA 0 (by omega)
  have r1 := hA 1 (by omega)
  have r2 := hA 2 (by omega)
  have r5 := hA 5 (by omega)
  obtain ⟨m, ⟨s0, s1⟩, ⟨f0, f1, f2⟩, ⟨l0, l1⟩, hh, t⟩ := h
  refine ⟨hm, ⟨relS_keep s0 (hr _ (by omega) (by omega)) (hr _ (by omega) (by omega)) (hr _ (by omega) (by omega)) (fun j hj => by rw [r1]) (by rw [r2]), relS_keep s1 (hr _ (by omega) (by omega)) (hr _ (by omega) (by omega)) (hr _ (by omega) (by omega)) (fun j hj => by rw [r1]) (by rw [r2])⟩, ?_, ⟨relL_keep l0 (hr _ (by omega) (by omega)) (hr _ (by omega) (by omega)) (hr _ (by omega) (by omega)) (by rw [hA 6 (by omega)]) (fun j hj => by rw [hA 7 (by omega), hA 8 (by omega)]; exact ⟨rfl, rfl⟩), relL_keep l1 (hr _ (by omega) (by omega)) (hr _ (by omega) (by omega)) (hr _ (by omega) (by omega)) (by rw [hA 6 (by omega)]) (fun j hj => by rw [hA 7 (by omega), hA 8 (by omega)]; exact ⟨rfl, rfl⟩)⟩, fun z hz => ?_, relT_keep t (by rw [hr 37 (by omega) (by omega)]) (hr _ (by omega) (by omega)) (hr _ (by omega) (by omega)) (hr _ (by omega) (by omega)) (by rw [r0]) (hA _ (by omega)) (hA _ (by omega)) (hA _ (by omega))⟩
  · rw [hr 0 (by omega) (by omega), r5, r0]
    exact ⟨f0, f1, f2⟩
  · by_cases hzs : z = s
    · rw [hzs, ← hk.1]
      exact hn
    · have h9 := h6 z hzs
      exact relH_keep (hh z hz) (hr _ (by omega) (by omega)) (hr _ (by omega) (by omega)) h9.1 h9.2.1 h9.2.2 (fun j hj => h7 _ (by omega))
theorem cRel_tries {X X' A A' : SS} (h : cRel X A) (hX : ∀ a b, ¬ (37 ≤ a ∧ a ≤ 40) → X' a b = X a b) (hm : MI A') (hA : ∀ a, a ≠ 0 → a ≠ 11 → a ≠ 12 → a ≠ 13 → A' a = A a) (h0 : A' 0 23 = A 0 23) (hn : relT X' A') : cRel X' A' := by
  have hr : ∀ a, ¬ (37 ≤ a ∧ a ≤ 40) → X' a = X a := fun a a1 => funext fun b => hX a b a1
  have rr : ∀ a, a ≠ 0 → ¬ (11 ≤ a ∧ a ≤ 13) → A' a = A a := fun a h1 h2 => hA a h1 (by omega) (by omega) (by omega)
  obtain ⟨m, ⟨s0, s1⟩, ⟨f0, f1, f2⟩, ⟨l0, l1⟩, hh, t⟩ := h
  refine ⟨hm, ⟨relS_keep s0 (hr _ (by omega)) (hr _ (by omega)) (hr _ (by omega)) (fun j hj => by rw [rr 1 (by omega) (by omega)]) (by rw [rr 2 (by omega) (by omega)]), relS_keep s1 (hr _ (by omega)) (hr _ (by omega)) (hr _ (by omega)) (fun j hj => by rw [rr 1 (by omega) (by omega)]) (by rw [rr 2 (by omega) (by omega)])⟩, ?_, ⟨relL_keep l0 (hr _ (by omega)) (hr _ (by omega)) (hr _ (by omega)) (by rw [rr 6 (by omega) (by omega)]) (fun j hj => by rw [rr 7 (by omega) (by omega), rr 8 (by omega) (by omega)]; exact ⟨rfl, rfl⟩), relL_keep l1 (hr _ (by omega)) (hr _ (by omega)) (hr _ (by omega)) (by rw [rr 6 (by omega) (by omega)]) (fun j hj => by rw [rr 7 (by omega) (by omega), rr 8 (by omega) (by omega)]; exact ⟨rfl, rfl⟩)⟩, fun z hz => relH_keep (hh z hz) (hr _ (by omega)) (hr _ (by omega)) (by rw [rr 14 (by omega) (by omega)]) (by rw [rr 15 (by omega) (by omega)]) (by rw [rr 16 (by omega) (by omega)]) (fun j hj => by rw [rr 17 (by omega) (by omega)]), hn⟩
  rw [hr 0 (by omega), rr 5 (by omega) (by omega), h0]
  exact ⟨f0, f1, f2⟩
abbrev isH (a : Int) : Prop := 0 ≤ a ∧ a ≤ 3
abbrev okD (b c : Int) : Prop := (0 ≤ b ∧ b ≤ 59) ∧ (0 ≤ c ∧ c ≤ 3)
def dA (A : SS) (l : Int) : Int := A 6 l.toNat
def sp_dot (A : SS) (a b c : Int) : Int := if isS a ∧ okD b c then (if dA A a = 6 then -4 else dA A a) else -2
def st_dot (A : SS) (a b c : Int) : SS := if isS a ∧ okD b c then (if dA A a = 6 then A else up2 (up2 (up2 A 7 (6 * a + dA A a).toNat b) 8 (6 * a + dA A a).toNat c) 6 a.toNat (dA A a + 1)) else A
theorem dA_b {A : SS} (hm : MI A) {a : Int} (ha : isS a) : 0 ≤ dA A a ∧ dA A a ≤ 6 := mi_d hm (by omega)
theorem st_dot_MI {A : SS} (hm : MI A) (a b c : Int) : MI (st_dot A a b c) := by
  unfold st_dot
  split
  · next h =>
    have := dA_b hm h.1
    split
    · exact hm
    · exact ((hm.u_dp h.2.1).u_df h.2.2).u_d (by omega)
  · exact hm
theorem st_dot_k {A : SS} (a b c : Int) {k j : Nat} (h : k ≠ 6 ∧ k ≠ 7 ∧ k ≠ 8) : st_dot A a b c k j = A k j := by
  unfold st_dot
  split
  · split
    · rfl
    · rw [up2_k _ _ h.1, up2_k _ _ h.2.2, up2_k _ _ h.2.1]
  · rfl
def sp_blink (A : SS) (a : Int) : Int := if isS a then dA A a else -2
def st_blink (A : SS) (a : Int) : SS := if isS a then up2 A 6 a.toNat 0 else A
def rdR (s l : Int) : Nat → Int → SS → Int × SS
  | 0, n, A => (n, A)
  | r + 1, n, A => if 0 ≤ sp_dot A l (A 17 (60 * s + n).toNat) 0 then rdR s l r (n + 1) (st_dot A l (A 17 (60 * s + n).toNat) 0) else (n, A)
theorem rd_0 {s l n : Int} {A : SS} {r : Nat} (h : r = 0) : rdR s l r n A = (n, A) := by subst h; rfl
theorem rd_s {s l n : Int} {A : SS} {r r' : Nat} (h : r = r' + 1) : rdR s l r n A = if 0 ≤ sp_dot A l (A 17 (60 * s + n).toNat) 0 then rdR s l r' (n + 1) (st_dot A l (A 17 (60 * s + n).toNat) 0) else (n, A) := by subst h; rfl
def rdF (A : SS) (s l : Int) : Int × SS := rdR s l (A 16 s.toNat).toNat 0 A
def sp_read (A : SS) (s l : Int) : Int := if isH s ∧ isS l then (if A 14 s.toNat = 0 then -11 else (rdF A s l).1) else -2
def st_read (A : SS) (s l : Int) : SS := if isH s ∧ isS l then (if A 14 s.toNat = 0 then up2 A 0 23 1 else (rdF A s l).2) else A
/-! sheets -/
def renewS (A : SS) (s : Nat) (f n : Int) : SS := fun k j => if k = 14 ∧ j = s then 1 else if k = 15 ∧ j = s then f else if k = 16 ∧ j = s then n else if k = 17 ∧ (60 * s ≤ j ∧ j < 60 * s + 60) then 0 else A k j
def sp_sheet (s f n : Int) : Int := if isH s ∧ (0 ≤ f ∧ f ≤ 2) ∧ n ≤ 60 then (if n < 0 then -15 else n) else -2
def st_sheet (A : SS) (s f n : Int) : SS := if isH s ∧ (0 ≤ f ∧ f ≤ 2) ∧ n ≤ 60 then (if n < 0 then up2 A 0 23 5 else renewS A s.toNat f n) else A
def sp_lose (A : SS) (s : Int) : Int := if isH s then (if A 14 s.toNat = 0 then -11 else A 16 s.toNat) else -2
def st_lose (A : SS) (s : Int) : SS := if isH s then (if A 14 s.toNat = 0 then up2 A 0 23 1 else up2 A 14 s.toNat 0) else A
def lackF (t fm sz f i : Int) : Int := if t = 0 then 1 else if fm ≠ f then 3 else if 0 ≤ i ∧ i < sz then 0 else 2
def lackA (A : SS) (s f i : Int) : Int := lackF (A 14 s.toNat) (A 15 s.toNat) (A 16 s.toNat) f i
theorem lackF_b (t fm sz f i : Int) : 0 ≤ lackF t fm sz f i ∧ lackF t fm sz f i ≤ 3 ∧ (lackF t fm sz f i = 0 → t ≠ 0 ∧ fm = f ∧ 0 ≤ i ∧ i < sz) := by
  unfold lackF
  split
  · omega
  · split
    · omega
    · split <;> omega
def keepV (f v : Int) : Int := if f = 0 then v.bmod 256 else if f = 1 then v.bmod 65536 else v
theorem keepV_b (f : Int) {v : Int} (hv : r32 v) : r32 (keepV f v) := by
  unfold keepV
  split
  · have := Int.le_bmod (x := v) (m := 256) (by decide)
    have := Int.bmod_lt (x := v) (m := 256) (by decide)
    exact ⟨by omega, by omega⟩
  · split
    · have := Int.le_bmod (x := v) (m := 65536) (by decide)
      have := Int.bmod_lt (x := v) (m := 65536) (by decide)
      exact ⟨by omega, by omega⟩
    · exact hv
def sp_put (A : SS) (s f i v : Int) : Int := if isH s ∧ (0 ≤ f ∧ f ≤ 2) then (if lackA A s f i = 0 then 1 else -10 - lackA A s f i) else -2
def keepS (A : SS) (s i v : Int) : SS := up2 A 17 (60 * s + i).toNat (keepV (A 15 s.toNat) v)
def st_put (A : SS) (s f i v : Int) : SS := if isH s ∧ (0 ≤ f ∧ f ≤ 2) then (if lackA A s f i = 0 then keepS A s i v else up2 A 0 23 (lackA A s f i)) else A
def sp_get (A : SS) (s f i : Int) : Int := if isH s ∧ (0 ≤ f ∧ f ≤ 2) then (if lackA A s f i = 0 then A 17 (60 * s + i).toNat else -2147483648) else -2147483648
def st_get (A : SS) (s f i : Int) : SS := if isH s ∧ (0 ≤ f ∧ f ≤ 2) then (if lackA A s f i = 0 then A else up2 A 0 23 (lackA A s f i)) else A
def cpF (A : SS) (s i t j n : Int) : Int := if A 14 s.toNat = 0 ∨ A 14 t.toNat = 0 then 1 else if A 15 s.toNat ≠ A 15 t.toNat then 4 else if 0 ≤ i ∧ 0 ≤ j ∧ 0 ≤ n ∧ i + n ≤ A 16 s.toNat ∧ j + n ≤ A 16 t.toNat then 0 else 2
def copyS (A : SS) (s i t j n : Int) : SS := fun k z => if k = 17 ∧ (60 * t + j ≤ (z : Int) ∧ (z : Int) < 60 * t + j + n) then A 17 (60 * s + i + ((z : Int) - (60 * t + j))).toNat else A k z
def sp_copy (A : SS) (s i t j n : Int) : Int := if isH s ∧ isH t then (if cpF A s i t j n = 0 then 1 else -10 - cpF A s i t j n) else -2
def st_copy (A : SS) (s i t j n : Int) : SS := if isH s ∧ isH t then (if cpF A s i t j n = 0 then copyS A s i t j n else up2 A 0 23 (cpF A s i t j n)) else A
def wrR (s m l : Int) : Nat → Int → SS → SS
  | 0, _, A => A
  | r + 1, n, A => wrR s m l r (n + 1) (keepS A s n (n * nearF m l % m))
theorem wr_0 {s m l n : Int} {A : SS} {r : Nat} (h : r = 0) : wrR s m l r n A = A := by subst h; rfl
theorem wr_s {s m l n : Int} {A : SS} {r r' : Nat} (h : r = r' + 1) : wrR s m l r n A = wrR s m l r' (n + 1) (keepS A s n (n * nearF m l % m)) := by subst h; rfl
def wrF (A : SS) (s m l : Int) : SS := wrR s m l (A 16 s.toNat).toNat 0 A
def sp_write (A : SS) (a l s : Int) : Int := if isS a ∧ (1 ≤ l ∧ l ≤ 24) ∧ isH s then (if A 14 s.toNat = 0 then -11 else if mA A a = 0 then -3 else A 16 s.toNat) else -2
def st_write (A : SS) (a l s : Int) : SS := if isS a ∧ (1 ≤ l ∧ l ≤ 24) ∧ isH s then (if A 14 s.toNat = 0 then up2 A 0 23 1 else if mA A a = 0 then A else wrF A s (mA A a) l) else A
theorem keepS_k {A : SS} {s i v : Int} {k j : Nat} (h : k ≠ 17) : keepS A s i v k j = A k j := up2_k _ _ h
theorem keepS_MI {A : SS} (hm : MI A) (s i : Int) {v : Int} (hv : r32 v) : MI (keepS A s i v) := hm.u_hi (keepV_b _ hv)
theorem renewS_MI {A : SS} (hm : MI A) {s : Nat} {f n : Int} (hf : 0 ≤ f ∧ f ≤ 2) (hn : 0 ≤ n ∧ n ≤ 60) : MI (renewS A s f n) := by
  have h1 : ∀ k j, k < 14 → renewS A s f n k j = A k j := fun k j hk => by
    unfold renewS
    rw [if_neg (by omega), if_neg (by omega), if_neg (by omega), if_neg (by omega)]
  have e : ∀ k, k < 14 → renewS A s f n k = A k := fun k hk => funext fun j => h1 k j hk
  unfold MI
  rw [e 0 (by omega), e 1 (by omega), e 2 (by omega), e 5 (by omega), e 6 (by omega), e 7 (by omega), e 8 (by omega), e 11 (by omega), e 12 (by omega), e 13 (by omega)]
  refine ⟨hm.1, hm.2.1, hm.2.2.1, hm.2.2.2.1, ⟨fun j => ?_, fun j => ?_, fun j => ?_, fun j => ?_⟩, hm.2.2.2.2.2⟩
  · have := mi_h hm j
    unfold renewS
    split
    · omega
    · rw [if_neg (by omega), if_neg (by omega), if_neg (by omega)]; omega
  · have := mi_hf hm j
    unfold renewS
    rw [if_neg (by omega)]
    split
    · omega
    · rw [if_neg (by omega), if_neg (by omega)]; omega
  · have := mi_hn hm j
    unfold renewS
    rw [if_neg (by omega), if_neg (by omega)]
    split
    · omega
    · rw [if_neg (by omega)]; omega
  · have := mi_hi hm j
    unfold renewS
    rw [if_neg (by omega), if_neg (by omega), if_neg (by omega)]
    split
    · exact ⟨by decide, by decide⟩
    · exact this
theorem copyS_MI {A : SS} (hm : MI A) (s i t j n : Int) : MI (copyS A s i t j n) := by
  have e : ∀ k, k ≠ 17 → copyS A s i t j n k = A k := fun k hk => funext fun z => if_neg (fun q => hk q.1)
  unfold MI
  rw [e 0 (by omega), e 1 (by omega), e 2 (by omega), e 5 (by omega), e 6 (by omega), e 7 (by omega), e 8 (by omega), e 11 (by omega), e 12 (by omega), e 13 (by omega), e 14 (by omega), e 15 (by omega), e 16 (by omega)]
  refine ⟨hm.1, hm.2.1, hm.2.2.1, hm.2.2.2.1, ⟨hm.2.2.2.2.1.1, hm.2.2.2.2.1.2.1, hm.2.2.2.2.1.2.2.1, fun z => ?_⟩, hm.2.2.2.2.2⟩
  unfold copyS
  split
  · exact mi_hi hm _
  · exact mi_hi hm _
/-! tries -/
def trsB (A : SS) (a b : Int) (k : Nat) : Int := if (if a + b * A 12 k ≤ A 11 k then (1 : Int) else 0) = A 13 k then 0 else 1
def wrgR (A : SS) (a b : Int) : Nat → Int
  | 0 => 0
  | n + 1 => wrgR A a b n + trsB A a b n
theorem wrg_s (A : SS) (a b : Int) {k : Int} (hk : 0 ≤ k) : wrgR A a b (k + 1).toNat = wrgR A a b k.toNat + trsB A a b k.toNat := by
  rw [show (k + 1).toNat = k.toNat + 1 by omega]
  rfl
theorem wrg_b (A : SS) (a b : Int) : ∀ n : Nat, 0 ≤ wrgR A a b n ∧ wrgR A a b n ≤ n
  | 0 => ⟨Int.le_refl _, Int.le_refl _⟩
  | n + 1 => by
    have := wrg_b A a b n
    unfold wrgR trsB
    split <;> omega
def wrgF (A : SS) (a b : Int) : Int := wrgR A a b (A 0 14).toNat
def sp_tries (A : SS) (p b o : Int) : Int := if (1 ≤ p ∧ p ≤ 60) ∧ (0 ≤ b ∧ b ≤ 9) ∧ (0 ≤ o ∧ o ≤ 1) then (if A 0 14 = 40 then -4 else A 0 14 + 1) else -2
def st_tries (A : SS) (p b o : Int) : SS := if (1 ≤ p ∧ p ≤ 60) ∧ (0 ≤ b ∧ b ≤ 9) ∧ (0 ≤ o ∧ o ≤ 1) then (if A 0 14 = 40 then A else up2 (up2 (up2 (up2 A 11 (A 0 14).toNat p) 12 (A 0 14).toNat b) 13 (A 0 14).toNat o) 0 14 (A 0 14 + 1)) else A
def sp_wrong (A : SS) (a b : Int) : Int := if (0 ≤ a ∧ a ≤ 60) ∧ (0 ≤ b ∧ b ≤ 9) then wrgF A a b else -2
/-- laws (10 a and b) from t on: the first with the fewest -/
def lnR (A : SS) : Nat → Nat → Int × Int → Int × Int
  | 0, _, q => q
  | r + 1, t, q => lnR A r (t + 1) (if wrgF A ((t : Int) / 10) ((t : Int) % 10) < q.2 then ((t : Int), wrgF A ((t : Int) / 10) ((t : Int) % 10)) else q)
theorem ln_0 {A : SS} {r t : Nat} {q : Int × Int} (h : r = 0) : lnR A r t q = q := by subst h; rfl
theorem ln_s {A : SS} {r r' t : Nat} {z : Int} {q : Int × Int} (h : r = r' + 1) (hz : (t : Int) = z) : lnR A r t q = lnR A r' (z + 1).toNat (if wrgF A (z / 10) (z % 10) < q.2 then (z, wrgF A (z / 10) (z % 10)) else q) := by
  subst h
  subst hz
  rw [show ((t : Int) + 1).toNat = t + 1 by omega]
  rfl
def lnF (A : SS) : Int × Int := lnR A 610 0 (0, 41)
theorem lnR_b {A : SS} : ∀ (r t : Nat) (q : Int × Int), t + r = 610 → (0 ≤ q.1 ∧ q.1 ≤ 609) → (0 ≤ (lnR A r t q).1 ∧ (lnR A r t q).1 ≤ 609)
  | 0, _, q, _, h => h
  | r + 1, t, q, ht, h => by
    rw [ln_s (r' := r) (z := (t : Int)) rfl rfl, show ((t : Int) + 1).toNat = t + 1 by omega]
    apply lnR_b r (t + 1)
    · omega
    · split
      · exact ⟨by omega, by omega⟩
      · exact h
def lineF (A : SS) (w : Int) : Int := if A 0 14 = 0 then -3 else if w = 0 then (lnF A).1 / 10 else if w = 1 then (lnF A).1 % 10 else (lnF A).2
def sp_line (A : SS) (w : Int) : Int := if 0 ≤ w ∧ w ≤ 2 then lineF A w else -2
theorem wrgF_c {A A' : SS} (h : ∀ k j, (k = 0 ∧ j = 14) ∨ (11 ≤ k ∧ k ≤ 13) → A' k j = A k j) (a b : Int) : wrgF A' a b = wrgF A a b := by
  have h1 : ∀ n : Nat, wrgR A' a b n = wrgR A a b n := fun n => by
    induction n with
    | zero => rfl
    | succ n ih => unfold wrgR trsB; rw [ih, h 12 n (by omega), h 11 n (by omega), h 13 n (by omega)]
  unfold wrgF
  rw [h 0 14 (by omega), h1]

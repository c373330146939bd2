/-! numbers: fractions, drums, wheels -/
theorem near_b (a : Int) {b : Int} (hb : 1 ≤ b) : 2 * (a - nearF a b * b) ≤ b ∧ -b < 2 * (a - nearF a b * b) := by
  unfold nearF
  have h1 := Int.ediv_mul_le (2 * a + b - 1) (show 2 * b ≠ 0 by omega)
  have h2 := Int.lt_ediv_add_one_mul_self (2 * a + b - 1) (show 0 < 2 * b by omega)
  generalize (2 * a + b - 1) / (2 * b) = q at h1 h2 ⊢
  rw [Int.add_mul, Int.one_mul] at h2
  rw [Int.mul_left_comm] at h1 h2
  omega
theorem near_0 {a b : Int} (ha : 0 ≤ a) (hb : 1 ≤ b) : 0 ≤ nearF a b ∧ nearF a b ≤ a := by
  unfold nearF
  refine ⟨Int.ediv_nonneg (by omega) (by omega), ?_⟩
  have h1 : a * 1 ≤ a * b := Int.mul_le_mul_of_nonneg_left hb ha
  have h2 : (2 * a + b - 1) / (2 * b) < a + 1 := Int.ediv_lt_of_lt_mul (by omega) (by rw [Int.add_mul, Int.one_mul, Int.mul_left_comm]; omega)
  omega
def gcdI (a b : Int) : Int := ((Nat.gcd a.toNat b.toNat : Nat) : Int)
theorem gcdI_b {a b : Int} (hb : 1 ≤ b) : 1 ≤ gcdI a b ∧ gcdI a b ≤ b := by
  unfold gcdI
  have h1 : 0 < Nat.gcd a.toNat b.toNat := Nat.gcd_pos_of_pos_right _ (by omega)
  have h2 : Nat.gcd a.toNat b.toNat ≤ b.toNat := Nat.gcd_le_right _ (by omega)
  omega
theorem gcdI_b1 {a b : Int} (ha : 1 ≤ a) : 1 ≤ gcdI a b ∧ gcdI a b ≤ a := by
  unfold gcdI
  have h1 : 0 < Nat.gcd a.toNat b.toNat := Nat.gcd_pos_of_pos_left _ (by omega)
  have h2 : Nat.gcd a.toNat b.toNat ≤ a.toNat := Nat.gcd_le_left _ (by omega)
  omega
theorem gcdI_z {a : Int} (ha : 0 ≤ a) : gcdI a 0 = a := by
  unfold gcdI
  rw [show (0 : Int).toNat = 0 from rfl, Nat.gcd_zero_right]
  omega
theorem gcdI_s {a b : Int} (ha : 0 ≤ a) (hb : 0 < b) : gcdI b (a % b) = gcdI a b := by
  unfold gcdI
  obtain ⟨n, rfl⟩ := Int.eq_ofNat_of_zero_le ha
  obtain ⟨k, rfl⟩ := Int.eq_ofNat_of_zero_le (Int.le_of_lt hb)
  rw [← Int.natCast_emod, Int.toNat_natCast, Int.toNat_natCast, Int.toNat_natCast, Nat.gcd_comm n k, Nat.gcd_rec k n, Nat.gcd_comm]
def gR : Nat → Nat → Nat → Nat
  | 0, l, _ => l
  | n + 1, l, s => if s = 0 then l else gR n s (l % s)
theorem gR_eq : ∀ (n l s : Nat), s < l → l * s < 2 ^ n → gR n l s = Nat.gcd l s
  | 0, l, s, h, h2 => by
    have hs : s = 0 := by
      rcases Nat.eq_zero_or_pos s with h0 | h0
      · exact h0
      · have : 1 * 1 ≤ l * s := Nat.mul_le_mul (by omega) h0
        omega
    subst hs
    rw [gR, Nat.gcd_zero_right]
  | n + 1, l, s, h, h2 => by
    rw [gR]
    split
    · next h0 => rw [h0, Nat.gcd_zero_right]
    · next h0 =>
      have hm : l % s < s := Nat.mod_lt _ (by omega)
      have hl : 2 * (l % s) ≤ l := by
        have h3 := Nat.div_add_mod l s
        have h4 : 1 ≤ l / s := (Nat.one_le_div_iff (by omega)).mpr (by omega)
        have h5 : s * 1 ≤ s * (l / s) := Nat.mul_le_mul_left _ h4
        omega
      have h6 : s * (2 * (l % s)) ≤ s * l := Nat.mul_le_mul_left _ hl
      rw [gR_eq n s (l % s) hm (by rw [Nat.pow_succ] at h2; rw [Nat.mul_left_comm, Nat.mul_comm s l] at h6; omega), Nat.gcd_comm l s, Nat.gcd_rec s l, Nat.gcd_comm]
theorem gR_64 {a b : Nat} (hb : b ≤ 2147483647) : gR 64 a b = Nat.gcd a b := by
  rw [gR]
  split
  · next h0 => rw [h0, Nat.gcd_zero_right]
  · next h0 =>
    have hm : a % b < b := Nat.mod_lt _ (by omega)
    rw [gR_eq 63 b (a % b) hm, Nat.gcd_comm a b, Nat.gcd_rec b a, Nat.gcd_comm]
    have : b * (a % b) ≤ 2147483647 * 2147483647 := Nat.mul_le_mul hb (by omega)
    omega
def toldF (a b w : Int) : Int := if w = 0 then a.tdiv (gcdI (absI a) b) else b.tdiv (gcdI (absI a) b)
def scanR (P : Nat → Bool) (V : Nat → Int) (i : Int) : Nat → Nat → Int → Int
  | 0, _, f => if i = -1 then f else -1
  | r + 1, t, f => if P t = true then (if f = i then V t else scanR P V i r (t + 1) (f + 1)) else scanR P V i r (t + 1) f
theorem scan_0 {P : Nat → Bool} {V : Nat → Int} {i : Int} {r t : Nat} {f : Int} (h : r = 0) : scanR P V i r t f = if i = -1 then f else -1 := by subst h; rfl
theorem scan_s {P : Nat → Bool} {V : Nat → Int} {i : Int} {r r' t t' : Nat} {f : Int} (h : r = r' + 1) (ht : t' = t + 1) : scanR P V i r t f = if P t = true then (if f = i then V t else scanR P V i r' t' (f + 1)) else scanR P V i r' t' f := by subst h; subst ht; rfl
def seemF (s p : Int) : Int := if 0 < p - nearF p s * s then 2 else if p - nearF p s * s < 0 then 3 else if nearF p s % p = 0 then 0 else 1
theorem seemF_b (s p : Int) : 0 ≤ seemF s p ∧ seemF s p ≤ 3 := by unfold seemF; (repeat' split) <;> omega
def pairP (a e : Int) (t : Nat) : Bool := decide (nearF ((t : Int) % 24 + 1) ((t : Int) / 24 + 1) = a ∧ seemF ((t : Int) / 24 + 1) ((t : Int) % 24 + 1) = e)
def pairV (t : Nat) : Int := 100 * ((t : Int) / 24 + 1) + ((t : Int) % 24 + 1)
def pairsF (a e i : Int) : Int := scanR (pairP a e) pairV i 576 0 0
theorem pairP_at {a e s p : Int} (hs : 1 ≤ s ∧ s ≤ 24) (hp : 1 ≤ p ∧ p ≤ 24) : pairP a e (24 * (s - 1) + (p - 1)).toNat = decide (nearF p s = a ∧ seemF s p = e) := by
  unfold pairP
  have h1 : (((24 * (s - 1) + (p - 1)).toNat : Nat) : Int) = 24 * (s - 1) + (p - 1) := by omega
  rw [h1, show (24 * (s - 1) + (p - 1)) % 24 + 1 = p by omega, show (24 * (s - 1) + (p - 1)) / 24 + 1 = s by omega]
theorem pairV_at {s p : Int} (hs : 1 ≤ s ∧ s ≤ 24) (hp : 1 ≤ p ∧ p ≤ 24) : pairV (24 * (s - 1) + (p - 1)).toNat = 100 * s + p := by
  unfold pairV
  omega
def seemW (s t f : Int) : Int := s * t - nearF (s * t) (60 * f) * (60 * f)
theorem seemW_b (s t : Int) {f : Int} (hf : 1 ≤ f) : 2 * seemW s t f ≤ 60 * f ∧ -(60 * f) < 2 * seemW s t f := near_b (s * t) (show 1 ≤ 60 * f by omega)
theorem seem_iff (s t o : Int) {f : Int} (hf : 1 ≤ f) : seemW s t f = seemW s o f ↔ 60 * f ∣ s * (o - t) := by
  have h1 := seemW_b s t hf
  have h2 := seemW_b s o hf
  unfold seemW at h1 h2 ⊢
  rw [Int.mul_sub]
  generalize s * t = u at h1 h2 ⊢
  generalize s * o = v at h1 h2 ⊢
  generalize nearF u (60 * f) = q at h1 h2 ⊢
  generalize nearF v (60 * f) = r at h1 h2 ⊢
  generalize hb : 60 * f = b at h1 h2 ⊢
  constructor
  · intro h
    exact ⟨r - q, by rw [Int.mul_sub, Int.mul_comm b r, Int.mul_comm b q]; omega⟩
  · rintro ⟨k, hk⟩
    have hz : (v - r * b) - (u - q * b) = b * (k - r + q) := by
      rw [Int.mul_add, Int.mul_sub, Int.mul_comm b r, Int.mul_comm b q]
      omega
    generalize k - r + q = m at hz
    have hm : m = 0 := by
      rcases Int.lt_trichotomy m 0 with h | h | h
      · have : b * m ≤ b * (-1) := Int.mul_le_mul_of_nonneg_left (by omega) (by omega)
        omega
      · exact h
      · have : b * 1 ≤ b * m := Int.mul_le_mul_of_nonneg_left (by omega) (by omega)
        omega
    rw [hm, Int.mul_zero] at hz
    omega
def fitB (s t f g : Int) (n : Nat) : Bool := decide (60 * f ∣ s * ((n : Int) - t)) && (decide (g = -1) || decide (60 * g ∣ s * ((n : Int) - t)))
theorem fitB_t {s t f g o : Int} {n : Nat} (hn : (n : Int) = o) : fitB s t f g n = true ↔ 60 * f ∣ s * (o - t) ∧ (g = -1 ∨ 60 * g ∣ s * (o - t)) := by
  subst hn
  simp [fitB]
def fitsF (s t f g i : Int) : Int := scanR (fitB s t f g) (fun n => (n : Int)) i 1000 0 0
def upToF (s t f g m : Int) : Int := scanR (fitB s t f g) (fun n => (n : Int)) (-1) (m + 1).toNat 0 0
/-! what the public calls answer -/
def sp_drum (s p w : Int) : Int := if (1 ≤ s ∧ s ≤ 24) ∧ (1 ≤ p ∧ p ≤ 24) ∧ (0 ≤ w ∧ w ≤ 1) then (if w = 0 then nearF p s else seemF s p) else -2
def sp_drift (s p w : Int) : Int := if (1 ≤ s ∧ s ≤ 24) ∧ (1 ≤ p ∧ p ≤ 24) ∧ (0 ≤ w ∧ w ≤ 1) then toldF (p - nearF p s * s) s w else -9223372036854775806
def sp_numbers (a e i : Int) : Int := if (0 ≤ a ∧ a ≤ 24) ∧ (0 ≤ e ∧ e ≤ 3) ∧ -1 ≤ i then pairsF a e i else -2
def sp_wheel (s t f w : Int) : Int := if ((1 ≤ s ∧ s ≤ 36) ∧ (0 ≤ t ∧ t ≤ 999) ∧ (1 ≤ f ∧ f ≤ 99)) ∧ (0 ≤ w ∧ w ≤ 1) then toldF (seemW s t f) (60 * f) w else -9223372036854775806
def sp_fits (s t f g i : Int) : Int := if ((1 ≤ s ∧ s ≤ 36) ∧ (0 ≤ t ∧ t ≤ 999) ∧ (1 ≤ f ∧ f ≤ 99)) ∧ (g = -1 ∨ 1 ≤ g ∧ g ≤ 99) ∧ -1 ≤ i then fitsF s t f g i else -2
def sp_upTo (s t f g m : Int) : Int := if ((1 ≤ s ∧ s ≤ 36) ∧ (0 ≤ t ∧ t ≤ 999) ∧ (1 ≤ f ∧ f ≤ 99)) ∧ (g = -1 ∨ 1 ≤ g ∧ g ≤ 99) ∧ (0 ≤ m ∧ m ≤ 999) then upToF s t f g m else -2
def sp_narrow (a b c w : Int) : Int := if (1 ≤ a ∧ a ≤ 99) ∧ (1 ≤ b ∧ b ≤ 99) ∧ (1 ≤ c ∧ c ≤ 99) ∧ (0 ≤ w ∧ w ≤ 1) then toldF (a * c) (b + c) w else -9223372036854775806
def wideR (v a b : Int) : Nat → Int → Int
  | 0, _ => -1
  | n + 1, w => if v * (a + b) ≤ w * b then w else wideR v a b n (w + 1)
theorem wide_0 {v a b w : Int} {r : Nat} (h : r = 0) : wideR v a b r w = -1 := by subst h; rfl
theorem wide_s {v a b w w' : Int} {r r' : Nat} (h : r = r' + 1) (hw : w' = w + 1) : wideR v a b r w = if v * (a + b) ≤ w * b then w else wideR v a b r' w' := by subst h; subst hw; rfl
def sp_wide (v a b : Int) : Int := if (0 ≤ v ∧ v ≤ 99) ∧ (1 ≤ a ∧ a ≤ 99) ∧ (1 ≤ b ∧ b ≤ 99) then wideR v a b 999 1 else -2
def worthF (l b w : Int) : Int := l * w - b * w * w
def slitR (l b : Int) : Nat → Int → Int → Int
  | 0, _, best => best
  | n + 1, w, best => slitR l b n (w + 1) (if worthF l b best < worthF l b w then w else best)
theorem slit_0 {l b w z : Int} {r : Nat} (h : r = 0) : slitR l b r w z = z := by subst h; rfl
theorem slit_s {l b w w' z : Int} {r r' : Nat} (h : r = r' + 1) (hw : w' = w + 1) : slitR l b r w z = slitR l b r' w' (if worthF l b z < worthF l b w then w else z) := by subst h; subst hw; rfl
def sp_slit (l b : Int) : Int := if (0 ≤ l ∧ l ≤ 99) ∧ (0 ≤ b ∧ b ≤ 99) then slitR l b 19 2 1 else -2
theorem mul_bd {a b A B : Int} (ha : 0 ≤ a ∧ a ≤ A) (hb : 0 ≤ b ∧ b ≤ B) : 0 ≤ a * b ∧ a * b ≤ A * B := ⟨Int.mul_nonneg ha.1 hb.1, Int.mul_le_mul ha.2 hb.2 hb.1 (by omega)⟩
theorem worth_b {l b w : Int} (hl : 0 ≤ l ∧ l ≤ 99) (hb : 0 ≤ b ∧ b ≤ 99) (hw : 0 ≤ w ∧ w ≤ 20) : -100000 ≤ worthF l b w ∧ worthF l b w ≤ 100000 := by
  unfold worthF
  have h1 := mul_bd hl hw
  have h2 := mul_bd hb hw
  have h3 := mul_bd (show 0 ≤ b * w ∧ b * w ≤ 1980 by omega) hw
  omega

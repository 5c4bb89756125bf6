/-! ===== products: numbers in threes ===== -/
def dgf (p k : Nat) : Nat := p / 3 ^ k % 3
/-- a product, its digits D, holds only where B does: letters from the top -/
def fD (D : Nat → Nat) (B : Nat → Bool) : Nat → Nat → Bool
  | 0, off => B off
  | n + 1, off => (D n == 1 || fD D B n off) && (D n == 0 || fD D B n (off + 2 ^ n))
theorem fD_congr {D D' : Nat → Nat} {B : Nat → Bool} : ∀ n off, (∀ k, k < n → D k = D' k) → fD D B n off = fD D' B n off
  | 0, _, _ => rfl
  | n + 1, off, h => by
    show ((D n == 1 || fD D B n off) && (D n == 0 || fD D B n (off + 2 ^ n))) = _
    rw [h n (by omega), fD_congr n off (fun k hk => h k (by omega)), fD_congr n (off + 2 ^ n) (fun k hk => h k (by omega))]
    rfl
/-- a letter left out: both products that tell it -/
theorem fD_two {D : Nat → Nat} {B : Nat → Bool} {k : Nat} (hk : D k = 2) : ∀ n off, k < n → fD D B n off = (fD (fun j => if j = k then 1 else D j) B n off && fD (fun j => if j = k then 0 else D j) B n off)
  | 0, off, h => absurd h (by omega)
  | n + 1, off, h => by
    show ((D n == 1 || fD D B n off) && (D n == 0 || fD D B n (off + 2 ^ n))) = ((((if n = k then 1 else D n) == 1 || fD (fun j => if j = k then 1 else D j) B n off) && ((if n = k then 1 else D n) == 0 || fD (fun j => if j = k then 1 else D j) B n (off + 2 ^ n))) && (((if n = k then 0 else D n) == 1 || fD (fun j => if j = k then 0 else D j) B n off) && ((if n = k then 0 else D n) == 0 || fD (fun j => if j = k then 0 else D j) B n (off + 2 ^ n))))
    by_cases c : n = k
    · subst c
      have e1 : ∀ o, fD (fun j => if j = n then 1 else D j) B n o = fD D B n o := fun o => fD_congr n o (fun j hj => if_neg (by omega))
      have e0 : ∀ o, fD (fun j => if j = n then 0 else D j) B n o = fD D B n o := fun o => fD_congr n o (fun j hj => if_neg (by omega))
      rw [if_pos rfl, if_pos rfl, e1, e1, e0, e0, hk]
      cases fD D B n off <;> cases fD D B n (off + 2 ^ n) <;> rfl
    · rw [if_neg c, if_neg c, fD_two hk n off (by omega), fD_two hk n (off + 2 ^ n) (by omega)]
      generalize (D n == 1) = a1
      generalize (D n == 0) = a0
      generalize fD (fun j => if j = k then 1 else D j) B n off = x1
      generalize fD (fun j => if j = k then 0 else D j) B n off = x0
      generalize fD (fun j => if j = k then 1 else D j) B n (off + 2 ^ n) = y1
      generalize fD (fun j => if j = k then 0 else D j) B n (off + 2 ^ n) = y0
      revert a1 a0 x1 x0 y1 y0
      decide
/-- all letters told: one row -/
theorem fD_bits {D : Nat → Nat} {B : Nat → Bool} {s : Nat} : ∀ n off, (∀ j, j < n → D j = s / 2 ^ j % 2) → fD D B n off = B (off + s % 2 ^ n)
  | 0, off, _ => by show B off = _; rw [Nat.pow_zero, Nat.mod_one, Nat.add_zero]
  | n + 1, off, h => by
    show ((D n == 1 || fD D B n off) && (D n == 0 || fD D B n (off + 2 ^ n))) = _
    have e := h n (by omega)
    have hm : s % 2 ^ (n + 1) = s % 2 ^ n + 2 ^ n * (s / 2 ^ n % 2) := Nat.mod_pow_succ
    rw [fD_bits n off (fun j hj => h j (by omega)), fD_bits n (off + 2 ^ n) (fun j hj => h j (by omega)), hm, e]
    rcases Nat.mod_two_eq_zero_or_one (s / 2 ^ n) with q | q <;> rw [q]
    · simp
    · rw [Nat.mul_one, show off + 2 ^ n + s % 2 ^ n = off + (s % 2 ^ n + 2 ^ n) by omega]; simp
theorem pw3 (k : Nat) : 0 < 3 ^ k := Nat.pow_pos (by decide)
/-- the digits of a number in threes, one of them changed -/
theorem dgf_form {a k m : Nat} (ha : a < 3 ^ k) (j : Nat) : dgf (a + 3 ^ k * m) j = if j < k then dgf a j else dgf m (j - k) := by
  unfold dgf
  by_cases c : j < k
  · rw [if_pos c]
    obtain ⟨i, e⟩ : ∃ i, k = j + (i + 1) := ⟨k - j - 1, by omega⟩
    rw [e, Nat.pow_add, Nat.mul_assoc, Nat.add_mul_div_left _ _ (pw3 j), Nat.pow_succ, Nat.mul_assoc, Nat.mul_left_comm, Nat.add_mul_mod_self_left]
  · rw [if_neg c]
    obtain ⟨i, e⟩ : ∃ i, j = k + i := ⟨j - k, by omega⟩
    rw [e, Nat.pow_add, ← Nat.div_div_eq_div_mul, Nat.add_mul_div_left _ _ (pw3 k), Nat.div_eq_of_lt ha, Nat.zero_add, show k + i - k = i by omega]
theorem dgf_split (p k : Nat) : p = p % 3 ^ k + 3 ^ k * (3 * (p / 3 ^ k / 3) + dgf p k) := by
  have e1 := Nat.mod_add_div p (3 ^ k)
  have e2 := Nat.div_add_mod (p / 3 ^ k) 3
  unfold dgf
  rw [e2]; exact e1.symm
theorem dgf_set {p k e : Nat} (he : e < 3) (j : Nat) : dgf (p % 3 ^ k + 3 ^ k * (3 * (p / 3 ^ k / 3) + e)) j = if j = k then e else dgf p j := by
  have ha : p % 3 ^ k < 3 ^ k := Nat.mod_lt _ (pw3 k)
  have h1 := dgf_form ha (m := 3 * (p / 3 ^ k / 3) + e) j
  have h2 := dgf_form ha (m := 3 * (p / 3 ^ k / 3) + dgf p k) j
  rw [← dgf_split p k] at h2
  have hd : dgf p k < 3 := Nat.mod_lt _ (by decide)
  rw [h1]
  by_cases c : j < k
  · rw [if_pos c, if_neg (by omega), h2, if_pos c]
  · rw [if_neg c]
    by_cases c2 : j = k
    · subst c2
      rw [if_pos rfl, show j - j = 0 by omega]
      unfold dgf
      rw [Nat.pow_zero, Nat.div_one]; omega
    · rw [if_neg c2, h2, if_neg c]
      obtain ⟨i, e3⟩ : ∃ i, j - k = i + 1 := ⟨j - k - 1, by omega⟩
      rw [e3]
      unfold dgf
      rw [Nat.pow_succ, Nat.mul_comm (3 ^ i) 3, ← Nat.div_div_eq_div_mul, ← Nat.div_div_eq_div_mul, show (3 * (p / 3 ^ k / 3) + e) / 3 = p / 3 ^ k / 3 by omega]
      unfold dgf at hd
      rw [show (3 * (p / 3 ^ k / 3) + p / 3 ^ k % 3) / 3 = p / 3 ^ k / 3 by omega]
/-- the products that tell a letter that is left out in p -/
theorem dgf_sub {p k e : Nat} (h : dgf p k = 2) (he : e < 3) : (2 - e) * 3 ^ k ≤ p ∧ ∀ j, dgf (p - (2 - e) * 3 ^ k) j = if j = k then e else dgf p j := by
  have hs := dgf_split p k
  rw [h] at hs
  have e1 : p - (2 - e) * 3 ^ k = p % 3 ^ k + 3 ^ k * (3 * (p / 3 ^ k / 3) + e) := by
    have : 3 ^ k * (3 * (p / 3 ^ k / 3) + 2) = 3 ^ k * (3 * (p / 3 ^ k / 3) + e) + (2 - e) * 3 ^ k := by
      rw [Nat.mul_comm (2 - e), ← Nat.mul_add]; congr 1; omega
    omega
  refine ⟨?_, fun j => by rw [e1]; exact dgf_set he j⟩
  have : 3 ^ k * (3 * (p / 3 ^ k / 3) + 2) = 3 ^ k * (3 * (p / 3 ^ k / 3) + e) + (2 - e) * 3 ^ k := by
    rw [Nat.mul_comm (2 - e), ← Nat.mul_add]; congr 1; omega
  omega
/-- the product with a letter left out besides -/
theorem dgf_add {p k : Nat} (h : dgf p k ≠ 2) : ∀ j, dgf (p + (2 - dgf p k) * 3 ^ k) j = if j = k then 2 else dgf p j := by
  have hs := dgf_split p k
  have hd : dgf p k < 3 := Nat.mod_lt _ (by decide)
  have e1 : p + (2 - dgf p k) * 3 ^ k = p % 3 ^ k + 3 ^ k * (3 * (p / 3 ^ k / 3) + 2) := by
    have : 3 ^ k * (3 * (p / 3 ^ k / 3) + 2) = 3 ^ k * (3 * (p / 3 ^ k / 3) + dgf p k) + (2 - dgf p k) * 3 ^ k := by
      rw [Nat.mul_comm (2 - dgf p k), ← Nat.mul_add]; congr 1; omega
    omega
  intro j
  rw [e1]; exact dgf_set (by decide) j
theorem dgf_add_lt {p k n : Nat} (hk : k < n) (hp : p < 3 ^ n) : p + (2 - dgf p k) * 3 ^ k < 3 ^ n := by
  have hs := dgf_split p k
  have hd : dgf p k < 3 := Nat.mod_lt _ (by decide)
  have e1 : p + (2 - dgf p k) * 3 ^ k = p % 3 ^ k + 3 ^ k * (3 * (p / 3 ^ k / 3) + 2) := by
    have : 3 ^ k * (3 * (p / 3 ^ k / 3) + 2) = 3 ^ k * (3 * (p / 3 ^ k / 3) + dgf p k) + (2 - dgf p k) * 3 ^ k := by
      rw [Nat.mul_comm (2 - dgf p k), ← Nat.mul_add]; congr 1; omega
    omega
  rw [e1]
  have ha : p % 3 ^ k < 3 ^ k := Nat.mod_lt _ (pw3 k)
  obtain ⟨i, e⟩ : ∃ i, n = k + (i + 1) := ⟨n - k - 1, by omega⟩
  have hb : p / 3 ^ k / 3 < 3 ^ i := by
    rw [Nat.div_div_eq_div_mul, ← Nat.pow_succ]
    refine Nat.div_lt_of_lt_mul ?_
    rw [← Nat.pow_add, show k + 1 + i = n by omega]; exact hp
  have : 3 ^ n = 3 ^ k * (3 * 3 ^ i) := by rw [e, Nat.pow_add, Nat.pow_succ, Nat.mul_comm (3 ^ i)]
  rw [this]
  have h3 : 3 * (p / 3 ^ k / 3) + 2 + 1 ≤ 3 * 3 ^ i := by omega
  have := Nat.mul_le_mul_left (3 ^ k) h3
  rw [Nat.mul_add] at this
  omega
/-- p fits: a function of n letters is nowhere 0 where p holds -/
def FIT (B : Nat → Bool) (n p : Nat) : Bool := fD (dgf p) B n 0
theorem FIT_two {B : Nat → Bool} {n p k : Nat} (hk : k < n) (h : dgf p k = 2) : FIT B n p = (FIT B n (p - 3 ^ k) && FIT B n (p - 2 * 3 ^ k)) := by
  unfold FIT
  rw [fD_two h n 0 hk]
  have s1 := (dgf_sub (e := 1) h (by decide)).2
  have s0 := (dgf_sub (e := 0) h (by decide)).2
  rw [show (2 - 1) * 3 ^ k = 3 ^ k by omega] at s1
  rw [show (2 - 0) * 3 ^ k = 2 * 3 ^ k by omega] at s0
  rw [fD_congr n 0 (fun j _ => (s1 j).symm), fD_congr (D := fun j => if j = k then 0 else dgf p j) n 0 (fun j _ => (s0 j).symm)]
/-- p is a prime -/
def PRM (B : Nat → Bool) (n p : Nat) : Bool := FIT B n p && !anyN (fun k => !(dgf p k == 2) && FIT B n (p + (2 - dgf p k) * 3 ^ k)) n

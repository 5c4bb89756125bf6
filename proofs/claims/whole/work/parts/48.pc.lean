/-! ===== how many bits are set: what the library's tricks do ===== -/
def pcn : Nat → Nat → Nat
  | 0, _ => 0
  | n + 1, x => x % 2 + pcn n (x / 2)
def pb_rep (m : Nat) : Nat → Nat
  | 0 => 0
  | n + 1 => m + 256 * pb_rep m n
theorem land256 {a p : Nat} (ha : a < 256) (hp : p < 256) (m q : Nat) : (a + 256 * m) &&& (p + 256 * q) = (a &&& p) + 256 * (m &&& q) := by
  have e1 : ((a + 256 * m) &&& (p + 256 * q)) % 2 ^ 8 = a &&& p := by
    rw [Nat.and_mod_two_pow, show (a + 256 * m) % 2 ^ 8 = a by omega, show (p + 256 * q) % 2 ^ 8 = p by omega]
  have e2 : ((a + 256 * m) &&& (p + 256 * q)) / 2 ^ 8 = m &&& q := by
    rw [Nat.and_div_two_pow, show (a + 256 * m) / 2 ^ 8 = m by omega, show (p + 256 * q) / 2 ^ 8 = q by omega]
  have := Nat.mod_add_div ((a + 256 * m) &&& (p + 256 * q)) (2 ^ 8)
  rw [e1, e2] at this
  exact this.symm
def pb_1 (n x : Nat) : Nat := x - (x / 2 &&& pb_rep 85 n)
def pb_2 (n x : Nat) : Nat := (x &&& pb_rep 51 n) + (x / 4 &&& pb_rep 51 n)
def pb_3 (n x : Nat) : Nat := (x + x / 16) &&& pb_rep 15 n
theorem pb_d1 : ∀ a, a < 256 → (a / 2 + 128 * 1) &&& 85 = a / 2 &&& 85 ∧ (a / 2 &&& 85) ≤ a ∧ a - (a / 2 &&& 85) < 256 := by decide +kernel
theorem pb_d2 : ∀ a, a < 256 → ∀ m, m < 4 → (a / 4 + 64 * m) &&& 51 = a / 4 &&& 51 ∧ (a &&& 51) + (a / 4 &&& 51) < 128 := by decide +kernel
theorem pb_d3 : ∀ a, a < 256 → (((a - (a / 2 &&& 85)) &&& 51) + ((a - (a / 2 &&& 85)) / 4 &&& 51)) % 16 ≤ 4 ∧ (((a - (a / 2 &&& 85)) &&& 51) + ((a - (a / 2 &&& 85)) / 4 &&& 51)) ≤ 68 := by decide +kernel
theorem pb_d4 : ∀ b, b ≤ 68 → ∀ m, m ≤ 4 → (b + b / 16 + 16 * m) &&& 15 = (b + b / 16) &&& 15 := by decide +kernel
theorem pb_d5 : ∀ a, a < 256 → ((((a - (a / 2 &&& 85)) &&& 51) + ((a - (a / 2 &&& 85)) / 4 &&& 51)) + (((a - (a / 2 &&& 85)) &&& 51) + ((a - (a / 2 &&& 85)) / 4 &&& 51)) / 16) &&& 15 = pcn 8 a := by decide +kernel
theorem pb_1s {n a m : Nat} (ha : a < 256) : pb_1 (n + 1) (a + 256 * m) = (a - (a / 2 &&& 85)) + 256 * pb_1 n m := by
  unfold pb_1
  show _ - ((a + 256 * m) / 2 &&& (85 + 256 * pb_rep 85 n)) = _
  have e : (a + 256 * m) / 2 = (a / 2 + 128 * (m % 2)) + 256 * (m / 2) := by omega
  have e2 : (a / 2 + 128 * (m % 2)) &&& 85 = a / 2 &&& 85 := by
    rcases Nat.mod_two_eq_zero_or_one m with h | h
    · rw [h]; rfl
    · rw [h]; exact (pb_d1 a ha).1
  rw [e, land256 (by omega) (by decide), e2]
  have h1 := (pb_d1 a ha).2.1
  have h2 : (m / 2 &&& pb_rep 85 n) ≤ m := Nat.le_trans Nat.and_le_left (Nat.div_le_self m 2)
  omega
theorem pb_2s {n a m : Nat} (ha : a < 256) : pb_2 (n + 1) (a + 256 * m) = ((a &&& 51) + (a / 4 &&& 51)) + 256 * pb_2 n m := by
  unfold pb_2
  show ((a + 256 * m) &&& (51 + 256 * pb_rep 51 n)) + ((a + 256 * m) / 4 &&& (51 + 256 * pb_rep 51 n)) = _
  have e : (a + 256 * m) / 4 = (a / 4 + 64 * (m % 4)) + 256 * (m / 4) := by omega
  rw [e, land256 (by omega) (by decide), land256 (by omega) (by decide), (pb_d2 a ha (m % 4) (by omega)).1]
  omega
theorem pb_3s {n a m : Nat} (ha : a ≤ 68) (hm : m % 16 ≤ 4) : pb_3 (n + 1) (a + 256 * m) = ((a + a / 16) &&& 15) + 256 * pb_3 n m := by
  unfold pb_3
  show ((a + 256 * m) + (a + 256 * m) / 16) &&& (15 + 256 * pb_rep 15 n) = _
  have e : (a + 256 * m) + (a + 256 * m) / 16 = (a + a / 16 + 16 * (m % 16)) + 256 * (m + m / 16) := by omega
  rw [e, land256 (by omega) (by decide), pb_d4 a ha (m % 16) hm]
/-- popcounts of the bytes, a byte each -/
def pb_B : Nat → Nat → Nat
  | 0, _ => 0
  | n + 1, x => pcn 8 (x % 256) + 256 * pb_B n (x / 256)
theorem pb_low : ∀ n x, (pb_2 n (pb_1 n x)) % 16 ≤ 4
  | 0, x => by unfold pb_2; show ((_ &&& 0) + (_ &&& 0)) % 16 ≤ 4; rw [Nat.and_zero, Nat.and_zero]; decide
  | n + 1, x => by
    have ex : x = x % 256 + 256 * (x / 256) := by omega
    have h := pb_d1 (x % 256) (by omega)
    rw [ex, pb_1s (by omega), pb_2s h.2.2]
    have := (pb_d3 (x % 256) (by omega)).1
    omega
theorem pb_all : ∀ n x, pb_3 n (pb_2 n (pb_1 n x)) = pb_B n x
  | 0, x => by unfold pb_3; exact Nat.and_zero _
  | n + 1, x => by
    have ex : x = x % 256 + 256 * (x / 256) := by omega
    have h := pb_d1 (x % 256) (by omega)
    conv => lhs; rw [ex, pb_1s (by omega), pb_2s h.2.2, pb_3s (pb_d3 (x % 256) (by omega)).2 (pb_low n (x / 256)), pb_d5 (x % 256) (by omega), pb_all n (x / 256)]
    rfl
theorem pcn_add : ∀ (a b x : Nat), pcn (a + b) x = pcn a x + pcn b (x / 2 ^ a)
  | 0, b, x => by simp [pcn]
  | a + 1, b, x => by
    rw [show a + 1 + b = (a + b) + 1 by omega]
    show x % 2 + pcn (a + b) (x / 2) = x % 2 + pcn a (x / 2) + _
    rw [pcn_add a b (x / 2), Nat.div_div_eq_div_mul, Nat.pow_succ, Nat.mul_comm 2 (2 ^ a)]
    omega
theorem pcn_mod : ∀ (n x : Nat), pcn n (x % 2 ^ n) = pcn n x
  | 0, x => rfl
  | n + 1, x => by
    show x % 2 ^ (n + 1) % 2 + pcn n (x % 2 ^ (n + 1) / 2) = x % 2 + pcn n (x / 2)
    have e1 : x % 2 ^ (n + 1) % 2 = x % 2 := by rw [Nat.pow_succ]; exact Nat.mod_mul_left_mod x (2 ^ n) 2
    have e2 : x % 2 ^ (n + 1) / 2 = x / 2 % 2 ^ n := by rw [Nat.pow_succ, Nat.mul_comm, Nat.mod_mul_right_div_self]
    rw [e1, e2, pcn_mod n (x / 2)]
theorem pcn_le : ∀ (n x : Nat), pcn n x ≤ n
  | 0, x => Nat.le_refl 0
  | n + 1, x => by
    show x % 2 + pcn n (x / 2) ≤ n + 1
    have := pcn_le n (x / 2)
    omega
theorem pcn_32 (x : Nat) : pcn 32 x = pcn 8 (x % 256) + pcn 8 (x / 256 % 256) + pcn 8 (x / 65536 % 256) + pcn 8 (x / 16777216 % 256) := by
  rw [show (32 : Nat) = 8 + (8 + (8 + 8)) by rfl, pcn_add, pcn_add 8 (8 + 8), pcn_add 8 8, Nat.div_div_eq_div_mul, Nat.div_div_eq_div_mul, show (256 : Nat) = 2 ^ 8 by rfl, pcn_mod, pcn_mod, pcn_mod, pcn_mod]
  show pcn 8 x + (pcn 8 (x / 256) + (pcn 8 (x / 65536) + pcn 8 (x / 16777216))) = pcn 8 x + pcn 8 (x / 256) + pcn 8 (x / 65536) + pcn 8 (x / 16777216)
  omega
theorem pb_32 (x : Nat) : let B := pb_B 4 x; let C := B + B / 256; (C + C / 65536) % 64 = pcn 32 x ∧ C + C / 65536 < 4294967296 := by
  rw [pcn_32]
  have h0 := pcn_le 8 (x % 256)
  have h1 := pcn_le 8 (x / 256 % 256)
  have h2 := pcn_le 8 (x / 65536 % 256)
  have h3 := pcn_le 8 (x / 16777216 % 256)
  have e : pb_B 4 x = pcn 8 (x % 256) + 256 * (pcn 8 (x / 256 % 256) + 256 * (pcn 8 (x / 65536 % 256) + 256 * pcn 8 (x / 16777216 % 256))) := by
    show pcn 8 (x % 256) + 256 * (pcn 8 (x / 256 % 256) + 256 * (pcn 8 (x / 256 / 256 % 256) + 256 * (pcn 8 (x / 256 / 256 / 256 % 256) + 256 * 0))) = _
    rw [Nat.div_div_eq_div_mul, Nat.div_div_eq_div_mul]
    rfl
  rw [e]
  generalize pcn 8 (x % 256) = p0 at *
  generalize pcn 8 (x / 256 % 256) = p1 at *
  generalize pcn 8 (x / 65536 % 256) = p2 at *
  generalize pcn 8 (x / 16777216 % 256) = p3 at *
  clear e
  dsimp only
  have q1 : (p0 + 256 * (p1 + 256 * (p2 + 256 * p3))) / 256 = p1 + 256 * p2 + 65536 * p3 := by omega
  rw [q1]
  have q2 : (p0 + 256 * (p1 + 256 * (p2 + 256 * p3)) + (p1 + 256 * p2 + 65536 * p3)) / 65536 = p2 + p3 + 256 * p3 := by omega
  rw [q2]
  omega
theorem pcn_64 (x : Nat) : pcn 64 x = pcn 32 (x % 4294967296) + pcn 32 (x / 4294967296 % 4294967296) := by
  rw [show (64 : Nat) = 32 + 32 by rfl, pcn_add, show (4294967296 : Nat) = 2 ^ 32 by rfl, pcn_mod, pcn_mod]
theorem pb_q1 {a m : Nat} (h : a < 256) : (a + 256 * m) / 256 = m := by omega
theorem pb_q2 {a b m : Nat} (h : a < 256) (h2 : b < 256) : (a + 256 * (b + 256 * m)) / 65536 = m := by omega
theorem pb_q4 {a b c e m : Nat} (h : a < 256) (h2 : b < 256) (h3 : c < 256) (h4 : e < 256) : (a + 256 * (b + 256 * (c + 256 * (e + 256 * m)))) / 4294967296 = m := by omega
theorem pb_ad {a b m n : Nat} : (a + 256 * m) + (b + 256 * n) = (a + b) + 256 * (m + n) := by omega
theorem pb_ae {b m n : Nat} : (256 * m) + (b + 256 * n) = b + 256 * (m + n) := by omega
theorem pb_64 (x : Nat) : let B := pb_B 8 x; let C := B + B / 256; let D := C + C / 65536; (D + D / 4294967296) % 128 = pcn 64 x ∧ D + D / 4294967296 < 18446744073709551616 := by
  rw [pcn_64, pcn_32, pcn_32]
  rw [show x % 4294967296 % 256 = x % 256 by omega, show x % 4294967296 / 256 % 256 = x / 256 % 256 by omega, show x % 4294967296 / 65536 % 256 = x / 65536 % 256 by omega, show x % 4294967296 / 16777216 % 256 = x / 16777216 % 256 by omega, show x / 4294967296 % 4294967296 % 256 = x / 4294967296 % 256 by omega, show x / 4294967296 % 4294967296 / 256 % 256 = x / 1099511627776 % 256 by omega, show x / 4294967296 % 4294967296 / 65536 % 256 = x / 281474976710656 % 256 by omega, show x / 4294967296 % 4294967296 / 16777216 % 256 = x / 72057594037927936 % 256 by omega]
  have h0 := pcn_le 8 (x % 256)
  have h1 := pcn_le 8 (x / 256 % 256)
  have h2 := pcn_le 8 (x / 65536 % 256)
  have h3 := pcn_le 8 (x / 16777216 % 256)
  have h4 := pcn_le 8 (x / 4294967296 % 256)
  have h5 := pcn_le 8 (x / 1099511627776 % 256)
  have h6 := pcn_le 8 (x / 281474976710656 % 256)
  have h7 := pcn_le 8 (x / 72057594037927936 % 256)
  have e : pb_B 8 x = pcn 8 (x % 256) + 256 * (pcn 8 (x / 256 % 256) + 256 * (pcn 8 (x / 65536 % 256) + 256 * (pcn 8 (x / 16777216 % 256) + 256 * (pcn 8 (x / 4294967296 % 256) + 256 * (pcn 8 (x / 1099511627776 % 256) + 256 * (pcn 8 (x / 281474976710656 % 256) + 256 * pcn 8 (x / 72057594037927936 % 256))))))) := by
    simp only [pb_B]
    -- + 256 * (pcn 8 (x / 256 / 256 / 256 % 256) + 256 * (pcn 8 (x / 256 / 256 / 256 / 256 % 256) + 256 * (pcn 8 (x / 256 / 256 / 256 / 256 / 256 % 256) + 256 * (pcn 8 (x / 256 / 256 / 256 / 256 / 256 / 256 % 256) + 256 * (pcn 8 (x / 256 / 256 / 256 / 256 / 256 / 256 / 256 % 256) + 256 * 0))))))) = _
    simp only [Nat.div_div_eq_div_mul, Nat.reduceMul, Nat.mul_zero, Nat.add_zero]
  rw [e]
  generalize pcn 8 (x % 256) = p0 at *
  generalize pcn 8 (x / 256 % 256) = p1 at *
  generalize pcn 8 (x / 65536 % 256) = p2 at *
  generalize pcn 8 (x / 16777216 % 256) = p3 at *
  generalize pcn 8 (x / 4294967296 % 256) = p4 at *
  generalize pcn 8 (x / 1099511627776 % 256) = p5 at *
  generalize pcn 8 (x / 281474976710656 % 256) = p6 at *
  generalize pcn 8 (x / 72057594037927936 % 256) = p7 at *
  clear e
  dsimp only
  rw [pb_q1 (show p0 < 256 by omega)]
  have q2 : p0 + 256 * (p1 + 256 * (p2 + 256 * (p3 + 256 * (p4 + 256 * (p5 + 256 * (p6 + 256 * p7)))))) + (p1 + 256 * (p2 + 256 * (p3 + 256 * (p4 + 256 * (p5 + 256 * (p6 + 256 * p7)))))) = (p0 + p1) + 256 * ((p1 + p2) + 256 * ((p2 + p3) + 256 * ((p3 + p4) + 256 * ((p4 + p5) + 256 * ((p5 + p6) + 256 * (p6 + p7 + 256 * p7)))))) := by omega
  rw [q2, pb_q2 (show p0 + p1 < 256 by omega) (show p1 + p2 < 256 by omega)]
  have q3 : (p0 + p1) + 256 * ((p1 + p2) + 256 * ((p2 + p3) + 256 * ((p3 + p4) + 256 * ((p4 + p5) + 256 * ((p5 + p6) + 256 * (p6 + p7 + 256 * p7)))))) + ((p2 + p3) + 256 * ((p3 + p4) + 256 * ((p4 + p5) + 256 * ((p5 + p6) + 256 * (p6 + p7 + 256 * p7))))) = (p0 + p1 + p2 + p3) + 256 * ((p1 + p2 + p3 + p4) + 256 * ((p2 + p3 + p4 + p5) + 256 * ((p3 + p4 + p5 + p6) + 256 * ((p4 + p5 + p6 + p7) + 256 * ((p5 + p6 + p7) + 256 * ((p6 + p7) + 256 * p7)))))) := by omega
  rw [q3, pb_q4 (by omega) (by omega) (by omega) (by omega)]
  generalize hA : (p1 + p2 + p3 + p4) + 256 * ((p2 + p3 + p4 + p5) + 256 * ((p3 + p4 + p5 + p6) + 256 * ((p4 + p5 + p6 + p7) + 256 * ((p5 + p6 + p7) + 256 * ((p6 + p7) + 256 * p7))))) = A
  generalize hB : (p5 + p6 + p7) + 256 * ((p6 + p7) + 256 * p7) = Z
  have b1 : A < 70000000000000000 := by omega
  have b2 : Z < 70000000 := by omega
  clear hA hB q2 q3
  omega

/-! ===== arithmetic of indexes ===== -/
theorem ari_i {n : Nat} (h : n < 2147483648) : (Int32.ofNat n).toInt = (n : Int) := Int32.toInt_ofNat_of_lt h
theorem ari_aa (a b : Nat) : Int32.ofNat a + Int32.ofNat b = Int32.ofNat (a + b) := (Int32.ofNat_add a b).symm
theorem ari_al (a n : Nat) : Int32.ofNat a + (no_index (OfNat.ofNat n) : Int32) = Int32.ofNat (a + n) := (Int32.ofNat_add a n).symm
theorem ari_la (a n : Nat) : (no_index (OfNat.ofNat n) : Int32) + Int32.ofNat a = Int32.ofNat (n + a) := (Int32.ofNat_add n a).symm
theorem ari_mm (a b : Nat) : Int32.ofNat a * Int32.ofNat b = Int32.ofNat (a * b) := (Int32.ofNat_mul a b).symm
theorem ari_ml (a n : Nat) : Int32.ofNat a * (no_index (OfNat.ofNat n) : Int32) = Int32.ofNat (a * n) := (Int32.ofNat_mul a n).symm
theorem ari_lm (a n : Nat) : (no_index (OfNat.ofNat n) : Int32) * Int32.ofNat a = Int32.ofNat (n * a) := (Int32.ofNat_mul n a).symm
theorem ari_ss {a b : Nat} (h : b ≤ a) : Int32.ofNat a - Int32.ofNat b = Int32.ofNat (a - b) := (Int32.ofNat_sub a b h).symm
theorem ari_sl {a n : Nat} (h : n ≤ a) : Int32.ofNat a - (no_index (OfNat.ofNat n) : Int32) = Int32.ofNat (a - n) := (Int32.ofNat_sub a n h).symm
theorem ari_ls {a n : Nat} (h : a ≤ n) : (no_index (OfNat.ofNat n) : Int32) - Int32.ofNat a = Int32.ofNat (n - a) := (Int32.ofNat_sub n a h).symm
theorem ari_lt {a b : Nat} (ha : a < 2147483648) (hb : b < 2147483648) : (Int32.ofNat a < Int32.ofNat b) = (a < b) := by
  rw [Int32.lt_iff_toInt_lt, ari_i ha, ari_i hb]; exact propext Int.ofNat_lt
theorem ari_ltl {a n : Nat} (ha : a < 2147483648) (hb : n < 2147483648) : (Int32.ofNat a < (no_index (OfNat.ofNat n) : Int32)) = (a < n) := ari_lt ha hb
theorem ari_llt {a n : Nat} (ha : a < 2147483648) (hb : n < 2147483648) : ((no_index (OfNat.ofNat n) : Int32) < Int32.ofNat a) = (n < a) := ari_lt hb ha
theorem ari_le {a b : Nat} (ha : a < 2147483648) (hb : b < 2147483648) : (Int32.ofNat a ≤ Int32.ofNat b) = (a ≤ b) := by
  rw [Int32.le_iff_toInt_le, ari_i ha, ari_i hb]; exact propext Int.ofNat_le
theorem ari_lel {a n : Nat} (ha : a < 2147483648) (hb : n < 2147483648) : (Int32.ofNat a ≤ (no_index (OfNat.ofNat n) : Int32)) = (a ≤ n) := ari_le ha hb
theorem ari_lle {a n : Nat} (ha : a < 2147483648) (hb : n < 2147483648) : ((no_index (OfNat.ofNat n) : Int32) ≤ Int32.ofNat a) = (n ≤ a) := ari_le hb ha
theorem ari_0 {a : Nat} (ha : a < 2147483648) : (Int32.ofNat a < 0) = False := by
  rw [show (0 : Int32) = Int32.ofNat 0 from rfl, ari_lt ha (by decide)]; exact eq_false (Nat.not_lt_zero a)
theorem ari_eq {a b : Nat} (ha : a < 2147483648) (hb : b < 2147483648) : (Int32.ofNat a = Int32.ofNat b) = (a = b) := by
  rw [← Int32.toInt_inj, ari_i ha, ari_i hb]; exact propext Int.ofNat_inj
theorem ari_eql {a n : Nat} (ha : a < 2147483648) (hb : n < 2147483648) : (Int32.ofNat a = (no_index (OfNat.ofNat n) : Int32)) = (a = n) := ari_eq ha hb
theorem ari_leq {a n : Nat} (ha : a < 2147483648) (hb : n < 2147483648) : ((no_index (OfNat.ofNat n) : Int32) = Int32.ofNat a) = (n = a) := ari_eq hb ha
theorem ari_neg {a n : Nat} (ha : a < 2147483648) (hn : n < 2147483648) (h1 : 0 < n) : (Int32.ofNat a = -(no_index (OfNat.ofNat n) : Int32)) = False := by
  refine eq_false (fun h => ?_)
  have h2 : Int32.ofNat a + Int32.ofNat n = 0 := by rw [h]; exact Int32.add_left_neg _
  rw [← Int32.ofNat_add, ← Int32.toBitVec_inj] at h2
  have h3 : (a + n) % 2 ^ 32 = 0 := congrArg BitVec.toNat h2
  omega
theorem ari_cl {a : Nat} (ha : a < 2147483648) : (Int32.ofNat a).toNatClampNeg = a := by
  unfold Int32.toNatClampNeg; rw [ari_i ha]; rfl
theorem ari_and (a b : Nat) : Int32.ofNat a &&& Int32.ofNat b = Int32.ofNat (a &&& b) := by
  rw [← Int32.toBitVec_inj]; exact BitVec.ofNat_and.symm
theorem ari_or (a b : Nat) : Int32.ofNat a ||| Int32.ofNat b = Int32.ofNat (a ||| b) := by
  rw [← Int32.toBitVec_inj]; exact BitVec.ofNat_or.symm
theorem ari_7 (a : Nat) : Int32.ofNat a &&& 7 = Int32.ofNat (a % 8) := by
  rw [show (7 : Int32) = Int32.ofNat 7 from rfl, ari_and, show (7 : Nat) = 2 ^ 3 - 1 from rfl, Nat.and_two_pow_sub_one_eq_mod]
theorem ari_63 (a : Nat) : Int32.ofNat a &&& 63 = Int32.ofNat (a % 64) := by
  rw [show (63 : Int32) = Int32.ofNat 63 from rfl, ari_and, show (63 : Nat) = 2 ^ 6 - 1 from rfl, Nat.and_two_pow_sub_one_eq_mod]
theorem ari_1 (a : Nat) : Int32.ofNat a &&& 1 = Int32.ofNat (a % 2) := by
  rw [show (1 : Int32) = Int32.ofNat 1 from rfl, ari_and, show (1 : Nat) = 2 ^ 1 - 1 from rfl, Nat.and_two_pow_sub_one_eq_mod]
theorem ari_31 {a : Nat} (h : a < 32) : Int32.ofNat a &&& 31 = Int32.ofNat a := by
  rw [show (31 : Int32) = Int32.ofNat 31 from rfl, ari_and, show (31 : Nat) = 2 ^ 5 - 1 from rfl, Nat.and_two_pow_sub_one_eq_mod, Nat.mod_eq_of_lt h]
theorem ari_l31 {n : Nat} (h : n < 32) : (no_index (OfNat.ofNat n) : Int32) &&& 31 = Int32.ofNat n := ari_31 h
theorem ari_sh {a n : Nat} (ha : a < 2147483648) (hn : n < 32) : Int32.ofNat a >>> Int32.ofNat n = Int32.ofNat (a / 2 ^ n) := by
  rw [← Int32.toInt_inj, ari_i (Nat.lt_of_le_of_lt (Nat.div_le_self _ _) ha)]
  show ((Int32.ofNat a).toBitVec.sshiftRight' ((Int32.ofNat n).toBitVec.smod 32)).toInt = _
  have e1 : ((Int32.ofNat n).toBitVec.smod 32) = BitVec.ofNat 32 n := by
    have : ∀ n : Nat, n < 32 → (BitVec.ofNat 32 n).smod 32 = BitVec.ofNat 32 n := by decide
    exact this n hn
  rw [e1, BitVec.sshiftRight', BitVec.toInt_sshiftRight]
  show (Int32.ofNat a).toInt >>> _ = _
  rw [ari_i ha, BitVec.toNat_ofNat, Nat.mod_eq_of_lt (by omega), Int.shiftRight_eq_div_pow]
  rfl
theorem ari_shl (a n : Nat) (hn : n < 32) : Int32.ofNat a <<< Int32.ofNat n = Int32.ofNat (a * 2 ^ n) := by
  rw [← Int32.toBitVec_inj]
  show ((Int32.ofNat a).toBitVec <<< ((Int32.ofNat n).toBitVec.smod 32)) = _
  have e1 : ((Int32.ofNat n).toBitVec.smod 32) = BitVec.ofNat 32 n := by
    have : ∀ n : Nat, n < 32 → (BitVec.ofNat 32 n).smod 32 = BitVec.ofNat 32 n := by decide
    exact this n hn
  rw [e1]
  apply BitVec.eq_of_toNat_eq
  show ((Int32.ofNat a).toBitVec <<< (BitVec.ofNat 32 n).toNat).toNat = _
  rw [BitVec.toNat_shiftLeft, BitVec.toNat_ofNat, Nat.mod_eq_of_lt (show n < 2 ^ 32 by omega)]
  show (a % 2 ^ 32) <<< n % 2 ^ 32 = (a * 2 ^ n) % 2 ^ 32
  rw [Nat.shiftLeft_eq, Nat.mod_mul_mod]

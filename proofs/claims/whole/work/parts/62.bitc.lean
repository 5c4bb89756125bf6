/-! ===== the library's counting of bits ===== -/
theorem shr_k : ∀ n, n < 32 → ((Int32.ofNat n).toUInt32 &&& Int32.toUInt32 31) = UInt32.ofNat n := by decide
theorem shr_i {x n : Nat} (hx : x < 4294967296) (hn : n < 32) : kv_shr (Int32.ofNat x) (Int32.ofNat n) = Int32.ofNat (x / 2 ^ n) := by
  unfold kv_shr
  rw [shr_k n hn]
  have e : (Int32.ofNat x).toUInt32 = UInt32.ofNat x := rfl
  rw [e]
  have e2 : UInt32.ofNat x >>> UInt32.ofNat n = UInt32.ofNat (x / 2 ^ n) := by
    apply UInt32.toNat_inj.mp
    have hd : x / 2 ^ n ≤ x := Nat.div_le_self _ _
    rw [UInt32.toNat_shiftRight, UInt32.toNat_ofNat_of_lt' (by show x < 4294967296; omega), UInt32.toNat_ofNat_of_lt' (by show n < 4294967296; omega), UInt32.toNat_ofNat_of_lt' (by show _ < 4294967296; omega), Nat.mod_eq_of_lt hn, Nat.shiftRight_eq_div_pow]
  rw [e2]
  rfl
theorem lshr_k : ∀ n, n < 64 → ((Int32.ofNat n).toInt64.toUInt64 &&& Int64.toUInt64 63) = UInt64.ofNat n := by decide
theorem shr_l {x n : Nat} (hx : x < 18446744073709551616) (hn : n < 64) : kv_lshr (Int64.ofNat x) (Int32.ofNat n) = Int64.ofNat (x / 2 ^ n) := by
  unfold kv_lshr
  rw [lshr_k n hn]
  have e : (Int64.ofNat x).toUInt64 = UInt64.ofNat x := rfl
  rw [e]
  have e2 : UInt64.ofNat x >>> UInt64.ofNat n = UInt64.ofNat (x / 2 ^ n) := by
    apply UInt64.toNat_inj.mp
    have hd : x / 2 ^ n ≤ x := Nat.div_le_self _ _
    rw [UInt64.toNat_shiftRight, UInt64.toNat_ofNat_of_lt' (by show x < 18446744073709551616; omega), UInt64.toNat_ofNat_of_lt' (by show n < 18446744073709551616; omega), UInt64.toNat_ofNat_of_lt' (by show _ < 18446744073709551616; omega), Nat.mod_eq_of_lt hn, Nat.shiftRight_eq_div_pow]
  rw [e2]
  rfl
theorem lar_and (a b : Nat) : Int64.ofNat a &&& Int64.ofNat b = Int64.ofNat (a &&& b) := by
  rw [← Int64.toBitVec_inj]; exact BitVec.ofNat_and.symm
theorem lar_sub {a b : Nat} (h : b ≤ a) : Int64.ofNat a - Int64.ofNat b = Int64.ofNat (a - b) := (Int64.ofNat_sub a b h).symm
theorem lar_add (a b : Nat) : Int64.ofNat a + Int64.ofNat b = Int64.ofNat (a + b) := (Int64.ofNat_add a b).symm
theorem l2i_n (x : Nat) : (Int64.ofNat x).toInt32 = Int32.ofNat x := by
  rw [← Int32.toBitVec_inj]
  show (BitVec.ofNat 64 x).signExtend 32 = BitVec.ofNat 32 x
  apply BitVec.eq_of_toNat_eq
  rw [BitVec.signExtend_eq_setWidth_of_le _ (by decide), BitVec.toNat_setWidth, BitVec.toNat_ofNat, BitVec.toNat_ofNat]
  omega
theorem pb_1le (n x : Nat) : pb_1 n x ≤ x := Nat.sub_le _ _
theorem pb_2le (n x : Nat) : pb_2 n x ≤ 2 * pb_rep 51 n := by
  unfold pb_2
  have h1 : (x &&& pb_rep 51 n) ≤ pb_rep 51 n := Nat.and_le_right
  have h2 : (x / 4 &&& pb_rep 51 n) ≤ pb_rep 51 n := Nat.and_le_right
  omega
theorem pb_3le (n x : Nat) : pb_3 n x ≤ pb_rep 15 n := Nat.and_le_right
section BC
variable {d : Nat} {σ : kv_S} {Φ : Option Value → kv_S → Prop}
theorem m_bitCount {x : Nat} (hx : x < 4294967296) : Wc d 31 [.int (Int32.ofNat x)] σ Φ = Φ (some (.int (Int32.ofNat (pcn 32 x)))) σ := by
  have s1 : Int32.ofNat x - (kv_shr (Int32.ofNat x) 1 &&& 1431655765) = Int32.ofNat (pb_1 4 x) := by
    rw [show kv_shr (Int32.ofNat x) 1 = Int32.ofNat (x / 2 ^ 1) from shr_i hx (n := 1) (by decide), show (1431655765 : Int32) = Int32.ofNat (pb_rep 85 4) by decide, ari_and, ari_ss (Nat.le_trans Nat.and_le_left (Nat.div_le_self _ _))]
    rfl
  have s2 : ∀ y, y < 4294967296 → (Int32.ofNat y &&& 858993459) + (kv_shr (Int32.ofNat y) 2 &&& 858993459) = Int32.ofNat (pb_2 4 y) := by
    intro y hy
    rw [show kv_shr (Int32.ofNat y) 2 = Int32.ofNat (y / 2 ^ 2) from shr_i hy (n := 2) (by decide), show (858993459 : Int32) = Int32.ofNat (pb_rep 51 4) by decide, ari_and, ari_and, ari_aa]
    rfl
  have s3 : ∀ z, z < 4294967296 → (Int32.ofNat z + kv_shr (Int32.ofNat z) 4) &&& 252645135 = Int32.ofNat (pb_3 4 z) := by
    intro z hz
    rw [show kv_shr (Int32.ofNat z) 4 = Int32.ofNat (z / 2 ^ 4) from shr_i hz (n := 4) (by decide), show (252645135 : Int32) = Int32.ofNat (pb_rep 15 4) by decide, ari_aa, ari_and]
    rfl
  have s4 : ∀ z, z < 4294967296 → Int32.ofNat z + kv_shr (Int32.ofNat z) 8 = Int32.ofNat (z + z / 256) := by
    intro z hz
    rw [show kv_shr (Int32.ofNat z) 8 = Int32.ofNat (z / 2 ^ 8) from shr_i hz (n := 8) (by decide), ari_aa]
  have s5 : ∀ z, z < 4294967296 → Int32.ofNat z + kv_shr (Int32.ofNat z) 16 = Int32.ofNat (z + z / 65536) := by
    intro z hz
    rw [show kv_shr (Int32.ofNat z) 16 = Int32.ofNat (z / 2 ^ 16) from shr_i hz (n := 16) (by decide), ari_aa]
  have b1 := pb_1le 4 x
  have b2 := pb_2le 4 (pb_1 4 x)
  rw [show pb_rep 51 4 = 858993459 by decide] at b2
  have b3 := pb_3le 4 (pb_2 4 (pb_1 4 x))
  rw [show pb_rep 15 4 = 252645135 by decide] at b3
  have e := pb_all 4 x
  rw [e] at b3
  obtain ⟨e2, e3⟩ := pb_32 x
  simp only [c_31, g_31_0, g_31_1, g_31_2, g_31_3, g_31_4, g_31_7, g_31_8, g_31_9, g_31_10, g_31_11, g_31_14, g_31_15, g_31_16, g_31_17, g_31_18, g_31_21, g_31_22, g_31_23, g_31_24, g_31_25, g_31_26, g_31_27, g_31_28, g_31_29, g_31_32, g_31_33, g_31_34, g_31_35, g_31_36, g_31_38, g_31_39, g_31_40, g_31_41, g_31_42, g_31_43, g_31_45, g_31_46, g_31_47, g_31_48, g_31_49, g_31_51, g_31_52, s1, s2 _ (show pb_1 4 x < 4294967296 by omega), s3 _ (show pb_2 4 (pb_1 4 x) < 4294967296 by omega), e, s4 _ (show pb_B 4 x < 4294967296 by omega), s5 _ (show pb_B 4 x + pb_B 4 x / 256 < 4294967296 by omega), ari_63, e2]
theorem m_lbitCount {x : Nat} (hx : x < 18446744073709551616) : Wc d 62 [.long (Int64.ofNat x)] σ Φ = Φ (some (.int (Int32.ofNat (pcn 64 x)))) σ := by
  have s1 : Int64.ofNat x - (kv_lshr (Int64.ofNat x) 1 &&& 6148914691236517205) = Int64.ofNat (pb_1 8 x) := by
    rw [show kv_lshr (Int64.ofNat x) 1 = Int64.ofNat (x / 2 ^ 1) from shr_l hx (n := 1) (by decide), show (6148914691236517205 : Int64) = Int64.ofNat (pb_rep 85 8) by decide, lar_and, lar_sub (Nat.le_trans Nat.and_le_left (Nat.div_le_self _ _))]
    rfl
  have s2 : ∀ y, y < 18446744073709551616 → (Int64.ofNat y &&& 3689348814741910323) + (kv_lshr (Int64.ofNat y) 2 &&& 3689348814741910323) = Int64.ofNat (pb_2 8 y) := by
    intro y hy
    rw [show kv_lshr (Int64.ofNat y) 2 = Int64.ofNat (y / 2 ^ 2) from shr_l hy (n := 2) (by decide), show (3689348814741910323 : Int64) = Int64.ofNat (pb_rep 51 8) by decide, lar_and, lar_and, lar_add]
    rfl
  have s3 : ∀ z, z < 18446744073709551616 → (Int64.ofNat z + kv_lshr (Int64.ofNat z) 4) &&& 1085102592571150095 = Int64.ofNat (pb_3 8 z) := by
    intro z hz
    rw [show kv_lshr (Int64.ofNat z) 4 = Int64.ofNat (z / 2 ^ 4) from shr_l hz (n := 4) (by decide), show (1085102592571150095 : Int64) = Int64.ofNat (pb_rep 15 8) by decide, lar_add, lar_and]
    rfl
  have s4 : ∀ z, z < 18446744073709551616 → Int64.ofNat z + kv_lshr (Int64.ofNat z) 8 = Int64.ofNat (z + z / 256) := by
    intro z hz
    rw [show kv_lshr (Int64.ofNat z) 8 = Int64.ofNat (z / 2 ^ 8) from shr_l hz (n := 8) (by decide), lar_add]
  have s5 : ∀ z, z < 18446744073709551616 → Int64.ofNat z + kv_lshr (Int64.ofNat z) 16 = Int64.ofNat (z + z / 65536) := by
    intro z hz
    rw [show kv_lshr (Int64.ofNat z) 16 = Int64.ofNat (z / 2 ^ 16) from shr_l hz (n := 16) (by decide), lar_add]
  have s6 : ∀ z, z < 18446744073709551616 → Int64.ofNat z + kv_lshr (Int64.ofNat z) 32 = Int64.ofNat (z + z / 4294967296) := by
    intro z hz
    rw [show kv_lshr (Int64.ofNat z) 32 = Int64.ofNat (z / 2 ^ 32) from shr_l hz (n := 32) (by decide), lar_add]
  have s7 : ∀ a, Int32.ofNat a &&& 127 = Int32.ofNat (a % 128) := by
    intro a
    rw [show (127 : Int32) = Int32.ofNat 127 from rfl, ari_and, show (127 : Nat) = 2 ^ 7 - 1 from rfl, Nat.and_two_pow_sub_one_eq_mod]
  have b1 := pb_1le 8 x
  have b2 := pb_2le 8 (pb_1 8 x)
  rw [show pb_rep 51 8 = 3689348814741910323 by decide] at b2
  have b3 := pb_3le 8 (pb_2 8 (pb_1 8 x))
  rw [show pb_rep 15 8 = 1085102592571150095 by decide] at b3
  have e := pb_all 8 x
  rw [e] at b3
  obtain ⟨e2, e3⟩ := pb_64 x
  simp only [c_62, g_62_0, g_62_1, g_62_2, g_62_3, g_62_4, g_62_7, g_62_8, g_62_9, g_62_10, g_62_11, g_62_14, g_62_15, g_62_16, g_62_17, g_62_18, g_62_21, g_62_22, g_62_23, g_62_24, g_62_25, g_62_26, g_62_27, g_62_28, g_62_29, g_62_32, g_62_33, g_62_34, g_62_35, g_62_36, g_62_38, g_62_39, g_62_40, g_62_41, g_62_42, g_62_43, g_62_45, g_62_46, g_62_47, g_62_48, g_62_49, g_62_50, g_62_52, g_62_53, g_62_54, g_62_55, g_62_56, g_62_57, g_62_59, g_62_60, s1, s2 _ (show pb_1 8 x < 18446744073709551616 by omega), s3 _ (show pb_2 8 (pb_1 8 x) < 18446744073709551616 by omega), e, s4 _ (show pb_B 8 x < 18446744073709551616 by omega), s5 _ (show pb_B 8 x + pb_B 8 x / 256 < 18446744073709551616 by omega), s6 _ (show pb_B 8 x + pb_B 8 x / 256 + (pb_B 8 x + pb_B 8 x / 256) / 65536 < 18446744073709551616 by omega), l2i_n, s7, e2]
end BC

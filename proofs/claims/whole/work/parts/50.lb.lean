/-! ===== bits of a long ===== -/
def lb (x : Int64) (r : Nat) : Bool := x.toBitVec.getLsbD r
theorem lb_or (x y : Int64) (r : Nat) : lb (x ||| y) r = (lb x r || lb y r) := by unfold lb; rw [Int64.toBitVec_or, BitVec.getLsbD_or]
theorem lb_and (x y : Int64) (r : Nat) : lb (x &&& y) r = (lb x r && lb y r) := by unfold lb; rw [Int64.toBitVec_and, BitVec.getLsbD_and]
theorem lb_xor (x y : Int64) (r : Nat) : lb (x ^^^ y) r = (lb x r ^^ lb y r) := by unfold lb; rw [Int64.toBitVec_xor, BitVec.getLsbD_xor]
theorem lb_0 (r : Nat) : lb 0 r = false := by unfold lb; exact BitVec.getLsbD_zero
theorem lb_m1 {r : Nat} (h : r < 64) : lb (-1) r = true := by
  have : ∀ r, r < 64 → lb (-1) r = true := by decide
  exact this r h
theorem lb_not (x : Int64) {r : Nat} (h : r < 64) : lb (x ^^^ -1) r = !lb x r := by rw [lb_xor, lb_m1 h]; cases lb x r <;> rfl
theorem lb_big (x : Int64) {r : Nat} (h : 64 ≤ r) : lb x r = false := BitVec.getLsbD_of_ge x.toBitVec r h
theorem lb_ext {x y : Int64} (h : ∀ r, r < 64 → lb x r = lb y r) : x = y := by
  rw [← Int64.toBitVec_inj]
  exact BitVec.eq_of_getLsbD_eq (fun i hi => h i hi)
theorem lsh_k : ∀ n, n < 64 → ((Int32.ofNat n).toInt64 &&& 63) = Int64.ofNat n := by decide
theorem lb_one : ∀ n, n < 64 → ∀ r, r < 64 → lb (1 <<< Int64.ofNat n) r = decide (r = n) := by decide +kernel
theorem smod64 : ∀ n, n < 64 → (Int64.ofNat n).toBitVec.smod 64 = BitVec.ofNat 64 n := by decide
theorem lb_shl (x : Int64) {n : Nat} (hn : n < 64) {r : Nat} (hr : r < 64) : lb (x <<< Int64.ofNat n) r = (decide (n ≤ r) && lb x (r - n)) := by
  show (x.toBitVec <<< ((Int64.ofNat n).toBitVec.smod 64)).getLsbD r = _
  rw [smod64 n hn]
  show (x.toBitVec <<< (BitVec.ofNat 64 n).toNat).getLsbD r = _
  rw [BitVec.toNat_ofNat, Nat.mod_eq_of_lt (by omega), BitVec.getLsbD_shiftLeft]
  unfold lb
  by_cases h : r < n
  · simp [h, Nat.not_le.mpr h]
  · simp [hr, h, Nat.le_of_not_lt h]
theorem lb_shr (x : Int64) {n : Nat} (hn : n < 64) {r : Nat} (hr : n + r < 64) : lb (x >>> Int64.ofNat n) r = lb x (n + r) := by
  show (x.toBitVec.sshiftRight' ((Int64.ofNat n).toBitVec.smod 64)).getLsbD r = _
  rw [smod64 n hn, BitVec.sshiftRight']
  rw [BitVec.toNat_ofNat, Nat.mod_eq_of_lt (by omega), BitVec.getLsbD_sshiftRight]
  unfold lb
  simp [hr, show ¬ 64 ≤ r by omega]
theorem lb_1 (r : Nat) (hr : r < 64) : lb 1 r = decide (r = 0) := by
  have : ∀ r, r < 64 → lb 1 r = decide (r = 0) := by decide
  exact this r hr
theorem lb_bit (x : Int64) {n : Nat} (hn : n < 64) : (x >>> Int64.ofNat n) &&& 1 = if lb x n = true then 1 else 0 := by
  apply lb_ext
  intro r hr
  rw [lb_and, lb_1 r hr]
  by_cases h0 : r = 0
  · subst h0
    rw [lb_shr x hn (by omega)]
    by_cases h : lb x n = true
    · simp [h, lb_1]
    · simp [h, lb_0]
  · by_cases h : lb x n = true
    · rw [if_pos h, lb_1 r hr]; simp [h0]
    · rw [if_neg h, lb_0]; simp [h0]
/-- where an operand stands in a set of operands -/
def onn (x : Int32) : Nat := (x - -2).toNatClampNeg
theorem onn_of {x : Int32} {n : Nat} (h : x - -2 = Int32.ofNat n) (hn : n < 2147483648) : onn x = n := by unfold onn; rw [h, ari_cl hn]
theorem onn_inj {x y : Int32} {n : Nat} (h : x - -2 = Int32.ofNat n) (h2 : y - -2 = Int32.ofNat n) : x = y := by
  have e : x - -2 = y - -2 := h.trans h2.symm
  rw [← Int32.sub_add_cancel x (-2), ← Int32.sub_add_cancel y (-2), e]
theorem onn_nat (m : Nat) : Int32.ofNat m - -2 = Int32.ofNat (m + 2) := by
  rw [Int32.sub_eq_add_neg, show - -(2 : Int32) = Int32.ofNat 2 by decide, ← Int32.ofNat_add]
theorem vO.onn {w G : Nat} (hw : w ≤ 8) (hG : G ≤ 40) {x : Int32} (h : vO w G x) : x - -2 = Int32.ofNat (onn x) ∧ onn x < 50 := by
  rcases h with rfl | rfl | ⟨k, hk, rfl⟩ | ⟨g, hg, rfl⟩
  · decide
  · decide
  · have e := onn_nat k
    rw [onn_of e (by omega)]
    exact ⟨e, by omega⟩
  · have e := onn_nat (8 + g)
    rw [onn_of e (by omega)]
    exact ⟨e, by omega⟩
/-- the set of one operand -/
def lbo (x : Int32) : Int64 := 1 <<< ((x - -2).toInt64 &&& 63)
theorem lb_lbo {x : Int32} {n : Nat} (hn : x - -2 = Int32.ofNat n) (h : n < 64) {r : Nat} (hr : r < 64) : lb (lbo x) r = decide (r = n) := by
  unfold lbo
  rw [hn, lsh_k n h, lb_one n h r hr]
theorem ex_succ {P : Nat → Prop} {j : Nat} : (∃ i, i < j + 1 ∧ P i) ↔ (∃ i, i < j ∧ P i) ∨ P j := by
  constructor
  · rintro ⟨i, hi, h⟩
    by_cases e : i = j
    · exact Or.inr (e ▸ h)
    · exact Or.inl ⟨i, by omega, h⟩
  · rintro (⟨i, hi, h⟩ | h)
    · exact ⟨i, by omega, h⟩
    · exact ⟨j, by omega, h⟩

theorem ari_div {a n : Nat} (ha : a < 2147483648) (hn : n < 2147483648) : Int32.ofNat a / (no_index (OfNat.ofNat n) : Int32) = Int32.ofNat (a / n) := by
  rw [← Int32.toInt_inj, ari_i (Nat.lt_of_le_of_lt (Nat.div_le_self _ _) ha), Int32.toInt_div]
  show ((Int32.ofNat a).toInt.tdiv (Int32.ofNat n).toInt).bmod _ = _
  have e : (a : Int).tdiv (n : Int) = ((a / n : Nat) : Int) := rfl
  have := Nat.div_le_self a n
  have h0 : (0 : Int) ≤ ((a / n : Nat) : Int) := Int.natCast_nonneg _
  rw [ari_i ha, ari_i hn, e, Int.bmod_eq_of_le] <;> omega
theorem ari_rem (a n : Nat) : Int32.ofNat a - Int32.ofNat (a / n * n) = Int32.ofNat (a % n) := by
  rw [ari_ss (Nat.div_mul_le_self a n)]
  have := Nat.div_add_mod a n
  rw [Nat.mul_comm] at this
  congr 1
  omega
theorem nat_bit (u p : Nat) : u / 2 ^ p % 2 = (u.testBit p).toNat := by rw [Nat.toNat_testBit]
/-! ===== a function's places: held and lacking, on both sides ===== -/
def JF1' (σ : kv_S) (f w : Nat) : Prop := 1 ≤ w ∧ w ≤ 8 ∧ kv_i σ (37 + 4 * f) 3 = Int32.ofNat w ∧ kv_i σ 150 f = Int32.ofNat w ∧ ∀ s, s < 32 → 8 * s < 2 ^ w → JF2 σ f w s
theorem pw8 {w : Nat} (h : w ≤ 8) : 2 ^ w ≤ 256 := Nat.pow_le_pow_right (n := 2) (by decide) h
theorem pw1 (w : Nat) : 1 ≤ 2 ^ w := Nat.one_le_two_pow
/-- what is left of the sheet of a row; what a row holds; what it lacks -/
def lft (σ : kv_S) (f row : Nat) : Nat := (kv_i σ 152 (32 * f + row / 8)).toNatClampNeg
def hld (σ : kv_S) (f row : Nat) : Nat := if row % 8 < lft σ f row then (kv_i σ 151 (256 * f + row)).toNatClampNeg else 2
def lck (σ : kv_S) (f row : Nat) : Int32 := if lft σ f row = 0 then -11 else if row % 8 < lft σ f row then 0 else -12
theorem JF1'.at {σ : kv_S} {f w row : Nat} (h : JF1' σ f w) (hr : row < 2 ^ w) : row / 8 < 32 ∧ JF2 σ f w (row / 8) := by
  have := pw8 h.2.1
  exact ⟨by omega, h.2.2.2.2 (row / 8) (by omega) (by omega)⟩
theorem lft_of {σ : kv_S} {f row : Nat} {l : Nat} (hl : l ≤ 8) (e : kv_i σ 152 (32 * f + row / 8) = Int32.ofNat l) : lft σ f row = l := by
  unfold lft; rw [e, ari_cl (by omega)]
section AT
variable {d : Nat} {σ : kv_S} {Φ : Option Value → kv_S → Prop}
theorem m_lackAt (h : JS σ) {f w row : Nat} (hf : f < 16) (hF : JF1' σ f w) (hr : row < 2 ^ w) : Wc d 19 [.ref (37 + 4 * f), .int (Int32.ofNat row)] σ Φ = Φ (some (.int (lck σ f row))) σ := by
  obtain ⟨h32, l, o, u, hl, hl2, ho, hu, el, el2, eo, eu, hp, hq⟩ := hF.at hr
  have hW := pw8 hF.2.1
  have e := lft_of (row := row) hl el2
  unfold lck
  rw [e]
  by_cases c : l = 0
  · simp only [c_19, g_19_0, g_19_1, g_19_4, g_19_5, g_19_6, g_19_7, g_19_8, g_19_9, g_19_10, g_19_13, g_19_15, g_19_16, g_19_17, g_19_19, g_19_20, g_19_21, g_19_24, g_19_25, g_19_28, g_19_30, kv_w8_0, kv_w8_1, kv_w8_2, kv_w8_3, kv_w8_4, ari_aa, ari_al, ari_la, ari_mm, ari_ml, ari_lm, ari_ltl, ari_llt, ari_lt, ari_le, ari_lel, ari_lle, ari_0, ari_eq, ari_eql, ari_leq, ari_cl, Nat.not_lt_zero, Bool.false_eq_true, Option.toList_some, Option.toList_none, List.cons_append, List.nil_append, kv_rv, kc1_i, kc1_r, kc1_n, n10, n01, n1514, n1213, n1312, if_true, if_false, not_true_eq_false, not_false_eq_true, and_self, true_and, and_true, false_and, and_false, or_true, true_or, or_false, false_or, Nat.reduceLeDiff, Nat.reduceLT, Nat.reduceEqDiff, Nat.reduceAdd, ari_l31, ari_sh, Nat.reducePow, sT h hf, sL h hf, rL h hf, el, c, (show row < 2147483648 by omega), (show row / 8 < 32 by omega), (show row / 8 < 2147483648 by omega)]
  · by_cases c2 : row % 8 < l
    · simp only [c_19, g_19_0, g_19_1, g_19_4, g_19_5, g_19_6, g_19_7, g_19_8, g_19_9, g_19_10, g_19_13, g_19_15, g_19_16, g_19_17, g_19_19, g_19_20, g_19_21, g_19_24, g_19_25, g_19_28, g_19_30, kv_w8_0, kv_w8_1, kv_w8_2, kv_w8_3, kv_w8_4, ari_aa, ari_al, ari_la, ari_mm, ari_ml, ari_lm, ari_ltl, ari_llt, ari_lt, ari_le, ari_lel, ari_lle, ari_0, ari_eq, ari_eql, ari_leq, ari_cl, Nat.not_lt_zero, Bool.false_eq_true, Option.toList_some, Option.toList_none, List.cons_append, List.nil_append, kv_rv, kc1_i, kc1_r, kc1_n, n10, n01, n1514, n1213, n1312, if_true, if_false, not_true_eq_false, not_false_eq_true, and_self, true_and, and_true, false_and, and_false, or_true, true_or, or_false, false_or, Nat.reduceLeDiff, Nat.reduceLT, Nat.reduceEqDiff, Nat.reduceAdd, ari_l31, ari_sh, ari_7, Nat.reducePow, sT h hf, sL h hf, rL h hf, el, c, c2, (show row < 2147483648 by omega), (show row / 8 < 32 by omega), (show row / 8 < 2147483648 by omega), (show l < 9 by omega), (show l < 2147483648 by omega), (show row % 8 < 8 by omega), (show row % 8 < 2147483648 by omega), (show ¬ l ≤ row % 8 by omega)]
    · simp only [c_19, g_19_0, g_19_1, g_19_4, g_19_5, g_19_6, g_19_7, g_19_8, g_19_9, g_19_10, g_19_13, g_19_15, g_19_16, g_19_17, g_19_19, g_19_20, g_19_21, g_19_24, g_19_25, g_19_28, g_19_30, kv_w8_0, kv_w8_1, kv_w8_2, kv_w8_3, kv_w8_4, ari_aa, ari_al, ari_la, ari_mm, ari_ml, ari_lm, ari_ltl, ari_llt, ari_lt, ari_le, ari_lel, ari_lle, ari_0, ari_eq, ari_eql, ari_leq, ari_cl, Nat.not_lt_zero, Bool.false_eq_true, Option.toList_some, Option.toList_none, List.cons_append, List.nil_append, kv_rv, kc1_i, kc1_r, kc1_n, n10, n01, n1514, n1213, n1312, if_true, if_false, not_true_eq_false, not_false_eq_true, and_self, true_and, and_true, false_and, and_false, or_true, true_or, or_false, false_or, Nat.reduceLeDiff, Nat.reduceLT, Nat.reduceEqDiff, Nat.reduceAdd, ari_l31, ari_sh, ari_7, Nat.reducePow, sT h hf, sL h hf, rL h hf, el, c, c2, (show row < 2147483648 by omega), (show row / 8 < 32 by omega), (show row / 8 < 2147483648 by omega), (show l < 9 by omega), (show l < 2147483648 by omega), (show row % 8 < 8 by omega), (show row % 8 < 2147483648 by omega), (show l ≤ row % 8 by omega)]
theorem m_lacks (h : JS σ) {f w row : Nat} (hf : f < 16) (hF : JF1' σ f w) (hr : row < 2 ^ w) : Wc d 129 [.ref 149, .int (Int32.ofNat f), .int (Int32.ofNat row)] σ Φ = Φ (some (.int (lck σ f row))) σ := by
  obtain ⟨h32, l, o, u, hl, hl2, ho, hu, el, el2, eo, eu, hp, hq⟩ := hF.at hr
  have hW := pw8 hF.2.1
  have e := lft_of (row := row) hl el2
  unfold lck
  rw [e]
  by_cases c : l = 0
  · simp only [c_129, g_129_0, g_129_1, g_129_4, g_129_6, g_129_7, g_129_8, g_129_9, g_129_11, g_129_12, g_129_13, g_129_14, g_129_15, g_129_16, g_129_19, g_129_21, g_129_24, g_129_25, g_129_27, g_129_28, g_129_29, g_129_32, g_129_34, g_129_37, g_129_38, kv_w8_0, kv_w8_1, kv_w8_2, kv_w8_3, kv_w8_4, ari_aa, ari_al, ari_la, ari_mm, ari_ml, ari_lm, ari_ltl, ari_llt, ari_lt, ari_le, ari_lel, ari_lle, ari_0, ari_eq, ari_eql, ari_leq, ari_cl, Nat.not_lt_zero, Bool.false_eq_true, Option.toList_some, Option.toList_none, List.cons_append, List.nil_append, kv_rv, kc1_i, kc1_r, kc1_n, n10, n01, n1514, n1213, n1312, if_true, if_false, not_true_eq_false, not_false_eq_true, and_self, true_and, and_true, false_and, and_false, or_true, true_or, or_false, false_or, Nat.reduceLeDiff, Nat.reduceLT, Nat.reduceEqDiff, Nat.reduceAdd, ari_div, ari_rem, (show ¬ (8 : Int32) = 0 by decide), s_149 h, s_152 h, r_149_4 h, el2, c, (show row < 2147483648 by omega), (show row / 8 < 32 by omega), (show row / 8 < 2147483648 by omega), (show 32 * f + row / 8 < 512 by omega), (show 32 * f + row / 8 < 2147483648 by omega)]
  · by_cases c2 : row % 8 < l
    · simp only [c_129, g_129_0, g_129_1, g_129_4, g_129_6, g_129_7, g_129_8, g_129_9, g_129_11, g_129_12, g_129_13, g_129_14, g_129_15, g_129_16, g_129_19, g_129_21, g_129_24, g_129_25, g_129_27, g_129_28, g_129_29, g_129_32, g_129_34, g_129_37, g_129_38, kv_w8_0, kv_w8_1, kv_w8_2, kv_w8_3, kv_w8_4, ari_aa, ari_al, ari_la, ari_mm, ari_ml, ari_lm, ari_ltl, ari_llt, ari_lt, ari_le, ari_lel, ari_lle, ari_0, ari_eq, ari_eql, ari_leq, ari_cl, Nat.not_lt_zero, Bool.false_eq_true, Option.toList_some, Option.toList_none, List.cons_append, List.nil_append, kv_rv, kc1_i, kc1_r, kc1_n, n10, n01, n1514, n1213, n1312, if_true, if_false, not_true_eq_false, not_false_eq_true, and_self, true_and, and_true, false_and, and_false, or_true, true_or, or_false, false_or, Nat.reduceLeDiff, Nat.reduceLT, Nat.reduceEqDiff, Nat.reduceAdd, ari_div, ari_rem, (show ¬ (8 : Int32) = 0 by decide), s_149 h, s_152 h, r_149_4 h, el2, c, c2, (show row < 2147483648 by omega), (show row / 8 < 32 by omega), (show row / 8 < 2147483648 by omega), (show 32 * f + row / 8 < 512 by omega), (show 32 * f + row / 8 < 2147483648 by omega), (show l < 9 by omega), (show l < 2147483648 by omega), (show row % 8 < 8 by omega), (show row % 8 < 2147483648 by omega)]
    · simp only [c_129, g_129_0, g_129_1, g_129_4, g_129_6, g_129_7, g_129_8, g_129_9, g_129_11, g_129_12, g_129_13, g_129_14, g_129_15, g_129_16, g_129_19, g_129_21, g_129_24, g_129_25, g_129_27, g_129_28, g_129_29, g_129_32, g_129_34, g_129_37, g_129_38, kv_w8_0, kv_w8_1, kv_w8_2, kv_w8_3, kv_w8_4, ari_aa, ari_al, ari_la, ari_mm, ari_ml, ari_lm, ari_ltl, ari_llt, ari_lt, ari_le, ari_lel, ari_lle, ari_0, ari_eq, ari_eql, ari_leq, ari_cl, Nat.not_lt_zero, Bool.false_eq_true, Option.toList_some, Option.toList_none, List.cons_append, List.nil_append, kv_rv, kc1_i, kc1_r, kc1_n, n10, n01, n1514, n1213, n1312, if_true, if_false, not_true_eq_false, not_false_eq_true, and_self, true_and, and_true, false_and, and_false, or_true, true_or, or_false, false_or, Nat.reduceLeDiff, Nat.reduceLT, Nat.reduceEqDiff, Nat.reduceAdd, ari_div, ari_rem, (show ¬ (8 : Int32) = 0 by decide), s_149 h, s_152 h, r_149_4 h, el2, c, c2, (show row < 2147483648 by omega), (show row / 8 < 32 by omega), (show row / 8 < 2147483648 by omega), (show 32 * f + row / 8 < 512 by omega), (show 32 * f + row / 8 < 2147483648 by omega), (show l < 9 by omega), (show l < 2147483648 by omega), (show row % 8 < 8 by omega), (show row % 8 < 2147483648 by omega)]
theorem m_heldAt (h : JS σ) {f w row : Nat} (hf : f < 16) (hF : JF1' σ f w) (hr : row < 2 ^ w) : Wc d 20 [.ref (37 + 4 * f), .int (Int32.ofNat row)] σ Φ = Φ (some (.int (Int32.ofNat (hld σ f row)))) σ := by
  obtain ⟨h32, l, o, u, hl, hl2, ho, hu, el, el2, eo, eu, hp, hq⟩ := hF.at hr
  have hW := pw8 hF.2.1
  have e := lft_of (row := row) hl el2
  have er : 8 * (row / 8) + row % 8 = row := by omega
  unfold hld
  rw [e]
  by_cases c2 : row % 8 < l
  · rw [if_pos c2]
    rcases hp (row % 8) c2 with ⟨p1, p2, p3⟩ | ⟨p1, p2, p3⟩ | ⟨p1, p2, p3⟩ <;> rw [er] at p1 <;> rw [p1] <;>
    simp only [c_20, g_20_0, g_20_1, g_20_2, g_20_3, g_20_4, g_20_5, g_20_7, g_20_8, g_20_9, g_20_10, g_20_11, g_20_14, g_20_15, g_20_16, g_20_19, g_20_20, g_20_23, g_20_24, g_20_25, g_20_26, g_20_27, g_20_28, g_20_29, g_20_32, g_20_33, g_20_34, g_20_35, g_20_38, g_20_39, g_20_40, g_20_41, g_20_42, g_20_43, g_20_44, kv_w8_0, kv_w8_1, kv_w8_2, kv_w8_3, kv_w8_4, ari_aa, ari_al, ari_la, ari_mm, ari_ml, ari_lm, ari_ltl, ari_llt, ari_lt, ari_le, ari_lel, ari_lle, ari_0, ari_eq, ari_eql, ari_leq, ari_cl, Nat.not_lt_zero, Bool.false_eq_true, Option.toList_some, Option.toList_none, List.cons_append, List.nil_append, kv_rv, kc1_i, kc1_r, kc1_n, n10, n01, n1514, n1213, n1312, if_true, if_false, not_true_eq_false, not_false_eq_true, and_self, true_and, and_true, false_and, and_false, or_true, true_or, or_false, false_or, Nat.reduceLeDiff, Nat.reduceLT, Nat.reduceEqDiff, Nat.reduceAdd, ari_l31, ari_31, ari_sh, ari_7, ari_1, nat_bit, p2, p3, Bool.toNat_true, Bool.toNat_false, Nat.reducePow, sT h hf, sL h hf, rL h hf, sO h hf, rO h hf, sF h hf, rF h hf, el, eo, eu, (show row < 2147483648 by omega), (show row / 8 < 32 by omega), (show row / 8 < 2147483648 by omega), (show l < 9 by omega), (show l < 2147483648 by omega), (show row % 8 < 8 by omega), (show row % 8 < 2147483648 by omega), (show row % 8 < 32 by omega), (show row % 8 < 2147483648 by omega), (show ¬ l ≤ row % 8 by omega), (show o < 256 by omega), (show o < 2147483648 by omega), (show u < 256 by omega), (show u < 2147483648 by omega)] <;> rfl
  · rw [if_neg c2]
    simp only [c_20, g_20_0, g_20_1, g_20_2, g_20_3, g_20_4, g_20_5, g_20_7, g_20_8, g_20_9, g_20_10, g_20_11, g_20_14, g_20_15, g_20_16, g_20_19, g_20_20, g_20_23, g_20_24, g_20_25, g_20_26, g_20_27, g_20_28, g_20_29, g_20_32, g_20_33, g_20_34, g_20_35, g_20_38, g_20_39, g_20_40, g_20_41, g_20_42, g_20_43, g_20_44, kv_w8_0, kv_w8_1, kv_w8_2, kv_w8_3, kv_w8_4, ari_aa, ari_al, ari_la, ari_mm, ari_ml, ari_lm, ari_ltl, ari_llt, ari_lt, ari_le, ari_lel, ari_lle, ari_0, ari_eq, ari_eql, ari_leq, ari_cl, Nat.not_lt_zero, Bool.false_eq_true, Option.toList_some, Option.toList_none, List.cons_append, List.nil_append, kv_rv, kc1_i, kc1_r, kc1_n, n10, n01, n1514, n1213, n1312, if_true, if_false, not_true_eq_false, not_false_eq_true, and_self, true_and, and_true, false_and, and_false, or_true, true_or, or_false, false_or, Nat.reduceLeDiff, Nat.reduceLT, Nat.reduceEqDiff, Nat.reduceAdd, ari_l31, ari_31, ari_sh, ari_7, ari_1, Nat.reducePow, sT h hf, sL h hf, rL h hf, el, (show row < 2147483648 by omega), (show row / 8 < 32 by omega), (show row / 8 < 2147483648 by omega), (show l < 9 by omega), (show l < 2147483648 by omega), (show row % 8 < 8 by omega), (show row % 8 < 2147483648 by omega), (show row % 8 < 32 by omega), (show row % 8 < 2147483648 by omega), (show l ≤ row % 8 by omega)]
    rfl
theorem m_held (h : JS σ) {f w row : Nat} (hf : f < 16) (hF : JF1' σ f w) (hr : row < 2 ^ w) : Wc (d + 1) 133 [.ref 149, .int (Int32.ofNat f), .int (Int32.ofNat row)] σ Φ = Φ (some (.int (Int32.ofNat (hld σ f row)))) σ := by
  obtain ⟨h32, l, o, u, hl, hl2, ho, hu, el, el2, eo, eu, hp, hq⟩ := hF.at hr
  have hW := pw8 hF.2.1
  have e := lft_of (row := row) hl el2
  have er : 8 * (row / 8) + row % 8 = row := by omega
  have e2 : lck σ f row = if l = 0 then -11 else if row % 8 < l then 0 else -12 := by unfold lck; rw [e]
  unfold hld
  rw [e]
  by_cases c2 : row % 8 < l
  · rw [if_pos c2]
    rcases hp (row % 8) c2 with ⟨p1, p2, p3⟩ | ⟨p1, p2, p3⟩ | ⟨p1, p2, p3⟩ <;> rw [er] at p1 <;> rw [p1] <;>
    simp only [c_133, g_133_0, g_133_1, g_133_2, g_133_3, g_133_6, g_133_9, g_133_10, g_133_13, g_133_14, g_133_17, g_133_20, g_133_21, g_133_22, g_133_23, g_133_24, g_133_25, kv_w8_0, kv_w8_1, kv_w8_2, kv_w8_3, kv_w8_4, ari_aa, ari_al, ari_la, ari_mm, ari_ml, ari_lm, ari_ltl, ari_llt, ari_lt, ari_le, ari_lel, ari_lle, ari_0, ari_eq, ari_eql, ari_leq, ari_cl, Nat.not_lt_zero, Bool.false_eq_true, Option.toList_some, Option.toList_none, List.cons_append, List.nil_append, kv_rv, kc1_i, kc1_r, kc1_n, n10, n01, n1514, n1213, n1312, if_true, if_false, not_true_eq_false, not_false_eq_true, and_self, true_and, and_true, false_and, and_false, or_true, true_or, or_false, false_or, Nat.reduceLeDiff, Nat.reduceLT, Nat.reduceEqDiff, Nat.reduceAdd, m_lacks h hf hF hr, e2, c2, p1, s_149 h, s_151 h, r_149_3 h, (show 256 * f + row < 4096 by omega), (show 256 * f + row < 2147483648 by omega), (show ¬ l = 0 by omega)] <;> rfl
  · rw [if_neg c2]
    by_cases c : l = 0
    · simp only [c_133, g_133_0, g_133_1, g_133_2, g_133_3, g_133_6, g_133_9, g_133_10, g_133_13, g_133_14, g_133_17, g_133_20, g_133_21, g_133_22, g_133_23, g_133_24, g_133_25, kv_w8_0, kv_w8_1, kv_w8_2, kv_w8_3, kv_w8_4, ari_aa, ari_al, ari_la, ari_mm, ari_ml, ari_lm, ari_ltl, ari_llt, ari_lt, ari_le, ari_lel, ari_lle, ari_0, ari_eq, ari_eql, ari_leq, ari_cl, Nat.not_lt_zero, Bool.false_eq_true, Option.toList_some, Option.toList_none, List.cons_append, List.nil_append, kv_rv, kc1_i, kc1_r, kc1_n, n10, n01, n1514, n1213, n1312, if_true, if_false, not_true_eq_false, not_false_eq_true, and_self, true_and, and_true, false_and, and_false, or_true, true_or, or_false, false_or, Nat.reduceLeDiff, Nat.reduceLT, Nat.reduceEqDiff, Nat.reduceAdd, m_lacks h hf hF hr, e2, c, s_149 h, (show ¬ (-11 : Int32) = 0 by decide)]; rfl
    · simp only [c_133, g_133_0, g_133_1, g_133_2, g_133_3, g_133_6, g_133_9, g_133_10, g_133_13, g_133_14, g_133_17, g_133_20, g_133_21, g_133_22, g_133_23, g_133_24, g_133_25, kv_w8_0, kv_w8_1, kv_w8_2, kv_w8_3, kv_w8_4, ari_aa, ari_al, ari_la, ari_mm, ari_ml, ari_lm, ari_ltl, ari_llt, ari_lt, ari_le, ari_lel, ari_lle, ari_0, ari_eq, ari_eql, ari_leq, ari_cl, Nat.not_lt_zero, Bool.false_eq_true, Option.toList_some, Option.toList_none, List.cons_append, List.nil_append, kv_rv, kc1_i, kc1_r, kc1_n, n10, n01, n1514, n1213, n1312, if_true, if_false, not_true_eq_false, not_false_eq_true, and_self, true_and, and_true, false_and, and_false, or_true, true_or, or_false, false_or, Nat.reduceLeDiff, Nat.reduceLT, Nat.reduceEqDiff, Nat.reduceAdd, m_lacks h hf hF hr, e2, c, c2, s_149 h, (show ¬ (-12 : Int32) = 0 by decide)]; rfl
end AT

/-! ===== bits ===== -/
theorem and1 (x : Int32) : x &&& 1 = 0 ∨ x &&& 1 = 1 := by
  have e : (x &&& 1).toBitVec = BitVec.ofNat 32 (x.toBitVec.toNat % 2) := by
    rw [Int32.toBitVec_and]
    apply BitVec.eq_of_toNat_eq
    rw [BitVec.toNat_and, BitVec.toNat_ofNat]
    show x.toBitVec.toNat &&& 1 = _
    rw [Nat.and_one_is_mod]
    omega
  rcases Nat.mod_two_eq_zero_or_one x.toBitVec.toNat with h | h
  · left; rw [← Int32.toBitVec_inj, e, h]; rfl
  · right; rw [← Int32.toBitVec_inj, e, h]; rfl
/-- bit k of a word -/
def wbt (x : Int32) (k : Nat) : Nat := (kv_shr x (Int32.ofNat k) &&& 1).toNatClampNeg
theorem wbt_eq (x : Int32) (k : Nat) : kv_shr x (Int32.ofNat k) &&& 1 = Int32.ofNat (wbt x k) ∧ wbt x k ≤ 1 := by
  unfold wbt
  rcases and1 (kv_shr x (Int32.ofNat k)) with h | h <;> rw [h] <;> decide
def upN (H : Nat → Nat) (row : Nat) (x : Int32) (i : Nat) : Nat → Nat := fun r => if row ≤ r ∧ r < row + i then wbt x (r - row) else H r
theorem upN_0 (H : Nat → Nat) (row : Nat) (x : Int32) : upN H row x 0 = H := by funext r; unfold upN; rw [if_neg (by omega)]
theorem upN_s (H : Nat → Nat) (row : Nat) (x : Int32) (i : Nat) : up1 (upN H row x i) (row + i) (wbt x i) = upN H row x (i + 1) := by
  funext r
  by_cases e : r = row + i
  · rw [up1_eq e]; unfold upN; rw [if_pos (by omega), show r - row = i by omega]
  · rw [up1_ne e]; unfold upN
    by_cases c : row ≤ r ∧ r < row + i
    · rw [if_pos c, if_pos (by omega)]
    · rw [if_neg c, if_neg (by omega)]
/-- the first lack among rows -/
def fla (σ : kv_S) (f row : Nat) : Nat → Nat → Int32
  | 0, _ => 0
  | m + 1, j => if lck σ f (row + j) = 0 then fla σ f row m (j + 1) else lck σ f (row + j)
theorem fla_0 {σ : kv_S} {f row : Nat} : ∀ m j, fla σ f row m j = 0 → ∀ i, i < m → lck σ f (row + (j + i)) = 0
  | 0, j, _, i, hi => absurd hi (by omega)
  | m + 1, j, h, i, hi => by
    unfold fla at h
    by_cases c : lck σ f (row + j) = 0
    · rw [if_pos c] at h
      by_cases e : i = 0
      · rw [e, Nat.add_zero]; exact c
      · have := fla_0 m (j + 1) h (i - 1) (by omega)
        rw [show j + 1 + (i - 1) = j + i by omega] at this
        exact this
    · rw [if_neg c] at h; exact absurd h c
section LM
variable {d : Nat} {σ : kv_S} {Φ : Option Value → kv_S → Prop}
theorem m_lacks' (h : JS σ) {f w row : Nat} {L H : Nat → Nat} (hf : f < 16) (hw : w ≤ 8) (hL : ∀ s, s < 32 → 8 * s < 2 ^ w → L s ≤ 8) (hM : MF σ f w L H) (hr : row < 2 ^ w) : Wc d 129 [.ref 149, .int (Int32.ofNat f), .int (Int32.ofNat row)] σ Φ = Φ (some (.int (lck σ f row))) σ := by
  have hW := pw8 hw
  have hl := hL (row / 8) (by omega) (by omega)
  have el2 := (hM.2 (row / 8) (by omega) (by omega)).1
  have e := lft_of (row := row) hl el2
  unfold lck
  rw [e]
  by_cases c : L (row / 8) = 0
  · rw [c] at el2
    simp only [c_129, g_129_0, g_129_1, g_129_4, g_129_6, g_129_7, g_129_8, g_129_9, g_129_11, g_129_12, g_129_13, g_129_14, g_129_15, g_129_16, g_129_19, g_129_21, g_129_24, g_129_25, g_129_27, g_129_28, g_129_29, g_129_32, g_129_34, g_129_37, g_129_38, kv_w8_0, kv_w8_1, kv_w8_2, kv_w8_3, kv_w8_4, ari_aa, ari_al, ari_la, ari_mm, ari_ml, ari_lm, ari_ltl, ari_llt, ari_lt, ari_le, ari_lel, ari_lle, ari_0, ari_eq, ari_eql, ari_leq, ari_cl, Nat.not_lt_zero, Bool.false_eq_true, Option.toList_some, Option.toList_none, List.cons_append, List.nil_append, kv_rv, kc1_i, kc1_r, kc1_n, n10, n01, n1514, n1213, n1312, if_true, if_false, not_true_eq_false, not_false_eq_true, and_self, true_and, and_true, false_and, and_false, or_true, true_or, or_false, false_or, Nat.reduceLeDiff, Nat.reduceLT, Nat.reduceEqDiff, Nat.reduceAdd, ari_div, ari_rem, (show ¬ (8 : Int32) = 0 by decide), s_149 h, s_152 h, r_149_4 h, el2, c, (show row < 2147483648 by omega), (show row / 8 < 32 by omega), (show row / 8 < 2147483648 by omega), (show 32 * f + row / 8 < 512 by omega), (show 32 * f + row / 8 < 2147483648 by omega)]
  · by_cases c2 : row % 8 < L (row / 8)
    · simp only [c_129, g_129_0, g_129_1, g_129_4, g_129_6, g_129_7, g_129_8, g_129_9, g_129_11, g_129_12, g_129_13, g_129_14, g_129_15, g_129_16, g_129_19, g_129_21, g_129_24, g_129_25, g_129_27, g_129_28, g_129_29, g_129_32, g_129_34, g_129_37, g_129_38, kv_w8_0, kv_w8_1, kv_w8_2, kv_w8_3, kv_w8_4, ari_aa, ari_al, ari_la, ari_mm, ari_ml, ari_lm, ari_ltl, ari_llt, ari_lt, ari_le, ari_lel, ari_lle, ari_0, ari_eq, ari_eql, ari_leq, ari_cl, Nat.not_lt_zero, Bool.false_eq_true, Option.toList_some, Option.toList_none, List.cons_append, List.nil_append, kv_rv, kc1_i, kc1_r, kc1_n, n10, n01, n1514, n1213, n1312, if_true, if_false, not_true_eq_false, not_false_eq_true, and_self, true_and, and_true, false_and, and_false, or_true, true_or, or_false, false_or, Nat.reduceLeDiff, Nat.reduceLT, Nat.reduceEqDiff, Nat.reduceAdd, ari_div, ari_rem, (show ¬ (8 : Int32) = 0 by decide), s_149 h, s_152 h, r_149_4 h, el2, c, c2, (show row < 2147483648 by omega), (show row / 8 < 32 by omega), (show row / 8 < 2147483648 by omega), (show 32 * f + row / 8 < 512 by omega), (show 32 * f + row / 8 < 2147483648 by omega), (show L (row / 8) < 9 by omega), (show L (row / 8) < 2147483648 by omega), (show row % 8 < 8 by omega), (show row % 8 < 2147483648 by omega)]
    · simp only [c_129, g_129_0, g_129_1, g_129_4, g_129_6, g_129_7, g_129_8, g_129_9, g_129_11, g_129_12, g_129_13, g_129_14, g_129_15, g_129_16, g_129_19, g_129_21, g_129_24, g_129_25, g_129_27, g_129_28, g_129_29, g_129_32, g_129_34, g_129_37, g_129_38, kv_w8_0, kv_w8_1, kv_w8_2, kv_w8_3, kv_w8_4, ari_aa, ari_al, ari_la, ari_mm, ari_ml, ari_lm, ari_ltl, ari_llt, ari_lt, ari_le, ari_lel, ari_lle, ari_0, ari_eq, ari_eql, ari_leq, ari_cl, Nat.not_lt_zero, Bool.false_eq_true, Option.toList_some, Option.toList_none, List.cons_append, List.nil_append, kv_rv, kc1_i, kc1_r, kc1_n, n10, n01, n1514, n1213, n1312, if_true, if_false, not_true_eq_false, not_false_eq_true, and_self, true_and, and_true, false_and, and_false, or_true, true_or, or_false, false_or, Nat.reduceLeDiff, Nat.reduceLT, Nat.reduceEqDiff, Nat.reduceAdd, ari_div, ari_rem, (show ¬ (8 : Int32) = 0 by decide), s_149 h, s_152 h, r_149_4 h, el2, c, c2, (show row < 2147483648 by omega), (show row / 8 < 32 by omega), (show row / 8 < 2147483648 by omega), (show 32 * f + row / 8 < 512 by omega), (show 32 * f + row / 8 < 2147483648 by omega), (show L (row / 8) < 9 by omega), (show L (row / 8) < 2147483648 by omega), (show row % 8 < 8 by omega), (show row % 8 < 2147483648 by omega)]
end LM
section BI
variable {d : Nat} {σ : kv_S} {Φ : Option Value → kv_S → Prop}
theorem bits_lc (h : JS σ) {f w row n : Nat} {x : Int32} (hf : f < 16) (hj : JF1' σ f w) (hn : row + n ≤ 2 ^ w) (H1 : fla σ f row n 0 = 0 → ∀ v7, Wp (d + 1) 22 83 [.ref 8, .int (Int32.ofNat f), .int (Int32.ofNat row), .int x, .int (Int32.ofNat n), .ref (37 + 4 * f), .int (Int32.ofNat n), v7] [] σ Φ) (H2 : ¬ fla σ f row n 0 = 0 → Φ (some (.int (fla σ f row n 0))) σ) : ∀ m j, j + m = n → fla σ f row n 0 = fla σ f row m j → ∀ v7 : Value, Wp (d + 1) 22 51 [.ref 8, .int (Int32.ofNat f), .int (Int32.ofNat row), .int x, .int (Int32.ofNat n), .ref (37 + 4 * f), .int (Int32.ofNat j), v7] [] σ Φ
  | 0, j, e, e2, v7 => by
    have := pw8 hj.2.1
    have e3 : j = n := by omega
    subst e3
    simp only [g_22_51, g_22_53, g_22_55, ari_aa, ari_al, ari_la, ari_mm, ari_ml, ari_lm, ari_ltl, ari_llt, ari_lt, ari_le, ari_lel, ari_lle, ari_0, ari_eq, ari_eql, ari_leq, ari_cl, Nat.not_lt_zero, Bool.false_eq_true, Option.toList_some, Option.toList_none, List.cons_append, List.nil_append, kv_rv, kc1_i, kc1_r, kc1_n, n10, n01, n1514, n1213, n1312, if_true, if_false, not_true_eq_false, not_false_eq_true, and_self, true_and, and_true, false_and, and_false, or_true, true_or, or_false, false_or, Nat.reduceLeDiff, Nat.reduceLT, Nat.reduceEqDiff, Nat.reduceAdd, (show j < 257 by omega), (show j < 2147483648 by omega), (show j ≤ j by omega)]
    exact H1 (e2.trans rfl) v7
  | m + 1, j, e, e2, v7 => by
    have := pw8 hj.2.1
    simp only [g_22_51, g_22_53, g_22_55, ari_aa, ari_al, ari_la, ari_mm, ari_ml, ari_lm, ari_ltl, ari_llt, ari_lt, ari_le, ari_lel, ari_lle, ari_0, ari_eq, ari_eql, ari_leq, ari_cl, Nat.not_lt_zero, Bool.false_eq_true, Option.toList_some, Option.toList_none, List.cons_append, List.nil_append, kv_rv, kc1_i, kc1_r, kc1_n, n10, n01, n1514, n1213, n1312, if_true, if_false, not_true_eq_false, not_false_eq_true, and_self, true_and, and_true, false_and, and_false, or_true, true_or, or_false, false_or, Nat.reduceLeDiff, Nat.reduceLT, Nat.reduceEqDiff, Nat.reduceAdd, (show j < 257 by omega), (show j < 2147483648 by omega), (show n < 257 by omega), (show n < 2147483648 by omega), (show ¬ n ≤ j by omega)]
    have e2 : fla σ f row n 0 = if lck σ f (row + j) = 0 then fla σ f row m (j + 1) else lck σ f (row + j) := e2
    by_cases c : lck σ f (row + j) = 0
    · rw [if_pos c] at e2
      simp only [g_22_58, g_22_60, g_22_61, g_22_63, g_22_64, g_22_67, g_22_69, g_22_71, g_22_74, g_22_76, g_22_77, g_22_80, kv_w8_0, kv_w8_1, kv_w8_2, kv_w8_3, kv_w8_4, ari_aa, ari_al, ari_la, ari_mm, ari_ml, ari_lm, ari_ltl, ari_llt, ari_lt, ari_le, ari_lel, ari_lle, ari_0, ari_eq, ari_eql, ari_leq, ari_cl, Nat.not_lt_zero, Bool.false_eq_true, Option.toList_some, Option.toList_none, List.cons_append, List.nil_append, kv_rv, kc1_i, kc1_r, kc1_n, n10, n01, n1514, n1213, n1312, if_true, if_false, not_true_eq_false, not_false_eq_true, and_self, true_and, and_true, false_and, and_false, or_true, true_or, or_false, false_or, Nat.reduceLeDiff, Nat.reduceLT, Nat.reduceEqDiff, Nat.reduceAdd, sT h hf, m_lackAt h hf hj (show row + j < 2 ^ w by omega), c]
      exact bits_lc h hf hj hn H1 H2 m (j + 1) (by omega) e2 _
    · rw [if_neg c] at e2
      simp only [g_22_58, g_22_60, g_22_61, g_22_63, g_22_64, g_22_67, g_22_69, g_22_71, g_22_74, g_22_76, g_22_77, g_22_80, kv_w8_0, kv_w8_1, kv_w8_2, kv_w8_3, kv_w8_4, ari_aa, ari_al, ari_la, ari_mm, ari_ml, ari_lm, ari_ltl, ari_llt, ari_lt, ari_le, ari_lel, ari_lle, ari_0, ari_eq, ari_eql, ari_leq, ari_cl, Nat.not_lt_zero, Bool.false_eq_true, Option.toList_some, Option.toList_none, List.cons_append, List.nil_append, kv_rv, kc1_i, kc1_r, kc1_n, n10, n01, n1514, n1213, n1312, if_true, if_false, not_true_eq_false, not_false_eq_true, and_self, true_and, and_true, false_and, and_false, or_true, true_or, or_false, false_or, Nat.reduceLeDiff, Nat.reduceLT, Nat.reduceEqDiff, Nat.reduceAdd, sT h hf, m_lackAt h hf hj (show row + j < 2 ^ w by omega), c]
      rw [← e2]
      exact H2 (by rw [e2]; exact c)
theorem bits_lm (h : JS σ) {f w row n : Nat} {x : Int32} (hf : f < 16) (hw : w ≤ 8) {L H : Nat → Nat} (hL : ∀ s, s < 32 → 8 * s < 2 ^ w → L s ≤ 8) (hM : MF σ f w L H) (hn : row + n ≤ 2 ^ w) (H1 : fla σ f row n 0 = 0 → ∀ v7, Wp (d + 1) 130 71 [.ref 149, .int (Int32.ofNat f), .int (Int32.ofNat row), .int x, .int (Int32.ofNat n), .int (Int32.ofNat n), v7] [] σ Φ) (H2 : ¬ fla σ f row n 0 = 0 → Φ (some (.int (fla σ f row n 0))) σ) : ∀ m j, j + m = n → fla σ f row n 0 = fla σ f row m j → ∀ v7 : Value, Wp (d + 1) 130 39 [.ref 149, .int (Int32.ofNat f), .int (Int32.ofNat row), .int x, .int (Int32.ofNat n), .int (Int32.ofNat j), v7] [] σ Φ
  | 0, j, e, e2, v7 => by
    have := pw8 hw
    have e3 : j = n := by omega
    subst e3
    simp only [g_130_39, g_130_41, g_130_43, ari_aa, ari_al, ari_la, ari_mm, ari_ml, ari_lm, ari_ltl, ari_llt, ari_lt, ari_le, ari_lel, ari_lle, ari_0, ari_eq, ari_eql, ari_leq, ari_cl, Nat.not_lt_zero, Bool.false_eq_true, Option.toList_some, Option.toList_none, List.cons_append, List.nil_append, kv_rv, kc1_i, kc1_r, kc1_n, n10, n01, n1514, n1213, n1312, if_true, if_false, not_true_eq_false, not_false_eq_true, and_self, true_and, and_true, false_and, and_false, or_true, true_or, or_false, false_or, Nat.reduceLeDiff, Nat.reduceLT, Nat.reduceEqDiff, Nat.reduceAdd, (show j < 257 by omega), (show j < 2147483648 by omega), (show j ≤ j by omega)]
    exact H1 (e2.trans rfl) v7
  | m + 1, j, e, e2, v7 => by
    have := pw8 hw
    simp only [g_130_39, g_130_41, g_130_43, ari_aa, ari_al, ari_la, ari_mm, ari_ml, ari_lm, ari_ltl, ari_llt, ari_lt, ari_le, ari_lel, ari_lle, ari_0, ari_eq, ari_eql, ari_leq, ari_cl, Nat.not_lt_zero, Bool.false_eq_true, Option.toList_some, Option.toList_none, List.cons_append, List.nil_append, kv_rv, kc1_i, kc1_r, kc1_n, n10, n01, n1514, n1213, n1312, if_true, if_false, not_true_eq_false, not_false_eq_true, and_self, true_and, and_true, false_and, and_false, or_true, true_or, or_false, false_or, Nat.reduceLeDiff, Nat.reduceLT, Nat.reduceEqDiff, Nat.reduceAdd, (show j < 257 by omega), (show j < 2147483648 by omega), (show n < 257 by omega), (show n < 2147483648 by omega), (show ¬ n ≤ j by omega)]
    have e2 : fla σ f row n 0 = if lck σ f (row + j) = 0 then fla σ f row m (j + 1) else lck σ f (row + j) := e2
    by_cases c : lck σ f (row + j) = 0
    · rw [if_pos c] at e2
      simp only [g_130_46, g_130_47, g_130_48, g_130_49, g_130_51, g_130_52, g_130_55, g_130_57, g_130_59, g_130_62, g_130_64, g_130_65, g_130_68, kv_w8_0, kv_w8_1, kv_w8_2, kv_w8_3, kv_w8_4, ari_aa, ari_al, ari_la, ari_mm, ari_ml, ari_lm, ari_ltl, ari_llt, ari_lt, ari_le, ari_lel, ari_lle, ari_0, ari_eq, ari_eql, ari_leq, ari_cl, Nat.not_lt_zero, Bool.false_eq_true, Option.toList_some, Option.toList_none, List.cons_append, List.nil_append, kv_rv, kc1_i, kc1_r, kc1_n, n10, n01, n1514, n1213, n1312, if_true, if_false, not_true_eq_false, not_false_eq_true, and_self, true_and, and_true, false_and, and_false, or_true, true_or, or_false, false_or, Nat.reduceLeDiff, Nat.reduceLT, Nat.reduceEqDiff, Nat.reduceAdd, s_149 h, m_lacks' h hf hw hL hM (show row + j < 2 ^ w by omega), c]
      exact bits_lm h hf hw hL hM hn H1 H2 m (j + 1) (by omega) e2 _
    · rw [if_neg c] at e2
      simp only [g_130_46, g_130_47, g_130_48, g_130_49, g_130_51, g_130_52, g_130_55, g_130_57, g_130_59, g_130_62, g_130_64, g_130_65, g_130_68, kv_w8_0, kv_w8_1, kv_w8_2, kv_w8_3, kv_w8_4, ari_aa, ari_al, ari_la, ari_mm, ari_ml, ari_lm, ari_ltl, ari_llt, ari_lt, ari_le, ari_lel, ari_lle, ari_0, ari_eq, ari_eql, ari_leq, ari_cl, Nat.not_lt_zero, Bool.false_eq_true, Option.toList_some, Option.toList_none, List.cons_append, List.nil_append, kv_rv, kc1_i, kc1_r, kc1_n, n10, n01, n1514, n1213, n1312, if_true, if_false, not_true_eq_false, not_false_eq_true, and_self, true_and, and_true, false_and, and_false, or_true, true_or, or_false, false_or, Nat.reduceLeDiff, Nat.reduceLT, Nat.reduceEqDiff, Nat.reduceAdd, s_149 h, m_lacks' h hf hw hL hM (show row + j < 2 ^ w by omega), c]
      rw [← e2]
      exact H2 (by rw [e2]; exact c)
/-- the class writes the bits -/
theorem bits_wc {f w row n : Nat} {x : Int32} {L H : Nat → Nat} (hf : f < 16) (hw : w ≤ 8) (hL : ∀ s, s < 32 → 8 * s < 2 ^ w → L s ≤ 8) (hn : row + n ≤ 2 ^ w) (hl : ∀ i, i < n → (row + i) % 8 < L ((row + i) / 8)) (σ0 : kv_S) (h : JS σ0) (HΦ : ∀ τ, FR (fun b j => 38 + 4 * f ≤ b ∧ b ≤ 39 + 4 * f) σ0 τ → CF τ f w L (upN H row x n) → Φ (some (.int (Int32.ofNat n))) τ) : ∀ m i, i + m = n → ∀ σ, FR (fun b j => 38 + 4 * f ≤ b ∧ b ≤ 39 + 4 * f) σ0 σ → CF σ f w L (upN H row x i) → ∀ v7 : Value, Wp (d + 1) 22 86 [.ref 8, .int (Int32.ofNat f), .int (Int32.ofNat row), .int x, .int (Int32.ofNat n), .ref (37 + 4 * f), .int (Int32.ofNat i), v7] [] σ Φ
  | 0, i, e, σ, fr, hc, v7 => by
    have := pw8 hw
    have e3 : i = n := by omega
    subst e3
    simp only [g_22_86, g_22_88, g_22_90, g_22_114, g_22_116, ari_aa, ari_al, ari_la, ari_mm, ari_ml, ari_lm, ari_ltl, ari_llt, ari_lt, ari_le, ari_lel, ari_lle, ari_0, ari_eq, ari_eql, ari_leq, ari_cl, Nat.not_lt_zero, Bool.false_eq_true, Option.toList_some, Option.toList_none, List.cons_append, List.nil_append, kv_rv, kc1_i, kc1_r, kc1_n, n10, n01, n1514, n1213, n1312, if_true, if_false, not_true_eq_false, not_false_eq_true, and_self, true_and, and_true, false_and, and_false, or_true, true_or, or_false, false_or, Nat.reduceLeDiff, Nat.reduceLT, Nat.reduceEqDiff, Nat.reduceAdd, (show i < 257 by omega), (show i < 2147483648 by omega), (show i ≤ i by omega)]
    exact HΦ σ fr hc
  | m + 1, i, e, σ, fr, hc, v7 => by
    have := pw8 hw
    simp only [g_22_86, g_22_88, g_22_90, ari_aa, ari_al, ari_la, ari_mm, ari_ml, ari_lm, ari_ltl, ari_llt, ari_lt, ari_le, ari_lel, ari_lle, ari_0, ari_eq, ari_eql, ari_leq, ari_cl, Nat.not_lt_zero, Bool.false_eq_true, Option.toList_some, Option.toList_none, List.cons_append, List.nil_append, kv_rv, kc1_i, kc1_r, kc1_n, n10, n01, n1514, n1213, n1312, if_true, if_false, not_true_eq_false, not_false_eq_true, and_self, true_and, and_true, false_and, and_false, or_true, true_or, or_false, false_or, Nat.reduceLeDiff, Nat.reduceLT, Nat.reduceEqDiff, Nat.reduceAdd, (show i < 257 by omega), (show i < 2147483648 by omega), (show n < 257 by omega), (show n < 2147483648 by omega), (show ¬ n ≤ i by omega)]
    obtain ⟨b1, b2⟩ := wbt_eq x i
    simp only [g_22_93, g_22_95, g_22_96, g_22_98, g_22_99, g_22_100, g_22_102, g_22_103, g_22_104, g_22_105, kv_w8_0, kv_w8_1, kv_w8_2, kv_w8_3, kv_w8_4, ari_aa, ari_al, ari_la, ari_mm, ari_ml, ari_lm, ari_ltl, ari_llt, ari_lt, ari_le, ari_lel, ari_lle, ari_0, ari_eq, ari_eql, ari_leq, ari_cl, Nat.not_lt_zero, Bool.false_eq_true, Option.toList_some, Option.toList_none, List.cons_append, List.nil_append, kv_rv, kc1_i, kc1_r, kc1_n, n10, n01, n1514, n1213, n1312, if_true, if_false, not_true_eq_false, not_false_eq_true, and_self, true_and, and_true, false_and, and_false, or_true, true_or, or_false, false_or, Nat.reduceLeDiff, Nat.reduceLT, Nat.reduceEqDiff, Nat.reduceAdd, sT (fr.js h) hf, b1]
    refine m_hold (fr.js h) hf hw hL hc (show row + i < 2 ^ w by omega) (hl i (by omega)) (by omega) (fun τ fr2 hc2 => ?_)
    simp only [g_22_108, g_22_111, ari_aa, ari_al, ari_la, ari_mm, ari_ml, ari_lm, ari_ltl, ari_llt, ari_lt, ari_le, ari_lel, ari_lle, ari_0, ari_eq, ari_eql, ari_leq, ari_cl, Nat.not_lt_zero, Bool.false_eq_true, Option.toList_some, Option.toList_none, List.cons_append, List.nil_append, kv_rv, kc1_i, kc1_r, kc1_n, n10, n01, n1514, n1213, n1312, if_true, if_false, not_true_eq_false, not_false_eq_true, and_self, true_and, and_true, false_and, and_false, or_true, true_or, or_false, false_or, Nat.reduceLeDiff, Nat.reduceLT, Nat.reduceEqDiff, Nat.reduceAdd]
    rw [upN_s] at hc2
    exact bits_wc hf hw hL hn hl σ0 h HΦ m (i + 1) (by omega) τ (fr.tr (fr2.mono (fun b j q => by omega))) hc2 _
theorem i2b1 : ∀ v, v ≤ 1 → (Int32.ofNat v).toInt8.toInt32 = Int32.ofNat v ∧ vp_nar .byte (Int32.ofNat v) = Int32.ofNat v := by decide
theorem bits_wm {f w row n : Nat} {x : Int32} {L H : Nat → Nat} (hf : f < 16) (hw : w ≤ 8) (hL : ∀ s, s < 32 → 8 * s < 2 ^ w → L s ≤ 8) (hn : row + n ≤ 2 ^ w) (σ0 : kv_S) (h : JS σ0) (HΦ : ∀ τ, FR (fun b j => b = 151 ∧ 256 * f ≤ j ∧ j < 256 * f + 256) σ0 τ → MF τ f w L (upN H row x n) → Φ (some (.int (Int32.ofNat n))) τ) : ∀ m i, i + m = n → ∀ σ, FR (fun b j => b = 151 ∧ 256 * f ≤ j ∧ j < 256 * f + 256) σ0 σ → MF σ f w L (upN H row x i) → ∀ v7 : Value, Wp (d + 1) 130 74 [.ref 149, .int (Int32.ofNat f), .int (Int32.ofNat row), .int x, .int (Int32.ofNat n), .int (Int32.ofNat i), v7] [] σ Φ
  | 0, i, e, σ, fr, hc, v7 => by
    have := pw8 hw
    have e3 : i = n := by omega
    subst e3
    simp only [g_130_74, g_130_76, g_130_78, g_130_109, g_130_111, ari_aa, ari_al, ari_la, ari_mm, ari_ml, ari_lm, ari_ltl, ari_llt, ari_lt, ari_le, ari_lel, ari_lle, ari_0, ari_eq, ari_eql, ari_leq, ari_cl, Nat.not_lt_zero, Bool.false_eq_true, Option.toList_some, Option.toList_none, List.cons_append, List.nil_append, kv_rv, kc1_i, kc1_r, kc1_n, n10, n01, n1514, n1213, n1312, if_true, if_false, not_true_eq_false, not_false_eq_true, and_self, true_and, and_true, false_and, and_false, or_true, true_or, or_false, false_or, Nat.reduceLeDiff, Nat.reduceLT, Nat.reduceEqDiff, Nat.reduceAdd, (show i < 257 by omega), (show i < 2147483648 by omega), (show i ≤ i by omega)]
    exact HΦ σ fr hc
  | m + 1, i, e, σ, fr, hc, v7 => by
    have := pw8 hw
    simp only [g_130_74, g_130_76, g_130_78, ari_aa, ari_al, ari_la, ari_mm, ari_ml, ari_lm, ari_ltl, ari_llt, ari_lt, ari_le, ari_lel, ari_lle, ari_0, ari_eq, ari_eql, ari_leq, ari_cl, Nat.not_lt_zero, Bool.false_eq_true, Option.toList_some, Option.toList_none, List.cons_append, List.nil_append, kv_rv, kc1_i, kc1_r, kc1_n, n10, n01, n1514, n1213, n1312, if_true, if_false, not_true_eq_false, not_false_eq_true, and_self, true_and, and_true, false_and, and_false, or_true, true_or, or_false, false_or, Nat.reduceLeDiff, Nat.reduceLT, Nat.reduceEqDiff, Nat.reduceAdd, (show i < 257 by omega), (show i < 2147483648 by omega), (show n < 257 by omega), (show n < 2147483648 by omega), (show ¬ n ≤ i by omega)]
    obtain ⟨b1, b2⟩ := wbt_eq x i
    obtain ⟨b3, b4⟩ := i2b1 (wbt x i) b2
    simp only [g_130_81, g_130_82, g_130_85, g_130_88, g_130_89, g_130_90, g_130_91, g_130_92, g_130_94, g_130_95, g_130_96, g_130_98, g_130_99, g_130_100, g_130_101, g_130_102, g_130_103, g_130_106, kv_w8_0, kv_w8_1, kv_w8_2, kv_w8_3, kv_w8_4, ari_aa, ari_al, ari_la, ari_mm, ari_ml, ari_lm, ari_ltl, ari_llt, ari_lt, ari_le, ari_lel, ari_lle, ari_0, ari_eq, ari_eql, ari_leq, ari_cl, Nat.not_lt_zero, Bool.false_eq_true, Option.toList_some, Option.toList_none, List.cons_append, List.nil_append, kv_rv, kc1_i, kc1_r, kc1_n, n10, n01, n1514, n1213, n1312, if_true, if_false, not_true_eq_false, not_false_eq_true, and_self, true_and, and_true, false_and, and_false, or_true, true_or, or_false, false_or, Nat.reduceLeDiff, Nat.reduceLT, Nat.reduceEqDiff, Nat.reduceAdd, s_149 (fr.js h), s_151 (fr.js h), r_149_3 (fr.js h), b1, b3, b4, (show 256 * f + row + i < 4096 by omega), (show 256 * f + row + i < 2147483648 by omega)]
    have hc2 := hc.put (v := wbt x i) hw hL (show row + i < 2 ^ w by omega)
    rw [upN_s, ← Nat.add_assoc] at hc2
    exact bits_wm hf hw hL hn σ0 h HΦ m (i + 1) (by omega) _ (fr.si (by omega)) hc2 _
end BI
theorem LH.upN {w row i : Nat} {x : Int32} {L H : Nat → Nat} (h : LH w L H) : LH w L (upN H row x i) := by
  refine ⟨h.1, h.2.1, fun s hs h8 => ⟨(h.2.2 s hs h8).1, (h.2.2 s hs h8).2.1, fun p hp => ?_⟩⟩
  show (if _ then _ else _) ≤ 2
  by_cases c : row ≤ 8 * s + p ∧ 8 * s + p < row + i
  · rw [if_pos c]; have := (wbt_eq x (8 * s + p - row)).2; omega
  · rw [if_neg c]; exact (h.2.2 s hs h8).2.2 p hp
section BJ
variable {d : Nat} {σ : kv_S} {Φ : Option Value → kv_S → Prop}
theorem bits_cb1 (h : JS σ) {F f w row : Nat} (hF : F ≤ 16) (hk : kv_i σ 8 9 = Int32.ofNat F) (hf : f < F) (hj : JF1' σ f w) (hr : row < 2 ^ w) {x n : Int32} (hn : ¬ (¬ n < 1 ∧ n ≤ 32)) : Wc (d + 2) 22 [.ref 8, .int (Int32.ofNat f), .int (Int32.ofNat row), .int x, .int n] σ Φ = Φ (some (.int (-1))) σ := by
  by_cases c : n < 1
  · simp only [c_22, g_22_0, g_22_1, g_22_2, g_22_3, g_22_6, g_22_9, g_22_11, g_22_12, g_22_15, g_22_17, g_22_19, g_22_22, g_22_24, g_22_25, g_22_28, g_22_29, g_22_30, g_22_33, g_22_34, g_22_35, g_22_38, g_22_39, kv_w8_0, kv_w8_1, kv_w8_2, kv_w8_3, kv_w8_4, Nat.not_lt_zero, Bool.false_eq_true, Option.toList_some, Option.toList_none, List.cons_append, List.nil_append, kv_rv, kc1_i, kc1_r, kc1_n, n10, n01, n1514, n1213, n1312, if_true, if_false, not_true_eq_false, not_false_eq_true, and_self, true_and, and_true, false_and, and_false, or_true, true_or, or_false, false_or, Nat.reduceLeDiff, Nat.reduceLT, Nat.reduceEqDiff, Nat.reduceAdd, m_isFR_t h hF hk hf hj.2.1 hj.2.2.1 hr, c, s_8 h]
  · have c2 : (32 : Int32) < n := by rw [← Int32.not_le]; exact fun q => hn ⟨c, q⟩
    simp only [c_22, g_22_0, g_22_1, g_22_2, g_22_3, g_22_6, g_22_9, g_22_11, g_22_12, g_22_15, g_22_17, g_22_19, g_22_22, g_22_24, g_22_25, g_22_28, g_22_29, g_22_30, g_22_33, g_22_34, g_22_35, g_22_38, g_22_39, kv_w8_0, kv_w8_1, kv_w8_2, kv_w8_3, kv_w8_4, Nat.not_lt_zero, Bool.false_eq_true, Option.toList_some, Option.toList_none, List.cons_append, List.nil_append, kv_rv, kc1_i, kc1_r, kc1_n, n10, n01, n1514, n1213, n1312, if_true, if_false, not_true_eq_false, not_false_eq_true, and_self, true_and, and_true, false_and, and_false, or_true, true_or, or_false, false_or, Nat.reduceLeDiff, Nat.reduceLT, Nat.reduceEqDiff, Nat.reduceAdd, m_isFR_t h hF hk hf hj.2.1 hj.2.2.1 hr, c, c2, s_8 h]
theorem bits_cb2 (h : JS σ) {F f w row n : Nat} (hF : F ≤ 16) (hk : kv_i σ 8 9 = Int32.ofNat F) (hf : f < F) (hj : JF1' σ f w) (hr : row < 2 ^ w) {x : Int32} (h1 : 1 ≤ n) (h2 : n ≤ 32) (hb : ¬ row + n ≤ 2 ^ w) : Wc (d + 2) 22 [.ref 8, .int (Int32.ofNat f), .int (Int32.ofNat row), .int x, .int (Int32.ofNat n)] σ Φ = Φ (some (.int (-1))) σ := by
  have hW := pw8 hj.2.1
  have hf16 : f < 16 := by omega
  simp only [c_22, g_22_0, g_22_1, g_22_2, g_22_3, g_22_6, g_22_9, g_22_11, g_22_12, g_22_15, g_22_17, g_22_19, g_22_22, g_22_24, g_22_25, g_22_28, g_22_29, g_22_30, g_22_33, g_22_34, g_22_35, g_22_38, g_22_39, kv_w8_0, kv_w8_1, kv_w8_2, kv_w8_3, kv_w8_4, ari_aa, ari_al, ari_la, ari_mm, ari_ml, ari_lm, ari_ltl, ari_llt, ari_lt, ari_le, ari_lel, ari_lle, ari_0, ari_eq, ari_eql, ari_leq, ari_cl, Nat.not_lt_zero, Bool.false_eq_true, Option.toList_some, Option.toList_none, List.cons_append, List.nil_append, kv_rv, kc1_i, kc1_r, kc1_n, n10, n01, n1514, n1213, n1312, if_true, if_false, not_true_eq_false, not_false_eq_true, and_self, true_and, and_true, false_and, and_false, or_true, true_or, or_false, false_or, Nat.reduceLeDiff, Nat.reduceLT, Nat.reduceEqDiff, Nat.reduceAdd, ari_ss, m_isFR_t h hF hk hf hj.2.1 hj.2.2.1 hr, m_rowCount h hf16 hj.2.1 hj.2.2.1, sT h hf16, rT h hf16, s_8 h, s_9 h, r_8_0 h, (show f < 16 by omega), (show f < 2147483648 by omega), (show n < 33 by omega), (show n < 2147483648 by omega), (show ¬ n < 1 by omega), (show ¬ 32 < n by omega), (show row ≤ 2 ^ w by omega), (show 2 ^ w - row < 257 by omega), (show 2 ^ w - row < 2147483648 by omega), (show ¬ n ≤ 2 ^ w - row by omega)]
theorem bits_mb1 (h : JS σ) {x n p q : Int32} (hn : ¬ (¬ n < 1 ∧ n ≤ 32)) : Wc (d + 2) 130 [.ref 149, .int p, .int q, .int x, .int n] σ Φ = Φ (some (.int (-1))) σ := by
  by_cases c : n < 1
  · simp only [c_130, g_130_0, g_130_2, g_130_3, g_130_6, g_130_8, g_130_10, g_130_13, g_130_14, g_130_15, g_130_16, g_130_19, g_130_22, g_130_23, g_130_25, g_130_26, g_130_27, g_130_28, g_130_31, g_130_34, g_130_35, kv_w8_0, kv_w8_1, kv_w8_2, kv_w8_3, kv_w8_4, Nat.not_lt_zero, Bool.false_eq_true, Option.toList_some, Option.toList_none, List.cons_append, List.nil_append, kv_rv, kc1_i, kc1_r, kc1_n, n10, n01, n1514, n1213, n1312, if_true, if_false, not_true_eq_false, not_false_eq_true, and_self, true_and, and_true, false_and, and_false, or_true, true_or, or_false, false_or, Nat.reduceLeDiff, Nat.reduceLT, Nat.reduceEqDiff, Nat.reduceAdd, c]
  · have c2 : (32 : Int32) < n := by rw [← Int32.not_le]; exact fun q => hn ⟨c, q⟩
    simp only [c_130, g_130_0, g_130_2, g_130_3, g_130_6, g_130_8, g_130_10, g_130_13, g_130_14, g_130_15, g_130_16, g_130_19, g_130_22, g_130_23, g_130_25, g_130_26, g_130_27, g_130_28, g_130_31, g_130_34, g_130_35, kv_w8_0, kv_w8_1, kv_w8_2, kv_w8_3, kv_w8_4, Nat.not_lt_zero, Bool.false_eq_true, Option.toList_some, Option.toList_none, List.cons_append, List.nil_append, kv_rv, kc1_i, kc1_r, kc1_n, n10, n01, n1514, n1213, n1312, if_true, if_false, not_true_eq_false, not_false_eq_true, and_self, true_and, and_true, false_and, and_false, or_true, true_or, or_false, false_or, Nat.reduceLeDiff, Nat.reduceLT, Nat.reduceEqDiff, Nat.reduceAdd, c, c2]
theorem bits_mb2 (h : JS σ) {F f w row n : Nat} (hF : F ≤ 16) (hk : kv_i σ 149 1 = Int32.ofNat F) (hf : f < F) (hj : JF1' σ f w) (hr : row < 2 ^ w) {x : Int32} (h1 : 1 ≤ n) (h2 : n ≤ 32) (hb : ¬ row + n ≤ 2 ^ w) : Wc (d + 2) 130 [.ref 149, .int (Int32.ofNat f), .int (Int32.ofNat row), .int x, .int (Int32.ofNat n)] σ Φ = Φ (some (.int (-1))) σ := by
  have hW := pw8 hj.2.1
  have hf16 : f < 16 := by omega
  simp only [c_130, g_130_0, g_130_2, g_130_3, g_130_6, g_130_8, g_130_10, g_130_13, g_130_14, g_130_15, g_130_16, g_130_19, g_130_22, g_130_23, g_130_25, g_130_26, g_130_27, g_130_28, g_130_31, g_130_34, g_130_35, kv_w8_0, kv_w8_1, kv_w8_2, kv_w8_3, kv_w8_4, ari_aa, ari_al, ari_la, ari_mm, ari_ml, ari_lm, ari_ltl, ari_llt, ari_lt, ari_le, ari_lel, ari_lle, ari_0, ari_eq, ari_eql, ari_leq, ari_cl, Nat.not_lt_zero, Bool.false_eq_true, Option.toList_some, Option.toList_none, List.cons_append, List.nil_append, kv_rv, kc1_i, kc1_r, kc1_n, n10, n01, n1514, n1213, n1312, if_true, if_false, not_true_eq_false, not_false_eq_true, and_self, true_and, and_true, false_and, and_false, or_true, true_or, or_false, false_or, Nat.reduceLeDiff, Nat.reduceLT, Nat.reduceEqDiff, Nat.reduceAdd, m_isRow_t h hF hk hf hj.2.1 hj.2.2.2.1 hr, m_rows_m h hf16 hj.2.1 hj.2.2.2.1, s_149 h, (show f < 16 by omega), (show f < 2147483648 by omega), (show n < 33 by omega), (show n < 2147483648 by omega), (show ¬ n < 1 by omega), (show ¬ 32 < n by omega), (show row + n < 300 by omega), (show row + n < 2147483648 by omega), (show 2 ^ w < 257 by omega), (show 2 ^ w < 2147483648 by omega), (show ¬ row + n ≤ 2 ^ w by omega)]
theorem bits_c0 (h : JS σ) {F f w row n : Nat} (hF : F ≤ 16) (hk : kv_i σ 8 9 = Int32.ofNat F) (hf : f < F) (hj : JF1' σ f w) (hr : row < 2 ^ w) {x : Int32} (h1 : 1 ≤ n) (h2 : n ≤ 32) (hb : row + n ≤ 2 ^ w) : Wc (d + 2) 22 [.ref 8, .int (Int32.ofNat f), .int (Int32.ofNat row), .int x, .int (Int32.ofNat n)] σ Φ = Wp (d + 2) 22 51 [.ref 8, .int (Int32.ofNat f), .int (Int32.ofNat row), .int x, .int (Int32.ofNat n), .ref (37 + 4 * f), .int 0, .null] [] σ Φ := by
  have hW := pw8 hj.2.1
  have hf16 : f < 16 := by omega
  simp only [c_22, g_22_0, g_22_1, g_22_2, g_22_3, g_22_6, g_22_9, g_22_11, g_22_12, g_22_15, g_22_17, g_22_19, g_22_22, g_22_24, g_22_25, g_22_28, g_22_29, g_22_30, g_22_33, g_22_34, g_22_35, g_22_38, g_22_39, g_22_40, g_22_41, g_22_44, g_22_45, g_22_46, g_22_48, g_22_49, kv_w8_0, kv_w8_1, kv_w8_2, kv_w8_3, kv_w8_4, ari_aa, ari_al, ari_la, ari_mm, ari_ml, ari_lm, ari_ltl, ari_llt, ari_lt, ari_le, ari_lel, ari_lle, ari_0, ari_eq, ari_eql, ari_leq, ari_cl, Nat.not_lt_zero, Bool.false_eq_true, Option.toList_some, Option.toList_none, List.cons_append, List.nil_append, kv_rv, kc1_i, kc1_r, kc1_n, n10, n01, n1514, n1213, n1312, if_true, if_false, not_true_eq_false, not_false_eq_true, and_self, true_and, and_true, false_and, and_false, or_true, true_or, or_false, false_or, Nat.reduceLeDiff, Nat.reduceLT, Nat.reduceEqDiff, Nat.reduceAdd, ari_ss, m_isFR_t h hF hk hf hj.2.1 hj.2.2.1 hr, m_rowCount h hf16 hj.2.1 hj.2.2.1, sT h hf16, rT h hf16, s_8 h, s_9 h, r_8_0 h, (show f < 16 by omega), (show f < 2147483648 by omega), (show n < 33 by omega), (show n < 2147483648 by omega), (show ¬ n < 1 by omega), (show ¬ 32 < n by omega), (show row ≤ 2 ^ w by omega), (show 2 ^ w - row < 257 by omega), (show 2 ^ w - row < 2147483648 by omega), (show n ≤ 2 ^ w - row by omega)]
theorem bits_m0 (h : JS σ) {F f w row n : Nat} (hF : F ≤ 16) (hk : kv_i σ 149 1 = Int32.ofNat F) (hf : f < F) (hw : w ≤ 8) (e3 : kv_i σ 150 f = Int32.ofNat w) (hr : row < 2 ^ w) {x : Int32} (h1 : 1 ≤ n) (h2 : n ≤ 32) (hb : row + n ≤ 2 ^ w) : Wc (d + 2) 130 [.ref 149, .int (Int32.ofNat f), .int (Int32.ofNat row), .int x, .int (Int32.ofNat n)] σ Φ = Wp (d + 2) 130 39 [.ref 149, .int (Int32.ofNat f), .int (Int32.ofNat row), .int x, .int (Int32.ofNat n), .int 0, .null] [] σ Φ := by
  have hW := pw8 hw
  have hf16 : f < 16 := by omega
  simp only [c_130, g_130_0, g_130_2, g_130_3, g_130_6, g_130_8, g_130_10, g_130_13, g_130_14, g_130_15, g_130_16, g_130_19, g_130_22, g_130_23, g_130_25, g_130_26, g_130_27, g_130_28, g_130_31, g_130_34, g_130_35, g_130_36, g_130_37, kv_w8_0, kv_w8_1, kv_w8_2, kv_w8_3, kv_w8_4, ari_aa, ari_al, ari_la, ari_mm, ari_ml, ari_lm, ari_ltl, ari_llt, ari_lt, ari_le, ari_lel, ari_lle, ari_0, ari_eq, ari_eql, ari_leq, ari_cl, Nat.not_lt_zero, Bool.false_eq_true, Option.toList_some, Option.toList_none, List.cons_append, List.nil_append, kv_rv, kc1_i, kc1_r, kc1_n, n10, n01, n1514, n1213, n1312, if_true, if_false, not_true_eq_false, not_false_eq_true, and_self, true_and, and_true, false_and, and_false, or_true, true_or, or_false, false_or, Nat.reduceLeDiff, Nat.reduceLT, Nat.reduceEqDiff, Nat.reduceAdd, m_isRow_t h hF hk hf hw e3 hr, m_rows_m h hf16 hw e3, s_149 h, (show f < 16 by omega), (show f < 2147483648 by omega), (show n < 33 by omega), (show n < 2147483648 by omega), (show ¬ n < 1 by omega), (show ¬ 32 < n by omega), (show row + n < 300 by omega), (show row + n < 2147483648 by omega), (show 2 ^ w < 257 by omega), (show 2 ^ w < 2147483648 by omega), (show row + n ≤ 2 ^ w by omega)]
end BJ

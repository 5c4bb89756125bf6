/-! ===== graphs: small methods ===== -/
theorem lu_w : ∀ t, t < 64 → ∀ l, l < 7 → (Int32.ofNat t ^^^ -1) &&& Int32.ofNat (2 ^ l - 1) = Int32.ofNat (wd (unt t) l) := by decide +kernel
theorem fac_k : ∀ m, m < 7 → (kv_ki 4).getD m 0 = Int32.ofNat (fac m) ∧ fac m ≤ 720 := by decide
section GC
variable {d : Nat} {τ : kv_S} {Φ : Option Value → kv_S → Prop}
theorem m_lesser {t l : Nat} (ht : t < 64) (hl : l < 7) : Wc (d + 1) 69 [.int (Int32.ofNat t), .int (Int32.ofNat l)] τ Φ = Φ (some (.int (Int32.ofNat (cnt (unt t) l)))) τ := by
  have h1 := pw1 l
  have h2 : 2 ^ l ≤ 64 := pow6 (by omega)
  have hb := wd_lt (unt t) l
  have e2 : pcn 32 (wd (unt t) l) = cnt (unt t) l := by
    rw [pcn_cnt, cnt_ext (a := l) (b := 32) (by omega) (fun r h1 _ => by rw [wd_tb, decide_eq_false (by omega)]; rfl)]
    exact cnt_congr l (fun r hr => by rw [wd_tb, decide_eq_true hr]; rfl)
  have e1 : (1 : Int32) <<< Int32.ofNat l - 1 = Int32.ofNat (2 ^ l - 1) := by
    have : ∀ l, l < 7 → (1 : Int32) <<< Int32.ofNat l - 1 = Int32.ofNat (2 ^ l - 1) := by decide
    exact this l hl
  simp only [c_69, g_69_0, g_69_1, g_69_2, g_69_3, g_69_4, g_69_5, g_69_6, g_69_7, g_69_8, g_69_9, g_69_12, kv_w8_0, kv_w8_1, kv_w8_2, kv_w8_3, kv_w8_4, Nat.not_lt_zero, Bool.false_eq_true, Option.toList_some, Option.toList_none, List.cons_append, List.nil_append, kv_rv, kc1_i, kc1_r, kc1_n, n10, n01, n1514, n1213, n1312, if_true, if_false, not_true_eq_false, not_false_eq_true, and_self, true_and, and_true, false_and, and_false, or_true, true_or, or_false, false_or, Nat.reduceLeDiff, Nat.reduceLT, Nat.reduceEqDiff, Nat.reduceAdd, ari_31 (show l < 32 by omega), e1, lu_w t ht l hl, m_bitCount (show wd (unt t) l < 4294967296 by omega), e2]
theorem ways_l {n : Nat} (hn : n ≤ 6) : ∀ m k, k + m = n + 1 → 2 ≤ k → Wp d 149 4 [.int (Int32.ofNat n), .int (Int32.ofNat (fac (k - 1))), .int (Int32.ofNat k)] [] τ Φ = Φ (some (.int (Int32.ofNat (fac n)))) τ
  | 0, k, e, h2 => by
    have e2 : k - 1 = n := by omega
    simp only [g_149_4, g_149_5, g_149_6, g_149_19, g_149_20, ari_aa, ari_al, ari_la, ari_mm, ari_ml, ari_lm, ari_ltl, ari_llt, ari_lt, ari_le, ari_lel, ari_lle, ari_0, ari_eq, ari_eql, ari_leq, ari_cl, Nat.not_lt_zero, Bool.false_eq_true, Option.toList_some, Option.toList_none, List.cons_append, List.nil_append, kv_rv, kc1_i, kc1_r, kc1_n, n10, n01, n1514, n1213, n1312, if_true, if_false, not_true_eq_false, not_false_eq_true, and_self, true_and, and_true, false_and, and_false, or_true, true_or, or_false, false_or, Nat.reduceLeDiff, Nat.reduceLT, Nat.reduceEqDiff, Nat.reduceAdd, e2, (show n < 7 by omega), (show n < 2147483648 by omega), (show k < 8 by omega), (show k < 2147483648 by omega), (show n < k by omega), (show n < 2147483648 by omega)]
  | m + 1, k, e, h2 => by
    have e2 : fac (k - 1) * k = fac (k + 1 - 1) := by
      obtain ⟨j, rfl⟩ : ∃ j, k = j + 1 := ⟨k - 1, by omega⟩
      show fac j * (j + 1) = (j + 1) * fac j
      exact Nat.mul_comm _ _
    conv => lhs; simp only [g_149_4, g_149_5, g_149_6, ari_aa, ari_al, ari_la, ari_mm, ari_ml, ari_lm, ari_ltl, ari_llt, ari_lt, ari_le, ari_lel, ari_lle, ari_0, ari_eq, ari_eql, ari_leq, ari_cl, Nat.not_lt_zero, Bool.false_eq_true, Option.toList_some, Option.toList_none, List.cons_append, List.nil_append, kv_rv, kc1_i, kc1_r, kc1_n, n10, n01, n1514, n1213, n1312, if_true, if_false, not_true_eq_false, not_false_eq_true, and_self, true_and, and_true, false_and, and_false, or_true, true_or, or_false, false_or, Nat.reduceLeDiff, Nat.reduceLT, Nat.reduceEqDiff, Nat.reduceAdd, (show n < 7 by omega), (show n < 2147483648 by omega), (show k < 8 by omega), (show k < 2147483648 by omega), (show ¬ n < k by omega)]
    simp only [g_149_9, g_149_10, g_149_11, g_149_12, g_149_13, g_149_16, ari_aa, ari_al, ari_la, ari_mm, ari_ml, ari_lm, ari_ltl, ari_llt, ari_lt, ari_le, ari_lel, ari_lle, ari_0, ari_eq, ari_eql, ari_leq, ari_cl, Nat.not_lt_zero, Bool.false_eq_true, Option.toList_some, Option.toList_none, List.cons_append, List.nil_append, kv_rv, kc1_i, kc1_r, kc1_n, n10, n01, n1514, n1213, n1312, if_true, if_false, not_true_eq_false, not_false_eq_true, and_self, true_and, and_true, false_and, and_false, or_true, true_or, or_false, false_or, Nat.reduceLeDiff, Nat.reduceLT, Nat.reduceEqDiff, Nat.reduceAdd, e2]
    exact ways_l hn m (k + 1) (by omega) (by omega)
theorem m_ways {n : Nat} (hn : n ≤ 6) : Wc d 149 [.int (Int32.ofNat n)] τ Φ = Φ (some (.int (Int32.ofNat (fac n)))) τ := by
  by_cases h : 1 ≤ n
  · have l := ways_l (d := d) (τ := τ) (Φ := Φ) hn (n - 1) 2 (by omega) (by omega)
    simp only [c_149, g_149_0, g_149_1, g_149_2, g_149_3, Nat.not_lt_zero, Bool.false_eq_true, Option.toList_some, Option.toList_none, List.cons_append, List.nil_append, kv_rv, kc1_i, kc1_r, kc1_n, n10, n01, n1514, n1213, n1312, if_true, if_false, not_true_eq_false, not_false_eq_true, and_self, true_and, and_true, false_and, and_false, or_true, true_or, or_false, false_or, Nat.reduceLeDiff, Nat.reduceLT, Nat.reduceEqDiff, Nat.reduceAdd]
    exact l
  · have e : n = 0 := by omega
    subst e
    simp only [c_149, g_149_0, g_149_1, g_149_2, g_149_3, g_149_4, g_149_5, g_149_6, g_149_19, g_149_20, Nat.not_lt_zero, Bool.false_eq_true, Option.toList_some, Option.toList_none, List.cons_append, List.nil_append, kv_rv, kc1_i, kc1_r, kc1_n, n10, n01, n1514, n1213, n1312, if_true, if_false, not_true_eq_false, not_false_eq_true, and_self, true_and, and_true, false_and, and_false, or_true, true_or, or_false, false_or, Nat.reduceLeDiff, Nat.reduceLT, Nat.reduceEqDiff, Nat.reduceAdd, (show Int32.ofNat 0 < 2 by decide)]
    rfl
end GC

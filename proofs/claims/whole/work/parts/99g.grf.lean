/-! ===== graphs: a value that was seen ===== -/
section GF
variable {d : Nat} {τ : kv_S} {Φ : Option Value → kv_S → Prop}
theorem seen_l (js : JS τ) (z : Int64) {n : Nat} (hn : n ≤ 64) : ∀ m i, i + m = n → (∀ k, k < i → ¬ kv_l τ 23 k = z) → Wp d 72 3 [.ref 22, .long z, .null, .int (Int32.ofNat n), .int (Int32.ofNat i)] [] τ Φ = Φ (some (.int (if anyN (fun k => decide (kv_l τ 23 k = z)) n = true then 1 else 0))) τ
  | 0, i, e, h => by
    have e2 : i = n := by omega
    subst e2
    have hf : ¬ anyN (fun k => decide (kv_l τ 23 k = z)) i = true := fun q => by
      obtain ⟨k, h1, h2⟩ := (anyN_iff _).mp q
      exact h k h1 (of_decide_eq_true h2)
    simp only [g_72_3, g_72_5, g_72_6, g_72_29, g_72_30, ari_aa, ari_al, ari_la, ari_mm, ari_ml, ari_lm, ari_ltl, ari_llt, ari_lt, ari_le, ari_lel, ari_lle, ari_0, ari_eq, ari_eql, ari_leq, ari_cl, Nat.not_lt_zero, Bool.false_eq_true, Option.toList_some, Option.toList_none, List.cons_append, List.nil_append, kv_rv, kc1_i, kc1_r, kc1_n, n10, n01, n1514, n1213, n1312, if_true, if_false, not_true_eq_false, not_false_eq_true, and_self, true_and, and_true, false_and, and_false, or_true, true_or, or_false, false_or, Nat.reduceLeDiff, Nat.reduceLT, Nat.reduceEqDiff, Nat.reduceAdd, hf, (show i < 65 by omega), (show i < 2147483648 by omega), (show i ≤ i by omega)]
  | m + 1, i, e, h => by
    by_cases c : kv_l τ 23 i = z
    · have ht : anyN (fun k => decide (kv_l τ 23 k = z)) n = true := (anyN_iff _).mpr ⟨i, by omega, decide_eq_true c⟩
      simp only [g_72_3, g_72_5, g_72_6, g_72_9, g_72_10, g_72_13, g_72_15, g_72_16, g_72_17, g_72_18, g_72_21, g_72_22, ari_aa, ari_al, ari_la, ari_mm, ari_ml, ari_lm, ari_ltl, ari_llt, ari_lt, ari_le, ari_lel, ari_lle, ari_0, ari_eq, ari_eql, ari_leq, ari_cl, Nat.not_lt_zero, Bool.false_eq_true, Option.toList_some, Option.toList_none, List.cons_append, List.nil_append, kv_rv, kc1_i, kc1_r, kc1_n, n10, n01, n1514, n1213, n1312, if_true, if_false, not_true_eq_false, not_false_eq_true, and_self, true_and, and_true, false_and, and_false, or_true, true_or, or_false, false_or, Nat.reduceLeDiff, Nat.reduceLT, Nat.reduceEqDiff, Nat.reduceAdd, s_22 js, r_8_4 js, s_23 js, r_22_0 js, lg_cmp_eq, ht, c, (show i < 64 by omega), (show i < 2147483648 by omega), (show n < 65 by omega), (show n < 2147483648 by omega), (show ¬ n ≤ i by omega)]
    · conv => lhs; simp only [g_72_3, g_72_5, g_72_6, ari_aa, ari_al, ari_la, ari_mm, ari_ml, ari_lm, ari_ltl, ari_llt, ari_lt, ari_le, ari_lel, ari_lle, ari_0, ari_eq, ari_eql, ari_leq, ari_cl, Nat.not_lt_zero, Bool.false_eq_true, Option.toList_some, Option.toList_none, List.cons_append, List.nil_append, kv_rv, kc1_i, kc1_r, kc1_n, n10, n01, n1514, n1213, n1312, if_true, if_false, not_true_eq_false, not_false_eq_true, and_self, true_and, and_true, false_and, and_false, or_true, true_or, or_false, false_or, Nat.reduceLeDiff, Nat.reduceLT, Nat.reduceEqDiff, Nat.reduceAdd, (show i < 64 by omega), (show i < 2147483648 by omega), (show n < 65 by omega), (show n < 2147483648 by omega), (show ¬ n ≤ i by omega)]
      simp only [g_72_9, g_72_10, g_72_13, g_72_15, g_72_16, g_72_17, g_72_18, g_72_21, g_72_22, g_72_23, g_72_26, ari_aa, ari_al, ari_la, ari_mm, ari_ml, ari_lm, ari_ltl, ari_llt, ari_lt, ari_le, ari_lel, ari_lle, ari_0, ari_eq, ari_eql, ari_leq, ari_cl, Nat.not_lt_zero, Bool.false_eq_true, Option.toList_some, Option.toList_none, List.cons_append, List.nil_append, kv_rv, kc1_i, kc1_r, kc1_n, n10, n01, n1514, n1213, n1312, if_true, if_false, not_true_eq_false, not_false_eq_true, and_self, true_and, and_true, false_and, and_false, or_true, true_or, or_false, false_or, Nat.reduceLeDiff, Nat.reduceLT, Nat.reduceEqDiff, Nat.reduceAdd, s_22 js, r_8_4 js, s_23 js, r_22_0 js, lg_cmp_eq, c, (show i < 64 by omega), (show i < 2147483648 by omega)]
      refine seen_l js z hn m (i + 1) (by omega) (fun k hk => ?_)
      by_cases q : k = i
      · rw [q]; exact c
      · exact h k (by omega)
theorem m_isSeen (js : JS τ) (z : Int64) {n : Nat} (hn : n ≤ 64) : Wc d 72 [.ref 22, .long z, .int (Int32.ofNat n)] τ Φ = Φ (some (.int (if anyN (fun k => decide (kv_l τ 23 k = z)) n = true then 1 else 0))) τ := by
  have l := seen_l (d := d) (Φ := Φ) js z hn n 0 (by omega) (fun k hk => absurd hk (by omega))
  simp only [c_72, g_72_0, g_72_1, Nat.not_lt_zero, Bool.false_eq_true, Option.toList_some, Option.toList_none, List.cons_append, List.nil_append, kv_rv, kc1_i, kc1_r, kc1_n, n10, n01, n1514, n1213, n1312, if_true, if_false, not_true_eq_false, not_false_eq_true, and_self, true_and, and_true, false_and, and_false, or_true, true_or, or_false, false_or, Nat.reduceLeDiff, Nat.reduceLT, Nat.reduceEqDiff, Nat.reduceAdd]
  exact l
end GF

/-! ===== least sums, the class: primes are compared; the least sum is found ===== -/
theorem bI_shl (b : Bool) {n : Nat} (hn : n < 64) : (bI b).toInt64 <<< Int64.ofNat n = lw (fun q => decide (q = n) && b) := by
  refine lw_of (fun r hr => ?_)
  cases b with
  | true =>
    rw [show (bI true).toInt64 = (1 : Int64) by decide, lb_one n hn r hr, Bool.and_true]
  | false =>
    rw [show (bI false).toInt64 = (0 : Int64) by decide, lb_shl 0 hn hr, lb_0, Bool.and_false, Bool.and_false]
theorem PRs_0 (pr : Nat → Nat) : ∀ k, PRs pr k (fun _ => false) = 0
  | 0 => rfl
  | k + 1 => by rw [PRs_s, PRs_0 pr k]; rfl
section CE
variable {d : Nat} {σ : kv_S} {Φ : Option Value → kv_S → Prop}
theorem fl_loop (js : JS σ) (H : ∀ τ, FR (fun b _ => b = 21) σ τ → (∀ k, k < 32 → kv_l τ 21 k = 0) → Φ none τ) : ∀ m n, n + m = 32 → ∀ τ, FR (fun b _ => b = 21) σ τ → (∀ k, k < n → kv_l τ 21 k = 0) → Wp d 56 6 [.ref 21, .long 0, .null, .int (Int32.ofNat n), .int (Int32.ofNat 32)] [] τ Φ
  | 0, n, e, τ, fr, hI => by
    have e2 : n = 32 := by omega
    subst e2
    simp only [g_56_6, g_56_7, g_56_9, g_56_22, ari_aa, ari_al, ari_la, ari_mm, ari_ml, ari_lm, ari_ltl, ari_llt, ari_lt, ari_le, ari_lel, ari_lle, ari_0, ari_eq, ari_eql, ari_leq, ari_cl, Nat.not_lt_zero, Bool.false_eq_true, Option.toList_some, Option.toList_none, List.cons_append, List.nil_append, kv_rv, kc1_i, kc1_r, kc1_n, n10, n01, n1514, n1213, n1312, if_true, if_false, not_true_eq_false, not_false_eq_true, and_self, true_and, and_true, false_and, and_false, or_true, true_or, or_false, false_or, Nat.reduceLeDiff, Nat.reduceLT, Nat.reduceEqDiff, Nat.reduceAdd]
    exact H τ fr hI
  | m + 1, n, e, τ, fr, hI => by
    have js2 := fr.js js
    simp only [g_56_6, g_56_7, g_56_9, ari_aa, ari_al, ari_la, ari_mm, ari_ml, ari_lm, ari_ltl, ari_llt, ari_lt, ari_le, ari_lel, ari_lle, ari_0, ari_eq, ari_eql, ari_leq, ari_cl, Nat.not_lt_zero, Bool.false_eq_true, Option.toList_some, Option.toList_none, List.cons_append, List.nil_append, kv_rv, kc1_i, kc1_r, kc1_n, n10, n01, n1514, n1213, n1312, if_true, if_false, not_true_eq_false, not_false_eq_true, and_self, true_and, and_true, false_and, and_false, or_true, true_or, or_false, false_or, Nat.reduceLeDiff, Nat.reduceLT, Nat.reduceEqDiff, Nat.reduceAdd, (show n < 32 by omega), (show n < 2147483648 by omega), (show ¬ 32 ≤ n by omega)]
    simp only [g_56_12, g_56_13, g_56_14, g_56_15, g_56_16, g_56_19, ari_aa, ari_al, ari_la, ari_mm, ari_ml, ari_lm, ari_ltl, ari_llt, ari_lt, ari_le, ari_lel, ari_lle, ari_0, ari_eq, ari_eql, ari_leq, ari_cl, Nat.not_lt_zero, Bool.false_eq_true, Option.toList_some, Option.toList_none, List.cons_append, List.nil_append, kv_rv, kc1_i, kc1_r, kc1_n, n10, n01, n1514, n1213, n1312, if_true, if_false, not_true_eq_false, not_false_eq_true, and_self, true_and, and_true, false_and, and_false, or_true, true_or, or_false, false_or, Nat.reduceLeDiff, Nat.reduceLT, Nat.reduceEqDiff, Nat.reduceAdd, s_21 js2, r_14_8 js2, (show n < 32 by omega), (show n < 2147483648 by omega)]
    refine fl_loop js H m (n + 1) (by omega) _ (fr.sl rfl) (fun k hk => ?_)
    rw [l_sl]
    by_cases c : k = n
    · rw [if_pos ⟨rfl, c⟩]
    · rw [if_neg (fun q => c q.2)]; exact hI k (by omega)
theorem m_fillL (js : JS σ) (H : ∀ τ, FR (fun b _ => b = 21) σ τ → (∀ k, k < 32 → kv_l τ 21 k = 0) → Φ none τ) : Wc d 56 [.ref 21, .long 0] σ Φ := by
  have l := fl_loop (d := d) js H 32 0 (by omega) σ (FR.rf _ σ) (fun k hk => absurd hk (by omega))
  simp only [c_56, g_56_0, g_56_1, g_56_2, g_56_3, g_56_4, Nat.not_lt_zero, Bool.false_eq_true, Option.toList_some, Option.toList_none, List.cons_append, List.nil_append, kv_rv, kc1_i, kc1_r, kc1_n, n10, n01, n1514, n1213, n1312, if_true, if_false, not_true_eq_false, not_false_eq_true, and_self, true_and, and_true, false_and, and_false, or_true, true_or, or_false, false_or, Nat.reduceLeDiff, Nat.reduceLT, Nat.reduceEqDiff, Nat.reduceAdd, s_21 js, r_14_8 js]
  exact l
variable {P : Nat} {R : Nat → Nat → Bool} {pr : Nat → Nat}
/-- what compare reads -/
def C0 (P : Nat) (R : Nat → Nat → Bool) (pr : Nat → Nat) (τ : kv_S) : Prop := kv_i τ 14 9 = Int32.ofNat P ∧ (∀ p, p < P → kv_i τ 18 p = iw (R p)) ∧ ∀ p, p < P → kv_l τ 19 p = Int64.ofNat (pr p)
theorem C0.fr {Q : Nat → Nat → Prop} {σ τ : kv_S} (h : FR Q σ τ) (hq : ∀ b k, Q b k → ¬ (b = 14 ∧ k = 9 ∨ 18 ≤ b ∧ b ≤ 19)) (H : C0 P R pr σ) : C0 P R pr τ := ⟨(h.i (fun q => hq _ _ q (by omega))).trans H.1, fun p hp => (h.i (fun q => hq _ _ q (by omega))).trans (H.2.1 p hp), fun p hp => (h.l (fun q => hq _ _ q (by omega))).trans (H.2.2 p hp)⟩
theorem cm_1 (js : JS σ) (hc : C0 P R pr σ) (hP : P ≤ 40) (hb : ∀ p, p < P → pr p ≤ 2251799813685248) {p : Nat} (hp : p < P) (H : ∀ τ, FR (fun b k => b = 20 ∧ k = p) σ τ → kv_l τ 20 p = lw (fun q => decide (q < P) && decide (pr q < pr p)) → Wp d 55 69 [.ref 14, .int (Int32.ofNat p), .int (Int32.ofNat P)] [] τ Φ) : ∀ m o, o + m = P → ∀ τ, FR (fun b k => b = 20 ∧ k = p) σ τ → kv_l τ 20 p = lw (fun q => decide (q < o) && decide (pr q < pr p)) → Wp d 55 27 [.ref 14, .int (Int32.ofNat p), .int (Int32.ofNat o)] [] τ Φ
  | 0, o, e, τ, fr, hI => by
    have js2 := fr.js js
    have hc2 : C0 P R pr τ := hc.fr fr (fun b k q => by omega)
    have e2 : o = P := by omega
    subst e2
    simp only [g_55_27, g_55_28, g_55_29, g_55_32, ari_aa, ari_al, ari_la, ari_mm, ari_ml, ari_lm, ari_ltl, ari_llt, ari_lt, ari_le, ari_lel, ari_lle, ari_0, ari_eq, ari_eql, ari_leq, ari_cl, Nat.not_lt_zero, Bool.false_eq_true, Option.toList_some, Option.toList_none, List.cons_append, List.nil_append, kv_rv, kc1_i, kc1_r, kc1_n, n10, n01, n1514, n1213, n1312, if_true, if_false, not_true_eq_false, not_false_eq_true, and_self, true_and, and_true, false_and, and_false, or_true, true_or, or_false, false_or, Nat.reduceLeDiff, Nat.reduceLT, Nat.reduceEqDiff, Nat.reduceAdd, hc2.1, s_14 js2, r_8_3 js2, (show o < 41 by omega), (show o < 2147483648 by omega), (show o ≤ o by omega)]
    exact H τ fr hI
  | m + 1, o, e, τ, fr, hI => by
    have js2 := fr.js js
    have hc2 : C0 P R pr τ := hc.fr fr (fun b k q => by omega)
    have b1 := hb o (by omega)
    have b2 := hb p hp
    simp only [g_55_27, g_55_28, g_55_29, g_55_32, ari_aa, ari_al, ari_la, ari_mm, ari_ml, ari_lm, ari_ltl, ari_llt, ari_lt, ari_le, ari_lel, ari_lle, ari_0, ari_eq, ari_eql, ari_leq, ari_cl, Nat.not_lt_zero, Bool.false_eq_true, Option.toList_some, Option.toList_none, List.cons_append, List.nil_append, kv_rv, kc1_i, kc1_r, kc1_n, n10, n01, n1514, n1213, n1312, if_true, if_false, not_true_eq_false, not_false_eq_true, and_self, true_and, and_true, false_and, and_false, or_true, true_or, or_false, false_or, Nat.reduceLeDiff, Nat.reduceLT, Nat.reduceEqDiff, Nat.reduceAdd, hc2.1, s_14 js2, r_8_3 js2, (show o < 41 by omega), (show o < 2147483648 by omega), (show P < 41 by omega), (show P < 2147483648 by omega), (show ¬ P ≤ o by omega)]
    by_cases c : pr p ≤ pr o
    · simp only [g_55_35, g_55_36, g_55_39, g_55_40, g_55_41, g_55_42, g_55_45, g_55_46, g_55_47, g_55_48, g_55_63, g_55_66, ari_aa, ari_al, ari_la, ari_mm, ari_ml, ari_lm, ari_ltl, ari_llt, ari_lt, ari_le, ari_lel, ari_lle, ari_0, ari_eq, ari_eql, ari_leq, ari_cl, Nat.not_lt_zero, Bool.false_eq_true, Option.toList_some, Option.toList_none, List.cons_append, List.nil_append, kv_rv, kc1_i, kc1_r, kc1_n, n10, n01, n1514, n1213, n1312, if_true, if_false, not_true_eq_false, not_false_eq_true, and_self, true_and, and_true, false_and, and_false, or_true, true_or, or_false, false_or, Nat.reduceLeDiff, Nat.reduceLT, Nat.reduceEqDiff, Nat.reduceAdd, hc2.2.2 o (by omega), hc2.2.2 p hp, lg_cmp_ge, lar_le (show pr p < 9223372036854775808 by omega) (show pr o < 9223372036854775808 by omega), c, s_14 js2, r_8_3 js2, s_19 js2, r_14_6 js2, (show o < 40 by omega), (show o < 2147483648 by omega), (show p < 40 by omega), (show p < 2147483648 by omega)]
      refine cm_1 js hc hP hb hp H m (o + 1) (by omega) τ fr ?_
      rw [hI]
      refine lw_eq.mpr (fun q _ => ?_)
      by_cases z : q = o
      · rw [z, decide_eq_false (show ¬ pr o < pr p by omega), Bool.and_false, Bool.and_false]
      · by_cases y : q < o
        · rw [decide_eq_true y, decide_eq_true (show q < o + 1 by omega)]
        · rw [decide_eq_false y, decide_eq_false (show ¬ q < o + 1 by omega)]
    · have ez : lw (fun q => decide (q < o) && decide (pr q < pr p)) ||| lw (fun r => decide (r = o)) = lw (fun q => decide (q < o + 1) && decide (pr q < pr p)) := by
        rw [lw_or]
        refine lw_eq.mpr (fun q _ => ?_)
        by_cases z : q = o
        · rw [z, decide_eq_true (show pr o < pr p by omega), decide_eq_true (show o < o + 1 by omega)]; simp
        · by_cases y : q < o
          · rw [decide_eq_true y, decide_eq_true (show q < o + 1 by omega), decide_eq_false z, Bool.or_false]
          · rw [decide_eq_false y, decide_eq_false (show ¬ q < o + 1 by omega), decide_eq_false z]; rfl
      simp only [g_55_35, g_55_36, g_55_39, g_55_40, g_55_41, g_55_42, g_55_45, g_55_46, g_55_47, g_55_48, g_55_51, g_55_52, g_55_55, g_55_56, g_55_57, g_55_58, g_55_59, g_55_60, g_55_61, g_55_62, g_55_63, g_55_66, ari_aa, ari_al, ari_la, ari_mm, ari_ml, ari_lm, ari_ltl, ari_llt, ari_lt, ari_le, ari_lel, ari_lle, ari_0, ari_eq, ari_eql, ari_leq, ari_cl, Nat.not_lt_zero, Bool.false_eq_true, Option.toList_some, Option.toList_none, List.cons_append, List.nil_append, kv_rv, kc1_i, kc1_r, kc1_n, n10, n01, n1514, n1213, n1312, if_true, if_false, not_true_eq_false, not_false_eq_true, and_self, true_and, and_true, false_and, and_false, or_true, true_or, or_false, false_or, Nat.reduceLeDiff, Nat.reduceLT, Nat.reduceEqDiff, Nat.reduceAdd, hc2.2.2 o (by omega), hc2.2.2 p hp, hI, lsh_k o (by omega), lw_one (show o < 64 by omega), ez, lg_cmp_ge, lar_le (show pr p < 9223372036854775808 by omega) (show pr o < 9223372036854775808 by omega), c, s_14 js2, r_8_3 js2, s_19 js2, r_14_6 js2, s_20 js2, r_14_7 js2, (show o < 40 by omega), (show o < 2147483648 by omega), (show p < 40 by omega), (show p < 2147483648 by omega)]
      exact cm_1 js hc hP hb hp H m (o + 1) (by omega) _ (fr.sl ⟨rfl, rfl⟩) (by rw [l_sl, if_pos ⟨rfl, rfl⟩])
theorem cm_2 (js : JS σ) (hc : C0 P R pr σ) (hP : P ≤ 40) {p : Nat} (hp : p < P) (H : ∀ τ, FR (fun b _ => b = 21) σ τ → (∀ r, r < 32 → kv_l τ 21 r = lw (fun q => decide (q < p + 1) && R q r)) → Wp d 55 105 [.ref 14, .int (Int32.ofNat p), .int (Int32.ofNat 32)] [] τ Φ) : ∀ m row, row + m = 32 → ∀ τ, FR (fun b _ => b = 21) σ τ → (∀ r, r < row → kv_l τ 21 r = lw (fun q => decide (q < p + 1) && R q r)) → (∀ r, row ≤ r → r < 32 → kv_l τ 21 r = lw (fun q => decide (q < p) && R q r)) → Wp d 55 71 [.ref 14, .int (Int32.ofNat p), .int (Int32.ofNat row)] [] τ Φ
  | 0, row, e, τ, fr, h1, h2 => by
    have e2 : row = 32 := by omega
    subst e2
    simp only [g_55_71, g_55_72, g_55_74, ari_aa, ari_al, ari_la, ari_mm, ari_ml, ari_lm, ari_ltl, ari_llt, ari_lt, ari_le, ari_lel, ari_lle, ari_0, ari_eq, ari_eql, ari_leq, ari_cl, Nat.not_lt_zero, Bool.false_eq_true, Option.toList_some, Option.toList_none, List.cons_append, List.nil_append, kv_rv, kc1_i, kc1_r, kc1_n, n10, n01, n1514, n1213, n1312, if_true, if_false, not_true_eq_false, not_false_eq_true, and_self, true_and, and_true, false_and, and_false, or_true, true_or, or_false, false_or, Nat.reduceLeDiff, Nat.reduceLT, Nat.reduceEqDiff, Nat.reduceAdd]
    exact H τ fr h1
  | m + 1, row, e, τ, fr, h1, h2 => by
    have js2 := fr.js js
    have hc2 : C0 P R pr τ := hc.fr fr (fun b k q => by omega)
    have ez : lw (fun q => decide (q < p) && R q row) ||| lw (fun q => decide (q = p) && R p row) = lw (fun q => decide (q < p + 1) && R q row) := by
      rw [lw_or]
      refine lw_eq.mpr (fun q _ => ?_)
      by_cases z : q = p
      · rw [z, decide_eq_true (show p < p + 1 by omega)]; simp
      · by_cases y : q < p
        · rw [decide_eq_true y, decide_eq_true (show q < p + 1 by omega), decide_eq_false z]; simp
        · rw [decide_eq_false y, decide_eq_false (show ¬ q < p + 1 by omega), decide_eq_false z]; rfl
    simp only [g_55_71, g_55_72, g_55_74, ari_aa, ari_al, ari_la, ari_mm, ari_ml, ari_lm, ari_ltl, ari_llt, ari_lt, ari_le, ari_lel, ari_lle, ari_0, ari_eq, ari_eql, ari_leq, ari_cl, Nat.not_lt_zero, Bool.false_eq_true, Option.toList_some, Option.toList_none, List.cons_append, List.nil_append, kv_rv, kc1_i, kc1_r, kc1_n, n10, n01, n1514, n1213, n1312, if_true, if_false, not_true_eq_false, not_false_eq_true, and_self, true_and, and_true, false_and, and_false, or_true, true_or, or_false, false_or, Nat.reduceLeDiff, Nat.reduceLT, Nat.reduceEqDiff, Nat.reduceAdd, (show row < 32 by omega), (show row < 2147483648 by omega), (show ¬ 32 ≤ row by omega)]
    simp only [g_55_77, g_55_78, g_55_81, g_55_82, g_55_83, g_55_84, g_55_85, g_55_88, g_55_89, g_55_90, g_55_91, g_55_92, g_55_93, g_55_94, g_55_95, g_55_96, g_55_97, g_55_98, g_55_99, g_55_102, ari_aa, ari_al, ari_la, ari_mm, ari_ml, ari_lm, ari_ltl, ari_llt, ari_lt, ari_le, ari_lel, ari_lle, ari_0, ari_eq, ari_eql, ari_leq, ari_cl, Nat.not_lt_zero, Bool.false_eq_true, Option.toList_some, Option.toList_none, List.cons_append, List.nil_append, kv_rv, kc1_i, kc1_r, kc1_n, n10, n01, n1514, n1213, n1312, if_true, if_false, not_true_eq_false, not_false_eq_true, and_self, true_and, and_true, false_and, and_false, or_true, true_or, or_false, false_or, Nat.reduceLeDiff, Nat.reduceLT, Nat.reduceEqDiff, Nat.reduceAdd, hc2.2.1 p hp, ari_31 (show row < 32 by omega), iw_bit (R p) (show row < 32 by omega), lsh_k p (by omega), bI_shl (R p row) (show p < 64 by omega), h2 row (Nat.le_refl _) (by omega), ez, s_14 js2, r_8_3 js2, s_18 js2, r_14_5 js2, s_21 js2, r_14_8 js2, (show row < 32 by omega), (show row < 2147483648 by omega), (show p < 40 by omega), (show p < 2147483648 by omega)]
    refine cm_2 js hc hP hp H m (row + 1) (by omega) _ (fr.sl rfl) (fun r hr => ?_) (fun r hr hr2 => ?_)
    · rw [l_sl]
      by_cases z : r = row
      · rw [if_pos ⟨rfl, z⟩, z]
      · rw [if_neg (fun q => z q.2)]; exact h1 r (by omega)
    · rw [l_sl, if_neg (by omega)]; exact h2 r (by omega) hr2
def FC (b _ : Nat) : Prop := b = 20 ∨ b = 21
theorem cm_loop (js : JS σ) (hc : C0 P R pr σ) (hP : P ≤ 40) (hb : ∀ p, p < P → pr p ≤ 2251799813685248) (H : ∀ τ, FR FC σ τ → CV P R pr τ → Φ none τ) : ∀ m p, p + m = P → ∀ τ, FR FC σ τ → (∀ q, q < p → kv_l τ 20 q = lw (fun o => decide (o < P) && decide (pr o < pr q))) → (∀ r, r < 32 → kv_l τ 21 r = lw (fun q => decide (q < p) && R q r)) → ∀ v2 : Value, Wp d 55 10 [.ref 14, .int (Int32.ofNat p), v2] [] τ Φ
  | 0, p, e, τ, fr, h1, h2, v2 => by
    have js2 := fr.js js
    have hc2 : C0 P R pr τ := hc.fr fr (fun b k q => by unfold FC at q; omega)
    have e2 : p = P := by omega
    subst e2
    simp only [g_55_10, g_55_11, g_55_12, g_55_15, g_55_111, ari_aa, ari_al, ari_la, ari_mm, ari_ml, ari_lm, ari_ltl, ari_llt, ari_lt, ari_le, ari_lel, ari_lle, ari_0, ari_eq, ari_eql, ari_leq, ari_cl, Nat.not_lt_zero, Bool.false_eq_true, Option.toList_some, Option.toList_none, List.cons_append, List.nil_append, kv_rv, kc1_i, kc1_r, kc1_n, n10, n01, n1514, n1213, n1312, if_true, if_false, not_true_eq_false, not_false_eq_true, and_self, true_and, and_true, false_and, and_false, or_true, true_or, or_false, false_or, Nat.reduceLeDiff, Nat.reduceLT, Nat.reduceEqDiff, Nat.reduceAdd, hc2.1, s_14 js2, r_8_3 js2, (show p < 41 by omega), (show p < 2147483648 by omega), (show p ≤ p by omega)]
    exact H τ fr ⟨hc2.1, hc2.2.1, hc2.2.2, h1, h2⟩
  | m + 1, p, e, τ, fr, h1, h2, v2 => by
    have js2 := fr.js js
    have hc2 : C0 P R pr τ := hc.fr fr (fun b k q => by unfold FC at q; omega)
    simp only [g_55_10, g_55_11, g_55_12, g_55_15, ari_aa, ari_al, ari_la, ari_mm, ari_ml, ari_lm, ari_ltl, ari_llt, ari_lt, ari_le, ari_lel, ari_lle, ari_0, ari_eq, ari_eql, ari_leq, ari_cl, Nat.not_lt_zero, Bool.false_eq_true, Option.toList_some, Option.toList_none, List.cons_append, List.nil_append, kv_rv, kc1_i, kc1_r, kc1_n, n10, n01, n1514, n1213, n1312, if_true, if_false, not_true_eq_false, not_false_eq_true, and_self, true_and, and_true, false_and, and_false, or_true, true_or, or_false, false_or, Nat.reduceLeDiff, Nat.reduceLT, Nat.reduceEqDiff, Nat.reduceAdd, hc2.1, s_14 js2, r_8_3 js2, (show p < 41 by omega), (show p < 2147483648 by omega), (show P < 41 by omega), (show P < 2147483648 by omega), (show ¬ P ≤ p by omega)]
    simp only [g_55_18, g_55_19, g_55_22, g_55_23, g_55_24, g_55_25, g_55_26, ari_aa, ari_al, ari_la, ari_mm, ari_ml, ari_lm, ari_ltl, ari_llt, ari_lt, ari_le, ari_lel, ari_lle, ari_0, ari_eq, ari_eql, ari_leq, ari_cl, Nat.not_lt_zero, Bool.false_eq_true, Option.toList_some, Option.toList_none, List.cons_append, List.nil_append, kv_rv, kc1_i, kc1_r, kc1_n, n10, n01, n1514, n1213, n1312, if_true, if_false, not_true_eq_false, not_false_eq_true, and_self, true_and, and_true, false_and, and_false, or_true, true_or, or_false, false_or, Nat.reduceLeDiff, Nat.reduceLT, Nat.reduceEqDiff, Nat.reduceAdd, s_14 js2, r_8_3 js2, s_20 js2, r_14_7 js2, (show p < 40 by omega), (show p < 2147483648 by omega)]
    have fr1 : FR FC σ (kv_sl τ 20 p 0) := fr.sl (Or.inl rfl)
    have hc3 : C0 P R pr (kv_sl τ 20 p 0) := hc.fr fr1 (fun b k q => by unfold FC at q; omega)
    refine cm_1 (fr1.js js) hc3 hP hb (show p < P by omega) (fun υ fr2 h20 => ?_) P 0 (by omega) _ (FR.rf _ _) (by
      rw [l_sl, if_pos ⟨rfl, rfl⟩]
      exact (lw_0.mpr (fun r _ => by simp)).symm)
    have fr3 : FR FC σ υ := fr1.tr (fr2.mono (fun b k q => Or.inl q.1))
    have hc4 : C0 P R pr υ := hc.fr fr3 (fun b k q => by unfold FC at q; omega)
    simp only [g_55_69, g_55_70, Nat.not_lt_zero, Bool.false_eq_true, Option.toList_some, Option.toList_none, List.cons_append, List.nil_append, kv_rv, kc1_i, kc1_r, kc1_n, n10, n01, n1514, n1213, n1312, if_true, if_false, not_true_eq_false, not_false_eq_true, and_self, true_and, and_true, false_and, and_false, or_true, true_or, or_false, false_or, Nat.reduceLeDiff, Nat.reduceLT, Nat.reduceEqDiff, Nat.reduceAdd]
    refine cm_2 (fr3.js js) hc4 hP (show p < P by omega) (fun ω fr4 h21 => ?_) 32 0 (by omega) υ (FR.rf _ υ) (fun r hr => absurd hr (by omega)) (fun r _ hr => by
      rw [fr2.l (by omega), l_sl, if_neg (by omega)]; exact h2 r hr)
    simp only [g_55_105, g_55_108, ari_aa, ari_al, ari_la, ari_mm, ari_ml, ari_lm, ari_ltl, ari_llt, ari_lt, ari_le, ari_lel, ari_lle, ari_0, ari_eq, ari_eql, ari_leq, ari_cl, Nat.not_lt_zero, Bool.false_eq_true, Option.toList_some, Option.toList_none, List.cons_append, List.nil_append, kv_rv, kc1_i, kc1_r, kc1_n, n10, n01, n1514, n1213, n1312, if_true, if_false, not_true_eq_false, not_false_eq_true, and_self, true_and, and_true, false_and, and_false, or_true, true_or, or_false, false_or, Nat.reduceLeDiff, Nat.reduceLT, Nat.reduceEqDiff, Nat.reduceAdd]
    refine cm_loop js hc hP hb H m (p + 1) (by omega) ω (fr3.tr (fr4.mono (fun b k q => Or.inr q))) (fun q hq => ?_) h21 _
    rw [fr4.l (by omega)]
    by_cases z : q = p
    · rw [z]; exact h20
    · rw [fr2.l (by omega), l_sl, if_neg (by omega)]; exact h1 q (by omega)
theorem m_cmp (js : JS σ) (hc : C0 P R pr σ) (hP : P ≤ 40) (hb : ∀ p, p < P → pr p ≤ 2251799813685248) (H : ∀ τ, FR FC σ τ → CV P R pr τ → Φ none τ) : Wc (d + 1) 55 [.ref 14] σ Φ := by
  simp only [c_55, g_55_0, g_55_1, g_55_4, g_55_5, kv_w8_0, kv_w8_1, kv_w8_2, kv_w8_3, kv_w8_4, Nat.not_lt_zero, Bool.false_eq_true, Option.toList_some, Option.toList_none, List.cons_append, List.nil_append, kv_rv, kc1_i, kc1_r, kc1_n, n10, n01, n1514, n1213, n1312, if_true, if_false, not_true_eq_false, not_false_eq_true, and_self, true_and, and_true, false_and, and_false, or_true, true_or, or_false, false_or, Nat.reduceLeDiff, Nat.reduceLT, Nat.reduceEqDiff, Nat.reduceAdd, s_14 js, r_8_3 js, s_21 js, r_14_8 js]
  refine m_fillL js (fun τ fr h0 => ?_)
  have fr1 : FR FC σ τ := fr.mono (fun b k q => Or.inr q)
  have hc2 : C0 P R pr τ := hc.fr fr1 (fun b k q => by unfold FC at q; omega)
  simp only [g_55_8, g_55_9, Nat.not_lt_zero, Bool.false_eq_true, Option.toList_some, Option.toList_none, List.cons_append, List.nil_append, kv_rv, kc1_i, kc1_r, kc1_n, n10, n01, n1514, n1213, n1312, if_true, if_false, not_true_eq_false, not_false_eq_true, and_self, true_and, and_true, false_and, and_false, or_true, true_or, or_false, false_or, Nat.reduceLeDiff, Nat.reduceLT, Nat.reduceEqDiff, Nat.reduceAdd]
  exact cm_loop (fr1.js js) hc2 hP hb (fun υ fr2 hv => H υ (fr1.tr fr2) hv) P 0 (by omega) τ (FR.rf _ τ) (fun q hq => absurd hq (by omega)) (fun r hr => by rw [h0 r hr]; exact (lw_0.mpr (fun q _ => by simp)).symm) _
/-- the last loop: the sum is told -/
def FT (b k : Nat) : Prop := b = 15 ∨ b = 14 ∧ (k = 1 ∨ k = 2)
theorem fi_loop (js : JS σ) {S : Nat → Bool} {bs : Nat → Bool} {tc pn : Nat → Nat} {vt : Nat} (hP : P ≤ 40) (h9 : kv_i σ 14 9 = Int32.ofNat P) (hb : kv_l σ 14 11 = lw bs) (hbs : ∀ p, p < P → bs p = S p) (h16 : ∀ p, p < P → kv_i σ 16 p = Int32.ofNat (pn p)) (h17 : ∀ p, p < P → kv_i σ 17 p = Int32.ofNat (tc p)) (H : ∀ τ, FR FT σ τ → kv_i τ 14 1 = Int32.ofNat (cnt S P) → kv_i τ 14 2 = Int32.ofNat (PRs tc P S) → (∀ q, q < P → S q = true → kv_i τ 15 (cnt S q) = Int32.ofNat (pn q)) → Φ none τ) : ∀ m p, p + m = P → ∀ τ, FR FT σ τ → kv_i τ 14 1 = Int32.ofNat (cnt S p) → kv_i τ 14 2 = Int32.ofNat (PRs tc p S) → (∀ q, q < p → S q = true → kv_i τ 15 (cnt S q) = Int32.ofNat (pn q)) → Wp d 53 54 [.ref 14, .ref vt, .ref 11, .int (Int32.ofNat p)] [] τ Φ
  | 0, p, e, τ, fr, i1, i2, i3 => by
    have js2 := fr.js js
    have e9 : kv_i τ 14 9 = Int32.ofNat P := by rw [fr.i (by unfold FT; omega)]; exact h9
    have e2 : p = P := by omega
    subst e2
    simp only [g_53_54, g_53_55, g_53_56, g_53_59, g_53_121, ari_aa, ari_al, ari_la, ari_mm, ari_ml, ari_lm, ari_ltl, ari_llt, ari_lt, ari_le, ari_lel, ari_lle, ari_0, ari_eq, ari_eql, ari_leq, ari_cl, Nat.not_lt_zero, Bool.false_eq_true, Option.toList_some, Option.toList_none, List.cons_append, List.nil_append, kv_rv, kc1_i, kc1_r, kc1_n, n10, n01, n1514, n1213, n1312, if_true, if_false, not_true_eq_false, not_false_eq_true, and_self, true_and, and_true, false_and, and_false, or_true, true_or, or_false, false_or, Nat.reduceLeDiff, Nat.reduceLT, Nat.reduceEqDiff, Nat.reduceAdd, e9, s_14 js2, r_8_3 js2, (show p < 41 by omega), (show p < 2147483648 by omega), (show p ≤ p by omega)]
    exact H τ fr i1 i2 i3
  | m + 1, p, e, τ, fr, i1, i2, i3 => by
    have js2 := fr.js js
    have e9 : kv_i τ 14 9 = Int32.ofNat P := by rw [fr.i (by unfold FT; omega)]; exact h9
    have e11 : kv_l τ 14 11 = lw bs := by rw [fr.l (by unfold FT; omega)]; exact hb
    have e16 : kv_i τ 16 p = Int32.ofNat (pn p) := by rw [fr.i (by unfold FT; omega)]; exact h16 p (by omega)
    have e17 : kv_i τ 17 p = Int32.ofNat (tc p) := by rw [fr.i (by unfold FT; omega)]; exact h17 p (by omega)
    have hcl := cnt_le S p
    simp only [g_53_54, g_53_55, g_53_56, g_53_59, ari_aa, ari_al, ari_la, ari_mm, ari_ml, ari_lm, ari_ltl, ari_llt, ari_lt, ari_le, ari_lel, ari_lle, ari_0, ari_eq, ari_eql, ari_leq, ari_cl, Nat.not_lt_zero, Bool.false_eq_true, Option.toList_some, Option.toList_none, List.cons_append, List.nil_append, kv_rv, kc1_i, kc1_r, kc1_n, n10, n01, n1514, n1213, n1312, if_true, if_false, not_true_eq_false, not_false_eq_true, and_self, true_and, and_true, false_and, and_false, or_true, true_or, or_false, false_or, Nat.reduceLeDiff, Nat.reduceLT, Nat.reduceEqDiff, Nat.reduceAdd, e9, s_14 js2, r_8_3 js2, (show p < 41 by omega), (show p < 2147483648 by omega), (show P < 41 by omega), (show P < 2147483648 by omega), (show ¬ P ≤ p by omega)]
    cases cS : S p with
    | false =>
      simp only [g_53_62, g_53_63, g_53_66, g_53_67, g_53_68, g_53_69, g_53_70, g_53_71, g_53_72, g_53_115, g_53_118, ari_aa, ari_al, ari_la, ari_mm, ari_ml, ari_lm, ari_ltl, ari_llt, ari_lt, ari_le, ari_lel, ari_lle, ari_0, ari_eq, ari_eql, ari_leq, ari_cl, Nat.not_lt_zero, Bool.false_eq_true, Option.toList_some, Option.toList_none, List.cons_append, List.nil_append, kv_rv, kc1_i, kc1_r, kc1_n, n10, n01, n1514, n1213, n1312, if_true, if_false, not_true_eq_false, not_false_eq_true, and_self, true_and, and_true, false_and, and_false, or_true, true_or, or_false, false_or, Nat.reduceLeDiff, Nat.reduceLT, Nat.reduceEqDiff, Nat.reduceAdd, e11, lsh_k p (by omega), lw_bit bs (show p < 64 by omega), hbs p (by omega), cS, lg_cmp_eq, s_14 js2, r_8_3 js2]
      refine fi_loop js hP h9 hb hbs h16 h17 H m (p + 1) (by omega) τ fr ?_ ?_ (fun q hq hS => ?_)
      · rw [cnt_s, cS]; exact i1
      · rw [PRs_s, cS]; exact i2
      · by_cases z : q = p
        · rw [z, cS] at hS; cases hS
        · exact i3 q (by omega) hS
    | true =>
      have u1 : ∀ x, kv_i (kv_si τ 15 (cnt S p) x) 14 1 = Int32.ofNat (cnt S p) := fun x => by rw [i_si, if_neg (by omega)]; exact i1
      have u2 : ∀ x y, kv_i (kv_si (kv_si τ 15 (cnt S p) x) 14 1 y) 14 2 = Int32.ofNat (PRs tc p S) := fun x y => by rw [i_si, if_neg (by omega), i_si, if_neg (by omega)]; exact i2
      have u3 : ∀ x y, kv_i (kv_si (kv_si τ 15 (cnt S p) x) 14 1 y) 17 p = Int32.ofNat (tc p) := fun x y => by rw [i_si, if_neg (by omega), i_si, if_neg (by omega)]; exact e17
      simp only [g_53_62, g_53_63, g_53_66, g_53_67, g_53_68, g_53_69, g_53_70, g_53_71, g_53_72, g_53_75, g_53_76, g_53_79, g_53_80, g_53_83, g_53_84, g_53_87, g_53_88, g_53_89, g_53_90, g_53_91, g_53_91r, g_53_92, g_53_95, g_53_96, g_53_97, g_53_100, g_53_101, g_53_101r, g_53_102, g_53_105, g_53_106, g_53_109, g_53_110, g_53_111, g_53_112, g_53_115, g_53_118, ari_aa, ari_al, ari_la, ari_mm, ari_ml, ari_lm, ari_ltl, ari_llt, ari_lt, ari_le, ari_lel, ari_lle, ari_0, ari_eq, ari_eql, ari_leq, ari_cl, Nat.not_lt_zero, Bool.false_eq_true, Option.toList_some, Option.toList_none, List.cons_append, List.nil_append, kv_rv, kc1_i, kc1_r, kc1_n, n10, n01, n1514, n1213, n1312, if_true, if_false, not_true_eq_false, not_false_eq_true, and_self, true_and, and_true, false_and, and_false, or_true, true_or, or_false, false_or, Nat.reduceLeDiff, Nat.reduceLT, Nat.reduceEqDiff, Nat.reduceAdd, e11, lsh_k p (by omega), lw_bit bs (show p < 64 by omega), hbs p (by omega), cS, lg_cmp_eq, (show ¬ (1 : Int64) = 0 by decide), i1, e16, u1, u2, u3, sh_si, r_si, s_14 js2, r_8_3 js2, s_15 js2, r_14_0 js2, s_16 js2, r_14_3 js2, s_17 js2, r_14_4 js2, (show p < 40 by omega), (show p < 2147483648 by omega), (show cnt S p < 40 by omega), (show cnt S p < 2147483648 by omega)]
      refine fi_loop js hP h9 hb hbs h16 h17 H m (p + 1) (by omega) _ (((fr.si (Or.inl rfl)).si (Or.inr ⟨rfl, Or.inl rfl⟩)).si (Or.inr ⟨rfl, Or.inr rfl⟩)) ?_ ?_ (fun q hq hS => ?_)
      · rw [i_si, if_neg (by omega), i_si, if_pos ⟨rfl, rfl⟩, cnt_s, cS]; rfl
      · rw [i_si, if_pos ⟨rfl, rfl⟩, PRs_s, cS]; rfl
      · rw [i_si, if_neg (by omega), i_si, if_neg (by omega), i_si]
        by_cases z : q = p
        · rw [z, if_pos ⟨rfl, rfl⟩]
        · have := cnt_lt_of (show q < p by omega) hS
          rw [if_neg (by omega)]; exact i3 q (by omega) hS
def FF (b k : Nat) : Prop := 15 ≤ b ∧ b ≤ 21 ∨ b = 14
theorem m_find (js : JS σ) (hK : JK σ) {f w : Nat} (hf : f < 16) (hF : JF1' σ f w) (hw : w ≤ 5) {B S : Nat → Bool} (hpw : pW B w σ) (hS : LST (gB σ f w) (Rp B w) (cnt (PRM B w) (3 ^ w)) (prc (tcp B w)) S) (H : ∀ τ, FR FF σ τ → kv_i τ 14 1 = Int32.ofNat (cnt S (cnt (PRM B w) (3 ^ w))) → kv_i τ 14 2 = Int32.ofNat (PRs (tcp B w) (cnt (PRM B w) (3 ^ w)) S) → (∀ q, q < cnt (PRM B w) (3 ^ w) → S q = true → kv_i τ 15 (cnt S q) = Int32.ofNat (pnm B w q)) → Φ none τ) : Wc (d + 36) 53 [.ref 14, .ref (37 + 4 * f), .ref 11] σ Φ := by
  obtain ⟨P, hP⟩ : ∃ P, P = cnt (PRM B w) (3 ^ w) := ⟨_, rfl⟩
  have hP4 : P ≤ 40 := by rw [hP]; exact PRM_40 B hw
  rw [← hP] at hS H
  have hb : ∀ p, p < P → prc (tcp B w) p ≤ 2251799813685248 := fun p _ => prc_le (tcp_le B hw p)
  have hpos : ∀ p, p < P → 0 < prc (tcp B w) p := fun p _ => prc_pos _ p
  simp only [c_53, g_53_0, g_53_1, g_53_2, g_53_3, kv_w8_0, kv_w8_1, kv_w8_2, kv_w8_3, kv_w8_4, Nat.not_lt_zero, Bool.false_eq_true, Option.toList_some, Option.toList_none, List.cons_append, List.nil_append, kv_rv, kc1_i, kc1_r, kc1_n, n10, n01, n1514, n1213, n1312, if_true, if_false, not_true_eq_false, not_false_eq_true, and_self, true_and, and_true, false_and, and_false, or_true, true_or, or_false, false_or, Nat.reduceLeDiff, Nat.reduceLT, Nat.reduceEqDiff, Nat.reduceAdd, s_14 js, r_8_3 js]
  refine m_gather js hK hf hF.1 hw hF.2.2.1 hpw hP (fun τ fr h9 hG => ?_)
  have js2 := fr.js js
  simp only [g_53_6, g_53_7, kv_w8_0, kv_w8_1, kv_w8_2, kv_w8_3, kv_w8_4, Nat.not_lt_zero, Bool.false_eq_true, Option.toList_some, Option.toList_none, List.cons_append, List.nil_append, kv_rv, kc1_i, kc1_r, kc1_n, n10, n01, n1514, n1213, n1312, if_true, if_false, not_true_eq_false, not_false_eq_true, and_self, true_and, and_true, false_and, and_false, or_true, true_or, or_false, false_or, Nat.reduceLeDiff, Nat.reduceLT, Nat.reduceEqDiff, Nat.reduceAdd, s_14 js2, r_8_3 js2]
  refine m_cmp js2 ⟨h9, fun p hp => (hG p hp).2.2.1, fun p hp => (hG p hp).2.2.2⟩ hP4 hb (fun υ fr2 hv => ?_)
  have js3 := fr2.js js2
  have fr3 : FR FF σ υ := (fr.mono (fun b k q => by unfold FG at q; unfold FF; omega)).tr (fr2.mono (fun b k q => by unfold FC at q; unfold FF; omega))
  have js4 : JS (kv_sl (kv_sl υ 14 10 1152921504606846976) 14 11 0) := js3.of rfl rfl
  have fr4 : FR FF σ (kv_sl (kv_sl υ 14 10 1152921504606846976) 14 11 0) := (fr3.sl (Or.inr rfl)).sl (Or.inr rfl)
  have fr5 : FR FS υ (kv_sl (kv_sl υ 14 10 1152921504606846976) 14 11 0) := ((FR.rf FS υ).sl ⟨rfl, Or.inl rfl⟩).sl ⟨rfl, Or.inr rfl⟩
  have hv4 : CV P (Rp B w) (prc (tcp B w)) (kv_sl (kv_sl υ 14 10 1152921504606846976) 14 11 0) := hv.fr fr5 (fun b k q => by unfold FS at q; omega)
  have hF4 : JF1' (kv_sl (kv_sl υ 14 10 1152921504606846976) 14 11 0) f w := hF.fr fr4 (fun b k q => by unfold FF at q; omega) hf
  have eB : gB (kv_sl (kv_sl υ 14 10 1152921504606846976) 14 11 0) f w = gB σ f w := by funext r; unfold gB; rw [hld_fr fr4 (fun b j q => by unfold FF at q; omega)]
  have mf := fun Ψ => m_firstOnes (d := d + 33) (Φ := Ψ) js4 hf hF4 (show w ≤ 6 by omega)
  rw [eB] at mf
  have h94 := hv4.1
  simp only [g_53_10, g_53_11, g_53_14, g_53_17, g_53_18, g_53_19, g_53_22, g_53_23, g_53_24, g_53_27, g_53_28, g_53_29, g_53_30, g_53_33, g_53_34, g_53_35, g_53_36, g_53_37, g_53_38, kv_w8_0, kv_w8_1, kv_w8_2, kv_w8_3, kv_w8_4, Nat.not_lt_zero, Bool.false_eq_true, Option.toList_some, Option.toList_none, List.cons_append, List.nil_append, kv_rv, kc1_i, kc1_r, kc1_n, n10, n01, n1514, n1213, n1312, if_true, if_false, not_true_eq_false, not_false_eq_true, and_self, true_and, and_true, false_and, and_false, or_true, true_or, or_false, false_or, Nat.reduceLeDiff, Nat.reduceLT, Nat.reduceEqDiff, Nat.reduceAdd, sh_sl, r_sl, mf, lw_i, h94, lsh_k P (by omega), lall P (by omega), sT js3 hf, s_14 js3, r_8_3 js3]
  have e0 : (0 : Int64) = lw (fun _ => false) := (lw_0.mpr (fun r _ => rfl)).symm
  have ep : (0 : Int64) = Int64.ofNat (PRs (prc (tcp B w)) P (fun _ => false)) := by rw [PRs_0]; rfl
  have l := se_all (d := d) hP4 hS hpos hb 32 (gB σ f w) (fun q => decide (q < P)) (fun _ => false) 0 (kv_sl (kv_sl υ 14 10 1152921504606846976) 14 11 0) 1152921504606846976 (fun _ => false) (fun r τ => Wp (d + 36) 53 42 [.ref 14, .ref (37 + 4 * f), .ref 11, .null] (r.toList ++ []) τ Φ) js4 hv4 (cnt_le _ _) (by have := cnt_le (gB σ f w) 32; omega) (fun r hr => ⟨fun h => ⟨h, fun p _ h => by cases h⟩, fun h => h.1⟩) (fun p hp => ⟨of_decide_eq_true hp, rfl⟩) ⟨?_, ?_, Nat.le_refl _, Or.inl rfl⟩ (fun ω bp bs fr6 hB hbp hK6 => ?_)
  · rw [← e0, ← ep] at l
    simp only [g_53_39, kv_w8_0, kv_w8_1, kv_w8_2, kv_w8_3, kv_w8_4, Nat.not_lt_zero, Bool.false_eq_true, Option.toList_some, Option.toList_none, List.cons_append, List.nil_append, kv_rv, kc1_i, kc1_r, kc1_n, n10, n01, n1514, n1213, n1312, if_true, if_false, not_true_eq_false, not_false_eq_true, and_self, true_and, and_true, false_and, and_false, or_true, true_or, or_false, false_or, Nat.reduceLeDiff, Nat.reduceLT, Nat.reduceEqDiff, Nat.reduceAdd, sh_sl, s_14 js3, r_8_3 js3]
    exact l
  · rw [l_sl, if_neg (by decide), l_sl, if_pos ⟨rfl, rfl⟩]; rfl
  · rw [l_sl, if_pos ⟨rfl, rfl⟩]; exact e0
  · have fr7 : FR FF σ ω := fr4.tr (fr6.mono (fun b k q => Or.inr q.1))
    have js5 := fr7.js js
    have hle := hK6 ⟨fun p _ h => (by cases h), fun p hp _ _ => decide_eq_true hp⟩
    have hSle := PRs_le (S := S) hb
    have hbest : ∀ p, p < P → bs p = S p := by
      rcases hB.2.2.2 with z | ⟨z1, z2⟩
      · omega
      · have := hS.2 bs z1
        exact PRs_inj hP4 (fun p _ => tcp_le B hw p) (by omega)
    have t16 : ∀ p, p < P → kv_i ω 16 p = Int32.ofNat (pnm B w p) ∧ kv_i ω 17 p = Int32.ofNat (tcp B w p) := fun p hp => by
      rw [fr6.i (b := 16) (by unfold FS; omega), fr6.i (b := 17) (by unfold FS; omega), fr5.i (b := 16) (by unfold FS; omega), fr5.i (b := 17) (by unfold FS; omega), fr2.i (b := 16) (by unfold FC; omega), fr2.i (b := 17) (by unfold FC; omega)]
      exact ⟨(hG p hp).1, (hG p hp).2.1⟩
    have t9 : kv_i ω 14 9 = Int32.ofNat P := by rw [fr6.i (by unfold FS; omega)]; exact h94
    simp only [g_53_42, g_53_43, g_53_44, g_53_47, g_53_48, g_53_49, g_53_52, g_53_53, Nat.not_lt_zero, Bool.false_eq_true, Option.toList_some, Option.toList_none, List.cons_append, List.nil_append, kv_rv, kc1_i, kc1_r, kc1_n, n10, n01, n1514, n1213, n1312, if_true, if_false, not_true_eq_false, not_false_eq_true, and_self, true_and, and_true, false_and, and_false, or_true, true_or, or_false, false_or, Nat.reduceLeDiff, Nat.reduceLT, Nat.reduceEqDiff, Nat.reduceAdd, sh_si, s_14 js5, r_8_3 js5]
    have fr8 : FR FT ω (kv_si (kv_si ω 14 1 0) 14 2 0) := ((FR.rf FT ω).si (Or.inr ⟨rfl, Or.inl rfl⟩)).si (Or.inr ⟨rfl, Or.inr rfl⟩)
    refine fi_loop (σ := ω) js5 hP4 t9 hB.2.1 hbest (fun p hp => (t16 p hp).1) (fun p hp => (t16 p hp).2) (fun χ fr9 k1 k2 k3 => H χ (fr7.tr (fr9.mono (fun b k q => by unfold FT at q; unfold FF; omega))) k1 k2 k3) P 0 (by omega) _ fr8 ?_ ?_ (fun q hq => absurd hq (by omega))
    · rw [i_si, if_neg (by omega), i_si, if_pos ⟨rfl, rfl⟩]; rfl
    · rw [i_si, if_pos ⟨rfl, rfl⟩]; rfl
end CE

/-! ===== least sums, the class: a price that no sum is below ===== -/
theorem lar_le {a b : Nat} (ha : a < 9223372036854775808) (hb : b < 9223372036854775808) : (Int64.ofNat a ≤ Int64.ofNat b) = (a ≤ b) := by
  rw [Int64.le_iff_toInt_le, lar_i ha, lar_i hb]; exact propext Int.ofNat_le
section CB
variable {d : Nat} {σ : kv_S} {Φ : Option Value → kv_S → Prop} {P : Nat} {R : Nat → Nat → Bool} {pr : Nat → Nat}
theorem lp_in (js : JS σ) (hc : CV P R pr σ) (hP : P ≤ 40) (hb : ∀ p, p < P → pr p ≤ 2251799813685248) {Q C : Nat → Bool} {i1 i7 : Int32} {l2 l4 : Int64} (H : ∀ (c : Nat) (v12 : Value), c ≤ 1152921504606846976 → (∀ q, q < P → C q = true → c ≤ pr q) → Wp (d + 1) 60 111 [.ref 14, .int i1, .long l2, .null, .long l4, .null, .int (iw (fun r => Q r && !anyN (fun q => C q && R q r) P)), .int i7, .long (lw C), .null, .long (Int64.ofNat c), .null, v12] [] σ Φ) : ∀ m p, p + m = P → ∀ c : Nat, c ≤ 1152921504606846976 → (∀ q, q < p → C q = true → c ≤ pr q) → Wp (d + 1) 60 56 [.ref 14, .int i1, .long l2, .null, .long l4, .null, .int (iw (fun r => Q r && !anyN (fun q => C q && R q r) p)), .int i7, .long (lw C), .null, .long (Int64.ofNat c), .null, .int (Int32.ofNat p)] [] σ Φ
  | 0, p, e, c, hcb, hI => by
    have e2 : p = P := by omega
    subst e2
    simp only [g_60_56, g_60_58, g_60_59, g_60_62, ari_aa, ari_al, ari_la, ari_mm, ari_ml, ari_lm, ari_ltl, ari_llt, ari_lt, ari_le, ari_lel, ari_lle, ari_0, ari_eq, ari_eql, ari_leq, ari_cl, Nat.not_lt_zero, Bool.false_eq_true, Option.toList_some, Option.toList_none, List.cons_append, List.nil_append, kv_rv, kc1_i, kc1_r, kc1_n, n10, n01, n1514, n1213, n1312, if_true, if_false, not_true_eq_false, not_false_eq_true, and_self, true_and, and_true, false_and, and_false, or_true, true_or, or_false, false_or, Nat.reduceLeDiff, Nat.reduceLT, Nat.reduceEqDiff, Nat.reduceAdd, hc.1, s_14 js, r_8_3 js, (show p < 41 by omega), (show p < 2147483648 by omega), (show p ≤ p by omega)]
    exact H c _ hcb hI
  | m + 1, p, e, c, hcb, hI => by
    have es : ∀ r, anyN (fun q => C q && R q r) (p + 1) = (anyN (fun q => C q && R q r) p || (C p && R p r)) := fun r => rfl
    simp only [g_60_56, g_60_58, g_60_59, g_60_62, ari_aa, ari_al, ari_la, ari_mm, ari_ml, ari_lm, ari_ltl, ari_llt, ari_lt, ari_le, ari_lel, ari_lle, ari_0, ari_eq, ari_eql, ari_leq, ari_cl, Nat.not_lt_zero, Bool.false_eq_true, Option.toList_some, Option.toList_none, List.cons_append, List.nil_append, kv_rv, kc1_i, kc1_r, kc1_n, n10, n01, n1514, n1213, n1312, if_true, if_false, not_true_eq_false, not_false_eq_true, and_self, true_and, and_true, false_and, and_false, or_true, true_or, or_false, false_or, Nat.reduceLeDiff, Nat.reduceLT, Nat.reduceEqDiff, Nat.reduceAdd, hc.1, s_14 js, r_8_3 js, (show p < 41 by omega), (show p < 2147483648 by omega), (show P < 41 by omega), (show P < 2147483648 by omega), (show ¬ P ≤ p by omega)]
    cases cC : C p with
    | false =>
      have eb : (fun r => Q r && !anyN (fun q => C q && R q r) (p + 1)) = (fun r => Q r && !anyN (fun q => C q && R q r) p) := by funext r; rw [es, cC]; simp
      have nx := lp_in js hc hP hb (Q := Q) H m (p + 1) (by omega) c hcb (fun q hq hCq => by
        by_cases z : q = p
        · rw [z, cC] at hCq; cases hCq
        · exact hI q (by omega) hCq)
      rw [eb] at nx
      simp only [g_60_65, g_60_67, g_60_69, g_60_70, g_60_71, g_60_72, g_60_73, g_60_74, g_60_105, g_60_108, ari_aa, ari_al, ari_la, ari_mm, ari_ml, ari_lm, ari_ltl, ari_llt, ari_lt, ari_le, ari_lel, ari_lle, ari_0, ari_eq, ari_eql, ari_leq, ari_cl, Nat.not_lt_zero, Bool.false_eq_true, Option.toList_some, Option.toList_none, List.cons_append, List.nil_append, kv_rv, kc1_i, kc1_r, kc1_n, n10, n01, n1514, n1213, n1312, if_true, if_false, not_true_eq_false, not_false_eq_true, and_self, true_and, and_true, false_and, and_false, or_true, true_or, or_false, false_or, Nat.reduceLeDiff, Nat.reduceLT, Nat.reduceEqDiff, Nat.reduceAdd, lsh_k p (by omega), lw_bit C (show p < 64 by omega), cC, lg_cmp_eq]
      exact nx
    | true =>
      have eb : (fun r => (Q r && !anyN (fun q => C q && R q r) p) && !R p r) = (fun r => Q r && !anyN (fun q => C q && R q r) (p + 1)) := by funext r; rw [es, cC, Bool.true_and, Bool.not_or, Bool.and_assoc]
      have hbp := hb p (by omega)
      by_cases c2 : pr p < c
      · have nx := lp_in js hc hP hb (Q := Q) H m (p + 1) (by omega) (pr p) (by omega) (fun q hq hCq => by
          by_cases z : q = p
          · rw [z]; exact Nat.le_refl _
          · have := hI q (by omega) hCq; omega)
        simp only [g_60_65, g_60_67, g_60_69, g_60_70, g_60_71, g_60_72, g_60_73, g_60_74, g_60_77, g_60_79, g_60_80, g_60_83, g_60_85, g_60_86, g_60_89, g_60_91, g_60_93, g_60_94, g_60_97, g_60_99, g_60_100, g_60_101, g_60_102, g_60_103, g_60_105, g_60_108, kv_w8_0, kv_w8_1, kv_w8_2, kv_w8_3, kv_w8_4, ari_aa, ari_al, ari_la, ari_mm, ari_ml, ari_lm, ari_ltl, ari_llt, ari_lt, ari_le, ari_lel, ari_lle, ari_0, ari_eq, ari_eql, ari_leq, ari_cl, Nat.not_lt_zero, Bool.false_eq_true, Option.toList_some, Option.toList_none, List.cons_append, List.nil_append, kv_rv, kc1_i, kc1_r, kc1_n, n10, n01, n1514, n1213, n1312, if_true, if_false, not_true_eq_false, not_false_eq_true, and_self, true_and, and_true, false_and, and_false, or_true, true_or, or_false, false_or, Nat.reduceLeDiff, Nat.reduceLT, Nat.reduceEqDiff, Nat.reduceAdd, lsh_k p (by omega), lw_bit C (show p < 64 by omega), cC, lg_cmp_eq, (show ¬ (1 : Int64) = 0 by decide), hc.2.2.1 p (by omega), hc.2.1 p (by omega), iw_andn, eb, lar_lt (show pr p < 9223372036854775808 by omega) (show c < 9223372036854775808 by omega), c2, s_14 js, r_8_3 js, s_18 js, r_14_5 js, s_19 js, r_14_6 js, (show p < 40 by omega), (show p < 2147483648 by omega)]
        exact nx
      · have nx := lp_in js hc hP hb (Q := Q) H m (p + 1) (by omega) c hcb (fun q hq hCq => by
          by_cases z : q = p
          · rw [z]; omega
          · exact hI q (by omega) hCq)
        simp only [g_60_65, g_60_67, g_60_69, g_60_70, g_60_71, g_60_72, g_60_73, g_60_74, g_60_77, g_60_79, g_60_80, g_60_83, g_60_85, g_60_86, g_60_89, g_60_91, g_60_93, g_60_94, g_60_97, g_60_99, g_60_100, g_60_101, g_60_102, g_60_103, g_60_105, g_60_108, kv_w8_0, kv_w8_1, kv_w8_2, kv_w8_3, kv_w8_4, ari_aa, ari_al, ari_la, ari_mm, ari_ml, ari_lm, ari_ltl, ari_llt, ari_lt, ari_le, ari_lel, ari_lle, ari_0, ari_eq, ari_eql, ari_leq, ari_cl, Nat.not_lt_zero, Bool.false_eq_true, Option.toList_some, Option.toList_none, List.cons_append, List.nil_append, kv_rv, kc1_i, kc1_r, kc1_n, n10, n01, n1514, n1213, n1312, if_true, if_false, not_true_eq_false, not_false_eq_true, and_self, true_and, and_true, false_and, and_false, or_true, true_or, or_false, false_or, Nat.reduceLeDiff, Nat.reduceLT, Nat.reduceEqDiff, Nat.reduceAdd, lsh_k p (by omega), lw_bit C (show p < 64 by omega), cC, lg_cmp_eq, (show ¬ (1 : Int64) = 0 by decide), hc.2.2.1 p (by omega), hc.2.1 p (by omega), iw_andn, eb, lar_lt (show pr p < 9223372036854775808 by omega) (show c < 9223372036854775808 by omega), c2, s_14 js, r_8_3 js, s_18 js, r_14_5 js, s_19 js, r_14_6 js, (show p < 40 by omega), (show p < 2147483648 by omega)]
        exact nx
/-- a set of open primes that holds at all rows in need -/
def VX (P : Nat) (R : Nat → Nat → Bool) (N O X : Nat → Bool) : Prop := (∀ p, p < P → X p = true → O p = true) ∧ ∀ r, r < 32 → N r = true → ∃ p, p < P ∧ X p = true ∧ R p r = true
theorem lp_loop (js : JS σ) (hc : CV P R pr σ) (hP : P ≤ 40) (hb : ∀ p, p < P → pr p ≤ 2251799813685248) {N O : Nat → Bool} {i1 : Int32} (H : ∀ v : Nat, v ≤ 1152921504606846976 → (∀ X, VX P R N O X → v ≤ PRs pr P X) → Φ (some (.long (Int64.ofNat v))) σ) : ∀ m i, i + m = 32 → ∀ (Q U : Nat → Bool) (t : Nat), (∀ r, r < 32 → Q r = true → N r = true) → (∀ r, r < 32 → Q r = true → ∀ p, p < P → U p = true → R p r = false) → t ≤ i * 2251799813685248 → (∀ X, VX P R N O X → t ≤ PRs pr P (fun p => X p && U p)) → ∀ v8 v9 v10 v11 v12 : Value, Wp (d + 2) 60 9 [.ref 14, .int i1, .long (lw O), .null, .long (Int64.ofNat t), .null, .int (iw Q), .int (Int32.ofNat i), v8, v9, v10, v11, v12] [] σ Φ
  | 0, i, e, Q, U, t, h1, h2, h3, h4, v8, v9, v10, v11, v12 => by
    have e2 : i = 32 := by omega
    subst e2
    simp only [g_60_9, g_60_11, g_60_13, g_60_124, g_60_126, ari_aa, ari_al, ari_la, ari_mm, ari_ml, ari_lm, ari_ltl, ari_llt, ari_lt, ari_le, ari_lel, ari_lle, ari_0, ari_eq, ari_eql, ari_leq, ari_cl, Nat.not_lt_zero, Bool.false_eq_true, Option.toList_some, Option.toList_none, List.cons_append, List.nil_append, kv_rv, kc1_i, kc1_r, kc1_n, n10, n01, n1514, n1213, n1312, if_true, if_false, not_true_eq_false, not_false_eq_true, and_self, true_and, and_true, false_and, and_false, or_true, true_or, or_false, false_or, Nat.reduceLeDiff, Nat.reduceLT, Nat.reduceEqDiff, Nat.reduceAdd]
    exact H t (by omega) (fun X hX => Nat.le_trans (h4 X hX) (PRs_mono (fun p _ hp => by (try dsimp only at hp); rw [Bool.and_eq_true] at hp; exact hp.1)))
  | m + 1, i, e, Q, U, t, h1, h2, h3, h4, v8, v9, v10, v11, v12 => by
    simp only [g_60_9, g_60_11, g_60_13, ari_aa, ari_al, ari_la, ari_mm, ari_ml, ari_lm, ari_ltl, ari_llt, ari_lt, ari_le, ari_lel, ari_lle, ari_0, ari_eq, ari_eql, ari_leq, ari_cl, Nat.not_lt_zero, Bool.false_eq_true, Option.toList_some, Option.toList_none, List.cons_append, List.nil_append, kv_rv, kc1_i, kc1_r, kc1_n, n10, n01, n1514, n1213, n1312, if_true, if_false, not_true_eq_false, not_false_eq_true, and_self, true_and, and_true, false_and, and_false, or_true, true_or, or_false, false_or, Nat.reduceLeDiff, Nat.reduceLT, Nat.reduceEqDiff, Nat.reduceAdd, (show i < 32 by omega), (show i < 2147483648 by omega), (show ¬ 32 ≤ i by omega)]
    by_cases c0 : iw Q = 0
    · simp only [g_60_16, g_60_18, g_60_124, g_60_126, Nat.not_lt_zero, Bool.false_eq_true, Option.toList_some, Option.toList_none, List.cons_append, List.nil_append, kv_rv, kc1_i, kc1_r, kc1_n, n10, n01, n1514, n1213, n1312, if_true, if_false, not_true_eq_false, not_false_eq_true, and_self, true_and, and_true, false_and, and_false, or_true, true_or, or_false, false_or, Nat.reduceLeDiff, Nat.reduceLT, Nat.reduceEqDiff, Nat.reduceAdd, c0]
      exact H t (by omega) (fun X hX => Nat.le_trans (h4 X hX) (PRs_mono (fun p _ hp => by (try dsimp only at hp); rw [Bool.and_eq_true] at hp; exact hp.1)))
    · simp only [g_60_16, g_60_18, g_60_21, g_60_22, g_60_25, g_60_26, g_60_28, g_60_29, kv_w8_0, kv_w8_1, kv_w8_2, kv_w8_3, kv_w8_4, Nat.not_lt_zero, Bool.false_eq_true, Option.toList_some, Option.toList_none, List.cons_append, List.nil_append, kv_rv, kc1_i, kc1_r, kc1_n, n10, n01, n1514, n1213, n1312, if_true, if_false, not_true_eq_false, not_false_eq_true, and_self, true_and, and_true, false_and, and_false, or_true, true_or, or_false, false_or, Nat.reduceLeDiff, Nat.reduceLT, Nat.reduceEqDiff, Nat.reduceAdd, c0, s_14 js, r_8_3 js, s_21 js, r_14_8 js]
      refine m_tight js hc hP (iw_n0.mp c0) (fun ρ hρ hQρ => ?_)
      simp only [g_60_32, g_60_33, g_60_34, g_60_35, ari_aa, ari_al, ari_la, ari_mm, ari_ml, ari_lm, ari_ltl, ari_llt, ari_lt, ari_le, ari_lel, ari_lle, ari_0, ari_eq, ari_eql, ari_leq, ari_cl, Nat.not_lt_zero, Bool.false_eq_true, Option.toList_some, Option.toList_none, List.cons_append, List.nil_append, kv_rv, kc1_i, kc1_r, kc1_n, n10, n01, n1514, n1213, n1312, if_true, if_false, not_true_eq_false, not_false_eq_true, and_self, true_and, and_true, false_and, and_false, or_true, true_or, or_false, false_or, Nat.reduceLeDiff, Nat.reduceLT, Nat.reduceEqDiff, Nat.reduceAdd, hc.2.2.2.2 ρ hρ, lw_and, s_21 js, r_14_8 js, (show ρ < 32 by omega), (show ρ < 2147483648 by omega)]
      have eC : ∀ q, ((decide (q < P) && R q ρ) && O q) = true ↔ q < P ∧ R q ρ = true ∧ O q = true := fun q => by
        rw [Bool.and_eq_true, Bool.and_eq_true, decide_eq_true_eq, and_assoc]
      by_cases c1 : lw (fun p => (decide (p < P) && R p ρ) && O p) = 0
      · simp only [g_60_37, g_60_39, g_60_40, g_60_41, g_60_44, g_60_47, Nat.not_lt_zero, Bool.false_eq_true, Option.toList_some, Option.toList_none, List.cons_append, List.nil_append, kv_rv, kc1_i, kc1_r, kc1_n, n10, n01, n1514, n1213, n1312, if_true, if_false, not_true_eq_false, not_false_eq_true, and_self, true_and, and_true, false_and, and_false, or_true, true_or, or_false, false_or, Nat.reduceLeDiff, Nat.reduceLT, Nat.reduceEqDiff, Nat.reduceAdd, lg_cmp_eq, c1]
        refine H 1152921504606846976 (Nat.le_refl _) (fun X hX => ?_)
        obtain ⟨p, hp, hXp, hRp⟩ := hX.2 ρ hρ (h1 ρ hρ hQρ)
        have := lw_0.mp c1 p (by omega)
        try dsimp only at this
        rw [(eC p).mpr ⟨hp, hRp, hX.1 p hp hXp⟩] at this
        cases this
      · obtain ⟨q0, hq0, hC0⟩ := lw_n0.mp c1
        have hC0 := (eC q0).mp hC0
        have e0 : iw Q = iw (fun r => Q r && !anyN (fun q => ((decide (q < P) && R q ρ) && O q) && R q r) 0) := iw_eq.mpr (fun r hr => by simp [anyN])
        simp only [g_60_37, g_60_39, g_60_40, g_60_41, g_60_44, g_60_47, g_60_48, g_60_51, g_60_53, g_60_54, Nat.not_lt_zero, Bool.false_eq_true, Option.toList_some, Option.toList_none, List.cons_append, List.nil_append, kv_rv, kc1_i, kc1_r, kc1_n, n10, n01, n1514, n1213, n1312, if_true, if_false, not_true_eq_false, not_false_eq_true, and_self, true_and, and_true, false_and, and_false, or_true, true_or, or_false, false_or, Nat.reduceLeDiff, Nat.reduceLT, Nat.reduceEqDiff, Nat.reduceAdd, lg_cmp_eq, c1]
        rw [e0]
        refine lp_in js hc hP hb (C := fun p => (decide (p < P) && R p ρ) && O p) (fun c v12 hcb hcq => ?_) P 0 (by omega) 1152921504606846976 (Nat.le_refl _) (fun q hq => absurd hq (by omega))
        have hcs := hcq q0 hC0.1 ((eC q0).mpr hC0)
        have hbs := hb q0 hC0.1
        simp only [g_60_111, g_60_113, g_60_115, g_60_116, g_60_118, g_60_121, ari_aa, ari_al, ari_la, ari_mm, ari_ml, ari_lm, ari_ltl, ari_llt, ari_lt, ari_le, ari_lel, ari_lle, ari_0, ari_eq, ari_eql, ari_leq, ari_cl, Nat.not_lt_zero, Bool.false_eq_true, Option.toList_some, Option.toList_none, List.cons_append, List.nil_append, kv_rv, kc1_i, kc1_r, kc1_n, n10, n01, n1514, n1213, n1312, if_true, if_false, not_true_eq_false, not_false_eq_true, and_self, true_and, and_true, false_and, and_false, or_true, true_or, or_false, false_or, Nat.reduceLeDiff, Nat.reduceLT, Nat.reduceEqDiff, Nat.reduceAdd, lar_add]
        refine lp_loop js hc hP hb H m (i + 1) (by omega) _ (fun p => U p || ((decide (p < P) && R p ρ) && O p)) (t + c) (fun r hr hQ => ?_) (fun r hr hQ p hp hU => ?_) (by omega) (fun X hX => ?_) _ _ _ _ _
        · try dsimp only at hQ
          rw [Bool.and_eq_true] at hQ
          exact h1 r hr hQ.1
        · try dsimp only at hQ hU
          rw [Bool.and_eq_true, Bool.not_eq_true'] at hQ
          rw [Bool.or_eq_true] at hU
          rcases hU with z | z
          · exact h2 r hr hQ.1 p hp z
          · refine Bool.eq_false_iff.mpr fun hR => ?_
            have : anyN (fun q => ((decide (q < P) && R q ρ) && O q) && R q r) P = true := (anyN_iff _).mpr ⟨p, hp, by (try dsimp only); rw [z, hR]; rfl⟩
            rw [hQ.2] at this; cases this
        · obtain ⟨p, hp, hXp, hRp⟩ := hX.2 ρ hρ (h1 ρ hρ hQρ)
          have hC := (eC p).mpr ⟨hp, hRp, hX.1 p hp hXp⟩
          have hU : U p = false := Bool.eq_false_iff.mpr fun hU => by
            have := h2 ρ hρ hQρ p hp hU
            rw [hRp] at this; cases this
          have a := h4 X hX
          have b := PRs_add (pr := pr) (P := P) (S := fun p => X p && U p) (T := fun p => X p && (U p || ((decide (p < P) && R p ρ) && O p))) (q := p) (fun u _ hu => by
            try dsimp only at hu ⊢
            rw [Bool.and_eq_true] at hu
            rw [hu.1, hu.2]; rfl) hp (by (try dsimp only); rw [hXp, hC, Bool.or_true]; rfl) (by (try dsimp only); rw [hU, Bool.and_false])
          have c3 := hcq p hp hC
          omega
theorem m_leastPrice (js : JS σ) (hc : CV P R pr σ) (hP : P ≤ 40) (hb : ∀ p, p < P → pr p ≤ 2251799813685248) {N O : Nat → Bool} (H : ∀ v : Nat, v ≤ 1152921504606846976 → (∀ X, VX P R N O X → v ≤ PRs pr P X) → Φ (some (.long (Int64.ofNat v))) σ) : Wc (d + 2) 60 [.ref 14, .int (iw N), .long (lw O)] σ Φ := by
  have l := lp_loop (d := d) (i1 := iw N) js hc hP hb H 32 0 (by omega) N (fun _ => false) 0 (fun r _ h => h) (fun r _ _ p _ h => by cases h) (Nat.zero_le _) (fun X _ => Nat.zero_le _) .null .null .null .null .null
  simp only [c_60, g_60_0, g_60_1, g_60_3, g_60_4, g_60_6, g_60_7, Nat.not_lt_zero, Bool.false_eq_true, Option.toList_some, Option.toList_none, List.cons_append, List.nil_append, kv_rv, kc1_i, kc1_r, kc1_n, n10, n01, n1514, n1213, n1312, if_true, if_false, not_true_eq_false, not_false_eq_true, and_self, true_and, and_true, false_and, and_false, or_true, true_or, or_false, false_or, Nat.reduceLeDiff, Nat.reduceLT, Nat.reduceEqDiff, Nat.reduceAdd]
  exact l
end CB

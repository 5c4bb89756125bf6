/-! ===== least sums, the class: the tightest row, what is not dominated, the least price ===== -/
def CV (P : Nat) (R : Nat → Nat → Bool) (pr : Nat → Nat) (τ : kv_S) : Prop := kv_i τ 14 9 = Int32.ofNat P ∧ (∀ p, p < P → kv_i τ 18 p = iw (R p)) ∧ (∀ p, p < P → kv_l τ 19 p = Int64.ofNat (pr p)) ∧ (∀ p, p < P → kv_l τ 20 p = lw (fun q => decide (q < P) && decide (pr q < pr p))) ∧ ∀ r, r < 32 → kv_l τ 21 r = lw (fun p => decide (p < P) && R p r)
theorem CV.fr {Q : Nat → Nat → Prop} {σ τ : kv_S} (h : FR Q σ τ) {P : Nat} {R : Nat → Nat → Bool} {pr : Nat → Nat} (hq : ∀ b k, Q b k → ¬ (b = 14 ∧ k = 9 ∨ 18 ≤ b ∧ b ≤ 21)) (H : CV P R pr σ) : CV P R pr τ := by
  obtain ⟨h1, h2, h3, h4, h5⟩ := H
  refine ⟨(h.i (fun q => hq _ _ q (by omega))).trans h1, fun p hp => (h.i (fun q => hq _ _ q (by omega))).trans (h2 p hp), fun p hp => (h.l (fun q => hq _ _ q (by omega))).trans (h3 p hp), fun p hp => (h.l (fun q => hq _ _ q (by omega))).trans (h4 p hp), fun p hp => (h.l (fun q => hq _ _ q (by omega))).trans (h5 p hp)⟩
section CA
variable {d : Nat} {σ : kv_S} {Φ : Option Value → kv_S → Prop} {P : Nat} {R : Nat → Nat → Bool} {pr : Nat → Nat}
theorem m_lbw (f : Nat → Bool) : Wc d 62 [.long (lw f)] σ Φ = Φ (some (.int (Int32.ofNat (cnt f 64)))) σ := by
  have h := m_lbitCount (d := d) (σ := σ) (Φ := Φ) (wd_lt f 64)
  rw [lw_cnt] at h
  exact h
theorem ti_loop (js : JS σ) (hc : CV P R pr σ) (hP : P ≤ 40) {N O : Nat → Bool} (hN : ∃ r, r < 32 ∧ N r = true) (H : ∀ ρ, ρ < 32 → N ρ = true → Φ (some (.int (Int32.ofNat ρ))) σ) : ∀ m row, row + m = 32 → ∀ b fw : Nat, b < 32 → fw ≤ 41 → (N b = true ∨ fw = 41 ∧ ∀ r, r < row → N r = false) → ∀ v7 : Value, Wp (d + 1) 61 10 [.ref 14, .int (iw N), .long (lw O), .null, .int (Int32.ofNat b), .int (Int32.ofNat fw), .int (Int32.ofNat row), v7] [] σ Φ
  | 0, row, e, b, fw, hb, hfw, hI, v7 => by
    have e2 : row = 32 := by omega
    subst e2
    simp only [g_61_10, g_61_12, g_61_14, g_61_61, g_61_63, ari_aa, ari_al, ari_la, ari_mm, ari_ml, ari_lm, ari_ltl, ari_llt, ari_lt, ari_le, ari_lel, ari_lle, ari_0, ari_eq, ari_eql, ari_leq, ari_cl, Nat.not_lt_zero, Bool.false_eq_true, Option.toList_some, Option.toList_none, List.cons_append, List.nil_append, kv_rv, kc1_i, kc1_r, kc1_n, n10, n01, n1514, n1213, n1312, if_true, if_false, not_true_eq_false, not_false_eq_true, and_self, true_and, and_true, false_and, and_false, or_true, true_or, or_false, false_or, Nat.reduceLeDiff, Nat.reduceLT, Nat.reduceEqDiff, Nat.reduceAdd]
    rcases hI with z | ⟨-, z⟩
    · exact H b hb z
    · obtain ⟨r, h1, h2⟩ := hN
      rw [z r h1] at h2; cases h2
  | m + 1, row, e, b, fw, hb, hfw, hI, v7 => by
    simp only [g_61_10, g_61_12, g_61_14, ari_aa, ari_al, ari_la, ari_mm, ari_ml, ari_lm, ari_ltl, ari_llt, ari_lt, ari_le, ari_lel, ari_lle, ari_0, ari_eq, ari_eql, ari_leq, ari_cl, Nat.not_lt_zero, Bool.false_eq_true, Option.toList_some, Option.toList_none, List.cons_append, List.nil_append, kv_rv, kc1_i, kc1_r, kc1_n, n10, n01, n1514, n1213, n1312, if_true, if_false, not_true_eq_false, not_false_eq_true, and_self, true_and, and_true, false_and, and_false, or_true, true_or, or_false, false_or, Nat.reduceLeDiff, Nat.reduceLT, Nat.reduceEqDiff, Nat.reduceAdd, (show row < 32 by omega), (show row < 2147483648 by omega), (show ¬ 32 ≤ row by omega)]
    cases cN : N row with
    | false =>
      simp only [g_61_17, g_61_18, g_61_20, g_61_21, g_61_22, g_61_23, g_61_55, g_61_58, ari_aa, ari_al, ari_la, ari_mm, ari_ml, ari_lm, ari_ltl, ari_llt, ari_lt, ari_le, ari_lel, ari_lle, ari_0, ari_eq, ari_eql, ari_leq, ari_cl, Nat.not_lt_zero, Bool.false_eq_true, Option.toList_some, Option.toList_none, List.cons_append, List.nil_append, kv_rv, kc1_i, kc1_r, kc1_n, n10, n01, n1514, n1213, n1312, if_true, if_false, not_true_eq_false, not_false_eq_true, and_self, true_and, and_true, false_and, and_false, or_true, true_or, or_false, false_or, Nat.reduceLeDiff, Nat.reduceLT, Nat.reduceEqDiff, Nat.reduceAdd, ari_31 (show row < 32 by omega), iw_bit N (show row < 32 by omega), cN, bI_f]
      refine ti_loop js hc hP hN H m (row + 1) (by omega) b fw hb hfw ?_ _
      rcases hI with z | ⟨z1, z2⟩
      · exact Or.inl z
      · refine Or.inr ⟨z1, fun r hr => ?_⟩
        by_cases c : r = row
        · rw [c]; exact cN
        · exact z2 r (by omega)
    | true =>
      have hcl : cnt (fun p => (decide (p < P) && R p row) && O p) 64 ≤ 40 := by
        rw [cnt_ext (a := 40) (b := 64) (by decide) (fun r h1 _ => by rw [decide_eq_false (show ¬ r < P by omega)]; rfl)]
        exact cnt_le _ _
      simp only [g_61_17, g_61_18, g_61_20, g_61_21, g_61_22, g_61_23, g_61_26, g_61_27, g_61_30, g_61_32, g_61_33, g_61_34, g_61_35, kv_w8_0, kv_w8_1, kv_w8_2, kv_w8_3, kv_w8_4, ari_aa, ari_al, ari_la, ari_mm, ari_ml, ari_lm, ari_ltl, ari_llt, ari_lt, ari_le, ari_lel, ari_lle, ari_0, ari_eq, ari_eql, ari_leq, ari_cl, Nat.not_lt_zero, Bool.false_eq_true, Option.toList_some, Option.toList_none, List.cons_append, List.nil_append, kv_rv, kc1_i, kc1_r, kc1_n, n10, n01, n1514, n1213, n1312, if_true, if_false, not_true_eq_false, not_false_eq_true, and_self, true_and, and_true, false_and, and_false, or_true, true_or, or_false, false_or, Nat.reduceLeDiff, Nat.reduceLT, Nat.reduceEqDiff, Nat.reduceAdd, ari_31 (show row < 32 by omega), iw_bit N (show row < 32 by omega), cN, bI_t, hc.2.2.2.2 row (by omega), lw_and, m_lbw, s_14 js, r_8_3 js, s_21 js, r_14_8 js, (show row < 32 by omega), (show row < 2147483648 by omega)]
      generalize cnt (fun p => (decide (p < P) && R p row) && O p) 64 = c at hcl ⊢
      by_cases c2 : fw ≤ c
      · simp only [g_61_38, g_61_40, g_61_42, g_61_44, g_61_55, g_61_58, ari_aa, ari_al, ari_la, ari_mm, ari_ml, ari_lm, ari_ltl, ari_llt, ari_lt, ari_le, ari_lel, ari_lle, ari_0, ari_eq, ari_eql, ari_leq, ari_cl, Nat.not_lt_zero, Bool.false_eq_true, Option.toList_some, Option.toList_none, List.cons_append, List.nil_append, kv_rv, kc1_i, kc1_r, kc1_n, n10, n01, n1514, n1213, n1312, if_true, if_false, not_true_eq_false, not_false_eq_true, and_self, true_and, and_true, false_and, and_false, or_true, true_or, or_false, false_or, Nat.reduceLeDiff, Nat.reduceLT, Nat.reduceEqDiff, Nat.reduceAdd, c2, (show c < 41 by omega), (show c < 2147483648 by omega), (show fw < 42 by omega), (show fw < 2147483648 by omega)]
        refine ti_loop js hc hP hN H m (row + 1) (by omega) b fw hb hfw (Or.inl ?_) _
        rcases hI with z | ⟨z1, z2⟩
        · exact z
        · omega
      · simp only [g_61_38, g_61_40, g_61_42, g_61_44, g_61_47, g_61_49, g_61_51, g_61_53, g_61_55, g_61_58, ari_aa, ari_al, ari_la, ari_mm, ari_ml, ari_lm, ari_ltl, ari_llt, ari_lt, ari_le, ari_lel, ari_lle, ari_0, ari_eq, ari_eql, ari_leq, ari_cl, Nat.not_lt_zero, Bool.false_eq_true, Option.toList_some, Option.toList_none, List.cons_append, List.nil_append, kv_rv, kc1_i, kc1_r, kc1_n, n10, n01, n1514, n1213, n1312, if_true, if_false, not_true_eq_false, not_false_eq_true, and_self, true_and, and_true, false_and, and_false, or_true, true_or, or_false, false_or, Nat.reduceLeDiff, Nat.reduceLT, Nat.reduceEqDiff, Nat.reduceAdd, c2, (show c < 41 by omega), (show c < 2147483648 by omega), (show fw < 42 by omega), (show fw < 2147483648 by omega)]
        exact ti_loop js hc hP hN H m (row + 1) (by omega) row c (by omega) (by omega) (Or.inl cN) _
theorem m_tight (js : JS σ) (hc : CV P R pr σ) (hP : P ≤ 40) {N O : Nat → Bool} (hN : ∃ r, r < 32 ∧ N r = true) (H : ∀ ρ, ρ < 32 → N ρ = true → Φ (some (.int (Int32.ofNat ρ))) σ) : Wc (d + 1) 61 [.ref 14, .int (iw N), .long (lw O)] σ Φ := by
  have l := ti_loop (d := d) js hc hP (O := O) hN H 32 0 (by omega) 0 41 (by omega) (by omega) (Or.inr ⟨rfl, fun r hr => absurd hr (by omega)⟩) .null
  simp only [c_61, g_61_0, g_61_1, g_61_3, g_61_5, g_61_7, g_61_8, Nat.not_lt_zero, Bool.false_eq_true, Option.toList_some, Option.toList_none, List.cons_append, List.nil_append, kv_rv, kc1_i, kc1_r, kc1_n, n10, n01, n1514, n1213, n1312, if_true, if_false, not_true_eq_false, not_false_eq_true, and_self, true_and, and_true, false_and, and_false, or_true, true_or, or_false, false_or, Nat.reduceLeDiff, Nat.reduceLT, Nat.reduceEqDiff, Nat.reduceAdd]
  exact l
/-- a prime is dominated: a cheaper one holds where it is needed, or it is not needed -/
def DOM (P : Nat) (R : Nat → Nat → Bool) (pr : Nat → Nat) (N W : Nat → Bool) (p : Nat) : Prop := (∃ q, q < P ∧ W q = true ∧ pr q < pr p ∧ ∀ r, r < 32 → N r = true → R p r = true → R q r = true) ∨ ∀ r, r < 32 → N r = true → R p r = false
def btf (P : Nat) (R : Nat → Nat → Bool) (pr : Nat → Nat) (N W : Nat → Bool) (p row q : Nat) : Bool := (W q && (decide (q < P) && decide (pr q < pr p))) && !anyN (fun r => (N r && R p r) && !R q r) row
theorem btf_s (N W : Nat → Bool) (p row q : Nat) : btf P R pr N W p (row + 1) q = (btf P R pr N W p row q && !((N row && R p row) && !R q row)) := by
  unfold btf
  show (_ && !(anyN (fun r => (N r && R p r) && !R q r) row || ((N row && R p row) && !R q row))) = _
  rw [Bool.not_or]
  simp only [Bool.and_assoc]
theorem un_in (js : JS σ) (hc : CV P R pr σ) {N W : Nat → Bool} {p : Nat} {i1 : Int32} {l2 : Int64} (H : ∀ (g : Nat → Bool) (v10 : Value), (lw g = 0 ∨ g = btf P R pr N W p 32) → Wp d 59 95 [.ref 14, .int i1, .long l2, .null, .long (lw W), .null, .int (Int32.ofNat p), .long (lw g), .null, .int (iw (fun r => N r && R p r)), v10] [] σ Φ) : ∀ m row, row + m = 32 → Wp d 59 53 [.ref 14, .int i1, .long l2, .null, .long (lw W), .null, .int (Int32.ofNat p), .long (lw (btf P R pr N W p row)), .null, .int (iw (fun r => N r && R p r)), .int (Int32.ofNat row)] [] σ Φ
  | 0, row, e => by
    have e2 : row = 32 := by omega
    subst e2
    by_cases c : lw (btf P R pr N W p 32) = 0
    · simp only [g_59_53, g_59_55, g_59_56, g_59_57, Nat.not_lt_zero, Bool.false_eq_true, Option.toList_some, Option.toList_none, List.cons_append, List.nil_append, kv_rv, kc1_i, kc1_r, kc1_n, n10, n01, n1514, n1213, n1312, if_true, if_false, not_true_eq_false, not_false_eq_true, and_self, true_and, and_true, false_and, and_false, or_true, true_or, or_false, false_or, Nat.reduceLeDiff, Nat.reduceLT, Nat.reduceEqDiff, Nat.reduceAdd, lg_cmp_eq, c]
      have := H (btf P R pr N W p 32) (.int (Int32.ofNat 32)) (Or.inl c)
      rw [c] at this
      exact this
    · simp only [g_59_53, g_59_55, g_59_56, g_59_57, g_59_60, g_59_62, g_59_64, ari_aa, ari_al, ari_la, ari_mm, ari_ml, ari_lm, ari_ltl, ari_llt, ari_lt, ari_le, ari_lel, ari_lle, ari_0, ari_eq, ari_eql, ari_leq, ari_cl, Nat.not_lt_zero, Bool.false_eq_true, Option.toList_some, Option.toList_none, List.cons_append, List.nil_append, kv_rv, kc1_i, kc1_r, kc1_n, n10, n01, n1514, n1213, n1312, if_true, if_false, not_true_eq_false, not_false_eq_true, and_self, true_and, and_true, false_and, and_false, or_true, true_or, or_false, false_or, Nat.reduceLeDiff, Nat.reduceLT, Nat.reduceEqDiff, Nat.reduceAdd, lg_cmp_eq, c]
      exact H _ _ (Or.inr rfl)
  | m + 1, row, e => by
    by_cases c : lw (btf P R pr N W p row) = 0
    · simp only [g_59_53, g_59_55, g_59_56, g_59_57, Nat.not_lt_zero, Bool.false_eq_true, Option.toList_some, Option.toList_none, List.cons_append, List.nil_append, kv_rv, kc1_i, kc1_r, kc1_n, n10, n01, n1514, n1213, n1312, if_true, if_false, not_true_eq_false, not_false_eq_true, and_self, true_and, and_true, false_and, and_false, or_true, true_or, or_false, false_or, Nat.reduceLeDiff, Nat.reduceLT, Nat.reduceEqDiff, Nat.reduceAdd, lg_cmp_eq, c]
      have := H (btf P R pr N W p row) (.int (Int32.ofNat row)) (Or.inl c)
      rw [c] at this
      exact this
    · have nx := un_in js hc H m (row + 1) (by omega)
      simp only [g_59_53, g_59_55, g_59_56, g_59_57, g_59_60, g_59_62, g_59_64, ari_aa, ari_al, ari_la, ari_mm, ari_ml, ari_lm, ari_ltl, ari_llt, ari_lt, ari_le, ari_lel, ari_lle, ari_0, ari_eq, ari_eql, ari_leq, ari_cl, Nat.not_lt_zero, Bool.false_eq_true, Option.toList_some, Option.toList_none, List.cons_append, List.nil_append, kv_rv, kc1_i, kc1_r, kc1_n, n10, n01, n1514, n1213, n1312, if_true, if_false, not_true_eq_false, not_false_eq_true, and_self, true_and, and_true, false_and, and_false, or_true, true_or, or_false, false_or, Nat.reduceLeDiff, Nat.reduceLT, Nat.reduceEqDiff, Nat.reduceAdd, lg_cmp_eq, c, (show row < 32 by omega), (show row < 2147483648 by omega), (show ¬ 32 ≤ row by omega)]
      cases cN : (N row && R p row) with
      | false =>
        have eb : btf P R pr N W p (row + 1) = btf P R pr N W p row := by
          funext q; rw [btf_s, cN]; simp
        rw [eb] at nx
        simp only [g_59_67, g_59_69, g_59_71, g_59_72, g_59_73, g_59_74, g_59_89, g_59_92, ari_aa, ari_al, ari_la, ari_mm, ari_ml, ari_lm, ari_ltl, ari_llt, ari_lt, ari_le, ari_lel, ari_lle, ari_0, ari_eq, ari_eql, ari_leq, ari_cl, Nat.not_lt_zero, Bool.false_eq_true, Option.toList_some, Option.toList_none, List.cons_append, List.nil_append, kv_rv, kc1_i, kc1_r, kc1_n, n10, n01, n1514, n1213, n1312, if_true, if_false, not_true_eq_false, not_false_eq_true, and_self, true_and, and_true, false_and, and_false, or_true, true_or, or_false, false_or, Nat.reduceLeDiff, Nat.reduceLT, Nat.reduceEqDiff, Nat.reduceAdd, ari_31 (show row < 32 by omega), iw_bit (fun r => N r && R p r) (show row < 32 by omega), cN, bI_f]
        exact nx
      | true =>
        have eb : lw (fun q => btf P R pr N W p row q && (decide (q < P) && R q row)) = lw (btf P R pr N W p (row + 1)) := lw_eq.mpr (fun q hq => by
          rw [btf_s, cN]
          unfold btf
          cases W q <;> cases decide (q < P) <;> cases R q row <;> simp)
        simp only [g_59_67, g_59_69, g_59_71, g_59_72, g_59_73, g_59_74, g_59_77, g_59_79, g_59_80, g_59_83, g_59_85, g_59_86, g_59_87, g_59_89, g_59_92, ari_aa, ari_al, ari_la, ari_mm, ari_ml, ari_lm, ari_ltl, ari_llt, ari_lt, ari_le, ari_lel, ari_lle, ari_0, ari_eq, ari_eql, ari_leq, ari_cl, Nat.not_lt_zero, Bool.false_eq_true, Option.toList_some, Option.toList_none, List.cons_append, List.nil_append, kv_rv, kc1_i, kc1_r, kc1_n, n10, n01, n1514, n1213, n1312, if_true, if_false, not_true_eq_false, not_false_eq_true, and_self, true_and, and_true, false_and, and_false, or_true, true_or, or_false, false_or, Nat.reduceLeDiff, Nat.reduceLT, Nat.reduceEqDiff, Nat.reduceAdd, ari_31 (show row < 32 by omega), iw_bit (fun r => N r && R p r) (show row < 32 by omega), cN, bI_t, hc.2.2.2.2 row (by omega), lw_and, eb, s_14 js, r_8_3 js, s_21 js, r_14_8 js, (show row < 32 by omega), (show row < 2147483648 by omega)]
        exact nx
theorem un_loop (js : JS σ) (hc : CV P R pr σ) (hP : P ≤ 40) {N : Nat → Bool} {l2 : Int64} {Q : (Nat → Bool) → Prop} (hQ : ∀ W p, p < P → Q W → W p = true → DOM P R pr N W p → Q (fun q => W q && decide (q ≠ p))) (H : ∀ W, Q W → Φ (some (.long (lw W))) σ) : ∀ m p, p + m = P → ∀ W, Q W → ∀ v7 v8 v9 v10 : Value, Wp d 59 6 [.ref 14, .int (iw N), .long l2, .null, .long (lw W), .null, .int (Int32.ofNat p), v7, v8, v9, v10] [] σ Φ
  | 0, p, e, W, hW, v7, v8, v9, v10 => by
    have e2 : p = P := by omega
    subst e2
    simp only [g_59_6, g_59_8, g_59_9, g_59_12, g_59_126, g_59_128, ari_aa, ari_al, ari_la, ari_mm, ari_ml, ari_lm, ari_ltl, ari_llt, ari_lt, ari_le, ari_lel, ari_lle, ari_0, ari_eq, ari_eql, ari_leq, ari_cl, Nat.not_lt_zero, Bool.false_eq_true, Option.toList_some, Option.toList_none, List.cons_append, List.nil_append, kv_rv, kc1_i, kc1_r, kc1_n, n10, n01, n1514, n1213, n1312, if_true, if_false, not_true_eq_false, not_false_eq_true, and_self, true_and, and_true, false_and, and_false, or_true, true_or, or_false, false_or, Nat.reduceLeDiff, Nat.reduceLT, Nat.reduceEqDiff, Nat.reduceAdd, hc.1, s_14 js, r_8_3 js, (show p < 41 by omega), (show p < 2147483648 by omega), (show p ≤ p by omega)]
    exact H W hW
  | m + 1, p, e, W, hW, v7, v8, v9, v10 => by
    simp only [g_59_6, g_59_8, g_59_9, g_59_12, ari_aa, ari_al, ari_la, ari_mm, ari_ml, ari_lm, ari_ltl, ari_llt, ari_lt, ari_le, ari_lel, ari_lle, ari_0, ari_eq, ari_eql, ari_leq, ari_cl, Nat.not_lt_zero, Bool.false_eq_true, Option.toList_some, Option.toList_none, List.cons_append, List.nil_append, kv_rv, kc1_i, kc1_r, kc1_n, n10, n01, n1514, n1213, n1312, if_true, if_false, not_true_eq_false, not_false_eq_true, and_self, true_and, and_true, false_and, and_false, or_true, true_or, or_false, false_or, Nat.reduceLeDiff, Nat.reduceLT, Nat.reduceEqDiff, Nat.reduceAdd, hc.1, s_14 js, r_8_3 js, (show p < 41 by omega), (show p < 2147483648 by omega), (show P < 41 by omega), (show P < 2147483648 by omega), (show ¬ P ≤ p by omega)]
    cases cW : W p with
    | false =>
      simp only [g_59_15, g_59_17, g_59_19, g_59_20, g_59_21, g_59_22, g_59_23, g_59_24, g_59_120, g_59_123, ari_aa, ari_al, ari_la, ari_mm, ari_ml, ari_lm, ari_ltl, ari_llt, ari_lt, ari_le, ari_lel, ari_lle, ari_0, ari_eq, ari_eql, ari_leq, ari_cl, Nat.not_lt_zero, Bool.false_eq_true, Option.toList_some, Option.toList_none, List.cons_append, List.nil_append, kv_rv, kc1_i, kc1_r, kc1_n, n10, n01, n1514, n1213, n1312, if_true, if_false, not_true_eq_false, not_false_eq_true, and_self, true_and, and_true, false_and, and_false, or_true, true_or, or_false, false_or, Nat.reduceLeDiff, Nat.reduceLT, Nat.reduceEqDiff, Nat.reduceAdd, lsh_k p (by omega), lw_bit W (show p < 64 by omega), cW, lg_cmp_eq]
      exact un_loop js hc hP hQ H m (p + 1) (by omega) W hW _ _ _ _
    | true =>
      have eb : lw (fun q => W q && (decide (q < P) && decide (pr q < pr p))) = lw (btf P R pr N W p 0) := lw_eq.mpr (fun q hq => by unfold btf; simp [anyN])
      simp only [g_59_15, g_59_17, g_59_19, g_59_20, g_59_21, g_59_22, g_59_23, g_59_24, g_59_27, g_59_29, g_59_30, g_59_33, g_59_35, g_59_36, g_59_37, g_59_39, g_59_40, g_59_41, g_59_44, g_59_46, g_59_47, g_59_48, g_59_50, g_59_51, ari_aa, ari_al, ari_la, ari_mm, ari_ml, ari_lm, ari_ltl, ari_llt, ari_lt, ari_le, ari_lel, ari_lle, ari_0, ari_eq, ari_eql, ari_leq, ari_cl, Nat.not_lt_zero, Bool.false_eq_true, Option.toList_some, Option.toList_none, List.cons_append, List.nil_append, kv_rv, kc1_i, kc1_r, kc1_n, n10, n01, n1514, n1213, n1312, if_true, if_false, not_true_eq_false, not_false_eq_true, and_self, true_and, and_true, false_and, and_false, or_true, true_or, or_false, false_or, Nat.reduceLeDiff, Nat.reduceLT, Nat.reduceEqDiff, Nat.reduceAdd, lsh_k p (by omega), lw_bit W (show p < 64 by omega), cW, lg_cmp_eq, (show ¬ (1 : Int64) = 0 by decide), hc.2.2.2.1 p (by omega), hc.2.1 p (by omega), lw_and, iw_and, eb, s_14 js, r_8_3 js, s_18 js, r_14_5 js, s_20 js, r_14_7 js, (show p < 40 by omega), (show p < 2147483648 by omega)]
      refine un_in js hc (fun g v10 hg => ?_) 32 0 (by omega)
      have keep : ∀ v7 v8 v9 v10 : Value, Wp d 59 120 [.ref 14, .int (iw N), .long l2, .null, .long (lw W), .null, .int (Int32.ofNat p), v7, v8, v9, v10] [] σ Φ := fun v7 v8 v9 v10 => by
        simp only [g_59_120, g_59_123, ari_aa, ari_al, ari_la, ari_mm, ari_ml, ari_lm, ari_ltl, ari_llt, ari_lt, ari_le, ari_lel, ari_lle, ari_0, ari_eq, ari_eql, ari_leq, ari_cl, Nat.not_lt_zero, Bool.false_eq_true, Option.toList_some, Option.toList_none, List.cons_append, List.nil_append, kv_rv, kc1_i, kc1_r, kc1_n, n10, n01, n1514, n1213, n1312, if_true, if_false, not_true_eq_false, not_false_eq_true, and_self, true_and, and_true, false_and, and_false, or_true, true_or, or_false, false_or, Nat.reduceLeDiff, Nat.reduceLT, Nat.reduceEqDiff, Nat.reduceAdd]
        exact un_loop js hc hP hQ H m (p + 1) (by omega) W hW _ _ _ _
      have drop : DOM P R pr N W p → ∀ v7 v8 v9 v10 : Value, Wp d 59 107 [.ref 14, .int (iw N), .long l2, .null, .long (lw W), .null, .int (Int32.ofNat p), v7, v8, v9, v10] [] σ Φ := fun hd v7 v8 v9 v10 => by
        simp only [g_59_107, g_59_109, g_59_110, g_59_112, g_59_113, g_59_116, g_59_117, g_59_118, g_59_120, g_59_123, ari_aa, ari_al, ari_la, ari_mm, ari_ml, ari_lm, ari_ltl, ari_llt, ari_lt, ari_le, ari_lel, ari_lle, ari_0, ari_eq, ari_eql, ari_leq, ari_cl, Nat.not_lt_zero, Bool.false_eq_true, Option.toList_some, Option.toList_none, List.cons_append, List.nil_append, kv_rv, kc1_i, kc1_r, kc1_n, n10, n01, n1514, n1213, n1312, if_true, if_false, not_true_eq_false, not_false_eq_true, and_self, true_and, and_true, false_and, and_false, or_true, true_or, or_false, false_or, Nat.reduceLeDiff, Nat.reduceLT, Nat.reduceEqDiff, Nat.reduceAdd, lsh_k p (by omega), lw_del W (show p < 64 by omega)]
        exact un_loop js hc hP hQ H m (p + 1) (by omega) _ (hQ W p (by omega) hW cW hd) _ _ _ _
      by_cases c0 : lw g = 0
      · by_cases c1 : iw (fun r => N r && R p r) = 0
        · simp only [g_59_95, g_59_97, g_59_98, g_59_99, g_59_102, g_59_104, Nat.not_lt_zero, Bool.false_eq_true, Option.toList_some, Option.toList_none, List.cons_append, List.nil_append, kv_rv, kc1_i, kc1_r, kc1_n, n10, n01, n1514, n1213, n1312, if_true, if_false, not_true_eq_false, not_false_eq_true, and_self, true_and, and_true, false_and, and_false, or_true, true_or, or_false, false_or, Nat.reduceLeDiff, Nat.reduceLT, Nat.reduceEqDiff, Nat.reduceAdd, lg_cmp_eq, c0, c1]
          refine drop (Or.inr (fun r hr hN => ?_)) _ _ _ _
          have := iw_0.mp c1 r hr
          try dsimp only at this
          rw [hN, Bool.true_and] at this
          exact this
        · simp only [g_59_95, g_59_97, g_59_98, g_59_99, g_59_102, g_59_104, Nat.not_lt_zero, Bool.false_eq_true, Option.toList_some, Option.toList_none, List.cons_append, List.nil_append, kv_rv, kc1_i, kc1_r, kc1_n, n10, n01, n1514, n1213, n1312, if_true, if_false, not_true_eq_false, not_false_eq_true, and_self, true_and, and_true, false_and, and_false, or_true, true_or, or_false, false_or, Nat.reduceLeDiff, Nat.reduceLT, Nat.reduceEqDiff, Nat.reduceAdd, lg_cmp_eq, c0, c1]
          exact keep _ _ _ _
      · simp only [g_59_95, g_59_97, g_59_98, g_59_99, Nat.not_lt_zero, Bool.false_eq_true, Option.toList_some, Option.toList_none, List.cons_append, List.nil_append, kv_rv, kc1_i, kc1_r, kc1_n, n10, n01, n1514, n1213, n1312, if_true, if_false, not_true_eq_false, not_false_eq_true, and_self, true_and, and_true, false_and, and_false, or_true, true_or, or_false, false_or, Nat.reduceLeDiff, Nat.reduceLT, Nat.reduceEqDiff, Nat.reduceAdd, lg_cmp_eq, c0]
        refine drop (Or.inl ?_) _ _ _ _
        have hg2 := hg.resolve_left c0
        rw [hg2] at c0
        obtain ⟨q, hq, hb⟩ := lw_n0.mp c0
        unfold btf at hb
        rw [Bool.and_eq_true, Bool.and_eq_true, Bool.and_eq_true, decide_eq_true_eq, decide_eq_true_eq, Bool.not_eq_true'] at hb
        obtain ⟨⟨b1, b2, b3⟩, b4⟩ := hb
        refine ⟨q, b2, b1, b3, fun r hr hN hR => ?_⟩
        cases cq : R q r with
        | true => rfl
        | false =>
          have : anyN (fun r => (N r && R p r) && !R q r) 32 = true := (anyN_iff _).mpr ⟨r, hr, by (try dsimp only); rw [hN, hR, cq]; rfl⟩
          rw [b4] at this; cases this
theorem m_undom (js : JS σ) (hc : CV P R pr σ) (hP : P ≤ 40) {N O : Nat → Bool} {Q : (Nat → Bool) → Prop} (hQ : ∀ W p, p < P → Q W → W p = true → DOM P R pr N W p → Q (fun q => W q && decide (q ≠ p))) (hO : Q O) (H : ∀ W, Q W → Φ (some (.long (lw W))) σ) : Wc d 59 [.ref 14, .int (iw N), .long (lw O)] σ Φ := by
  have l := un_loop (d := d) (l2 := lw O) js hc hP hQ H P 0 (by omega) O hO .null .null .null .null
  simp only [c_59, g_59_0, g_59_1, g_59_3, g_59_4, Nat.not_lt_zero, Bool.false_eq_true, Option.toList_some, Option.toList_none, List.cons_append, List.nil_append, kv_rv, kc1_i, kc1_r, kc1_n, n10, n01, n1514, n1213, n1312, if_true, if_false, not_true_eq_false, not_false_eq_true, and_self, true_and, and_true, false_and, and_false, or_true, true_or, or_false, false_or, Nat.reduceLeDiff, Nat.reduceLT, Nat.reduceEqDiff, Nat.reduceAdd]
  exact l
end CA

/-! ===== parts and same: the model's side, and the promises ===== -/
/-- an output at a row, or that it is not told -/
def fo (σ : kv_S) (a GA t row i : Nat) : Int32 := if kv_i σ (106 + 6 * a) i = -3 then -3 else bI (vo σ a GA t row (kv_i σ (106 + 6 * a) i))
theorem bI_3 (b : Bool) : ¬ bI b = -3 := by cases b <;> decide
theorem bI_3' (b : Bool) : ¬ (-3 : Int32) = bI b := by cases b <;> decide
theorem bI_inj {a b : Bool} : bI a = bI b ↔ a = b := by cases a <;> cases b <;> decide
section PM
variable {d : Nat} {Φ : Option Value → kv_S → Prop}
theorem outs_loop {σ0 : kv_S} (h : JS σ0) {k w G t row : Nat} (hk : k < 8) (hn : JN1' σ0 k w G) (hr : row < 256) (hv : ∀ g, g < G → kv_i σ0 181 g = bI (vl σ0 k G t row g)) (H : ∀ τ, FR (fun b _ => b = 182) σ0 τ → (∀ i, i < 6 → kv_i τ 182 i = fo σ0 k G t row i) → Φ none τ) : ∀ m i, i + m = 6 → ∀ τ, FR (fun b _ => b = 182) σ0 τ → (∀ j, j < i → kv_i τ 182 j = fo σ0 k G t row j) → Wp (d + 1) 171 2 [.ref 149, .int (Int32.ofNat k), .int (Int32.ofNat row), .int (Int32.ofNat i)] [] τ Φ
  | 0, i, e, τ, fr, hs => by
    have e2 : i = 6 := by omega
    subst e2
    simp only [g_171_2, g_171_3, g_171_5, g_171_57, ari_aa, ari_al, ari_la, ari_mm, ari_ml, ari_lm, ari_ltl, ari_llt, ari_lt, ari_le, ari_lel, ari_lle, ari_0, ari_eq, ari_eql, ari_leq, ari_cl, Nat.not_lt_zero, Bool.false_eq_true, Option.toList_some, Option.toList_none, List.cons_append, List.nil_append, kv_rv, kc1_i, kc1_r, kc1_n, n10, n01, n1514, n1213, n1312, if_true, if_false, not_true_eq_false, not_false_eq_true, and_self, true_and, and_true, false_and, and_false, or_true, true_or, or_false, false_or, Nat.reduceLeDiff, Nat.reduceLT, Nat.reduceEqDiff, Nat.reduceAdd]
    exact H τ fr hs
  | m + 1, i, e, τ, fr, hs => by
    have js := fr.js h
    have hG := hn.2.2.1
    have eo : kv_i τ 174 (6 * k + i) = kv_i σ0 (106 + 6 * k) i := by rw [fr.i (by omega)]; exact hn.mo i (by omega)
    have hv2 : ∀ g, g < G → kv_i τ 181 g = bI (vl σ0 k G t row g) := fun g hg => by rw [fr.i (by omega)]; exact hv g hg
    simp only [g_171_2, g_171_3, g_171_5, ari_aa, ari_al, ari_la, ari_mm, ari_ml, ari_lm, ari_ltl, ari_llt, ari_lt, ari_le, ari_lel, ari_lle, ari_0, ari_eq, ari_eql, ari_leq, ari_cl, Nat.not_lt_zero, Bool.false_eq_true, Option.toList_some, Option.toList_none, List.cons_append, List.nil_append, kv_rv, kc1_i, kc1_r, kc1_n, n10, n01, n1514, n1213, n1312, if_true, if_false, not_true_eq_false, not_false_eq_true, and_self, true_and, and_true, false_and, and_false, or_true, true_or, or_false, false_or, Nat.reduceLeDiff, Nat.reduceLT, Nat.reduceEqDiff, Nat.reduceAdd, (show i < 6 by omega), (show i < 2147483648 by omega), (show ¬ 6 ≤ i by omega)]
    have fin : ∀ y, y = fo σ0 k G t row i → Wp (d + 1) 171 2 [.ref 149, .int (Int32.ofNat k), .int (Int32.ofNat row), .int (Int32.ofNat (i + 1))] [] (kv_si τ 182 i y) Φ := by
      intro y hy
      refine outs_loop h hk hn hr hv H m (i + 1) (by omega) _ (fr.si rfl) (fun j hj => ?_)
      by_cases c : j = i
      · rw [eq_ess ⟨rfl, c⟩, c, hy]
      · rw [ne_ess (by omega)]; exact hs j (by omega)
    by_cases c : kv_i σ0 (106 + 6 * k) i = -3
    · simp only [g_171_8, g_171_9, g_171_12, g_171_13, g_171_14, g_171_17, g_171_19, g_171_20, g_171_21, g_171_22, g_171_23, g_171_24, g_171_26, g_171_29, g_171_31, g_171_34, g_171_35, g_171_36, g_171_39, g_171_41, g_171_42, g_171_43, g_171_44, g_171_45, g_171_46, g_171_47, g_171_50, g_171_51, g_171_54, kv_w8_0, kv_w8_1, kv_w8_2, kv_w8_3, kv_w8_4, ari_aa, ari_al, ari_la, ari_mm, ari_ml, ari_lm, ari_ltl, ari_llt, ari_lt, ari_le, ari_lel, ari_lle, ari_0, ari_eq, ari_eql, ari_leq, ari_cl, Nat.not_lt_zero, Bool.false_eq_true, Option.toList_some, Option.toList_none, List.cons_append, List.nil_append, kv_rv, kc1_i, kc1_r, kc1_n, n10, n01, n1514, n1213, n1312, if_true, if_false, not_true_eq_false, not_false_eq_true, and_self, true_and, and_true, false_and, and_false, or_true, true_or, or_false, false_or, Nat.reduceLeDiff, Nat.reduceLT, Nat.reduceEqDiff, Nat.reduceAdd, s_149 js, s_174 js, r_149_33 js, s_182 js, r_149_43 js, eo, c, (show i < 6 by omega), (show i < 2147483648 by omega), (show 6 * k + i < 48 by omega), (show 6 * k + i < 2147483648 by omega)]
      exact fin _ (by unfold fo; rw [if_pos c])
    · have vx := (hn.o i (by omega)).resolve_left c
      simp only [g_171_8, g_171_9, g_171_12, g_171_13, g_171_14, g_171_17, g_171_19, g_171_20, g_171_21, g_171_22, g_171_23, g_171_24, g_171_26, g_171_29, g_171_31, g_171_34, g_171_35, g_171_36, g_171_39, g_171_41, g_171_42, g_171_43, g_171_44, g_171_45, g_171_46, g_171_47, g_171_50, g_171_51, g_171_54, kv_w8_0, kv_w8_1, kv_w8_2, kv_w8_3, kv_w8_4, ari_aa, ari_al, ari_la, ari_mm, ari_ml, ari_lm, ari_ltl, ari_llt, ari_lt, ari_le, ari_lel, ari_lle, ari_0, ari_eq, ari_eql, ari_leq, ari_cl, Nat.not_lt_zero, Bool.false_eq_true, Option.toList_some, Option.toList_none, List.cons_append, List.nil_append, kv_rv, kc1_i, kc1_r, kc1_n, n10, n01, n1514, n1213, n1312, if_true, if_false, not_true_eq_false, not_false_eq_true, and_self, true_and, and_true, false_and, and_false, or_true, true_or, or_false, false_or, Nat.reduceLeDiff, Nat.reduceLT, Nat.reduceEqDiff, Nat.reduceAdd, s_149 js, s_174 js, r_149_33 js, s_182 js, r_149_43 js, eo, c, m_valueOf js hn.2.1 hG hr hv2 vx, (show i < 6 by omega), (show i < 2147483648 by omega), (show 6 * k + i < 48 by omega), (show 6 * k + i < 2147483648 by omega)]
      exact fin _ (by unfold fo; rw [if_neg c]; rfl)
theorem m_outs {σ : kv_S} (h : JS σ) {k w G t row : Nat} (hk : k < 8) (hn : JN1' σ k w G) (hr : row < 256) (hv : ∀ g, g < G → kv_i σ 181 g = bI (vl σ k G t row g)) (H : ∀ τ, FR (fun b _ => b = 182) σ τ → (∀ i, i < 6 → kv_i τ 182 i = fo σ k G t row i) → Φ none τ) : Wc (d + 1) 171 [.ref 149, .int (Int32.ofNat k), .int (Int32.ofNat row)] σ Φ := by
  simp only [c_171, g_171_0, g_171_1, Nat.not_lt_zero, Bool.false_eq_true, Option.toList_some, Option.toList_none, List.cons_append, List.nil_append, kv_rv, kc1_i, kc1_r, kc1_n, n10, n01, n1514, n1213, n1312, if_true, if_false, not_true_eq_false, not_false_eq_true, and_self, true_and, and_true, false_and, and_false, or_true, true_or, or_false, false_or, Nat.reduceLeDiff, Nat.reduceLT, Nat.reduceEqDiff, Nat.reduceAdd]
  exact outs_loop h hk hn hr hv H 6 0 (by omega) σ (FR.rf _ σ) (fun j hj => absurd hj (by omega))
theorem fo_fr {P : Nat → Nat → Prop} {σ τ : kv_S} (h : FR P σ τ) {k : Nat} (hk : k < 8) (hp : ∀ b j, P b j → ¬ cN b j) (G t row i : Nat) : fo τ k G t row i = fo σ k G t row i := by
  unfold fo
  rw [h.i (b := 106 + 6 * k) (k := i) (fun q => hp _ _ q (by unfold cN; omega)), vo_fr h hk hp]
/-- a row is worked out for both nets -/
def RS (σ0 : kv_S) (a b GA GB row : Nat) (ζ : kv_S) : Prop := FR (fun b _ => b = 181 ∨ b = 182) σ0 ζ ∧ (∀ g, g < GB → kv_i ζ 181 g = bI (vl σ0 b GB 1000 row g)) ∧ ∀ i, i < 6 → kv_i ζ 182 i = fo σ0 a GA 1000 row i
theorem hpP : ∀ b j : Nat, (fun b (_ : Nat) => b = 181 ∨ b = 182) b j → ¬ cN b j := fun b j q => by unfold cN; omega
theorem parts_in {σ0 : kv_S} (h : JS σ0) {a b w GA GB row : Nat} (ha : a < 8) (hb : b < 8) (na : JN1' σ0 a w GA) (nb : JN1' σ0 b w GB) (hr : row < 256) {ζ : kv_S} (hz : RS σ0 a b GA GB row ζ) (H1 : (∀ i, i < 6 → DF σ0 a b GA GB row i = false) → ∀ v5, Wp (d + 1) 172 144 [.ref 149, .int (Int32.ofNat a), .int (Int32.ofNat b), .int (Int32.ofNat row), .int (Int32.ofNat 6), v5] [] ζ Φ) (H2 : ∀ i, i < 6 → DF σ0 a b GA GB row i = true → (∀ j, j < i → DF σ0 a b GA GB row j = false) → Φ (some (.int (Int32.ofNat (8 * row + i)))) ζ) : ∀ m i, i + m = 6 → (∀ j, j < i → DF σ0 a b GA GB row j = false) → ∀ v5 : Value, Wp (d + 1) 172 73 [.ref 149, .int (Int32.ofNat a), .int (Int32.ofNat b), .int (Int32.ofNat row), .int (Int32.ofNat i), v5] [] ζ Φ
  | 0, i, e, hs, v5 => by
    have e2 : i = 6 := by omega
    subst e2
    simp only [g_172_73, g_172_75, g_172_77, ari_aa, ari_al, ari_la, ari_mm, ari_ml, ari_lm, ari_ltl, ari_llt, ari_lt, ari_le, ari_lel, ari_lle, ari_0, ari_eq, ari_eql, ari_leq, ari_cl, Nat.not_lt_zero, Bool.false_eq_true, Option.toList_some, Option.toList_none, List.cons_append, List.nil_append, kv_rv, kc1_i, kc1_r, kc1_n, n10, n01, n1514, n1213, n1312, if_true, if_false, not_true_eq_false, not_false_eq_true, and_self, true_and, and_true, false_and, and_false, or_true, true_or, or_false, false_or, Nat.reduceLeDiff, Nat.reduceLT, Nat.reduceEqDiff, Nat.reduceAdd]
    exact H1 hs v5
  | m + 1, i, e, hs, v5 => by
    have js := hz.1.js h
    have hG := nb.2.2.1
    have eo : kv_i ζ 174 (6 * b + i) = kv_i σ0 (106 + 6 * b) i := by rw [hz.1.i (by omega)]; exact nb.mo i (by omega)
    have e1 := hz.2.2 i (by omega)
    simp only [g_172_73, g_172_75, g_172_77, ari_aa, ari_al, ari_la, ari_mm, ari_ml, ari_lm, ari_ltl, ari_llt, ari_lt, ari_le, ari_lel, ari_lle, ari_0, ari_eq, ari_eql, ari_leq, ari_cl, Nat.not_lt_zero, Bool.false_eq_true, Option.toList_some, Option.toList_none, List.cons_append, List.nil_append, kv_rv, kc1_i, kc1_r, kc1_n, n10, n01, n1514, n1213, n1312, if_true, if_false, not_true_eq_false, not_false_eq_true, and_self, true_and, and_true, false_and, and_false, or_true, true_or, or_false, false_or, Nat.reduceLeDiff, Nat.reduceLT, Nat.reduceEqDiff, Nat.reduceAdd, (show i < 6 by omega), (show i < 2147483648 by omega), (show ¬ 6 ≤ i by omega)]
    have go : DF σ0 a b GA GB row i = false → ∀ v5 : Value, Wp (d + 1) 172 73 [.ref 149, .int (Int32.ofNat a), .int (Int32.ofNat b), .int (Int32.ofNat row), .int (Int32.ofNat (i + 1)), v5] [] ζ Φ := by
      intro hf v5
      refine parts_in h ha hb na nb hr hz H1 H2 m (i + 1) (by omega) (fun j hj => ?_) v5
      by_cases c : j = i
      · rw [c]; exact hf
      · exact hs j (by omega)
    by_cases c2 : kv_i σ0 (106 + 6 * b) i = -3
    · simp only [g_172_80, g_172_81, g_172_84, g_172_86, g_172_87, g_172_88, g_172_90, g_172_91, g_172_92, g_172_94, g_172_96, g_172_98, g_172_138, g_172_141, ari_aa, ari_al, ari_la, ari_mm, ari_ml, ari_lm, ari_ltl, ari_llt, ari_lt, ari_le, ari_lel, ari_lle, ari_0, ari_eq, ari_eql, ari_leq, ari_cl, Nat.not_lt_zero, Bool.false_eq_true, Option.toList_some, Option.toList_none, List.cons_append, List.nil_append, kv_rv, kc1_i, kc1_r, kc1_n, n10, n01, n1514, n1213, n1312, if_true, if_false, not_true_eq_false, not_false_eq_true, and_self, true_and, and_true, false_and, and_false, or_true, true_or, or_false, false_or, Nat.reduceLeDiff, Nat.reduceLT, Nat.reduceEqDiff, Nat.reduceAdd, s_149 js, s_174 js, r_149_33 js, eo, c2, (show i < 6 by omega), (show i < 2147483648 by omega), (show 6 * b + i < 48 by omega), (show 6 * b + i < 2147483648 by omega)]
      exact go (by unfold DF; rw [c2]; simp) _
    · by_cases c1 : kv_i σ0 (106 + 6 * a) i = -3
      · have e1' : kv_i ζ 182 i = -3 := by rw [e1]; unfold fo; rw [if_pos c1]
        simp only [g_172_80, g_172_81, g_172_84, g_172_86, g_172_87, g_172_88, g_172_90, g_172_91, g_172_92, g_172_94, g_172_96, g_172_98, g_172_101, g_172_102, g_172_105, g_172_107, g_172_108, g_172_110, g_172_138, g_172_141, ari_aa, ari_al, ari_la, ari_mm, ari_ml, ari_lm, ari_ltl, ari_llt, ari_lt, ari_le, ari_lel, ari_lle, ari_0, ari_eq, ari_eql, ari_leq, ari_cl, Nat.not_lt_zero, Bool.false_eq_true, Option.toList_some, Option.toList_none, List.cons_append, List.nil_append, kv_rv, kc1_i, kc1_r, kc1_n, n10, n01, n1514, n1213, n1312, if_true, if_false, not_true_eq_false, not_false_eq_true, and_self, true_and, and_true, false_and, and_false, or_true, true_or, or_false, false_or, Nat.reduceLeDiff, Nat.reduceLT, Nat.reduceEqDiff, Nat.reduceAdd, s_149 js, s_174 js, r_149_33 js, s_182 js, r_149_43 js, eo, c2, e1', (show i < 6 by omega), (show i < 2147483648 by omega), (show 6 * b + i < 48 by omega), (show 6 * b + i < 2147483648 by omega)]
        exact go (by unfold DF; rw [c1]; rfl) _
      · have e1' : kv_i ζ 182 i = bI (vo σ0 a GA 1000 row (kv_i σ0 (106 + 6 * a) i)) := by rw [e1]; unfold fo; rw [if_neg c1]
        have vx := (nb.o i (by omega)).resolve_left c2
        have hDF : DF σ0 a b GA GB row i = (vo σ0 a GA 1000 row (kv_i σ0 (106 + 6 * a) i) ^^ vo σ0 b GB 1000 row (kv_i σ0 (106 + 6 * b) i)) := by
          unfold DF
          rw [beq_eq_false_iff_ne.mpr c1, beq_eq_false_iff_ne.mpr c2]; simp
        by_cases c3 : vo σ0 b GB 1000 row (kv_i σ0 (106 + 6 * b) i) = vo σ0 a GA 1000 row (kv_i σ0 (106 + 6 * a) i)
        · have c4 : (bI (nvo (vl σ0 b GB 1000 row) row (kv_i σ0 (106 + 6 * b) i)) = bI (vo σ0 a GA 1000 row (kv_i σ0 (106 + 6 * a) i))) = True := eq_true (bI_inj.mpr c3)
          simp only [g_172_80, g_172_81, g_172_84, g_172_86, g_172_87, g_172_88, g_172_90, g_172_91, g_172_92, g_172_94, g_172_96, g_172_98, g_172_101, g_172_102, g_172_105, g_172_107, g_172_108, g_172_110, g_172_113, g_172_114, g_172_116, g_172_117, g_172_120, g_172_121, g_172_124, g_172_126, g_172_127, g_172_138, g_172_141, kv_w8_0, kv_w8_1, kv_w8_2, kv_w8_3, kv_w8_4, ari_aa, ari_al, ari_la, ari_mm, ari_ml, ari_lm, ari_ltl, ari_llt, ari_lt, ari_le, ari_lel, ari_lle, ari_0, ari_eq, ari_eql, ari_leq, ari_cl, Nat.not_lt_zero, Bool.false_eq_true, Option.toList_some, Option.toList_none, List.cons_append, List.nil_append, kv_rv, kc1_i, kc1_r, kc1_n, n10, n01, n1514, n1213, n1312, if_true, if_false, not_true_eq_false, not_false_eq_true, and_self, true_and, and_true, false_and, and_false, or_true, true_or, or_false, false_or, Nat.reduceLeDiff, Nat.reduceLT, Nat.reduceEqDiff, Nat.reduceAdd, s_149 js, s_174 js, r_149_33 js, s_182 js, r_149_43 js, eo, c2, e1', bI_3, m_valueOf js nb.2.1 hG hr hz.2.1 vx, c4, (show i < 6 by omega), (show i < 2147483648 by omega), (show 6 * b + i < 48 by omega), (show 6 * b + i < 2147483648 by omega)]
          exact go (by rw [hDF, c3]; simp) _
        · have c4 : (bI (nvo (vl σ0 b GB 1000 row) row (kv_i σ0 (106 + 6 * b) i)) = bI (vo σ0 a GA 1000 row (kv_i σ0 (106 + 6 * a) i))) = False := eq_false (mt bI_inj.mp c3)
          simp only [g_172_80, g_172_81, g_172_84, g_172_86, g_172_87, g_172_88, g_172_90, g_172_91, g_172_92, g_172_94, g_172_96, g_172_98, g_172_101, g_172_102, g_172_105, g_172_107, g_172_108, g_172_110, g_172_113, g_172_114, g_172_116, g_172_117, g_172_120, g_172_121, g_172_124, g_172_126, g_172_127, g_172_130, g_172_132, g_172_133, g_172_134, g_172_136, g_172_137, kv_w8_0, kv_w8_1, kv_w8_2, kv_w8_3, kv_w8_4, ari_aa, ari_al, ari_la, ari_mm, ari_ml, ari_lm, ari_ltl, ari_llt, ari_lt, ari_le, ari_lel, ari_lle, ari_0, ari_eq, ari_eql, ari_leq, ari_cl, Nat.not_lt_zero, Bool.false_eq_true, Option.toList_some, Option.toList_none, List.cons_append, List.nil_append, kv_rv, kc1_i, kc1_r, kc1_n, n10, n01, n1514, n1213, n1312, if_true, if_false, not_true_eq_false, not_false_eq_true, and_self, true_and, and_true, false_and, and_false, or_true, true_or, or_false, false_or, Nat.reduceLeDiff, Nat.reduceLT, Nat.reduceEqDiff, Nat.reduceAdd, s_149 js, s_174 js, r_149_33 js, s_182 js, r_149_43 js, eo, c2, e1', bI_3, m_valueOf js nb.2.1 hG hr hz.2.1 vx, c4, (show i < 6 by omega), (show i < 2147483648 by omega), (show 6 * b + i < 48 by omega), (show 6 * b + i < 2147483648 by omega)]
          refine H2 i (by omega) ?_ hs
          rw [hDF]
          revert c3
          cases vo σ0 a GA 1000 row (kv_i σ0 (106 + 6 * a) i) <;> cases vo σ0 b GB 1000 row (kv_i σ0 (106 + 6 * b) i) <;> simp
theorem parts_out {σ0 : kv_S} (h : JS σ0) {a b w GA GB : Nat} (ha : a < 8) (hb : b < 8) (na : JN1' σ0 a w GA) (nb : JN1' σ0 b w GB) (H : ∀ v τ, FR (fun b _ => b = 181 ∨ b = 182) σ0 τ → FD (DF σ0 a b GA GB) (2 ^ w) v → Φ (some (.int v)) τ) : ∀ m row, row + m = 2 ^ w → (∀ r, r < row → ∀ i, i < 6 → DF σ0 a b GA GB r i = false) → ∀ τ, FR (fun b _ => b = 181 ∨ b = 182) σ0 τ → ∀ v4 v5 : Value, Wp (d + 2) 172 38 [.ref 149, .int (Int32.ofNat a), .int (Int32.ofNat b), .int (Int32.ofNat row), v4, v5] [] τ Φ
  | 0, row, e, hs, τ, fr, v4, v5 => by
    have hW := pw8 na.2.1
    have e2 : row = 2 ^ w := by omega
    subst e2
    have js := fr.js h
    have e5 : kv_i τ 168 a = Int32.ofNat w := by rw [fr.i (by omega)]; exact na.2.2.2.2.1
    simp only [g_172_38, g_172_39, g_172_40, g_172_41, g_172_44, g_172_45, g_172_46, g_172_47, g_172_150, g_172_152, ari_aa, ari_al, ari_la, ari_mm, ari_ml, ari_lm, ari_ltl, ari_llt, ari_lt, ari_le, ari_lel, ari_lle, ari_0, ari_eq, ari_eql, ari_leq, ari_cl, Nat.not_lt_zero, Bool.false_eq_true, Option.toList_some, Option.toList_none, List.cons_append, List.nil_append, kv_rv, kc1_i, kc1_r, kc1_n, n10, n01, n1514, n1213, n1312, if_true, if_false, not_true_eq_false, not_false_eq_true, and_self, true_and, and_true, false_and, and_false, or_true, true_or, or_false, false_or, Nat.reduceLeDiff, Nat.reduceLT, Nat.reduceEqDiff, Nat.reduceAdd, s_149 js, s_168 js, r_149_27 js, e5, pow_w w na.2.1, (show a < 8 by omega), (show a < 2147483648 by omega), (show 2 ^ w < 257 by omega), (show 2 ^ w < 2147483648 by omega), (show 2 ^ w ≤ 2 ^ w by omega)]
    exact H _ τ fr (Or.inl ⟨rfl, hs⟩)
  | m + 1, row, e, hs, τ, fr, v4, v5 => by
    have hW := pw8 na.2.1
    have js := fr.js h
    have e5 : kv_i τ 168 a = Int32.ofNat w := by rw [fr.i (by omega)]; exact na.2.2.2.2.1
    simp only [g_172_38, g_172_39, g_172_40, g_172_41, g_172_44, g_172_45, g_172_46, g_172_47, ari_aa, ari_al, ari_la, ari_mm, ari_ml, ari_lm, ari_ltl, ari_llt, ari_lt, ari_le, ari_lel, ari_lle, ari_0, ari_eq, ari_eql, ari_leq, ari_cl, Nat.not_lt_zero, Bool.false_eq_true, Option.toList_some, Option.toList_none, List.cons_append, List.nil_append, kv_rv, kc1_i, kc1_r, kc1_n, n10, n01, n1514, n1213, n1312, if_true, if_false, not_true_eq_false, not_false_eq_true, and_self, true_and, and_true, false_and, and_false, or_true, true_or, or_false, false_or, Nat.reduceLeDiff, Nat.reduceLT, Nat.reduceEqDiff, Nat.reduceAdd, s_149 js, s_168 js, r_149_27 js, e5, pow_w w na.2.1, (show a < 8 by omega), (show a < 2147483648 by omega), (show row < 257 by omega), (show row < 2147483648 by omega), (show 2 ^ w < 257 by omega), (show 2 ^ w < 2147483648 by omega), (show ¬ 2 ^ w ≤ row by omega)]
    simp only [g_172_50, g_172_51, g_172_52, g_172_53, g_172_54, kv_w8_0, kv_w8_1, kv_w8_2, kv_w8_3, kv_w8_4, Nat.not_lt_zero, Bool.false_eq_true, Option.toList_some, Option.toList_none, List.cons_append, List.nil_append, kv_rv, kc1_i, kc1_r, kc1_n, n10, n01, n1514, n1213, n1312, if_true, if_false, not_true_eq_false, not_false_eq_true, and_self, true_and, and_true, false_and, and_false, or_true, true_or, or_false, false_or, Nat.reduceLeDiff, Nat.reduceLT, Nat.reduceEqDiff, Nat.reduceAdd, s_149 js]
    have na2 : JN1' τ a w GA := na.fr fr ha hpP
    refine m_work js ha na2 (show row < 256 by omega) (tt_none na.2.2.1) (fun υ fr2 hv => ?_)
    have fr2' : FR (fun b _ => b = 181 ∨ b = 182) τ υ := fr2.mono (fun b j q => Or.inl q)
    have fr3 := fr.tr fr2'
    have na3 : JN1' υ a w GA := na.fr fr3 ha hpP
    have js3 := fr3.js h
    simp only [g_172_57, g_172_58, g_172_59, g_172_60, kv_w8_0, kv_w8_1, kv_w8_2, kv_w8_3, kv_w8_4, Nat.not_lt_zero, Bool.false_eq_true, Option.toList_some, Option.toList_none, List.cons_append, List.nil_append, kv_rv, kc1_i, kc1_r, kc1_n, n10, n01, n1514, n1213, n1312, if_true, if_false, not_true_eq_false, not_false_eq_true, and_self, true_and, and_true, false_and, and_false, or_true, true_or, or_false, false_or, Nat.reduceLeDiff, Nat.reduceLT, Nat.reduceEqDiff, Nat.reduceAdd, s_149 js3]
    refine m_outs (t := 1000) js3 ha na3 (show row < 256 by omega) (fun g hg => by rw [hv g hg, vl_fr fr2' ha hpP]) (fun ξ fr4 ho => ?_)
    have fr4' : FR (fun b _ => b = 181 ∨ b = 182) υ ξ := fr4.mono (fun b j q => Or.inr q)
    have fr5 := fr3.tr fr4'
    have nb5 : JN1' ξ b w GB := nb.fr fr5 hb hpP
    have js5 := fr5.js h
    simp only [g_172_63, g_172_64, g_172_65, g_172_66, g_172_67, kv_w8_0, kv_w8_1, kv_w8_2, kv_w8_3, kv_w8_4, Nat.not_lt_zero, Bool.false_eq_true, Option.toList_some, Option.toList_none, List.cons_append, List.nil_append, kv_rv, kc1_i, kc1_r, kc1_n, n10, n01, n1514, n1213, n1312, if_true, if_false, not_true_eq_false, not_false_eq_true, and_self, true_and, and_true, false_and, and_false, or_true, true_or, or_false, false_or, Nat.reduceLeDiff, Nat.reduceLT, Nat.reduceEqDiff, Nat.reduceAdd, s_149 js5]
    refine m_work js5 hb nb5 (show row < 256 by omega) (tt_none nb.2.2.1) (fun ζ fr6 hv2 => ?_)
    have hz : RS σ0 a b GA GB row ζ := ⟨fr5.tr (fr6.mono (fun b j q => Or.inl q)), fun g hg => by rw [hv2 g hg, vl_fr fr5 hb hpP], fun i hi => by rw [fr6.i (by omega), ho i hi, fo_fr fr3 ha hpP]⟩
    simp only [g_172_70, g_172_71, Nat.not_lt_zero, Bool.false_eq_true, Option.toList_some, Option.toList_none, List.cons_append, List.nil_append, kv_rv, kc1_i, kc1_r, kc1_n, n10, n01, n1514, n1213, n1312, if_true, if_false, not_true_eq_false, not_false_eq_true, and_self, true_and, and_true, false_and, and_false, or_true, true_or, or_false, false_or, Nat.reduceLeDiff, Nat.reduceLT, Nat.reduceEqDiff, Nat.reduceAdd]
    refine parts_in h ha hb na nb (by omega) hz (fun hall v5 => ?_) (fun i hi p1 p2 => H _ ζ hz.1 (Or.inr ⟨row, i, by omega, hi, rfl, p1, hs, p2⟩)) 6 0 (by omega) (fun j hj => absurd hj (by omega)) _
    simp only [g_172_144, g_172_147, ari_aa, ari_al, ari_la, ari_mm, ari_ml, ari_lm, ari_ltl, ari_llt, ari_lt, ari_le, ari_lel, ari_lle, ari_0, ari_eq, ari_eql, ari_leq, ari_cl, Nat.not_lt_zero, Bool.false_eq_true, Option.toList_some, Option.toList_none, List.cons_append, List.nil_append, kv_rv, kc1_i, kc1_r, kc1_n, n10, n01, n1514, n1213, n1312, if_true, if_false, not_true_eq_false, not_false_eq_true, and_self, true_and, and_true, false_and, and_false, or_true, true_or, or_false, false_or, Nat.reduceLeDiff, Nat.reduceLT, Nat.reduceEqDiff, Nat.reduceAdd]
    refine parts_out h ha hb na nb H m (row + 1) (by omega) (fun r hr i hi => ?_) ζ hz.1 _ _
    by_cases c : r = row
    · rw [c]; exact hall i hi
    · exact hs r (by omega) i hi
/-- nothing parts the nets at a row -/
def SA (σ : kv_S) (a b GA GB row i : Nat) : Prop := fo σ b GB 1000 row i = fo σ a GA 1000 row i
theorem same_in {σ0 : kv_S} (h : JS σ0) {a b w GA GB row : Nat} (ha : a < 8) (hb : b < 8) (nb : JN1' σ0 b w GB) (hr : row < 256) {ζ : kv_S} (hz : RS σ0 a b GA GB row ζ) (H1 : (∀ i, i < 6 → SA σ0 a b GA GB row i) → ∀ v5, Wp (d + 1) 170 130 [.ref 149, .int (Int32.ofNat a), .int (Int32.ofNat b), .int (Int32.ofNat row), .int (Int32.ofNat 6), v5] [] ζ Φ) (H2 : ∀ i, i < 6 → ¬ SA σ0 a b GA GB row i → Φ (some (.int 0)) ζ) : ∀ m i, i + m = 6 → (∀ j, j < i → SA σ0 a b GA GB row j) → ∀ v5 : Value, Wp (d + 1) 170 72 [.ref 149, .int (Int32.ofNat a), .int (Int32.ofNat b), .int (Int32.ofNat row), .int (Int32.ofNat i), v5] [] ζ Φ
  | 0, i, e, hs, v5 => by
    have e2 : i = 6 := by omega
    subst e2
    simp only [g_170_72, g_170_74, g_170_76, ari_aa, ari_al, ari_la, ari_mm, ari_ml, ari_lm, ari_ltl, ari_llt, ari_lt, ari_le, ari_lel, ari_lle, ari_0, ari_eq, ari_eql, ari_leq, ari_cl, Nat.not_lt_zero, Bool.false_eq_true, Option.toList_some, Option.toList_none, List.cons_append, List.nil_append, kv_rv, kc1_i, kc1_r, kc1_n, n10, n01, n1514, n1213, n1312, if_true, if_false, not_true_eq_false, not_false_eq_true, and_self, true_and, and_true, false_and, and_false, or_true, true_or, or_false, false_or, Nat.reduceLeDiff, Nat.reduceLT, Nat.reduceEqDiff, Nat.reduceAdd]
    exact H1 hs v5
  | m + 1, i, e, hs, v5 => by
    have js := hz.1.js h
    have hG := nb.2.2.1
    have eo : kv_i ζ 174 (6 * b + i) = kv_i σ0 (106 + 6 * b) i := by rw [hz.1.i (by omega)]; exact nb.mo i (by omega)
    have e1 := hz.2.2 i (by omega)
    simp only [g_170_72, g_170_74, g_170_76, ari_aa, ari_al, ari_la, ari_mm, ari_ml, ari_lm, ari_ltl, ari_llt, ari_lt, ari_le, ari_lel, ari_lle, ari_0, ari_eq, ari_eql, ari_leq, ari_cl, Nat.not_lt_zero, Bool.false_eq_true, Option.toList_some, Option.toList_none, List.cons_append, List.nil_append, kv_rv, kc1_i, kc1_r, kc1_n, n10, n01, n1514, n1213, n1312, if_true, if_false, not_true_eq_false, not_false_eq_true, and_self, true_and, and_true, false_and, and_false, or_true, true_or, or_false, false_or, Nat.reduceLeDiff, Nat.reduceLT, Nat.reduceEqDiff, Nat.reduceAdd, (show i < 6 by omega), (show i < 2147483648 by omega), (show ¬ 6 ≤ i by omega)]
    have go : SA σ0 a b GA GB row i → ∀ v5 : Value, Wp (d + 1) 170 72 [.ref 149, .int (Int32.ofNat a), .int (Int32.ofNat b), .int (Int32.ofNat row), .int (Int32.ofNat (i + 1)), v5] [] ζ Φ := by
      intro hf v5
      refine same_in h ha hb nb hr hz H1 H2 m (i + 1) (by omega) (fun j hj => ?_) v5
      by_cases c : j = i
      · rw [c]; exact hf
      · exact hs j (by omega)
    by_cases c2 : kv_i σ0 (106 + 6 * b) i = -3
    · have hb3 : fo σ0 b GB 1000 row i = -3 := by unfold fo; rw [if_pos c2]
      by_cases c4 : SA σ0 a b GA GB row i
      · have c5 : (-3 = fo σ0 a GA 1000 row i) = True := eq_true (by rw [← hb3]; exact c4)
        simp only [g_170_79, g_170_80, g_170_83, g_170_85, g_170_86, g_170_87, g_170_89, g_170_90, g_170_91, g_170_93, g_170_95, g_170_97, g_170_100, g_170_102, g_170_105, g_170_106, g_170_108, g_170_109, g_170_112, g_170_113, g_170_116, g_170_118, g_170_119, g_170_122, g_170_123, g_170_124, g_170_127, ari_aa, ari_al, ari_la, ari_mm, ari_ml, ari_lm, ari_ltl, ari_llt, ari_lt, ari_le, ari_lel, ari_lle, ari_0, ari_eq, ari_eql, ari_leq, ari_cl, Nat.not_lt_zero, Bool.false_eq_true, Option.toList_some, Option.toList_none, List.cons_append, List.nil_append, kv_rv, kc1_i, kc1_r, kc1_n, n10, n01, n1514, n1213, n1312, if_true, if_false, not_true_eq_false, not_false_eq_true, and_self, true_and, and_true, false_and, and_false, or_true, true_or, or_false, false_or, Nat.reduceLeDiff, Nat.reduceLT, Nat.reduceEqDiff, Nat.reduceAdd, s_149 js, s_174 js, r_149_33 js, s_182 js, r_149_43 js, eo, c2, e1, c5, (show i < 6 by omega), (show i < 2147483648 by omega), (show 6 * b + i < 48 by omega), (show 6 * b + i < 2147483648 by omega)]
        exact go c4 _
      · have c5 : (-3 = fo σ0 a GA 1000 row i) = False := eq_false (by rw [← hb3]; exact c4)
        simp only [g_170_79, g_170_80, g_170_83, g_170_85, g_170_86, g_170_87, g_170_89, g_170_90, g_170_91, g_170_93, g_170_95, g_170_97, g_170_100, g_170_102, g_170_105, g_170_106, g_170_108, g_170_109, g_170_112, g_170_113, g_170_116, g_170_118, g_170_119, g_170_122, g_170_123, g_170_124, g_170_127, ari_aa, ari_al, ari_la, ari_mm, ari_ml, ari_lm, ari_ltl, ari_llt, ari_lt, ari_le, ari_lel, ari_lle, ari_0, ari_eq, ari_eql, ari_leq, ari_cl, Nat.not_lt_zero, Bool.false_eq_true, Option.toList_some, Option.toList_none, List.cons_append, List.nil_append, kv_rv, kc1_i, kc1_r, kc1_n, n10, n01, n1514, n1213, n1312, if_true, if_false, not_true_eq_false, not_false_eq_true, and_self, true_and, and_true, false_and, and_false, or_true, true_or, or_false, false_or, Nat.reduceLeDiff, Nat.reduceLT, Nat.reduceEqDiff, Nat.reduceAdd, s_149 js, s_174 js, r_149_33 js, s_182 js, r_149_43 js, eo, c2, e1, c5, (show i < 6 by omega), (show i < 2147483648 by omega), (show 6 * b + i < 48 by omega), (show 6 * b + i < 2147483648 by omega)]
        exact H2 i (by omega) c4
    · have vx := (nb.o i (by omega)).resolve_left c2
      have hb3 : fo σ0 b GB 1000 row i = bI (nvo (vl σ0 b GB 1000 row) row (kv_i σ0 (106 + 6 * b) i)) := by unfold fo; rw [if_neg c2]; rfl
      by_cases c4 : SA σ0 a b GA GB row i
      · have c5 : (bI (nvo (vl σ0 b GB 1000 row) row (kv_i σ0 (106 + 6 * b) i)) = fo σ0 a GA 1000 row i) = True := eq_true (by rw [← hb3]; exact c4)
        simp only [g_170_79, g_170_80, g_170_83, g_170_85, g_170_86, g_170_87, g_170_89, g_170_90, g_170_91, g_170_93, g_170_95, g_170_97, g_170_100, g_170_102, g_170_105, g_170_106, g_170_108, g_170_109, g_170_112, g_170_113, g_170_116, g_170_118, g_170_119, g_170_122, g_170_123, g_170_124, g_170_127, kv_w8_0, kv_w8_1, kv_w8_2, kv_w8_3, kv_w8_4, ari_aa, ari_al, ari_la, ari_mm, ari_ml, ari_lm, ari_ltl, ari_llt, ari_lt, ari_le, ari_lel, ari_lle, ari_0, ari_eq, ari_eql, ari_leq, ari_cl, Nat.not_lt_zero, Bool.false_eq_true, Option.toList_some, Option.toList_none, List.cons_append, List.nil_append, kv_rv, kc1_i, kc1_r, kc1_n, n10, n01, n1514, n1213, n1312, if_true, if_false, not_true_eq_false, not_false_eq_true, and_self, true_and, and_true, false_and, and_false, or_true, true_or, or_false, false_or, Nat.reduceLeDiff, Nat.reduceLT, Nat.reduceEqDiff, Nat.reduceAdd, s_149 js, s_174 js, r_149_33 js, s_182 js, r_149_43 js, eo, c2, e1, m_valueOf js nb.2.1 hG hr hz.2.1 vx, c5, (show i < 6 by omega), (show i < 2147483648 by omega), (show 6 * b + i < 48 by omega), (show 6 * b + i < 2147483648 by omega)]
        exact go c4 _
      · have c5 : (bI (nvo (vl σ0 b GB 1000 row) row (kv_i σ0 (106 + 6 * b) i)) = fo σ0 a GA 1000 row i) = False := eq_false (by rw [← hb3]; exact c4)
        simp only [g_170_79, g_170_80, g_170_83, g_170_85, g_170_86, g_170_87, g_170_89, g_170_90, g_170_91, g_170_93, g_170_95, g_170_97, g_170_100, g_170_102, g_170_105, g_170_106, g_170_108, g_170_109, g_170_112, g_170_113, g_170_116, g_170_118, g_170_119, g_170_122, g_170_123, g_170_124, g_170_127, kv_w8_0, kv_w8_1, kv_w8_2, kv_w8_3, kv_w8_4, ari_aa, ari_al, ari_la, ari_mm, ari_ml, ari_lm, ari_ltl, ari_llt, ari_lt, ari_le, ari_lel, ari_lle, ari_0, ari_eq, ari_eql, ari_leq, ari_cl, Nat.not_lt_zero, Bool.false_eq_true, Option.toList_some, Option.toList_none, List.cons_append, List.nil_append, kv_rv, kc1_i, kc1_r, kc1_n, n10, n01, n1514, n1213, n1312, if_true, if_false, not_true_eq_false, not_false_eq_true, and_self, true_and, and_true, false_and, and_false, or_true, true_or, or_false, false_or, Nat.reduceLeDiff, Nat.reduceLT, Nat.reduceEqDiff, Nat.reduceAdd, s_149 js, s_174 js, r_149_33 js, s_182 js, r_149_43 js, eo, c2, e1, m_valueOf js nb.2.1 hG hr hz.2.1 vx, c5, (show i < 6 by omega), (show i < 2147483648 by omega), (show 6 * b + i < 48 by omega), (show 6 * b + i < 2147483648 by omega)]
        exact H2 i (by omega) c4
theorem same_out {σ0 : kv_S} (h : JS σ0) {a b w GA GB : Nat} (ha : a < 8) (hb : b < 8) (na : JN1' σ0 a w GA) (nb : JN1' σ0 b w GB) (H1 : ∀ τ, FR (fun b _ => b = 181 ∨ b = 182) σ0 τ → (∀ r, r < 2 ^ w → ∀ i, i < 6 → SA σ0 a b GA GB r i) → Φ (some (.int 1)) τ) (H0 : ∀ τ, FR (fun b _ => b = 181 ∨ b = 182) σ0 τ → ¬ (∀ r, r < 2 ^ w → ∀ i, i < 6 → SA σ0 a b GA GB r i) → Φ (some (.int 0)) τ) : ∀ m row, row + m = 2 ^ w → (∀ r, r < row → ∀ i, i < 6 → SA σ0 a b GA GB r i) → ∀ τ, FR (fun b _ => b = 181 ∨ b = 182) σ0 τ → ∀ v4 v5 : Value, Wp (d + 2) 170 37 [.ref 149, .int (Int32.ofNat a), .int (Int32.ofNat b), .int (Int32.ofNat row), v4, v5] [] τ Φ
  | 0, row, e, hs, τ, fr, v4, v5 => by
    have hW := pw8 na.2.1
    have e2 : row = 2 ^ w := by omega
    subst e2
    have js := fr.js h
    have e5 : kv_i τ 168 a = Int32.ofNat w := by rw [fr.i (by omega)]; exact na.2.2.2.2.1
    simp only [g_170_37, g_170_38, g_170_39, g_170_40, g_170_43, g_170_44, g_170_45, g_170_46, g_170_136, g_170_137, ari_aa, ari_al, ari_la, ari_mm, ari_ml, ari_lm, ari_ltl, ari_llt, ari_lt, ari_le, ari_lel, ari_lle, ari_0, ari_eq, ari_eql, ari_leq, ari_cl, Nat.not_lt_zero, Bool.false_eq_true, Option.toList_some, Option.toList_none, List.cons_append, List.nil_append, kv_rv, kc1_i, kc1_r, kc1_n, n10, n01, n1514, n1213, n1312, if_true, if_false, not_true_eq_false, not_false_eq_true, and_self, true_and, and_true, false_and, and_false, or_true, true_or, or_false, false_or, Nat.reduceLeDiff, Nat.reduceLT, Nat.reduceEqDiff, Nat.reduceAdd, s_149 js, s_168 js, r_149_27 js, e5, pow_w w na.2.1, (show a < 8 by omega), (show a < 2147483648 by omega), (show 2 ^ w < 257 by omega), (show 2 ^ w < 2147483648 by omega), (show 2 ^ w ≤ 2 ^ w by omega)]
    exact H1 τ fr hs
  | m + 1, row, e, hs, τ, fr, v4, v5 => by
    have hW := pw8 na.2.1
    have js := fr.js h
    have e5 : kv_i τ 168 a = Int32.ofNat w := by rw [fr.i (by omega)]; exact na.2.2.2.2.1
    simp only [g_170_37, g_170_38, g_170_39, g_170_40, g_170_43, g_170_44, g_170_45, g_170_46, ari_aa, ari_al, ari_la, ari_mm, ari_ml, ari_lm, ari_ltl, ari_llt, ari_lt, ari_le, ari_lel, ari_lle, ari_0, ari_eq, ari_eql, ari_leq, ari_cl, Nat.not_lt_zero, Bool.false_eq_true, Option.toList_some, Option.toList_none, List.cons_append, List.nil_append, kv_rv, kc1_i, kc1_r, kc1_n, n10, n01, n1514, n1213, n1312, if_true, if_false, not_true_eq_false, not_false_eq_true, and_self, true_and, and_true, false_and, and_false, or_true, true_or, or_false, false_or, Nat.reduceLeDiff, Nat.reduceLT, Nat.reduceEqDiff, Nat.reduceAdd, s_149 js, s_168 js, r_149_27 js, e5, pow_w w na.2.1, (show a < 8 by omega), (show a < 2147483648 by omega), (show row < 257 by omega), (show row < 2147483648 by omega), (show 2 ^ w < 257 by omega), (show 2 ^ w < 2147483648 by omega), (show ¬ 2 ^ w ≤ row by omega)]
    simp only [g_170_49, g_170_50, g_170_51, g_170_52, g_170_53, kv_w8_0, kv_w8_1, kv_w8_2, kv_w8_3, kv_w8_4, Nat.not_lt_zero, Bool.false_eq_true, Option.toList_some, Option.toList_none, List.cons_append, List.nil_append, kv_rv, kc1_i, kc1_r, kc1_n, n10, n01, n1514, n1213, n1312, if_true, if_false, not_true_eq_false, not_false_eq_true, and_self, true_and, and_true, false_and, and_false, or_true, true_or, or_false, false_or, Nat.reduceLeDiff, Nat.reduceLT, Nat.reduceEqDiff, Nat.reduceAdd, s_149 js]
    have na2 : JN1' τ a w GA := na.fr fr ha hpP
    refine m_work js ha na2 (show row < 256 by omega) (tt_none na.2.2.1) (fun υ fr2 hv => ?_)
    have fr2' : FR (fun b _ => b = 181 ∨ b = 182) τ υ := fr2.mono (fun b j q => Or.inl q)
    have fr3 := fr.tr fr2'
    have na3 : JN1' υ a w GA := na.fr fr3 ha hpP
    have js3 := fr3.js h
    simp only [g_170_56, g_170_57, g_170_58, g_170_59, kv_w8_0, kv_w8_1, kv_w8_2, kv_w8_3, kv_w8_4, Nat.not_lt_zero, Bool.false_eq_true, Option.toList_some, Option.toList_none, List.cons_append, List.nil_append, kv_rv, kc1_i, kc1_r, kc1_n, n10, n01, n1514, n1213, n1312, if_true, if_false, not_true_eq_false, not_false_eq_true, and_self, true_and, and_true, false_and, and_false, or_true, true_or, or_false, false_or, Nat.reduceLeDiff, Nat.reduceLT, Nat.reduceEqDiff, Nat.reduceAdd, s_149 js3]
    refine m_outs (t := 1000) js3 ha na3 (show row < 256 by omega) (fun g hg => by rw [hv g hg, vl_fr fr2' ha hpP]) (fun ξ fr4 ho => ?_)
    have fr4' : FR (fun b _ => b = 181 ∨ b = 182) υ ξ := fr4.mono (fun b j q => Or.inr q)
    have fr5 := fr3.tr fr4'
    have nb5 : JN1' ξ b w GB := nb.fr fr5 hb hpP
    have js5 := fr5.js h
    simp only [g_170_62, g_170_63, g_170_64, g_170_65, g_170_66, kv_w8_0, kv_w8_1, kv_w8_2, kv_w8_3, kv_w8_4, Nat.not_lt_zero, Bool.false_eq_true, Option.toList_some, Option.toList_none, List.cons_append, List.nil_append, kv_rv, kc1_i, kc1_r, kc1_n, n10, n01, n1514, n1213, n1312, if_true, if_false, not_true_eq_false, not_false_eq_true, and_self, true_and, and_true, false_and, and_false, or_true, true_or, or_false, false_or, Nat.reduceLeDiff, Nat.reduceLT, Nat.reduceEqDiff, Nat.reduceAdd, s_149 js5]
    refine m_work js5 hb nb5 (show row < 256 by omega) (tt_none nb.2.2.1) (fun ζ fr6 hv2 => ?_)
    have hz : RS σ0 a b GA GB row ζ := ⟨fr5.tr (fr6.mono (fun b j q => Or.inl q)), fun g hg => by rw [hv2 g hg, vl_fr fr5 hb hpP], fun i hi => by rw [fr6.i (by omega), ho i hi, fo_fr fr3 ha hpP]⟩
    simp only [g_170_69, g_170_70, Nat.not_lt_zero, Bool.false_eq_true, Option.toList_some, Option.toList_none, List.cons_append, List.nil_append, kv_rv, kc1_i, kc1_r, kc1_n, n10, n01, n1514, n1213, n1312, if_true, if_false, not_true_eq_false, not_false_eq_true, and_self, true_and, and_true, false_and, and_false, or_true, true_or, or_false, false_or, Nat.reduceLeDiff, Nat.reduceLT, Nat.reduceEqDiff, Nat.reduceAdd]
    refine same_in h ha hb nb (by omega) hz (fun hall v5 => ?_) (fun i hi p1 => H0 ζ hz.1 (fun q => p1 (q row (by omega) i hi))) 6 0 (by omega) (fun j hj => absurd hj (by omega)) _
    simp only [g_170_130, g_170_133, ari_aa, ari_al, ari_la, ari_mm, ari_ml, ari_lm, ari_ltl, ari_llt, ari_lt, ari_le, ari_lel, ari_lle, ari_0, ari_eq, ari_eql, ari_leq, ari_cl, Nat.not_lt_zero, Bool.false_eq_true, Option.toList_some, Option.toList_none, List.cons_append, List.nil_append, kv_rv, kc1_i, kc1_r, kc1_n, n10, n01, n1514, n1213, n1312, if_true, if_false, not_true_eq_false, not_false_eq_true, and_self, true_and, and_true, false_and, and_false, or_true, true_or, or_false, false_or, Nat.reduceLeDiff, Nat.reduceLT, Nat.reduceEqDiff, Nat.reduceAdd]
    refine same_out h ha hb na nb H1 H0 m (row + 1) (by omega) (fun r hr i hi => ?_) ζ hz.1 _ _
    by_cases c : r = row
    · rw [c]; exact hall i hi
    · exact hs r (by omega) i hi
end PM
/-- frames of the model's rows are scratch -/
theorem sc_rows (b j : Nat) (h : b = 181 ∨ b = 182) : SC b j := by unfold SC kv_ess; omega
theorem DF_fr {P : Nat → Nat → Prop} {σ τ : kv_S} (h : FR P σ τ) {a b : Nat} (ha : a < 8) (hb : b < 8) (hp : ∀ b j, P b j → ¬ cN b j) (GA GB : Nat) : DF τ a b GA GB = DF σ a b GA GB := by
  funext row i
  unfold DF
  rw [vo_fr h ha hp, vo_fr h hb hp, h.i (b := 106 + 6 * a) (k := i) (fun q => hp _ _ q (by unfold cN; omega)), h.i (b := 106 + 6 * b) (k := i) (fun q => hp _ _ q (by unfold cN; omega))]
/-- promise 24: parts -/
theorem o_22 (d : Nat) : ob_22 JJ (d + 3) := by
  intro σ h p q
  have h' := h
  obtain ⟨a1, a2, a3, a4, ⟨K, hK, k1, k2, k3⟩, a6, a7⟩ := h'
  by_cases hp : ¬ p < 0 ∧ p < Int32.ofNat K
  · by_cases hq : ¬ q < 0 ∧ q < Int32.ofNat K
    · obtain ⟨a, ha, rfl, eca⟩ := i32_nat (by omega) hp.1 hp.2
      obtain ⟨b, hb, rfl, ecb⟩ := i32_nat (by omega) hq.1 hq.2
      obtain ⟨w, GA, na⟩ := k3 a ha
      have na : JN1' σ a w GA := na
      obtain ⟨w', GB, nb⟩ := k3 b hb
      have nb : JN1' σ b w' GB := nb
      have ha8 : a < 8 := by omega
      have hb8 : b < 8 := by omega
      have hw := na.2.1
      have hw' := nb.2.1
      by_cases hww : w = w'
      · subst hww
        simp only [c_94, g_94_0, g_94_1, g_94_2, g_94_5, g_94_8, g_94_9, g_94_10, g_94_13, g_94_16, g_94_17, g_94_18, g_94_19, g_94_22, g_94_23, g_94_24, g_94_27, g_94_28, g_94_31, g_94_32, g_94_33, g_94_36, g_94_39, g_94_40, g_94_41, g_94_44, g_94_45, g_94_46, g_94_47, g_94_50, g_94_51, g_94_52, kv_w8_0, kv_w8_1, kv_w8_2, kv_w8_3, kv_w8_4, ari_aa, ari_al, ari_la, ari_mm, ari_ml, ari_lm, ari_ltl, ari_llt, ari_lt, ari_le, ari_lel, ari_lle, ari_0, ari_eq, ari_eql, ari_leq, ari_cl, Nat.not_lt_zero, Bool.false_eq_true, Option.toList_some, Option.toList_none, List.cons_append, List.nil_append, kv_rv, kc1_i, kc1_r, kc1_n, n10, n01, n1514, n1213, n1312, if_true, if_false, not_true_eq_false, not_false_eq_true, and_self, true_and, and_true, false_and, and_false, or_true, true_or, or_false, false_or, Nat.reduceLeDiff, Nat.reduceLT, Nat.reduceEqDiff, Nat.reduceAdd, m_isNet_c a1, k1, na.2.2.2.1, nb.2.2.2.1, nN a1 ha8, qN a1 ha8, nN a1 hb8, qN a1 hb8, s_8 a1, s_10 a1, r_8_1 a1, (show a < 8 by omega), (show a < 2147483648 by omega), (show b < 8 by omega), (show b < 2147483648 by omega), (show a < K by omega), (show a < 2147483648 by omega), (show b < K by omega), (show b < 2147483648 by omega), (show K < 9 by omega), (show K < 2147483648 by omega), (show w < 9 by omega), (show w < 2147483648 by omega)]
        refine m_firstDiff a1 a2 ha8 hb8 na nb (fun υ v fsc hv => ?_)
        have js := fsc.js a1
        simp only [g_94_55, g_94_58, g_94_60, Nat.not_lt_zero, Bool.false_eq_true, Option.toList_some, Option.toList_none, List.cons_append, List.nil_append, kv_rv, kc1_i, kc1_r, kc1_n, n10, n01, n1514, n1213, n1312, if_true, if_false, not_true_eq_false, not_false_eq_true, and_self, true_and, and_true, false_and, and_false, or_true, true_or, or_false, false_or, Nat.reduceLeDiff, Nat.reduceLT, Nat.reduceEqDiff, Nat.reduceAdd]
        refine ⟨v, rfl, ?_⟩
        have g1 : kv_i υ 149 26 = Int32.ofNat K := by rw [fsc.ess (by unfold kv_ess; omega)]; exact k2
        have na2 : JN1' υ a w GA := na.fr fsc ha8 sc_cN
        have nb2 : JN1' υ b w GB := nb.fr fsc hb8 sc_cN
        simp only [c_172, g_172_0, g_172_1, g_172_2, g_172_5, g_172_8, g_172_9, g_172_10, g_172_13, g_172_16, g_172_17, g_172_18, g_172_19, g_172_22, g_172_23, g_172_24, g_172_25, g_172_28, g_172_29, g_172_30, g_172_33, g_172_35, g_172_36, g_172_37, kv_w8_0, kv_w8_1, kv_w8_2, kv_w8_3, kv_w8_4, ari_aa, ari_al, ari_la, ari_mm, ari_ml, ari_lm, ari_ltl, ari_llt, ari_lt, ari_le, ari_lel, ari_lle, ari_0, ari_eq, ari_eql, ari_leq, ari_cl, Nat.not_lt_zero, Bool.false_eq_true, Option.toList_some, Option.toList_none, List.cons_append, List.nil_append, kv_rv, kc1_i, kc1_r, kc1_n, n10, n01, n1514, n1213, n1312, if_true, if_false, not_true_eq_false, not_false_eq_true, and_self, true_and, and_true, false_and, and_false, or_true, true_or, or_false, false_or, Nat.reduceLeDiff, Nat.reduceLT, Nat.reduceEqDiff, Nat.reduceAdd, m_isNet_m js, g1, na2.2.2.2.2.1, nb2.2.2.2.2.1, s_149 js, s_168 js, r_149_27 js, (show a < 8 by omega), (show a < 2147483648 by omega), (show b < 8 by omega), (show b < 2147483648 by omega), (show a < K by omega), (show a < 2147483648 by omega), (show b < K by omega), (show b < 2147483648 by omega), (show K < 9 by omega), (show K < 2147483648 by omega), (show w < 9 by omega), (show w < 2147483648 by omega)]
        refine parts_out js ha8 hb8 na2 nb2 (fun v' ω fr2 hv' => ⟨?_, JJ.fr (fsc.tr (fr2.sc sc_rows)) h⟩) (2 ^ w) 0 (by omega) (fun r hr => absurd hr (by omega)) υ (FR.rf _ υ) _ _
        rw [DF_fr fsc ha8 hb8 sc_cN] at hv'
        rw [hv.uniq hv']
      · simp only [c_94, g_94_0, g_94_1, g_94_2, g_94_5, g_94_8, g_94_9, g_94_10, g_94_13, g_94_16, g_94_17, g_94_18, g_94_19, g_94_22, g_94_23, g_94_24, g_94_27, g_94_28, g_94_31, g_94_32, g_94_33, g_94_36, g_94_39, g_94_40, g_94_41, g_94_44, g_94_45, g_94_46, g_94_47, g_94_50, g_94_51, g_94_52, g_94_55, g_94_58, g_94_60, kv_w8_0, kv_w8_1, kv_w8_2, kv_w8_3, kv_w8_4, ari_aa, ari_al, ari_la, ari_mm, ari_ml, ari_lm, ari_ltl, ari_llt, ari_lt, ari_le, ari_lel, ari_lle, ari_0, ari_eq, ari_eql, ari_leq, ari_cl, Nat.not_lt_zero, Bool.false_eq_true, Option.toList_some, Option.toList_none, List.cons_append, List.nil_append, kv_rv, kc1_i, kc1_r, kc1_n, n10, n01, n1514, n1213, n1312, if_true, if_false, not_true_eq_false, not_false_eq_true, and_self, true_and, and_true, false_and, and_false, or_true, true_or, or_false, false_or, Nat.reduceLeDiff, Nat.reduceLT, Nat.reduceEqDiff, Nat.reduceAdd, m_isNet_c a1, k1, hww, na.2.2.2.1, nb.2.2.2.1, nN a1 ha8, qN a1 ha8, nN a1 hb8, qN a1 hb8, s_8 a1, s_10 a1, r_8_1 a1, (show a < 8 by omega), (show a < 2147483648 by omega), (show b < 8 by omega), (show b < 2147483648 by omega), (show a < K by omega), (show a < 2147483648 by omega), (show b < K by omega), (show b < 2147483648 by omega), (show K < 9 by omega), (show K < 2147483648 by omega), (show w < 9 by omega), (show w < 2147483648 by omega), (show w' < 9 by omega), (show w' < 2147483648 by omega)]
        refine ⟨_, rfl, ?_⟩
        simp only [c_172, g_172_0, g_172_1, g_172_2, g_172_5, g_172_8, g_172_9, g_172_10, g_172_13, g_172_16, g_172_17, g_172_18, g_172_19, g_172_22, g_172_23, g_172_24, g_172_25, g_172_28, g_172_29, g_172_30, g_172_33, g_172_35, kv_w8_0, kv_w8_1, kv_w8_2, kv_w8_3, kv_w8_4, ari_aa, ari_al, ari_la, ari_mm, ari_ml, ari_lm, ari_ltl, ari_llt, ari_lt, ari_le, ari_lel, ari_lle, ari_0, ari_eq, ari_eql, ari_leq, ari_cl, Nat.not_lt_zero, Bool.false_eq_true, Option.toList_some, Option.toList_none, List.cons_append, List.nil_append, kv_rv, kc1_i, kc1_r, kc1_n, n10, n01, n1514, n1213, n1312, if_true, if_false, not_true_eq_false, not_false_eq_true, and_self, true_and, and_true, false_and, and_false, or_true, true_or, or_false, false_or, Nat.reduceLeDiff, Nat.reduceLT, Nat.reduceEqDiff, Nat.reduceAdd, m_isNet_m a1, k2, hww, na.2.2.2.2.1, nb.2.2.2.2.1, s_149 a1, s_168 a1, r_149_27 a1, (show a < 8 by omega), (show a < 2147483648 by omega), (show b < 8 by omega), (show b < 2147483648 by omega), (show a < K by omega), (show a < 2147483648 by omega), (show b < K by omega), (show b < 2147483648 by omega), (show K < 9 by omega), (show K < 2147483648 by omega), (show w < 9 by omega), (show w < 2147483648 by omega), (show w' < 9 by omega), (show w' < 2147483648 by omega)]
        exact h
    · simp only [c_94, g_94_0, g_94_1, g_94_2, g_94_5, g_94_8, g_94_9, g_94_10, g_94_13, g_94_16, g_94_17, kv_w8_0, kv_w8_1, kv_w8_2, kv_w8_3, kv_w8_4, Nat.not_lt_zero, Bool.false_eq_true, Option.toList_some, Option.toList_none, List.cons_append, List.nil_append, kv_rv, kc1_i, kc1_r, kc1_n, n10, n01, n1514, n1213, n1312, if_true, if_false, not_true_eq_false, not_false_eq_true, and_self, true_and, and_true, false_and, and_false, or_true, true_or, or_false, false_or, Nat.reduceLeDiff, Nat.reduceLT, Nat.reduceEqDiff, Nat.reduceAdd, m_isNet_c a1, k1, hp, hq, s_8 a1]
      refine ⟨_, rfl, ?_⟩
      simp only [c_172, g_172_0, g_172_1, g_172_2, g_172_5, g_172_8, g_172_9, g_172_10, g_172_13, g_172_16, g_172_17, kv_w8_0, kv_w8_1, kv_w8_2, kv_w8_3, kv_w8_4, Nat.not_lt_zero, Bool.false_eq_true, Option.toList_some, Option.toList_none, List.cons_append, List.nil_append, kv_rv, kc1_i, kc1_r, kc1_n, n10, n01, n1514, n1213, n1312, if_true, if_false, not_true_eq_false, not_false_eq_true, and_self, true_and, and_true, false_and, and_false, or_true, true_or, or_false, false_or, Nat.reduceLeDiff, Nat.reduceLT, Nat.reduceEqDiff, Nat.reduceAdd, m_isNet_m a1, k2, hp, hq, s_149 a1]
      exact h
  · simp only [c_94, g_94_0, g_94_1, g_94_2, g_94_5, g_94_8, g_94_9, g_94_10, g_94_13, g_94_16, g_94_17, kv_w8_0, kv_w8_1, kv_w8_2, kv_w8_3, kv_w8_4, Nat.not_lt_zero, Bool.false_eq_true, Option.toList_some, Option.toList_none, List.cons_append, List.nil_append, kv_rv, kc1_i, kc1_r, kc1_n, n10, n01, n1514, n1213, n1312, if_true, if_false, not_true_eq_false, not_false_eq_true, and_self, true_and, and_true, false_and, and_false, or_true, true_or, or_false, false_or, Nat.reduceLeDiff, Nat.reduceLT, Nat.reduceEqDiff, Nat.reduceAdd, m_isNet_c a1, k1, hp, s_8 a1]
    refine ⟨_, rfl, ?_⟩
    simp only [c_172, g_172_0, g_172_1, g_172_2, g_172_5, g_172_8, g_172_9, g_172_10, g_172_13, g_172_16, g_172_17, kv_w8_0, kv_w8_1, kv_w8_2, kv_w8_3, kv_w8_4, Nat.not_lt_zero, Bool.false_eq_true, Option.toList_some, Option.toList_none, List.cons_append, List.nil_append, kv_rv, kc1_i, kc1_r, kc1_n, n10, n01, n1514, n1213, n1312, if_true, if_false, not_true_eq_false, not_false_eq_true, and_self, true_and, and_true, false_and, and_false, or_true, true_or, or_false, false_or, Nat.reduceLeDiff, Nat.reduceLT, Nat.reduceEqDiff, Nat.reduceAdd, m_isNet_m a1, k2, hp, s_149 a1]
    exact h

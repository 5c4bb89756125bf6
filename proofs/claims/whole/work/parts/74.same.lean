/-! ===== same ===== -/
theorem SA_iff {σ : kv_S} {a b GA GB row i : Nat} : SA σ a b GA GB row i ↔ ((kv_i σ (106 + 6 * a) i = -3 ↔ kv_i σ (106 + 6 * b) i = -3) ∧ DF σ a b GA GB row i = false) := by
  unfold SA fo DF
  by_cases c1 : kv_i σ (106 + 6 * a) i = -3
  · by_cases c2 : kv_i σ (106 + 6 * b) i = -3
    · rw [if_pos c1, if_pos c2]; simp [c1, c2]
    · rw [if_pos c1, if_neg c2]
      exact ⟨fun q => absurd q (bI_3 _), fun q => absurd (q.1.mp c1) c2⟩
  · by_cases c2 : kv_i σ (106 + 6 * b) i = -3
    · rw [if_neg c1, if_pos c2]
      exact ⟨fun q => absurd q (bI_3' _), fun q => absurd (q.1.mpr c2) c1⟩
    · rw [if_neg c1, if_neg c2, bI_inj, beq_eq_false_iff_ne.mpr c1, beq_eq_false_iff_ne.mpr c2]
      constructor
      · intro q
        refine ⟨⟨fun w => absurd w c1, fun w => absurd w c2⟩, ?_⟩
        rw [q]; simp
      · rintro ⟨-, q⟩
        revert q
        cases vo σ a GA 1000 row (kv_i σ (106 + 6 * a) i) <;> cases vo σ b GB 1000 row (kv_i σ (106 + 6 * b) i) <;> simp
section SC1
variable {d : Nat} {σ : kv_S} {Φ : Option Value → kv_S → Prop}
theorem same_lc (h : JS σ) {a b : Nat} (ha : a < 8) (hb : b < 8) (H1 : (∀ i, i < 6 → (kv_i σ (106 + 6 * a) i = -3 ↔ kv_i σ (106 + 6 * b) i = -3)) → Wp d 91 102 [.ref 8, .int (Int32.ofNat a), .int (Int32.ofNat b), .int (Int32.ofNat 6)] [] σ Φ) (H0 : ¬ (∀ i, i < 6 → (kv_i σ (106 + 6 * a) i = -3 ↔ kv_i σ (106 + 6 * b) i = -3)) → Φ (some (.int 0)) σ) : ∀ m i, i + m = 6 → (∀ j, j < i → (kv_i σ (106 + 6 * a) j = -3 ↔ kv_i σ (106 + 6 * b) j = -3)) → Wp d 91 43 [.ref 8, .int (Int32.ofNat a), .int (Int32.ofNat b), .int (Int32.ofNat i)] [] σ Φ
  | 0, i, e, hs => by
    have e2 : i = 6 := by omega
    subst e2
    simp only [g_91_43, g_91_44, g_91_46, ari_aa, ari_al, ari_la, ari_mm, ari_ml, ari_lm, ari_ltl, ari_llt, ari_lt, ari_le, ari_lel, ari_lle, ari_0, ari_eq, ari_eql, ari_leq, ari_cl, Nat.not_lt_zero, Bool.false_eq_true, Option.toList_some, Option.toList_none, List.cons_append, List.nil_append, kv_rv, kc1_i, kc1_r, kc1_n, n10, n01, n1514, n1213, n1312, if_true, if_false, not_true_eq_false, not_false_eq_true, and_self, true_and, and_true, false_and, and_false, or_true, true_or, or_false, false_or, Nat.reduceLeDiff, Nat.reduceLT, Nat.reduceEqDiff, Nat.reduceAdd]
    exact H1 hs
  | m + 1, i, e, hs => by
    simp only [g_91_43, g_91_44, g_91_46, ari_aa, ari_al, ari_la, ari_mm, ari_ml, ari_lm, ari_ltl, ari_llt, ari_lt, ari_le, ari_lel, ari_lle, ari_0, ari_eq, ari_eql, ari_leq, ari_cl, Nat.not_lt_zero, Bool.false_eq_true, Option.toList_some, Option.toList_none, List.cons_append, List.nil_append, kv_rv, kc1_i, kc1_r, kc1_n, n10, n01, n1514, n1213, n1312, if_true, if_false, not_true_eq_false, not_false_eq_true, and_self, true_and, and_true, false_and, and_false, or_true, true_or, or_false, false_or, Nat.reduceLeDiff, Nat.reduceLT, Nat.reduceEqDiff, Nat.reduceAdd, (show i < 6 by omega), (show i < 2147483648 by omega), (show ¬ 6 ≤ i by omega)]
    have go : (kv_i σ (106 + 6 * a) i = -3 ↔ kv_i σ (106 + 6 * b) i = -3) → Wp d 91 43 [.ref 8, .int (Int32.ofNat a), .int (Int32.ofNat b), .int (Int32.ofNat (i + 1))] [] σ Φ := by
      intro hf
      refine same_lc h ha hb H1 H0 m (i + 1) (by omega) (fun j hj => ?_)
      by_cases c : j = i
      · rw [c]; exact hf
      · exact hs j (by omega)
    by_cases c1 : kv_i σ (106 + 6 * a) i = -3
    · by_cases c2 : kv_i σ (106 + 6 * b) i = -3
      · simp only [g_91_49, g_91_50, g_91_53, g_91_54, g_91_55, g_91_58, g_91_59, g_91_60, g_91_62, g_91_65, g_91_66, g_91_69, g_91_70, g_91_71, g_91_74, g_91_75, g_91_76, g_91_79, g_91_80, g_91_81, g_91_83, g_91_86, g_91_87, g_91_90, g_91_91, g_91_94, g_91_95, g_91_96, g_91_99, ari_aa, ari_al, ari_la, ari_mm, ari_ml, ari_lm, ari_ltl, ari_llt, ari_lt, ari_le, ari_lel, ari_lle, ari_0, ari_eq, ari_eql, ari_leq, ari_cl, Nat.not_lt_zero, Bool.false_eq_true, Option.toList_some, Option.toList_none, List.cons_append, List.nil_append, kv_rv, kc1_i, kc1_r, kc1_n, n10, n01, n1514, n1213, n1312, if_true, if_false, not_true_eq_false, not_false_eq_true, and_self, true_and, and_true, false_and, and_false, or_true, true_or, or_false, false_or, Nat.reduceLeDiff, Nat.reduceLT, Nat.reduceEqDiff, Nat.reduceAdd, s_8 h, s_10 h, r_8_1 h, nN h ha, qN h ha, nO h ha, qO h ha, nN h hb, qN h hb, nO h hb, qO h hb, c1, c2, (show a < 8 by omega), (show a < 2147483648 by omega), (show b < 8 by omega), (show b < 2147483648 by omega), (show i < 6 by omega), (show i < 2147483648 by omega)]
        exact go ⟨fun _ => c2, fun _ => c1⟩
      · simp only [g_91_49, g_91_50, g_91_53, g_91_54, g_91_55, g_91_58, g_91_59, g_91_60, g_91_62, g_91_65, g_91_66, g_91_69, g_91_70, g_91_71, g_91_74, g_91_75, g_91_76, g_91_79, g_91_80, g_91_81, g_91_83, g_91_86, g_91_87, g_91_90, g_91_91, g_91_94, g_91_95, g_91_96, g_91_99, ari_aa, ari_al, ari_la, ari_mm, ari_ml, ari_lm, ari_ltl, ari_llt, ari_lt, ari_le, ari_lel, ari_lle, ari_0, ari_eq, ari_eql, ari_leq, ari_cl, Nat.not_lt_zero, Bool.false_eq_true, Option.toList_some, Option.toList_none, List.cons_append, List.nil_append, kv_rv, kc1_i, kc1_r, kc1_n, n10, n01, n1514, n1213, n1312, if_true, if_false, not_true_eq_false, not_false_eq_true, and_self, true_and, and_true, false_and, and_false, or_true, true_or, or_false, false_or, Nat.reduceLeDiff, Nat.reduceLT, Nat.reduceEqDiff, Nat.reduceAdd, s_8 h, s_10 h, r_8_1 h, nN h ha, qN h ha, nO h ha, qO h ha, nN h hb, qN h hb, nO h hb, qO h hb, c1, c2, (show a < 8 by omega), (show a < 2147483648 by omega), (show b < 8 by omega), (show b < 2147483648 by omega), (show i < 6 by omega), (show i < 2147483648 by omega)]
        exact H0 (fun q => c2 ((q i (by omega)).mp c1))
    · by_cases c2 : kv_i σ (106 + 6 * b) i = -3
      · simp only [g_91_49, g_91_50, g_91_53, g_91_54, g_91_55, g_91_58, g_91_59, g_91_60, g_91_62, g_91_65, g_91_66, g_91_69, g_91_70, g_91_71, g_91_74, g_91_75, g_91_76, g_91_79, g_91_80, g_91_81, g_91_83, g_91_86, g_91_87, g_91_90, g_91_91, g_91_94, g_91_95, g_91_96, g_91_99, ari_aa, ari_al, ari_la, ari_mm, ari_ml, ari_lm, ari_ltl, ari_llt, ari_lt, ari_le, ari_lel, ari_lle, ari_0, ari_eq, ari_eql, ari_leq, ari_cl, Nat.not_lt_zero, Bool.false_eq_true, Option.toList_some, Option.toList_none, List.cons_append, List.nil_append, kv_rv, kc1_i, kc1_r, kc1_n, n10, n01, n1514, n1213, n1312, if_true, if_false, not_true_eq_false, not_false_eq_true, and_self, true_and, and_true, false_and, and_false, or_true, true_or, or_false, false_or, Nat.reduceLeDiff, Nat.reduceLT, Nat.reduceEqDiff, Nat.reduceAdd, s_8 h, s_10 h, r_8_1 h, nN h ha, qN h ha, nO h ha, qO h ha, nN h hb, qN h hb, nO h hb, qO h hb, c1, c2, (show a < 8 by omega), (show a < 2147483648 by omega), (show b < 8 by omega), (show b < 2147483648 by omega), (show i < 6 by omega), (show i < 2147483648 by omega)]
        exact H0 (fun q => c1 ((q i (by omega)).mpr c2))
      · simp only [g_91_49, g_91_50, g_91_53, g_91_54, g_91_55, g_91_58, g_91_59, g_91_60, g_91_62, g_91_65, g_91_66, g_91_69, g_91_70, g_91_71, g_91_74, g_91_75, g_91_76, g_91_79, g_91_80, g_91_81, g_91_83, g_91_86, g_91_87, g_91_90, g_91_91, g_91_94, g_91_95, g_91_96, g_91_99, ari_aa, ari_al, ari_la, ari_mm, ari_ml, ari_lm, ari_ltl, ari_llt, ari_lt, ari_le, ari_lel, ari_lle, ari_0, ari_eq, ari_eql, ari_leq, ari_cl, Nat.not_lt_zero, Bool.false_eq_true, Option.toList_some, Option.toList_none, List.cons_append, List.nil_append, kv_rv, kc1_i, kc1_r, kc1_n, n10, n01, n1514, n1213, n1312, if_true, if_false, not_true_eq_false, not_false_eq_true, and_self, true_and, and_true, false_and, and_false, or_true, true_or, or_false, false_or, Nat.reduceLeDiff, Nat.reduceLT, Nat.reduceEqDiff, Nat.reduceAdd, s_8 h, s_10 h, r_8_1 h, nN h ha, qN h ha, nO h ha, qO h ha, nN h hb, qN h hb, nO h hb, qO h hb, c1, c2, (show a < 8 by omega), (show a < 2147483648 by omega), (show b < 8 by omega), (show b < 2147483648 by omega), (show i < 6 by omega), (show i < 2147483648 by omega)]
        exact go ⟨fun q => absurd q c1, fun q => absurd q c2⟩
end SC1
theorem FD.m5 {D : Nat → Nat → Bool} {n : Nat} (hn : n ≤ 256) {v : Int32} (h : FD D n v) : v = -5 ↔ ∀ row, row < n → ∀ i, i < 6 → D row i = false := by
  rcases h with ⟨e, h⟩ | ⟨r, i, h1, h2, e, h3, -⟩
  · exact ⟨fun _ => h, fun _ => e⟩
  · constructor
    · intro q
      rw [e, ari_neg (by omega) (by decide) (by decide)] at q; exact q.elim
    · intro q; rw [q r h1 i h2] at h3; cases h3
/-- promise 23: same -/
theorem o_21 (d : Nat) : ob_21 JJ (d + 3) := by
  intro σ h p q
  have h' := h
  obtain ⟨a1, a2, a3, a4, ⟨K, hK, k1, k2, k3⟩, a6, a7⟩ := h'
  by_cases hp : ¬ p < 0 ∧ p < Int32.ofNat K
  · by_cases hq : ¬ q < 0 ∧ q < Int32.ofNat K
    · obtain ⟨a, ha, rfl, eca⟩ := i32_nat (by omega) hp.1 hp.2
      obtain ⟨b, hb, rfl, ecb⟩ := i32_nat (by omega) hq.1 hq.2
      obtain ⟨w, GA, na⟩ := k3 a ha
      have na : JN1' σ a w GA := na
      obtain ⟨w', GB, nb⟩ := k3 b hb
      have nb : JN1' σ b w' GB := nb
      have ha8 : a < 8 := by omega
      have hb8 : b < 8 := by omega
      have hw := na.2.1
      have hw' := nb.2.1
      by_cases hww : w = w'
      · subst hww
        have hW := pw8 hw
        have hW1 := pw1 w
        -- the model, from a state that is the same but for scratch
        have mod : ∀ υ v, FR SC σ υ → (v = 1 ∧ (∀ r, r < 2 ^ w → ∀ i, i < 6 → SA σ a b GA GB r i) ∨ v = 0 ∧ ¬ (∀ r, r < 2 ^ w → ∀ i, i < 6 → SA σ a b GA GB r i)) → Wc (d + 3) 170 [.ref 149, .int (Int32.ofNat a), .int (Int32.ofNat b)] υ (fun r2 τ2 => r2 = some (.int v) ∧ JJ τ2) := by
          intro υ v fsc hv
          have js := fsc.js a1
          have g1 : kv_i υ 149 26 = Int32.ofNat K := by rw [fsc.ess (by unfold kv_ess; omega)]; exact k2
          have na2 : JN1' υ a w GA := na.fr fsc ha8 sc_cN
          have nb2 : JN1' υ b w GB := nb.fr fsc hb8 sc_cN
          have eSA : ∀ r i, SA υ a b GA GB r i ↔ SA σ a b GA GB r i := fun r i => by unfold SA; rw [fo_fr fsc ha8 sc_cN, fo_fr fsc hb8 sc_cN]
          simp only [c_170, g_170_0, g_170_1, g_170_2, g_170_5, g_170_8, g_170_9, g_170_10, g_170_13, g_170_16, g_170_17, g_170_18, g_170_19, g_170_22, g_170_23, g_170_24, g_170_25, g_170_28, g_170_29, g_170_30, g_170_33, g_170_34, g_170_35, g_170_36, kv_w8_0, kv_w8_1, kv_w8_2, kv_w8_3, kv_w8_4, ari_aa, ari_al, ari_la, ari_mm, ari_ml, ari_lm, ari_ltl, ari_llt, ari_lt, ari_le, ari_lel, ari_lle, ari_0, ari_eq, ari_eql, ari_leq, ari_cl, Nat.not_lt_zero, Bool.false_eq_true, Option.toList_some, Option.toList_none, List.cons_append, List.nil_append, kv_rv, kc1_i, kc1_r, kc1_n, n10, n01, n1514, n1213, n1312, if_true, if_false, not_true_eq_false, not_false_eq_true, and_self, true_and, and_true, false_and, and_false, or_true, true_or, or_false, false_or, Nat.reduceLeDiff, Nat.reduceLT, Nat.reduceEqDiff, Nat.reduceAdd, m_isNet_m js, g1, na2.2.2.2.2.1, nb2.2.2.2.2.1, s_149 js, s_168 js, r_149_27 js, (show a < 8 by omega), (show a < 2147483648 by omega), (show b < 8 by omega), (show b < 2147483648 by omega), (show a < K by omega), (show a < 2147483648 by omega), (show b < K by omega), (show b < 2147483648 by omega), (show K < 9 by omega), (show K < 2147483648 by omega), (show w < 9 by omega), (show w < 2147483648 by omega)]
          refine same_out js ha8 hb8 na2 nb2 (fun ω fr2 hs => ⟨?_, JJ.fr (fsc.tr (fr2.sc sc_rows)) h⟩) (fun ω fr2 hs => ⟨?_, JJ.fr (fsc.tr (fr2.sc sc_rows)) h⟩) (2 ^ w) 0 (by omega) (fun r hr => absurd hr (by omega)) υ (FR.rf _ υ) _ _
          · rcases hv with ⟨e, -⟩ | ⟨-, hv⟩
            · rw [e]
            · exact absurd (fun r hr i hi => (eSA r i).mp (hs r hr i hi)) hv
          · rcases hv with ⟨-, hv⟩ | ⟨e, -⟩
            · exact absurd (fun r hr i hi => (eSA r i).mpr (hv r hr i hi)) hs
            · rw [e]
        simp only [c_91, g_91_0, g_91_1, g_91_2, g_91_5, g_91_8, g_91_9, g_91_10, g_91_13, g_91_16, g_91_17, g_91_18, g_91_19, g_91_22, g_91_23, g_91_24, g_91_27, g_91_28, g_91_31, g_91_32, g_91_33, g_91_36, g_91_39, g_91_40, g_91_41, g_91_42, kv_w8_0, kv_w8_1, kv_w8_2, kv_w8_3, kv_w8_4, ari_aa, ari_al, ari_la, ari_mm, ari_ml, ari_lm, ari_ltl, ari_llt, ari_lt, ari_le, ari_lel, ari_lle, ari_0, ari_eq, ari_eql, ari_leq, ari_cl, Nat.not_lt_zero, Bool.false_eq_true, Option.toList_some, Option.toList_none, List.cons_append, List.nil_append, kv_rv, kc1_i, kc1_r, kc1_n, n10, n01, n1514, n1213, n1312, if_true, if_false, not_true_eq_false, not_false_eq_true, and_self, true_and, and_true, false_and, and_false, or_true, true_or, or_false, false_or, Nat.reduceLeDiff, Nat.reduceLT, Nat.reduceEqDiff, Nat.reduceAdd, m_isNet_c a1, k1, na.2.2.2.1, nb.2.2.2.1, nN a1 ha8, qN a1 ha8, nN a1 hb8, qN a1 hb8, s_8 a1, s_10 a1, r_8_1 a1, (show a < 8 by omega), (show a < 2147483648 by omega), (show b < 8 by omega), (show b < 2147483648 by omega), (show a < K by omega), (show a < 2147483648 by omega), (show b < K by omega), (show b < 2147483648 by omega), (show K < 9 by omega), (show K < 2147483648 by omega), (show w < 9 by omega), (show w < 2147483648 by omega)]
        refine same_lc a1 ha8 hb8 (fun hte => ?_) (fun hte => ⟨0, rfl, mod σ 0 (FR.rf _ σ) (Or.inr ⟨rfl, fun q => hte (fun i hi => (SA_iff.mp (q 0 (by omega) i hi)).1)⟩)⟩) 6 0 (by omega) (fun j hj => absurd hj (by omega))
        simp only [g_91_102, g_91_103, g_91_104, g_91_107, g_91_108, g_91_109, g_91_110, g_91_113, g_91_114, g_91_115, kv_w8_0, kv_w8_1, kv_w8_2, kv_w8_3, kv_w8_4, ari_aa, ari_al, ari_la, ari_mm, ari_ml, ari_lm, ari_ltl, ari_llt, ari_lt, ari_le, ari_lel, ari_lle, ari_0, ari_eq, ari_eql, ari_leq, ari_cl, Nat.not_lt_zero, Bool.false_eq_true, Option.toList_some, Option.toList_none, List.cons_append, List.nil_append, kv_rv, kc1_i, kc1_r, kc1_n, n10, n01, n1514, n1213, n1312, if_true, if_false, not_true_eq_false, not_false_eq_true, and_self, true_and, and_true, false_and, and_false, or_true, true_or, or_false, false_or, Nat.reduceLeDiff, Nat.reduceLT, Nat.reduceEqDiff, Nat.reduceAdd, nN a1 ha8, qN a1 ha8, nN a1 hb8, qN a1 hb8, s_8 a1, s_10 a1, r_8_1 a1, (show a < 8 by omega), (show a < 2147483648 by omega), (show b < 8 by omega), (show b < 2147483648 by omega)]
        refine m_firstDiff a1 a2 ha8 hb8 na nb (fun υ v fsc hv => ?_)
        have h5 := hv.m5 hW
        by_cases c : v = -5
        · simp only [g_91_118, g_91_120, g_91_123, g_91_124, g_91_127, g_91_128, Nat.not_lt_zero, Bool.false_eq_true, Option.toList_some, Option.toList_none, List.cons_append, List.nil_append, kv_rv, kc1_i, kc1_r, kc1_n, n10, n01, n1514, n1213, n1312, if_true, if_false, not_true_eq_false, not_false_eq_true, and_self, true_and, and_true, false_and, and_false, or_true, true_or, or_false, false_or, Nat.reduceLeDiff, Nat.reduceLT, Nat.reduceEqDiff, Nat.reduceAdd, c]
          exact ⟨1, rfl, mod υ 1 fsc (Or.inl ⟨rfl, fun r hr i hi => SA_iff.mpr ⟨hte i hi, h5.mp c r hr i hi⟩⟩)⟩
        · simp only [g_91_118, g_91_120, g_91_123, g_91_124, g_91_127, g_91_128, Nat.not_lt_zero, Bool.false_eq_true, Option.toList_some, Option.toList_none, List.cons_append, List.nil_append, kv_rv, kc1_i, kc1_r, kc1_n, n10, n01, n1514, n1213, n1312, if_true, if_false, not_true_eq_false, not_false_eq_true, and_self, true_and, and_true, false_and, and_false, or_true, true_or, or_false, false_or, Nat.reduceLeDiff, Nat.reduceLT, Nat.reduceEqDiff, Nat.reduceAdd, c]
          exact ⟨0, rfl, mod υ 0 fsc (Or.inr ⟨rfl, fun q => c (h5.mpr (fun r hr i hi => (SA_iff.mp (q r hr i hi)).2))⟩)⟩
      · simp only [c_91, g_91_0, g_91_1, g_91_2, g_91_5, g_91_8, g_91_9, g_91_10, g_91_13, g_91_16, g_91_17, g_91_18, g_91_19, g_91_22, g_91_23, g_91_24, g_91_27, g_91_28, g_91_31, g_91_32, g_91_33, g_91_36, g_91_39, g_91_40, kv_w8_0, kv_w8_1, kv_w8_2, kv_w8_3, kv_w8_4, ari_aa, ari_al, ari_la, ari_mm, ari_ml, ari_lm, ari_ltl, ari_llt, ari_lt, ari_le, ari_lel, ari_lle, ari_0, ari_eq, ari_eql, ari_leq, ari_cl, Nat.not_lt_zero, Bool.false_eq_true, Option.toList_some, Option.toList_none, List.cons_append, List.nil_append, kv_rv, kc1_i, kc1_r, kc1_n, n10, n01, n1514, n1213, n1312, if_true, if_false, not_true_eq_false, not_false_eq_true, and_self, true_and, and_true, false_and, and_false, or_true, true_or, or_false, false_or, Nat.reduceLeDiff, Nat.reduceLT, Nat.reduceEqDiff, Nat.reduceAdd, m_isNet_c a1, k1, hww, na.2.2.2.1, nb.2.2.2.1, nN a1 ha8, qN a1 ha8, nN a1 hb8, qN a1 hb8, s_8 a1, s_10 a1, r_8_1 a1, (show a < 8 by omega), (show a < 2147483648 by omega), (show b < 8 by omega), (show b < 2147483648 by omega), (show a < K by omega), (show a < 2147483648 by omega), (show b < K by omega), (show b < 2147483648 by omega), (show K < 9 by omega), (show K < 2147483648 by omega), (show w < 9 by omega), (show w < 2147483648 by omega), (show w' < 9 by omega), (show w' < 2147483648 by omega)]
        refine ⟨_, rfl, ?_⟩
        simp only [c_170, g_170_0, g_170_1, g_170_2, g_170_5, g_170_8, g_170_9, g_170_10, g_170_13, g_170_16, g_170_17, g_170_18, g_170_19, g_170_22, g_170_23, g_170_24, g_170_25, g_170_28, g_170_29, g_170_30, g_170_33, g_170_34, kv_w8_0, kv_w8_1, kv_w8_2, kv_w8_3, kv_w8_4, ari_aa, ari_al, ari_la, ari_mm, ari_ml, ari_lm, ari_ltl, ari_llt, ari_lt, ari_le, ari_lel, ari_lle, ari_0, ari_eq, ari_eql, ari_leq, ari_cl, Nat.not_lt_zero, Bool.false_eq_true, Option.toList_some, Option.toList_none, List.cons_append, List.nil_append, kv_rv, kc1_i, kc1_r, kc1_n, n10, n01, n1514, n1213, n1312, if_true, if_false, not_true_eq_false, not_false_eq_true, and_self, true_and, and_true, false_and, and_false, or_true, true_or, or_false, false_or, Nat.reduceLeDiff, Nat.reduceLT, Nat.reduceEqDiff, Nat.reduceAdd, m_isNet_m a1, k2, hww, na.2.2.2.2.1, nb.2.2.2.2.1, s_149 a1, s_168 a1, r_149_27 a1, (show a < 8 by omega), (show a < 2147483648 by omega), (show b < 8 by omega), (show b < 2147483648 by omega), (show a < K by omega), (show a < 2147483648 by omega), (show b < K by omega), (show b < 2147483648 by omega), (show K < 9 by omega), (show K < 2147483648 by omega), (show w < 9 by omega), (show w < 2147483648 by omega), (show w' < 9 by omega), (show w' < 2147483648 by omega)]
        exact h
    · simp only [c_91, g_91_0, g_91_1, g_91_2, g_91_5, g_91_8, g_91_9, g_91_10, g_91_13, g_91_16, g_91_17, kv_w8_0, kv_w8_1, kv_w8_2, kv_w8_3, kv_w8_4, Nat.not_lt_zero, Bool.false_eq_true, Option.toList_some, Option.toList_none, List.cons_append, List.nil_append, kv_rv, kc1_i, kc1_r, kc1_n, n10, n01, n1514, n1213, n1312, if_true, if_false, not_true_eq_false, not_false_eq_true, and_self, true_and, and_true, false_and, and_false, or_true, true_or, or_false, false_or, Nat.reduceLeDiff, Nat.reduceLT, Nat.reduceEqDiff, Nat.reduceAdd, m_isNet_c a1, k1, hp, hq, s_8 a1]
      refine ⟨_, rfl, ?_⟩
      simp only [c_170, g_170_0, g_170_1, g_170_2, g_170_5, g_170_8, g_170_9, g_170_10, g_170_13, g_170_16, g_170_17, kv_w8_0, kv_w8_1, kv_w8_2, kv_w8_3, kv_w8_4, Nat.not_lt_zero, Bool.false_eq_true, Option.toList_some, Option.toList_none, List.cons_append, List.nil_append, kv_rv, kc1_i, kc1_r, kc1_n, n10, n01, n1514, n1213, n1312, if_true, if_false, not_true_eq_false, not_false_eq_true, and_self, true_and, and_true, false_and, and_false, or_true, true_or, or_false, false_or, Nat.reduceLeDiff, Nat.reduceLT, Nat.reduceEqDiff, Nat.reduceAdd, m_isNet_m a1, k2, hp, hq, s_149 a1]
      exact h
  · simp only [c_91, g_91_0, g_91_1, g_91_2, g_91_5, g_91_8, g_91_9, g_91_10, g_91_13, g_91_16, g_91_17, kv_w8_0, kv_w8_1, kv_w8_2, kv_w8_3, kv_w8_4, Nat.not_lt_zero, Bool.false_eq_true, Option.toList_some, Option.toList_none, List.cons_append, List.nil_append, kv_rv, kc1_i, kc1_r, kc1_n, n10, n01, n1514, n1213, n1312, if_true, if_false, not_true_eq_false, not_false_eq_true, and_self, true_and, and_true, false_and, and_false, or_true, true_or, or_false, false_or, Nat.reduceLeDiff, Nat.reduceLT, Nat.reduceEqDiff, Nat.reduceAdd, m_isNet_c a1, k1, hp, s_8 a1]
    refine ⟨_, rfl, ?_⟩
    simp only [c_170, g_170_0, g_170_1, g_170_2, g_170_5, g_170_8, g_170_9, g_170_10, g_170_13, g_170_16, g_170_17, kv_w8_0, kv_w8_1, kv_w8_2, kv_w8_3, kv_w8_4, Nat.not_lt_zero, Bool.false_eq_true, Option.toList_some, Option.toList_none, List.cons_append, List.nil_append, kv_rv, kc1_i, kc1_r, kc1_n, n10, n01, n1514, n1213, n1312, if_true, if_false, not_true_eq_false, not_false_eq_true, and_self, true_and, and_true, false_and, and_false, or_true, true_or, or_false, false_or, Nat.reduceLeDiff, Nat.reduceLT, Nat.reduceEqDiff, Nat.reduceAdd, m_isNet_m a1, k2, hp, s_149 a1]
    exact h

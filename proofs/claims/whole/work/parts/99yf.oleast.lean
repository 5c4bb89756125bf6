/-! ===== promise 11: least ===== -/
theorem pr_rows {B A : Nat → Bool} {w : Nat} (hA : ∀ r, r < 32 → A r = true → r < 2 ^ w ∧ B r = true) : ∀ r, r < 32 → A r = true → ∃ p, p < cnt (PRM B w) (3 ^ w) ∧ Rp B w p r = true := fun r hr h => by
  obtain ⟨h1, h2⟩ := hA r hr h
  obtain ⟨x, x1, x2, x3⟩ := PRM_cov h1 h2
  refine ⟨cnt (PRM B w) x, cnt_lt_of x1 x2, ?_⟩
  unfold Rp
  rw [pnm_ok x1 x2, x3, decide_eq_true h1]; rfl
theorem o_9 (d : Nat) : ob_9 JJ (d + 37) := by
  intro σ h p
  have h' := h
  obtain ⟨a1, a2, a3, ⟨F, hF, f1, f2, f3⟩, a5, a6, a7⟩ := h'
  by_cases hp : ¬ p < 0 ∧ p < Int32.ofNat F
  · obtain ⟨f, hf, rfl, ec⟩ := i32_nat (by omega) hp.1 hp.2
    obtain ⟨w, hj⟩ := f3 f hf
    have hj : JF1' σ f w := hj
    have hf16 : f < 16 := by omega
    have ew := hj.2.2.1
    have ew2 := hj.2.2.2.1
    have hw8 := hj.2.1
    by_cases hw : w ≤ 5
    · obtain ⟨S, hS⟩ := LST_ex (pr := prc (tcp (mB σ f) w)) (pr_rows (B := mB σ f) (A := gB σ f w) (w := w) (fun r _ h => by
        unfold gB at h
        rw [Bool.and_eq_true, decide_eq_true_eq, decide_eq_true_eq] at h
        exact ⟨h.1, by unfold mB; rw [h.2]; rfl⟩))
      simp only [c_52, g_52_0, g_52_1, g_52_2, g_52_5, g_52_8, g_52_9, g_52_10, g_52_11, g_52_14, g_52_15, g_52_16, g_52_19, g_52_20, g_52_23, g_52_25, g_52_26, g_52_27, g_52_30, g_52_31, g_52_34, g_52_35, g_52_36, kv_w8_0, kv_w8_1, kv_w8_2, kv_w8_3, kv_w8_4, ari_aa, ari_al, ari_la, ari_mm, ari_ml, ari_lm, ari_ltl, ari_llt, ari_lt, ari_le, ari_lel, ari_lle, ari_0, ari_eq, ari_eql, ari_leq, ari_cl, Nat.not_lt_zero, Bool.false_eq_true, Option.toList_some, Option.toList_none, List.cons_append, List.nil_append, kv_rv, kc1_i, kc1_r, kc1_n, n10, n01, n1514, n1213, n1312, if_true, if_false, not_true_eq_false, not_false_eq_true, and_self, true_and, and_true, false_and, and_false, or_true, true_or, or_false, false_or, Nat.reduceLeDiff, Nat.reduceLT, Nat.reduceEqDiff, Nat.reduceAdd, m_isFunction_c a1, f1, sT a1 hf16, rT a1 hf16, ew, hw, s_8 a1, s_9 a1, r_8_0 a1, s_11 a1, r_8_2 a1, (show f < 16 by omega), (show f < 2147483648 by omega), (show f < F by omega), (show f < 2147483648 by omega), (show F < 17 by omega), (show F < 2147483648 by omega), (show w < 6 by omega), (show w < 2147483648 by omega)]
      refine m_pworkOut a1 a2 hf16 hj (fun τ fr hpw => ?_)
      have js := fr.js a1
      have hK : JK τ := a2.fr fr (fun b k q => by omega)
      have hj2 : JF1' τ f w := hj.fr fr (fun b i q => by omega) hf16
      have eB : gB τ f w = gB σ f w := by funext r; unfold gB; rw [hld_fr fr (fun b j q => by omega)]
      have hS2 : LST (gB τ f w) (Rp (mB σ f) w) (cnt (PRM (mB σ f) w) (3 ^ w)) (prc (tcp (mB σ f) w)) S := by rw [eB]; exact hS
      simp only [g_52_39, g_52_40, g_52_43, g_52_44, g_52_47, g_52_48, g_52_49, g_52_50, g_52_53, kv_w8_0, kv_w8_1, kv_w8_2, kv_w8_3, kv_w8_4, ari_aa, ari_al, ari_la, ari_mm, ari_ml, ari_lm, ari_ltl, ari_llt, ari_lt, ari_le, ari_lel, ari_lle, ari_0, ari_eq, ari_eql, ari_leq, ari_cl, Nat.not_lt_zero, Bool.false_eq_true, Option.toList_some, Option.toList_none, List.cons_append, List.nil_append, kv_rv, kc1_i, kc1_r, kc1_n, n10, n01, n1514, n1213, n1312, if_true, if_false, not_true_eq_false, not_false_eq_true, and_self, true_and, and_true, false_and, and_false, or_true, true_or, or_false, false_or, Nat.reduceLeDiff, Nat.reduceLT, Nat.reduceEqDiff, Nat.reduceAdd, sT js hf16, rT js hf16, s_8 js, s_9 js, r_8_0 js, s_11 js, r_8_2 js, s_14 js, r_8_3 js, (show f < 16 by omega), (show f < 2147483648 by omega)]
      refine m_find js hK hf16 hj2 hw hpw hS2 (fun υ fr2 k1 k2 k3 => ?_)
      have frz : FR (fun b _ => 11 ≤ b ∧ b ≤ 21) σ υ := (fr.mono (fun b k q => by omega)).tr (fr2.mono (fun b k q => by unfold FF at q; omega))
      have js3 := frz.js a1
      have hj3 : JF1' υ f w := hj.fr frz (fun b i q => by omega) hf16
      have eB3 : gB υ f w = gB σ f w := by funext r; unfold gB; rw [hld_fr frz (fun b j q => by omega)]
      have eM3 : mB υ f = mB σ f := by funext r; unfold mB; rw [hld_fr frz (fun b j q => by omega)]
      have g1 : kv_i υ 149 1 = Int32.ofNat F := by rw [frz.i (by omega)]; exact f2
      have ew3 := hj3.2.2.2.1
      simp only [g_52_56, g_52_57, g_52_60, g_52_63, Nat.not_lt_zero, Bool.false_eq_true, Option.toList_some, Option.toList_none, List.cons_append, List.nil_append, kv_rv, kc1_i, kc1_r, kc1_n, n10, n01, n1514, n1213, n1312, if_true, if_false, not_true_eq_false, not_false_eq_true, and_self, true_and, and_true, false_and, and_false, or_true, true_or, or_false, false_or, Nat.reduceLeDiff, Nat.reduceLT, Nat.reduceEqDiff, Nat.reduceAdd, k1, s_8 js3, s_14 js3, r_8_3 js3]
      refine ⟨_, rfl, ?_⟩
      simp only [c_139, g_139_0, g_139_1, g_139_2, g_139_5, g_139_8, g_139_9, g_139_10, g_139_11, g_139_14, g_139_15, g_139_16, g_139_17, kv_w8_0, kv_w8_1, kv_w8_2, kv_w8_3, kv_w8_4, ari_aa, ari_al, ari_la, ari_mm, ari_ml, ari_lm, ari_ltl, ari_llt, ari_lt, ari_le, ari_lel, ari_lle, ari_0, ari_eq, ari_eql, ari_leq, ari_cl, Nat.not_lt_zero, Bool.false_eq_true, Option.toList_some, Option.toList_none, List.cons_append, List.nil_append, kv_rv, kc1_i, kc1_r, kc1_n, n10, n01, n1514, n1213, n1312, if_true, if_false, not_true_eq_false, not_false_eq_true, and_self, true_and, and_true, false_and, and_false, or_true, true_or, or_false, false_or, Nat.reduceLeDiff, Nat.reduceLT, Nat.reduceEqDiff, Nat.reduceAdd, m_isFunction_m js3, g1, ew3, hw, s_149 js3, s_150 js3, r_149_2 js3, (show f < 16 by omega), (show f < 2147483648 by omega), (show f < F by omega), (show f < 2147483648 by omega), (show F < 17 by omega), (show F < 2147483648 by omega), (show w < 6 by omega), (show w < 2147483648 by omega)]
      have hS3 : LST (gB υ f w) (Rp (mB υ f) w) (cnt (PRM (mB υ f) w) (3 ^ w)) (prc (tcp (mB υ f) w)) S := by rw [eB3, eM3]; exact hS
      refine m_leastM (d := d + 34) js3 (a3.fr frz (fun b k q => by omega)) hf16 hj3 hw rfl hS3 (fun χ fr4 j1 j2 j3 => ?_)
      rw [eM3] at j1 j2 j3 ⊢
      refine ⟨rfl, ?_⟩
      have fr5 : FR (fun b k => 11 ≤ b ∧ b ≤ 21 ∨ 154 ≤ b ∧ b ≤ 164 ∨ b = 149 ∧ (k = 7 ∨ 12 ≤ k ∧ k ≤ 17)) σ χ := (frz.mono (fun b k q => Or.inl q)).tr (fr4.mono (fun b k q => by unfold FY at q; omega))
      have hcl := cnt_le S (cnt (PRM (mB σ f) w) (3 ^ w))
      have h40 := PRM_40 (mB σ f) hw
      refine ⟨fr5.js a1, a2.fr fr5 (fun b k q => by omega), a3.fr fr5 (fun b k q => by omega), JF.fr fr5 (fun b k q => by unfold cF; omega) h.2.2.2.1, a5.fr fr5 (fun b k q => by unfold cN; omega), ⟨cnt S (cnt (PRM (mB σ f) w) (3 ^ w)), by omega, ?_, j1, ?_, fun k hk => ?_⟩, a7.fr fr5 (fun b k q => by unfold cH; omega)⟩
      · rw [fr4.i (by unfold FY; omega)]; exact k1
      · rw [fr4.i (by unfold FY; omega), k2, j2]
      · obtain ⟨q, q1, q2, q3⟩ := nth_ex S _ k hk
        have y1 := k3 q q1 q2
        have y2 := j3 q q1 q2
        rw [q3] at y1 y2
        rw [y2, fr4.i (by unfold FY; omega)]
        exact y1
    · simp only [c_52, g_52_0, g_52_1, g_52_2, g_52_5, g_52_8, g_52_9, g_52_10, g_52_11, g_52_14, g_52_15, g_52_16, g_52_19, g_52_20, g_52_23, g_52_25, kv_w8_0, kv_w8_1, kv_w8_2, kv_w8_3, kv_w8_4, ari_aa, ari_al, ari_la, ari_mm, ari_ml, ari_lm, ari_ltl, ari_llt, ari_lt, ari_le, ari_lel, ari_lle, ari_0, ari_eq, ari_eql, ari_leq, ari_cl, Nat.not_lt_zero, Bool.false_eq_true, Option.toList_some, Option.toList_none, List.cons_append, List.nil_append, kv_rv, kc1_i, kc1_r, kc1_n, n10, n01, n1514, n1213, n1312, if_true, if_false, not_true_eq_false, not_false_eq_true, and_self, true_and, and_true, false_and, and_false, or_true, true_or, or_false, false_or, Nat.reduceLeDiff, Nat.reduceLT, Nat.reduceEqDiff, Nat.reduceAdd, m_isFunction_c a1, f1, sT a1 hf16, rT a1 hf16, ew, hw, s_8 a1, s_9 a1, r_8_0 a1, (show f < 16 by omega), (show f < 2147483648 by omega), (show f < F by omega), (show f < 2147483648 by omega), (show F < 17 by omega), (show F < 2147483648 by omega), (show w < 9 by omega), (show w < 2147483648 by omega)]
      refine ⟨_, rfl, ?_⟩
      simp only [c_139, g_139_0, g_139_1, g_139_2, g_139_5, g_139_8, g_139_9, g_139_10, g_139_11, g_139_14, g_139_15, g_139_16, g_139_17, g_139_20, g_139_22, kv_w8_0, kv_w8_1, kv_w8_2, kv_w8_3, kv_w8_4, ari_aa, ari_al, ari_la, ari_mm, ari_ml, ari_lm, ari_ltl, ari_llt, ari_lt, ari_le, ari_lel, ari_lle, ari_0, ari_eq, ari_eql, ari_leq, ari_cl, Nat.not_lt_zero, Bool.false_eq_true, Option.toList_some, Option.toList_none, List.cons_append, List.nil_append, kv_rv, kc1_i, kc1_r, kc1_n, n10, n01, n1514, n1213, n1312, if_true, if_false, not_true_eq_false, not_false_eq_true, and_self, true_and, and_true, false_and, and_false, or_true, true_or, or_false, false_or, Nat.reduceLeDiff, Nat.reduceLT, Nat.reduceEqDiff, Nat.reduceAdd, m_isFunction_m a1, f2, ew2, hw, s_149 a1, s_150 a1, r_149_2 a1, (show f < 16 by omega), (show f < 2147483648 by omega), (show f < F by omega), (show f < 2147483648 by omega), (show F < 17 by omega), (show F < 2147483648 by omega), (show w < 9 by omega), (show w < 2147483648 by omega)]
      exact h
  · simp only [c_52, g_52_0, g_52_1, g_52_2, g_52_5, g_52_8, g_52_9, kv_w8_0, kv_w8_1, kv_w8_2, kv_w8_3, kv_w8_4, Nat.not_lt_zero, Bool.false_eq_true, Option.toList_some, Option.toList_none, List.cons_append, List.nil_append, kv_rv, kc1_i, kc1_r, kc1_n, n10, n01, n1514, n1213, n1312, if_true, if_false, not_true_eq_false, not_false_eq_true, and_self, true_and, and_true, false_and, and_false, or_true, true_or, or_false, false_or, Nat.reduceLeDiff, Nat.reduceLT, Nat.reduceEqDiff, Nat.reduceAdd, m_isFunction_c a1, f1, hp, s_8 a1]
    refine ⟨_, rfl, ?_⟩
    simp only [c_139, g_139_0, g_139_1, g_139_2, g_139_5, g_139_8, g_139_9, kv_w8_0, kv_w8_1, kv_w8_2, kv_w8_3, kv_w8_4, Nat.not_lt_zero, Bool.false_eq_true, Option.toList_some, Option.toList_none, List.cons_append, List.nil_append, kv_rv, kc1_i, kc1_r, kc1_n, n10, n01, n1514, n1213, n1312, if_true, if_false, not_true_eq_false, not_false_eq_true, and_self, true_and, and_true, false_and, and_false, or_true, true_or, or_false, false_or, Nat.reduceLeDiff, Nat.reduceLT, Nat.reduceEqDiff, Nat.reduceAdd, m_isFunction_m a1, f2, hp, s_149 a1]
    exact h

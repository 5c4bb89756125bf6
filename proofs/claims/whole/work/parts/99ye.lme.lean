/-! ===== least sums, the model: the whole of it; promise 11: least ===== -/
theorem iw_one {n : Nat} (hn : n < 32) : (1 : Int32) <<< Int32.ofNat n = iw (fun r => decide (r = n)) := iw_of (fun r hr => ib_one n hn r hr)
theorem hld_lt (σ : kv_S) (f r : Nat) : hld σ f r < 2147483648 := by
  unfold hld; split
  · have := (kv_i σ 151 (256 * f + r)).toInt_lt
    unfold Int32.toNatClampNeg; omega
  · decide
section LE
variable {d : Nat} {σ : kv_S} {Φ : Option Value → kv_S → Prop}
theorem al_loop (js : JS σ) {f w : Nat} {v4 v5 : Value} (hf : f < 16) (hF : JF1' σ f w) (hw : w ≤ 5) (H : ∀ τ, FR (fun b _ => b = 162) σ τ → Wp (d + 3) 139 79 [.ref 149, .int (Int32.ofNat f), .int (iw (gB σ f w)), .int (Int32.ofNat (2 ^ w)), v4, v5] [] τ Φ) : ∀ m row, row + m = 2 ^ w → ∀ τ, FR (fun b _ => b = 162) σ τ → Wp (d + 3) 139 37 [.ref 149, .int (Int32.ofNat f), .int (iw (fun r => decide (r < row) && gB σ f w r)), .int (Int32.ofNat row), v4, v5] [] τ Φ
  | 0, row, e, τ, fr => by
    have js2 := fr.js js
    have hF2 : JF1' τ f w := hF.fr fr (fun b i q => by omega) hf
    have h32 : 2 ^ w ≤ 32 := Nat.pow_le_pow_right (n := 2) (by decide) hw
    have e2 : row = 2 ^ w := by omega
    subst e2
    have el : iw (fun r => decide (r < 2 ^ w) && gB σ f w r) = iw (gB σ f w) := iw_eq.mpr (fun r hr => by
      by_cases c : r < 2 ^ w
      · rw [decide_eq_true c, Bool.true_and]
      · rw [decide_eq_false c, gB_big (by omega)]; rfl)
    rw [el]
    simp only [g_139_37, g_139_38, g_139_39, g_139_40, g_139_43, kv_w8_0, kv_w8_1, kv_w8_2, kv_w8_3, kv_w8_4, ari_aa, ari_al, ari_la, ari_mm, ari_ml, ari_lm, ari_ltl, ari_llt, ari_lt, ari_le, ari_lel, ari_lle, ari_0, ari_eq, ari_eql, ari_leq, ari_cl, Nat.not_lt_zero, Bool.false_eq_true, Option.toList_some, Option.toList_none, List.cons_append, List.nil_append, kv_rv, kc1_i, kc1_r, kc1_n, n10, n01, n1514, n1213, n1312, if_true, if_false, not_true_eq_false, not_false_eq_true, and_self, true_and, and_true, false_and, and_false, or_true, true_or, or_false, false_or, Nat.reduceLeDiff, Nat.reduceLT, Nat.reduceEqDiff, Nat.reduceAdd, m_rows_m js2 hf (show w ≤ 8 by omega) hF2.2.2.2.1, s_149 js2, (show 2 ^ w < 33 by omega), (show 2 ^ w < 2147483648 by omega), (show 2 ^ w ≤ 2 ^ w by omega)]
    exact H τ fr
  | m + 1, row, e, τ, fr => by
    have js2 := fr.js js
    have hF2 : JF1' τ f w := hF.fr fr (fun b i q => by omega) hf
    have h32 : 2 ^ w ≤ 32 := Nat.pow_le_pow_right (n := 2) (by decide) hw
    have eh : hld τ f row = hld σ f row := hld_fr fr (fun b j q => by omega) row
    have hl := hld_lt σ f row
    simp only [g_139_37, g_139_38, g_139_39, g_139_40, g_139_43, kv_w8_0, kv_w8_1, kv_w8_2, kv_w8_3, kv_w8_4, ari_aa, ari_al, ari_la, ari_mm, ari_ml, ari_lm, ari_ltl, ari_llt, ari_lt, ari_le, ari_lel, ari_lle, ari_0, ari_eq, ari_eql, ari_leq, ari_cl, Nat.not_lt_zero, Bool.false_eq_true, Option.toList_some, Option.toList_none, List.cons_append, List.nil_append, kv_rv, kc1_i, kc1_r, kc1_n, n10, n01, n1514, n1213, n1312, if_true, if_false, not_true_eq_false, not_false_eq_true, and_self, true_and, and_true, false_and, and_false, or_true, true_or, or_false, false_or, Nat.reduceLeDiff, Nat.reduceLT, Nat.reduceEqDiff, Nat.reduceAdd, m_rows_m js2 hf (show w ≤ 8 by omega) hF2.2.2.2.1, s_149 js2, (show row < 33 by omega), (show row < 2147483648 by omega), (show 2 ^ w < 33 by omega), (show 2 ^ w < 2147483648 by omega), (show ¬ 2 ^ w ≤ row by omega)]
    by_cases c : hld σ f row = 1
    · have el : iw (fun r => decide (r < row) && gB σ f w r) ||| iw (fun r => decide (r = row)) = iw (fun r => decide (r < row + 1) && gB σ f w r) := by
        rw [iw_or]
        refine iw_eq.mpr (fun r hr => ?_)
        by_cases z : r = row
        · rw [z]
          unfold gB
          rw [c, decide_eq_true (show row < 2 ^ w by omega)]; simp
        · by_cases y : r < row
          · rw [decide_eq_true y, decide_eq_true (show r < row + 1 by omega), decide_eq_false z]; simp
          · rw [decide_eq_false y, decide_eq_false (show ¬ r < row + 1 by omega), decide_eq_false z]; rfl
      simp only [g_139_46, g_139_47, g_139_48, g_139_49, g_139_50, g_139_53, g_139_54, g_139_57, g_139_58, g_139_59, g_139_60, g_139_63, g_139_64, g_139_65, g_139_66, g_139_67, g_139_70, g_139_71, g_139_72, g_139_73, g_139_76, kv_w8_0, kv_w8_1, kv_w8_2, kv_w8_3, kv_w8_4, ari_aa, ari_al, ari_la, ari_mm, ari_ml, ari_lm, ari_ltl, ari_llt, ari_lt, ari_le, ari_lel, ari_lle, ari_0, ari_eq, ari_eql, ari_leq, ari_cl, Nat.not_lt_zero, Bool.false_eq_true, Option.toList_some, Option.toList_none, List.cons_append, List.nil_append, kv_rv, kc1_i, kc1_r, kc1_n, n10, n01, n1514, n1213, n1312, if_true, if_false, not_true_eq_false, not_false_eq_true, and_self, true_and, and_true, false_and, and_false, or_true, true_or, or_false, false_or, Nat.reduceLeDiff, Nat.reduceLT, Nat.reduceEqDiff, Nat.reduceAdd, m_held js2 hf hF2 (show row < 2 ^ w by omega), eh, c, ari_31 (show row < 32 by omega), iw_one (show row < 32 by omega), el, s_149 js2, s_162 js2, r_149_20 js2, (show row < 32 by omega), (show row < 2147483648 by omega)]
      exact al_loop js hf hF hw H m (row + 1) (by omega) _ (fr.si rfl)
    · have el : iw (fun r => decide (r < row) && gB σ f w r) ||| 0 = iw (fun r => decide (r < row + 1) && gB σ f w r) := by
        refine iw_of (fun r hr => ?_)
        rw [ib_or, ib_0, ib_iw _ hr, Bool.or_false]
        by_cases z : r = row
        · rw [z]
          unfold gB
          rw [decide_eq_false c]; simp
        · by_cases y : r < row
          · rw [decide_eq_true y, decide_eq_true (show r < row + 1 by omega)]
          · rw [decide_eq_false y, decide_eq_false (show ¬ r < row + 1 by omega)]
      simp only [g_139_46, g_139_47, g_139_48, g_139_49, g_139_50, g_139_53, g_139_54, g_139_63, g_139_64, g_139_65, g_139_66, g_139_67, g_139_70, g_139_71, g_139_72, g_139_73, g_139_76, kv_w8_0, kv_w8_1, kv_w8_2, kv_w8_3, kv_w8_4, ari_aa, ari_al, ari_la, ari_mm, ari_ml, ari_lm, ari_ltl, ari_llt, ari_lt, ari_le, ari_lel, ari_lle, ari_0, ari_eq, ari_eql, ari_leq, ari_cl, Nat.not_lt_zero, Bool.false_eq_true, Option.toList_some, Option.toList_none, List.cons_append, List.nil_append, kv_rv, kc1_i, kc1_r, kc1_n, n10, n01, n1514, n1213, n1312, if_true, if_false, not_true_eq_false, not_false_eq_true, and_self, true_and, and_true, false_and, and_false, or_true, true_or, or_false, false_or, Nat.reduceLeDiff, Nat.reduceLT, Nat.reduceEqDiff, Nat.reduceAdd, m_held js2 hf hF2 (show row < 2 ^ w by omega), eh, c, el, s_149 js2, s_162 js2, r_149_20 js2, (show row < 32 by omega), (show row < 2147483648 by omega), (show hld σ f row < 2147483648 by omega)]
      exact al_loop js hf hF hw H m (row + 1) (by omega) _ (fr.si rfl)
theorem co_in (js : JS σ) (h3 : J3 σ) {f w k x : Nat} {A : Nat → Bool} {v5 : Value} (hf : f < 16) (hw : w ≤ 5) (hk : k < 40) (hx : x < 243) (ew : kv_i σ 150 f = Int32.ofNat w) (hx2 : kv_i σ 155 k = Int32.ofNat x) (H : ∀ τ, FR (fun b i => b = 161 ∧ i = k ∨ b = 162) σ τ → kv_i τ 161 k = iw (fun r => decide (r < 2 ^ w) && (A r && hol w x r)) → ∀ v4 : Value, Wp (d + 3) 139 172 [.ref 149, .int (Int32.ofNat f), .int (iw A), .int (Int32.ofNat k), v4, v5] [] τ Φ) : ∀ m row, row + m = 2 ^ w → ∀ τ, FR (fun b i => b = 161 ∧ i = k ∨ b = 162) σ τ → kv_i τ 161 k = iw (fun r => decide (r < row) && (A r && hol w x r)) → Wp (d + 3) 139 99 [.ref 149, .int (Int32.ofNat f), .int (iw A), .int (Int32.ofNat k), .int (Int32.ofNat row), v5] [] τ Φ
  | 0, row, e, τ, fr, hI => by
    have js2 := fr.js js
    have h32 : 2 ^ w ≤ 32 := Nat.pow_le_pow_right (n := 2) (by decide) hw
    have ew2 : kv_i τ 150 f = Int32.ofNat w := by rw [fr.i (by omega)]; exact ew
    have e2 : row = 2 ^ w := by omega
    subst e2
    simp only [g_139_99, g_139_101, g_139_102, g_139_103, g_139_106, kv_w8_0, kv_w8_1, kv_w8_2, kv_w8_3, kv_w8_4, ari_aa, ari_al, ari_la, ari_mm, ari_ml, ari_lm, ari_ltl, ari_llt, ari_lt, ari_le, ari_lel, ari_lle, ari_0, ari_eq, ari_eql, ari_leq, ari_cl, Nat.not_lt_zero, Bool.false_eq_true, Option.toList_some, Option.toList_none, List.cons_append, List.nil_append, kv_rv, kc1_i, kc1_r, kc1_n, n10, n01, n1514, n1213, n1312, if_true, if_false, not_true_eq_false, not_false_eq_true, and_self, true_and, and_true, false_and, and_false, or_true, true_or, or_false, false_or, Nat.reduceLeDiff, Nat.reduceLT, Nat.reduceEqDiff, Nat.reduceAdd, m_rows_m js2 hf (show w ≤ 8 by omega) ew2, s_149 js2, (show 2 ^ w < 33 by omega), (show 2 ^ w < 2147483648 by omega), (show 2 ^ w ≤ 2 ^ w by omega)]
    exact H τ fr hI _
  | m + 1, row, e, τ, fr, hI => by
    have js2 := fr.js js
    have h32 : 2 ^ w ≤ 32 := Nat.pow_le_pow_right (n := 2) (by decide) hw
    have ew2 : kv_i τ 150 f = Int32.ofNat w := by rw [fr.i (by omega)]; exact ew
    have ex2 : kv_i τ 155 k = Int32.ofNat x := by rw [fr.i (by omega)]; exact hx2
    have h32' : J3 τ := h3.fr fr (fun b k q => by omega)
    simp only [g_139_99, g_139_101, g_139_102, g_139_103, g_139_106, kv_w8_0, kv_w8_1, kv_w8_2, kv_w8_3, kv_w8_4, ari_aa, ari_al, ari_la, ari_mm, ari_ml, ari_lm, ari_ltl, ari_llt, ari_lt, ari_le, ari_lel, ari_lle, ari_0, ari_eq, ari_eql, ari_leq, ari_cl, Nat.not_lt_zero, Bool.false_eq_true, Option.toList_some, Option.toList_none, List.cons_append, List.nil_append, kv_rv, kc1_i, kc1_r, kc1_n, n10, n01, n1514, n1213, n1312, if_true, if_false, not_true_eq_false, not_false_eq_true, and_self, true_and, and_true, false_and, and_false, or_true, true_or, or_false, false_or, Nat.reduceLeDiff, Nat.reduceLT, Nat.reduceEqDiff, Nat.reduceAdd, m_rows_m js2 hf (show w ≤ 8 by omega) ew2, s_149 js2, (show row < 33 by omega), (show row < 2147483648 by omega), (show 2 ^ w < 33 by omega), (show 2 ^ w < 2147483648 by omega), (show ¬ 2 ^ w ≤ row by omega)]
    have skip : (A row && hol w x row) = false → Wp (d + 3) 139 166 [.ref 149, .int (Int32.ofNat f), .int (iw A), .int (Int32.ofNat k), .int (Int32.ofNat row), v5] [] τ Φ := fun h0 => by
      simp only [g_139_166, g_139_169, ari_aa, ari_al, ari_la, ari_mm, ari_ml, ari_lm, ari_ltl, ari_llt, ari_lt, ari_le, ari_lel, ari_lle, ari_0, ari_eq, ari_eql, ari_leq, ari_cl, Nat.not_lt_zero, Bool.false_eq_true, Option.toList_some, Option.toList_none, List.cons_append, List.nil_append, kv_rv, kc1_i, kc1_r, kc1_n, n10, n01, n1514, n1213, n1312, if_true, if_false, not_true_eq_false, not_false_eq_true, and_self, true_and, and_true, false_and, and_false, or_true, true_or, or_false, false_or, Nat.reduceLeDiff, Nat.reduceLT, Nat.reduceEqDiff, Nat.reduceAdd]
      refine co_in js h3 hf hw hk hx ew hx2 H m (row + 1) (by omega) τ fr ?_
      rw [hI]
      refine iw_eq.mpr (fun r hr => ?_)
      by_cases z : r = row
      · rw [z, h0, Bool.and_false, Bool.and_false]
      · by_cases y : r < row
        · rw [decide_eq_true y, decide_eq_true (show r < row + 1 by omega)]
        · rw [decide_eq_false y, decide_eq_false (show ¬ r < row + 1 by omega)]
    cases cA : A row with
    | false =>
      simp only [g_139_109, g_139_110, g_139_112, g_139_113, g_139_114, g_139_115, ari_aa, ari_al, ari_la, ari_mm, ari_ml, ari_lm, ari_ltl, ari_llt, ari_lt, ari_le, ari_lel, ari_lle, ari_0, ari_eq, ari_eql, ari_leq, ari_cl, Nat.not_lt_zero, Bool.false_eq_true, Option.toList_some, Option.toList_none, List.cons_append, List.nil_append, kv_rv, kc1_i, kc1_r, kc1_n, n10, n01, n1514, n1213, n1312, if_true, if_false, not_true_eq_false, not_false_eq_true, and_self, true_and, and_true, false_and, and_false, or_true, true_or, or_false, false_or, Nat.reduceLeDiff, Nat.reduceLT, Nat.reduceEqDiff, Nat.reduceAdd, ari_31 (show row < 32 by omega), iw_bit A (show row < 32 by omega), cA, bI_f]
      exact skip (by rw [cA]; rfl)
    | true =>
      cases cH : hol w x row with
      | false =>
        simp only [g_139_109, g_139_110, g_139_112, g_139_113, g_139_114, g_139_115, g_139_118, g_139_119, g_139_120, g_139_123, g_139_124, g_139_125, g_139_126, g_139_129, g_139_130, g_139_131, g_139_133, g_139_136, g_139_139, kv_w8_0, kv_w8_1, kv_w8_2, kv_w8_3, kv_w8_4, ari_aa, ari_al, ari_la, ari_mm, ari_ml, ari_lm, ari_ltl, ari_llt, ari_lt, ari_le, ari_lel, ari_lle, ari_0, ari_eq, ari_eql, ari_leq, ari_cl, Nat.not_lt_zero, Bool.false_eq_true, Option.toList_some, Option.toList_none, List.cons_append, List.nil_append, kv_rv, kc1_i, kc1_r, kc1_n, n10, n01, n1514, n1213, n1312, if_true, if_false, not_true_eq_false, not_false_eq_true, and_self, true_and, and_true, false_and, and_false, or_true, true_or, or_false, false_or, Nat.reduceLeDiff, Nat.reduceLT, Nat.reduceEqDiff, Nat.reduceAdd, ari_31 (show row < 32 by omega), iw_bit A (show row < 32 by omega), cA, bI_t, ex2, ew2, m_holds js2 h32' (show x < 6561 by omega) (show w ≤ 6 by omega) (show row < 64 by omega), cH, bI_f, s_149 js2, s_150 js2, r_149_2 js2, s_155 js2, r_149_8 js2, (show k < 6561 by omega), (show k < 2147483648 by omega), (show f < 16 by omega), (show f < 2147483648 by omega)]
        exact skip (by rw [cH, Bool.and_false])
      | true =>
        have el : iw (fun r => decide (r < row) && (A r && hol w x r)) ||| iw (fun r => decide (r = row)) = iw (fun r => decide (r < row + 1) && (A r && hol w x r)) := by
          rw [iw_or]
          refine iw_eq.mpr (fun r hr => ?_)
          by_cases z : r = row
          · rw [z, cA, cH, decide_eq_true (show row < row + 1 by omega)]; simp
          · by_cases y : r < row
            · rw [decide_eq_true y, decide_eq_true (show r < row + 1 by omega), decide_eq_false z]; simp
            · rw [decide_eq_false y, decide_eq_false (show ¬ r < row + 1 by omega), decide_eq_false z]; rfl
        simp only [g_139_109, g_139_110, g_139_112, g_139_113, g_139_114, g_139_115, g_139_118, g_139_119, g_139_120, g_139_123, g_139_124, g_139_125, g_139_126, g_139_129, g_139_130, g_139_131, g_139_133, g_139_136, g_139_139, g_139_142, g_139_143, g_139_146, g_139_147, g_139_148, g_139_149, g_139_150, g_139_152, g_139_153, g_139_154, g_139_155, g_139_156, g_139_159, g_139_161, g_139_162, g_139_163, g_139_164, g_139_165, g_139_166, g_139_169, kv_w8_0, kv_w8_1, kv_w8_2, kv_w8_3, kv_w8_4, ari_aa, ari_al, ari_la, ari_mm, ari_ml, ari_lm, ari_ltl, ari_llt, ari_lt, ari_le, ari_lel, ari_lle, ari_0, ari_eq, ari_eql, ari_leq, ari_cl, Nat.not_lt_zero, Bool.false_eq_true, Option.toList_some, Option.toList_none, List.cons_append, List.nil_append, kv_rv, kc1_i, kc1_r, kc1_n, n10, n01, n1514, n1213, n1312, if_true, if_false, not_true_eq_false, not_false_eq_true, and_self, true_and, and_true, false_and, and_false, or_true, true_or, or_false, false_or, Nat.reduceLeDiff, Nat.reduceLT, Nat.reduceEqDiff, Nat.reduceAdd, ari_31 (show row < 32 by omega), iw_bit A (show row < 32 by omega), cA, bI_t, ex2, ew2, m_holds js2 h32' (show x < 6561 by omega) (show w ≤ 6 by omega) (show row < 64 by omega), cH, hI, iw_one (show row < 32 by omega), el, sh_si, r_si, s_149 js2, s_150 js2, r_149_2 js2, s_155 js2, r_149_8 js2, s_161 js2, r_149_19 js2, s_162 js2, r_149_20 js2, (show k < 6561 by omega), (show k < 2147483648 by omega), (show k < 243 by omega), (show k < 2147483648 by omega), (show f < 16 by omega), (show f < 2147483648 by omega), (show row < 32 by omega), (show row < 2147483648 by omega)]
        refine co_in js h3 hf hw hk hx ew hx2 H m (row + 1) (by omega) _ ((fr.si (Or.inl ⟨rfl, rfl⟩)).si (Or.inr rfl)) ?_
        rw [i_si, if_neg (by omega), i_si, if_pos ⟨rfl, rfl⟩]
theorem co_loop (js : JS σ) (h3 : J3 σ) {f w P : Nat} {A : Nat → Bool} {pn : Nat → Nat} (hf : f < 16) (hw : w ≤ 5) (hP : P ≤ 40) (hpn : ∀ p, p < P → kv_i σ 155 p = Int32.ofNat (pn p) ∧ pn p < 243) (ew : kv_i σ 150 f = Int32.ofNat w) (h7 : kv_i σ 149 7 = Int32.ofNat P) (H : ∀ τ, FR (fun b _ => b = 161 ∨ b = 162) σ τ → (∀ p, p < P → kv_i τ 161 p = iw (fun r => decide (r < 2 ^ w) && (A r && hol w (pn p) r))) → ∀ v4 v5 : Value, Wp (d + 3) 139 178 [.ref 149, .int (Int32.ofNat f), .int (iw A), .int (Int32.ofNat P), v4, v5] [] τ Φ) : ∀ m k, k + m = P → ∀ τ, FR (fun b _ => b = 161 ∨ b = 162) σ τ → (∀ p, p < k → kv_i τ 161 p = iw (fun r => decide (r < 2 ^ w) && (A r && hol w (pn p) r))) → ∀ v4 v5 : Value, Wp (d + 3) 139 81 [.ref 149, .int (Int32.ofNat f), .int (iw A), .int (Int32.ofNat k), v4, v5] [] τ Φ
  | 0, k, e, τ, fr, hI, v4, v5 => by
    have js2 := fr.js js
    have h72 : kv_i τ 149 7 = Int32.ofNat P := by rw [fr.i (by omega)]; exact h7
    have e2 : k = P := by omega
    subst e2
    simp only [g_139_81, g_139_82, g_139_83, g_139_86, ari_aa, ari_al, ari_la, ari_mm, ari_ml, ari_lm, ari_ltl, ari_llt, ari_lt, ari_le, ari_lel, ari_lle, ari_0, ari_eq, ari_eql, ari_leq, ari_cl, Nat.not_lt_zero, Bool.false_eq_true, Option.toList_some, Option.toList_none, List.cons_append, List.nil_append, kv_rv, kc1_i, kc1_r, kc1_n, n10, n01, n1514, n1213, n1312, if_true, if_false, not_true_eq_false, not_false_eq_true, and_self, true_and, and_true, false_and, and_false, or_true, true_or, or_false, false_or, Nat.reduceLeDiff, Nat.reduceLT, Nat.reduceEqDiff, Nat.reduceAdd, h72, s_149 js2, (show k < 41 by omega), (show k < 2147483648 by omega), (show k ≤ k by omega)]
    exact H τ fr hI _ _
  | m + 1, k, e, τ, fr, hI, v4, v5 => by
    have js2 := fr.js js
    have h72 : kv_i τ 149 7 = Int32.ofNat P := by rw [fr.i (by omega)]; exact h7
    simp only [g_139_81, g_139_82, g_139_83, g_139_86, ari_aa, ari_al, ari_la, ari_mm, ari_ml, ari_lm, ari_ltl, ari_llt, ari_lt, ari_le, ari_lel, ari_lle, ari_0, ari_eq, ari_eql, ari_leq, ari_cl, Nat.not_lt_zero, Bool.false_eq_true, Option.toList_some, Option.toList_none, List.cons_append, List.nil_append, kv_rv, kc1_i, kc1_r, kc1_n, n10, n01, n1514, n1213, n1312, if_true, if_false, not_true_eq_false, not_false_eq_true, and_self, true_and, and_true, false_and, and_false, or_true, true_or, or_false, false_or, Nat.reduceLeDiff, Nat.reduceLT, Nat.reduceEqDiff, Nat.reduceAdd, h72, s_149 js2, (show k < 41 by omega), (show k < 2147483648 by omega), (show P < 41 by omega), (show P < 2147483648 by omega), (show ¬ P ≤ k by omega)]
    simp only [g_139_89, g_139_90, g_139_93, g_139_94, g_139_95, g_139_96, g_139_97, ari_aa, ari_al, ari_la, ari_mm, ari_ml, ari_lm, ari_ltl, ari_llt, ari_lt, ari_le, ari_lel, ari_lle, ari_0, ari_eq, ari_eql, ari_leq, ari_cl, Nat.not_lt_zero, Bool.false_eq_true, Option.toList_some, Option.toList_none, List.cons_append, List.nil_append, kv_rv, kc1_i, kc1_r, kc1_n, n10, n01, n1514, n1213, n1312, if_true, if_false, not_true_eq_false, not_false_eq_true, and_self, true_and, and_true, false_and, and_false, or_true, true_or, or_false, false_or, Nat.reduceLeDiff, Nat.reduceLT, Nat.reduceEqDiff, Nat.reduceAdd, s_149 js2, s_161 js2, r_149_19 js2, (show k < 243 by omega), (show k < 2147483648 by omega)]
    have fr1 : FR (fun b _ => b = 161 ∨ b = 162) σ (kv_si τ 161 k 0) := fr.si (Or.inl rfl)
    refine co_in (x := pn k) (fr1.js js) (h3.fr fr1 (fun b k q => by omega)) hf hw (show k < 40 by omega) (hpn k (by omega)).2 (by rw [fr1.i (by omega)]; exact ew) (by rw [fr1.i (by omega)]; exact (hpn k (by omega)).1) (fun υ fr2 h2 v4 => ?_) (2 ^ w) 0 (by omega) _ (FR.rf _ _) (by
      rw [i_si, if_pos ⟨rfl, rfl⟩]
      exact (iw_0.mpr (fun r _ => by simp)).symm)
    simp only [g_139_172, g_139_175, ari_aa, ari_al, ari_la, ari_mm, ari_ml, ari_lm, ari_ltl, ari_llt, ari_lt, ari_le, ari_lel, ari_lle, ari_0, ari_eq, ari_eql, ari_leq, ari_cl, Nat.not_lt_zero, Bool.false_eq_true, Option.toList_some, Option.toList_none, List.cons_append, List.nil_append, kv_rv, kc1_i, kc1_r, kc1_n, n10, n01, n1514, n1213, n1312, if_true, if_false, not_true_eq_false, not_false_eq_true, and_self, true_and, and_true, false_and, and_false, or_true, true_or, or_false, false_or, Nat.reduceLeDiff, Nat.reduceLT, Nat.reduceEqDiff, Nat.reduceAdd]
    refine co_loop js h3 hf hw hP hpn ew h7 H m (k + 1) (by omega) υ (fr1.tr (fr2.mono (fun b k q => by omega))) (fun p hp => ?_) _ _
    by_cases z : p = k
    · rw [z]; exact h2
    · rw [fr2.i (by omega), i_si, if_neg (by omega)]; exact hI p (by omega)
theorem su_loop (js : JS σ) {f al dp : Int32} {n : Nat} {v5 : Value} (hn : n ≤ 40) (h12 : kv_i σ 149 12 = Int32.ofNat n) (H : ∀ τ, FR (fun b _ => b = 159) σ τ → (∀ i, i < n → kv_i τ 159 i = kv_i σ 160 i) → Φ (some (.int (Int32.ofNat n))) τ) : ∀ m k, k + m = n → ∀ τ, FR (fun b _ => b = 159) σ τ → (∀ i, i < k → kv_i τ 159 i = kv_i σ 160 i) → Wp d 139 425 [.ref 149, .int f, .int al, .int dp, .int (Int32.ofNat k), v5] [] τ Φ
  | 0, k, e, τ, fr, hI => by
    have js2 := fr.js js
    have h : kv_i τ 149 12 = Int32.ofNat n := by rw [fr.i (by omega)]; exact h12
    have e2 : k = n := by omega
    subst e2
    simp only [g_139_425, g_139_427, g_139_428, g_139_431, g_139_454, g_139_455, g_139_458, ari_aa, ari_al, ari_la, ari_mm, ari_ml, ari_lm, ari_ltl, ari_llt, ari_lt, ari_le, ari_lel, ari_lle, ari_0, ari_eq, ari_eql, ari_leq, ari_cl, Nat.not_lt_zero, Bool.false_eq_true, Option.toList_some, Option.toList_none, List.cons_append, List.nil_append, kv_rv, kc1_i, kc1_r, kc1_n, n10, n01, n1514, n1213, n1312, if_true, if_false, not_true_eq_false, not_false_eq_true, and_self, true_and, and_true, false_and, and_false, or_true, true_or, or_false, false_or, Nat.reduceLeDiff, Nat.reduceLT, Nat.reduceEqDiff, Nat.reduceAdd, h, s_149 js2, (show k < 41 by omega), (show k < 2147483648 by omega), (show k ≤ k by omega)]
    exact H τ fr hI
  | m + 1, k, e, τ, fr, hI => by
    have js2 := fr.js js
    have h : kv_i τ 149 12 = Int32.ofNat n := by rw [fr.i (by omega)]; exact h12
    simp only [g_139_425, g_139_427, g_139_428, g_139_431, ari_aa, ari_al, ari_la, ari_mm, ari_ml, ari_lm, ari_ltl, ari_llt, ari_lt, ari_le, ari_lel, ari_lle, ari_0, ari_eq, ari_eql, ari_leq, ari_cl, Nat.not_lt_zero, Bool.false_eq_true, Option.toList_some, Option.toList_none, List.cons_append, List.nil_append, kv_rv, kc1_i, kc1_r, kc1_n, n10, n01, n1514, n1213, n1312, if_true, if_false, not_true_eq_false, not_false_eq_true, and_self, true_and, and_true, false_and, and_false, or_true, true_or, or_false, false_or, Nat.reduceLeDiff, Nat.reduceLT, Nat.reduceEqDiff, Nat.reduceAdd, h, s_149 js2, (show k < 41 by omega), (show k < 2147483648 by omega), (show n < 41 by omega), (show n < 2147483648 by omega), (show ¬ n ≤ k by omega)]
    simp only [g_139_434, g_139_435, g_139_438, g_139_440, g_139_441, g_139_444, g_139_446, g_139_447, g_139_448, g_139_451, ari_aa, ari_al, ari_la, ari_mm, ari_ml, ari_lm, ari_ltl, ari_llt, ari_lt, ari_le, ari_lel, ari_lle, ari_0, ari_eq, ari_eql, ari_leq, ari_cl, Nat.not_lt_zero, Bool.false_eq_true, Option.toList_some, Option.toList_none, List.cons_append, List.nil_append, kv_rv, kc1_i, kc1_r, kc1_n, n10, n01, n1514, n1213, n1312, if_true, if_false, not_true_eq_false, not_false_eq_true, and_self, true_and, and_true, false_and, and_false, or_true, true_or, or_false, false_or, Nat.reduceLeDiff, Nat.reduceLT, Nat.reduceEqDiff, Nat.reduceAdd, s_149 js2, s_159 js2, r_149_13 js2, s_160 js2, r_149_18 js2, (show k < 40 by omega), (show k < 2147483648 by omega)]
    refine su_loop js hn h12 H m (k + 1) (by omega) _ (fr.si rfl) (fun i hi => ?_)
    rw [i_si]
    by_cases c : i = k
    · rw [if_pos ⟨rfl, c⟩, c, fr.i (by omega)]
    · rw [if_neg (fun q => c q.2)]; exact hI i (by omega)
/-- the cells that least writes -/
def FY (b k : Nat) : Prop := 154 ≤ b ∧ b ≤ 164 ∨ b = 149 ∧ (k = 7 ∨ 12 ≤ k ∧ k ≤ 17)
theorem m_leastM (js : JS σ) (h3 : J3 σ) {f w P : Nat} {S : Nat → Bool} {v2 v3 v4 v5 : Value} (hf : f < 16) (hF : JF1' σ f w) (hw : w ≤ 5) (hP : P = cnt (PRM (mB σ f) w) (3 ^ w)) (hS : LST (gB σ f w) (Rp (mB σ f) w) P (prc (tcp (mB σ f) w)) S) (H : ∀ υ, FR FY σ υ → kv_i υ 149 12 = Int32.ofNat (cnt S P) → kv_i υ 149 14 = Int32.ofNat (PRs (tcp (mB σ f) w) P S) → (∀ q, q < P → S q = true → kv_i υ 159 (cnt S q) = Int32.ofNat (pnm (mB σ f) w q)) → Φ (some (.int (Int32.ofNat (cnt S P)))) υ) : Wp (d + 3) 139 23 [.ref 149, .int (Int32.ofNat f), v2, v3, v4, v5] [] σ Φ := by
  have hP4 : P ≤ 40 := by rw [hP]; exact PRM_40 _ hw
  have h243 : 3 ^ w ≤ 243 := Nat.pow_le_pow_right (n := 3) (by decide) hw
  have h32 : 2 ^ w ≤ 32 := Nat.pow_le_pow_right (n := 2) (by decide) hw
  have htc : ∀ p, p < P → tcp (mB σ f) w p ≤ 5 := fun p _ => tcp_le _ hw p
  have hmon : ∀ p q, p < q → q < P → pnm (mB σ f) w p < pnm (mB σ f) w q := fun p q h1 h2 => pnm_mon h1 (by omega)
  simp only [g_139_23, g_139_24, g_139_25, kv_w8_0, kv_w8_1, kv_w8_2, kv_w8_3, kv_w8_4, Nat.not_lt_zero, Bool.false_eq_true, Option.toList_some, Option.toList_none, List.cons_append, List.nil_append, kv_rv, kc1_i, kc1_r, kc1_n, n10, n01, n1514, n1213, n1312, if_true, if_false, not_true_eq_false, not_false_eq_true, and_self, true_and, and_true, false_and, and_false, or_true, true_or, or_false, false_or, Nat.reduceLeDiff, Nat.reduceLT, Nat.reduceEqDiff, Nat.reduceAdd, s_149 js]
  refine m_findPrimes js h3 hf hF (fun τ hm => ?_)
  obtain ⟨fr, e7, e8⟩ := hm
  rw [← hP] at e7
  have fr0 : FR FY σ τ := fr.mono (fun b k q => by unfold FY; omega)
  have js2 := fr.js js
  have hpn : ∀ p, p < P → kv_i τ 155 p = Int32.ofNat (pnm (mB σ f) w p) ∧ pnm (mB σ f) w p < 243 := fun p hp => by
    obtain ⟨q1, q2, q3⟩ := pnm_sp (B := mB σ f) (w := w) (k := p) (by omega)
    have := e8 _ q1 q2
    rw [q3] at this
    exact ⟨this, by omega⟩
  have fr1 : FR FY σ (kv_si τ 149 15 0) := fr0.si (Or.inr ⟨rfl, by omega⟩)
  have js3 := fr1.js js
  have hF3 : JF1' (kv_si τ 149 15 0) f w := hF.fr fr1 (fun b k q => by unfold FY at q; omega) hf
  have eB : gB (kv_si τ 149 15 0) f w = gB σ f w := by funext r; unfold gB; rw [hld_fr fr1 (fun b j q => by unfold FY at q; omega)]
  simp only [g_139_28, g_139_29, g_139_30, g_139_33, g_139_34, g_139_35, g_139_36, Nat.not_lt_zero, Bool.false_eq_true, Option.toList_some, Option.toList_none, List.cons_append, List.nil_append, kv_rv, kc1_i, kc1_r, kc1_n, n10, n01, n1514, n1213, n1312, if_true, if_false, not_true_eq_false, not_false_eq_true, and_self, true_and, and_true, false_and, and_false, or_true, true_or, or_false, false_or, Nat.reduceLeDiff, Nat.reduceLT, Nat.reduceEqDiff, Nat.reduceAdd, s_149 js2]
  have a0 : iw (fun r => decide (r < 0) && gB (kv_si τ 149 15 0) f w r) = 0 := iw_0.mpr (fun r _ => by simp)
  have l := al_loop (d := d) (Φ := Φ) (v4 := v4) (v5 := v5) js3 hf hF3 hw (fun υ fr2 => ?_) (2 ^ w) 0 (by omega) _ (FR.rf _ _)
  · rw [a0] at l
    exact l
  · rw [eB]
    have fr3 : FR FY σ υ := fr1.tr (fr2.mono (fun b k q => Or.inl (by omega)))
    have js4 := fr3.js js
    have hpn4 : ∀ p, p < P → kv_i υ 155 p = Int32.ofNat (pnm (mB σ f) w p) ∧ pnm (mB σ f) w p < 243 := fun p hp => by
      rw [fr2.i (by omega), i_si, if_neg (by omega)]; exact hpn p hp
    have hF4 : JF1' υ f w := hF.fr fr3 (fun b k q => by unfold FY at q; omega) hf
    have e74 : kv_i υ 149 7 = Int32.ofNat P := by rw [fr2.i (by omega), i_si, if_neg (by omega)]; exact e7
    have e154 : kv_i υ 149 15 = 0 := by rw [fr2.i (by omega), i_si, if_pos ⟨rfl, rfl⟩]
    simp only [g_139_79, g_139_80, Nat.not_lt_zero, Bool.false_eq_true, Option.toList_some, Option.toList_none, List.cons_append, List.nil_append, kv_rv, kc1_i, kc1_r, kc1_n, n10, n01, n1514, n1213, n1312, if_true, if_false, not_true_eq_false, not_false_eq_true, and_self, true_and, and_true, false_and, and_false, or_true, true_or, or_false, false_or, Nat.reduceLeDiff, Nat.reduceLT, Nat.reduceEqDiff, Nat.reduceAdd]
    refine co_loop js4 (h3.fr fr3 (fun b k q => by unfold FY at q; omega)) hf hw hP4 hpn4 hF4.2.2.2.1 e74 (fun ω fr4 hcv v4 v5 => ?_) P 0 (by omega) υ (FR.rf _ υ) (fun p hp => absurd hp (by omega)) _ _
    have fr5 : FR FY σ ω := fr3.tr (fr4.mono (fun b k q => Or.inl (by omega)))
    have js5 := fr5.js js
    have h35 : J3 ω := h3.fr fr5 (fun b k q => by unfold FY at q; omega)
    have hV : MV (gB σ f w) (Rp (mB σ f) w) P (pnm (mB σ f) w) f w ω := by
      refine ⟨by rw [fr4.i (by omega)]; exact e74, fun p hp => ?_, fun p hp => ?_, by rw [fr4.i (by omega)]; exact hF4.2.2.2.1⟩
      · rw [fr4.i (by omega)]; exact hpn4 p hp
      · rw [hcv p hp]
        refine iw_eq.mpr (fun r _ => ?_)
        unfold Rp
        cases decide (r < 2 ^ w) <;> cases gB σ f w r <;> cases hol w (pnm (mB σ f) w p) r <;> rfl
    have hM : MS (gB σ f w) (Rp (mB σ f) w) P (fun p => tcf w (pnm (mB σ f) w p)) (pnm (mB σ f) w) 1152921504606846976 ω := Or.inl ⟨rfl, by rw [fr4.i (by omega)]; exact e154⟩
    have hSle := PRs_le (S := S) (pr := prc (tcp (mB σ f) w)) (c := 2251799813685248) (P := P) (fun p hp => prc_le (htc p hp))
    have tail : ∀ χ bp, FR FY σ χ → MS (gB σ f w) (Rp (mB σ f) w) P (fun p => tcf w (pnm (mB σ f) w p)) (pnm (mB σ f) w) bp χ → bp ≤ PRs (prc (tcp (mB σ f) w)) P S → ∀ (al dp : Int32) (v4 v5 : Value), Wp (d + 3) 139 406 [.ref 149, .int (Int32.ofNat f), .int al, .int dp, v4, v5] [] χ Φ := fun χ bp frx hMx hbx al dp v4 v5 => by
      have jsx := frx.js js
      rcases hMx with ⟨z1, z2⟩ | ⟨bs, hb, hbq⟩
      · omega
      · obtain ⟨b1, b2, b3, b4, b5⟩ := hb
        have hmin := hS.2 bs b5
        have hbq : bp = PRs (prc (tcp (mB σ f) w)) P bs := hbq
        have hsame := PRs_inj (S := bs) (T := S) hP4 htc (by omega)
        have c1 : cnt bs P = cnt S P := cnt_congr P hsame
        have c2 : PRs (tcp (mB σ f) w) P bs = PRs (tcp (mB σ f) w) P S := PRs_congr hsame
        have b3 : kv_i χ 149 17 = Int32.ofNat (PRs (tcp (mB σ f) w) P bs) := b3
        rw [c1] at b2
        rw [c2] at b3
        have hcl := cnt_le S P
        have u17 : kv_i (kv_si χ 149 12 (Int32.ofNat (cnt S P))) 149 17 = Int32.ofNat (PRs (tcp (mB σ f) w) P S) := by rw [i_si, if_neg (by omega)]; exact b3
        simp only [g_139_406, g_139_407, g_139_408, g_139_411, g_139_414, g_139_415, g_139_416, g_139_419, g_139_422, g_139_423, Nat.not_lt_zero, Bool.false_eq_true, Option.toList_some, Option.toList_none, List.cons_append, List.nil_append, kv_rv, kc1_i, kc1_r, kc1_n, n10, n01, n1514, n1213, n1312, if_true, if_false, not_true_eq_false, not_false_eq_true, and_self, true_and, and_true, false_and, and_false, or_true, true_or, or_false, false_or, Nat.reduceLeDiff, Nat.reduceLT, Nat.reduceEqDiff, Nat.reduceAdd, sh_si, b2, u17, s_149 jsx]
        obtain ⟨χ1, ex⟩ : ∃ χ1, χ1 = kv_si (kv_si χ 149 12 (Int32.ofNat (cnt S P))) 149 14 (Int32.ofNat (PRs (tcp (mB σ f) w) P S)) := ⟨_, rfl⟩
        rw [← ex]
        have fry : FR FY σ χ1 := by rw [ex]; exact (frx.si (Or.inr ⟨rfl, by omega⟩)).si (Or.inr ⟨rfl, by omega⟩)
        have x12 : kv_i χ1 149 12 = Int32.ofNat (cnt S P) := by rw [ex, i_si, if_neg (by omega), i_si, if_pos ⟨rfl, rfl⟩]
        have x14 : kv_i χ1 149 14 = Int32.ofNat (PRs (tcp (mB σ f) w) P S) := by rw [ex, i_si, if_pos ⟨rfl, rfl⟩]
        have x160 : ∀ i, kv_i χ1 160 i = kv_i χ 160 i := fun i => by rw [ex, i_si, if_neg (by omega), i_si, if_neg (by omega)]
        refine su_loop (fry.js js) (show cnt S P ≤ 40 by omega) x12 (fun ψ frz hcp => H ψ (fry.tr (frz.mono (fun b k q => Or.inl (by omega)))) ?_ ?_ (fun q hq hSq => ?_)) (cnt S P) 0 (by omega) _ (FR.rf _ _) (fun i hi => absurd hi (by omega))
        · rw [frz.i (by omega)]; exact x12
        · rw [frz.i (by omega)]; exact x14
        · rw [hcp _ (cnt_lt_of hq hSq), x160]
          have := b4 q hq (by rw [hsame q hq]; exact hSq)
          rw [cnt_congr q (fun r hr => hsame r (by omega))] at this
          exact this
    simp only [g_139_178, g_139_179, Nat.not_lt_zero, Bool.false_eq_true, Option.toList_some, Option.toList_none, List.cons_append, List.nil_append, kv_rv, kc1_i, kc1_r, kc1_n, n10, n01, n1514, n1213, n1312, if_true, if_false, not_true_eq_false, not_false_eq_true, and_self, true_and, and_true, false_and, and_false, or_true, true_or, or_false, false_or, Nat.reduceLeDiff, Nat.reduceLT, Nat.reduceEqDiff, Nat.reduceAdd]
    by_cases c0 : iw (gB σ f w) = 0
    · simp only [g_139_180, g_139_181, g_139_184, g_139_185, g_139_186, g_139_187, kv_w8_0, kv_w8_1, kv_w8_2, kv_w8_3, kv_w8_4, Nat.not_lt_zero, Bool.false_eq_true, Option.toList_some, Option.toList_none, List.cons_append, List.nil_append, kv_rv, kc1_i, kc1_r, kc1_n, n10, n01, n1514, n1213, n1312, if_true, if_false, not_true_eq_false, not_false_eq_true, and_self, true_and, and_true, false_and, and_false, or_true, true_or, or_false, false_or, Nat.reduceLeDiff, Nat.reduceLT, Nat.reduceEqDiff, Nat.reduceAdd, c0, s_149 js5]
      have hcov : COV (gB σ f w) (Rp (mB σ f) w) P (Tk (fun _ => 0) 0) := fun r hr hA => by rw [iw_0.mp c0 r hr] at hA; cases hA
      refine m_compare (n := 0) (tk := fun _ => 0) js5 h35 hf hw hV.2.2.2 hP4 (by decide) hV.2.1 hmon (fun k hk => absurd hk (by omega)) hcov hM (fun χ bp fr6 hMx hb1 hb2 => ?_)
      have fr7 : FR FY σ χ := fr5.tr (fr6.mono (fun b k q => by unfold FM at q; unfold FY; omega))
      have js6 := fr7.js js
      have js7 : JS (kv_si χ 163 0 0) := js6.of rfl rfl
      have mr := m_rarest (d := d + 2) (N := gB σ f w) (σ := kv_si χ 163 0 0) (Φ := fun r τ => Wp (d + 3) 139 207 [.ref 149, .int (Int32.ofNat f), .int 0, .int 0, v4, v5] (r.toList ++ [.int 0, .ref 164]) τ Φ) js7 (fun _ => ?_) (fun ρ hρ hN => by rw [iw_0.mp c0 ρ hρ] at hN; cases hN)
      · rw [c0] at mr
        simp only [g_139_190, g_139_191, g_139_194, g_139_195, g_139_196, g_139_197, g_139_198, g_139_201, g_139_202, g_139_203, g_139_204, kv_w8_0, kv_w8_1, kv_w8_2, kv_w8_3, kv_w8_4, Nat.not_lt_zero, Bool.false_eq_true, Option.toList_some, Option.toList_none, List.cons_append, List.nil_append, kv_rv, kc1_i, kc1_r, kc1_n, n10, n01, n1514, n1213, n1312, if_true, if_false, not_true_eq_false, not_false_eq_true, and_self, true_and, and_true, false_and, and_false, or_true, true_or, or_false, false_or, Nat.reduceLeDiff, Nat.reduceLT, Nat.reduceEqDiff, Nat.reduceAdd, sh_si, r_si, (show (0 : Int32).toNatClampNeg = 0 from rfl), (show ¬ (0 : Int32) < 0 by decide), s_149 js6, s_163 js6, r_149_21 js6, s_164 js6, r_149_22 js6]
        exact mr
      · simp only [g_139_207, g_139_208, g_139_209, g_139_212, g_139_213, g_139_214, g_139_215, g_139_216, Nat.not_lt_zero, Bool.false_eq_true, Option.toList_some, Option.toList_none, List.cons_append, List.nil_append, kv_rv, kc1_i, kc1_r, kc1_n, n10, n01, n1514, n1213, n1312, if_true, if_false, not_true_eq_false, not_false_eq_true, and_self, true_and, and_true, false_and, and_false, or_true, true_or, or_false, false_or, Nat.reduceLeDiff, Nat.reduceLT, Nat.reduceEqDiff, Nat.reduceAdd, sh_si, r_si, (show (0 : Int32).toNatClampNeg = 0 from rfl), (show ¬ (0 : Int32) < 0 by decide), s_149 js6, s_157 js6, r_149_10 js6, s_164 js6, r_149_22 js6]
        refine tail _ bp (((fr7.si (Or.inl (by omega))).si (Or.inl (by omega))).si (Or.inl (by omega))) (hMx.fr (((FR.rf (fun b k => b = 163 ∨ b = 164 ∨ b = 157) χ).si (Or.inl rfl)).si (Or.inr (Or.inl rfl)) |>.si (Or.inr (Or.inr rfl))) (fun b k q => by omega)) (Nat.le_trans hb2 (PRs_mono (fun p _ h => by cases h))) _ _ _ _
    · have js7 : JS (kv_si ω 163 0 (iw (gB σ f w))) := js5.of rfl rfl
      simp only [g_139_180, g_139_181, g_139_190, g_139_191, g_139_194, g_139_195, g_139_196, g_139_197, g_139_198, g_139_201, g_139_202, g_139_203, g_139_204, kv_w8_0, kv_w8_1, kv_w8_2, kv_w8_3, kv_w8_4, Nat.not_lt_zero, Bool.false_eq_true, Option.toList_some, Option.toList_none, List.cons_append, List.nil_append, kv_rv, kc1_i, kc1_r, kc1_n, n10, n01, n1514, n1213, n1312, if_true, if_false, not_true_eq_false, not_false_eq_true, and_self, true_and, and_true, false_and, and_false, or_true, true_or, or_false, false_or, Nat.reduceLeDiff, Nat.reduceLT, Nat.reduceEqDiff, Nat.reduceAdd, c0, sh_si, r_si, (show (0 : Int32).toNatClampNeg = 0 from rfl), (show ¬ (0 : Int32) < 0 by decide), s_149 js5, s_163 js5, r_149_21 js5, s_164 js5, r_149_22 js5]
      refine m_rarest js7 (fun h0 => absurd (iw_0.mpr h0) c0) (fun ρ hρ hAρ => ?_)
      simp only [g_139_207, g_139_208, g_139_209, g_139_212, g_139_213, g_139_214, Nat.not_lt_zero, Bool.false_eq_true, Option.toList_some, Option.toList_none, List.cons_append, List.nil_append, kv_rv, kc1_i, kc1_r, kc1_n, n10, n01, n1514, n1213, n1312, if_true, if_false, not_true_eq_false, not_false_eq_true, and_self, true_and, and_true, false_and, and_false, or_true, true_or, or_false, false_or, Nat.reduceLeDiff, Nat.reduceLT, Nat.reduceEqDiff, Nat.reduceAdd, sh_si, r_si, (show (0 : Int32).toNatClampNeg = 0 from rfl), (show ¬ (0 : Int32) < 0 by decide), s_149 js5, s_157 js5, r_149_10 js5, s_164 js5, r_149_22 js5]
      have fr6 : FR FY σ (kv_si (kv_si (kv_si ω 163 0 (iw (gB σ f w))) 164 0 (Int32.ofNat ρ)) 157 0 (-1)) := ((fr5.si (Or.inl (by omega))).si (Or.inl (by omega))).si (Or.inl (by omega))
      have fr7 : FR (fun b k => b = 163 ∨ b = 164 ∨ b = 157) ω (kv_si (kv_si (kv_si ω 163 0 (iw (gB σ f w))) 164 0 (Int32.ofNat ρ)) 157 0 (-1)) := (((FR.rf (fun b k => b = 163 ∨ b = 164 ∨ b = 157) ω).si (Or.inl rfl)).si (Or.inr (Or.inl rfl))).si (Or.inr (Or.inr rfl))
      refine dfs_all (d := d) (S := S) hf hw hP4 hmon hS 32 (gB σ f w) ρ 0 (fun _ => 0) _ 1152921504606846976 Φ (cnt_le _ _) (by have := cnt_le (gB σ f w) 32; omega) hρ hAρ (fun r hr => ⟨fun h => ⟨h, fun p _ h => by cases h⟩, fun h => h.1⟩) (cnt_false P (fun r _ => rfl)) (fun i hi => absurd hi (by omega)) ?_ ?_ ?_ (fr6.js js) (h3.fr fr6 (fun b k q => by unfold FY at q; omega)) (hV.fr fr7 (fun b k q => by omega)) (hM.fr fr7 (fun b k q => by omega)) (fun χ bp fr8 hMx hb1 hK v4 v5 => ?_) _ _
      · rw [i_si, if_neg (by omega), i_si, if_neg (by omega), i_si, if_pos ⟨rfl, rfl⟩]
      · rw [i_si, if_neg (by omega), i_si, if_pos ⟨rfl, rfl⟩]
      · rw [i_si, if_pos ⟨rfl, rfl⟩]
      · simp only [g_139_215, g_139_216, g_139_219, g_139_220, Nat.not_lt_zero, Bool.false_eq_true, Option.toList_some, Option.toList_none, List.cons_append, List.nil_append, kv_rv, kc1_i, kc1_r, kc1_n, n10, n01, n1514, n1213, n1312, if_true, if_false, not_true_eq_false, not_false_eq_true, and_self, true_and, and_true, false_and, and_false, or_true, true_or, or_false, false_or, Nat.reduceLeDiff, Nat.reduceLT, Nat.reduceEqDiff, Nat.reduceAdd, c0, (show Int32.ofNat 0 - 1 < 0 by decide)]
        exact tail χ bp (fr6.tr (fr8.mono (fun b k q => by unfold FDp FM at q; unfold FY; omega))) hMx (hK (fun p _ h => by cases h)) _ _ _ _
end LE

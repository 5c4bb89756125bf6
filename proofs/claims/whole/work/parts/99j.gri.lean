/-! ===== graphs: the first rows' ones as a long; the NODES of a graph, in the class ===== -/
/-- the rows that hold 1 -/
def gB (σ : kv_S) (f w r : Nat) : Bool := decide (r < 2 ^ w) && decide (hld σ f r = 1)
theorem gB_big {σ : kv_S} {f w r : Nat} (h : 2 ^ w ≤ r) : gB σ f w r = false := by
  unfold gB; rw [decide_eq_false (by omega)]; rfl
theorem w_m8 : ∀ w, w ≤ 8 → 2 ^ w % 8 = 0 ∨ 2 ^ w < 8 := by decide
theorem gB_one {σ : kv_S} {f w s : Nat} (hF : JF1' σ f w) (hs : s < 32) (h8 : 8 * s < 2 ^ w) : ∃ o, o < 256 ∧ kv_i σ (38 + 4 * f) s = Int32.ofNat o ∧ ∀ p, p < 8 → o.testBit p = gB σ f w (8 * s + p) := by
  obtain ⟨l, o, u, hl, hl2, ho, hu, el, el2, eo, eu, hp, hq⟩ := hF.2.2.2.2 s hs h8
  have h8' := w_m8 w hF.2.1
  refine ⟨o, ho, eo, fun p hp8 => ?_⟩
  have ed : (8 * s + p) / 8 = s := by omega
  have em : (8 * s + p) % 8 = p := by omega
  have e := lft_of (σ := σ) (f := f) (row := 8 * s + p) hl (by rw [ed]; exact el2)
  unfold gB hld
  rw [e, em]
  by_cases c : p < l
  · rw [if_pos c, decide_eq_true (show 8 * s + p < 2 ^ w by omega), Bool.true_and]
    rcases hp p c with ⟨q1, q2, q3⟩ | ⟨q1, q2, q3⟩ | ⟨q1, q2, q3⟩ <;> rw [q1, q2] <;> decide
  · rw [if_neg c, (hq p (by omega)).1]; simp
theorem i2l_n : ∀ o, o < 256 → (Int32.ofNat o).toInt64 = Int64.ofNat o := by decide +kernel
theorem lb_ofNat {o r : Nat} (hr : r < 64) : lb (Int64.ofNat o) r = o.testBit r := by
  show (BitVec.ofNat 64 o).getLsbD r = _
  rw [BitVec.getLsbD_ofNat, decide_eq_true hr, Bool.true_and]
section GI
variable {d : Nat} {σ : kv_S} {Φ : Option Value → kv_S → Prop}
theorem fo_loop (h : JS σ) {f w : Nat} (hf : f < 16) (hF : JF1' σ f w) (hw : w ≤ 6) : ∀ m s, s + m = max 1 (2 ^ w / 8) → Wp (d + 2) 57 4 [.ref (37 + 4 * f), .long (lw (fun r => decide (r < 8 * s) && gB σ f w r)), .null, .int (Int32.ofNat s)] [] σ Φ = Φ (some (.long (lw (gB σ f w)))) σ
  | 0, s, e => by
    have h6 := pow6 hw
    have h1 := pw1 w
    have h8' := w_m8 w hF.2.1
    have el : lw (fun r => decide (r < 8 * s) && gB σ f w r) = lw (gB σ f w) := lw_eq.mpr (fun r hr => by
      by_cases c : r < 8 * s
      · rw [decide_eq_true c, Bool.true_and]
      · rw [decide_eq_false c, gB_big (show 2 ^ w ≤ r by omega)]; rfl)
    by_cases c : s < 8
    · have e2 : max 1 (2 ^ w / 8) = s := by omega
      simp only [g_57_4, g_57_5, g_57_7, g_57_10, g_57_11, g_57_12, g_57_15, g_57_39, g_57_40, kv_w8_0, kv_w8_1, kv_w8_2, kv_w8_3, kv_w8_4, ari_aa, ari_al, ari_la, ari_mm, ari_ml, ari_lm, ari_ltl, ari_llt, ari_lt, ari_le, ari_lel, ari_lle, ari_0, ari_eq, ari_eql, ari_leq, ari_cl, Nat.not_lt_zero, Bool.false_eq_true, Option.toList_some, Option.toList_none, List.cons_append, List.nil_append, kv_rv, kc1_i, kc1_r, kc1_n, n10, n01, n1514, n1213, n1312, if_true, if_false, not_true_eq_false, not_false_eq_true, and_self, true_and, and_true, false_and, and_false, or_true, true_or, or_false, false_or, Nat.reduceLeDiff, Nat.reduceLT, Nat.reduceEqDiff, Nat.reduceAdd, m_sheetCount h hf hF.2.1 hF.2.2.1, sT h hf, e2, el, (show s < 9 by omega), (show s < 2147483648 by omega), (show ¬ 8 ≤ s by omega), (show s ≤ s by omega)]
    · simp only [g_57_4, g_57_5, g_57_7, g_57_39, g_57_40, ari_aa, ari_al, ari_la, ari_mm, ari_ml, ari_lm, ari_ltl, ari_llt, ari_lt, ari_le, ari_lel, ari_lle, ari_0, ari_eq, ari_eql, ari_leq, ari_cl, Nat.not_lt_zero, Bool.false_eq_true, Option.toList_some, Option.toList_none, List.cons_append, List.nil_append, kv_rv, kc1_i, kc1_r, kc1_n, n10, n01, n1514, n1213, n1312, if_true, if_false, not_true_eq_false, not_false_eq_true, and_self, true_and, and_true, false_and, and_false, or_true, true_or, or_false, false_or, Nat.reduceLeDiff, Nat.reduceLT, Nat.reduceEqDiff, Nat.reduceAdd, el, (show s < 9 by omega), (show s < 2147483648 by omega), (show 8 ≤ s by omega)]
  | m + 1, s, e => by
    have h6 := pow6 hw
    have h1 := pw1 w
    have h8' := w_m8 w hF.2.1
    obtain ⟨o, ho, eo, hb⟩ := gB_one hF (show s < 32 by omega) (show 8 * s < 2 ^ w by omega)
    have el : lw (fun r => decide (r < 8 * s) && gB σ f w r) ||| Int64.ofNat o <<< Int64.ofNat (8 * s) = lw (fun r => decide (r < 8 * (s + 1)) && gB σ f w r) := lw_of (fun r hr => by
      rw [lb_or, lb_lw _ hr, lb_shl _ (by omega) hr, lb_ofNat (by omega)]
      by_cases c : r < 8 * s
      · rw [decide_eq_true c, decide_eq_true (show r < 8 * (s + 1) by omega), decide_eq_false (show ¬ 8 * s ≤ r by omega)]; simp
      · by_cases c2 : r < 8 * (s + 1)
        · rw [decide_eq_false c, decide_eq_true c2, decide_eq_true (show 8 * s ≤ r by omega), hb _ (show r - 8 * s < 8 by omega), show 8 * s + (r - 8 * s) = r by omega]; simp
        · rw [decide_eq_false c, decide_eq_false c2, tb8 ho (by omega)]; simp)
    have ez : ¬ max 1 (2 ^ w / 8) ≤ s := by omega
    have em : max 1 (2 ^ w / 8) < 9 := by omega
    have em2 : max 1 (2 ^ w / 8) < 2147483648 := by omega
    conv => lhs; simp only [g_57_4, g_57_5, g_57_7, g_57_10, g_57_11, g_57_12, g_57_15, kv_w8_0, kv_w8_1, kv_w8_2, kv_w8_3, kv_w8_4, ari_aa, ari_al, ari_la, ari_mm, ari_ml, ari_lm, ari_ltl, ari_llt, ari_lt, ari_le, ari_lel, ari_lle, ari_0, ari_eq, ari_eql, ari_leq, ari_cl, Nat.not_lt_zero, Bool.false_eq_true, Option.toList_some, Option.toList_none, List.cons_append, List.nil_append, kv_rv, kc1_i, kc1_r, kc1_n, n10, n01, n1514, n1213, n1312, if_true, if_false, not_true_eq_false, not_false_eq_true, and_self, true_and, and_true, false_and, and_false, or_true, true_or, or_false, false_or, Nat.reduceLeDiff, Nat.reduceLT, Nat.reduceEqDiff, Nat.reduceAdd, m_sheetCount h hf hF.2.1 hF.2.2.1, sT h hf, ez, em, em2, (show s < 9 by omega), (show s < 2147483648 by omega), (show ¬ 8 ≤ s by omega)]
    simp only [g_57_18, g_57_19, g_57_20, g_57_23, g_57_24, g_57_25, g_57_26, g_57_28, g_57_29, g_57_30, g_57_31, g_57_32, g_57_33, g_57_36, ari_aa, ari_al, ari_la, ari_mm, ari_ml, ari_lm, ari_ltl, ari_llt, ari_lt, ari_le, ari_lel, ari_lle, ari_0, ari_eq, ari_eql, ari_leq, ari_cl, Nat.not_lt_zero, Bool.false_eq_true, Option.toList_some, Option.toList_none, List.cons_append, List.nil_append, kv_rv, kc1_i, kc1_r, kc1_n, n10, n01, n1514, n1213, n1312, if_true, if_false, not_true_eq_false, not_false_eq_true, and_self, true_and, and_true, false_and, and_false, or_true, true_or, or_false, false_or, Nat.reduceLeDiff, Nat.reduceLT, Nat.reduceEqDiff, Nat.reduceAdd, sT h hf, sO h hf, rO h hf, eo, i2l_n o ho, lsh_k (8 * s) (by omega), el, (show s < 32 by omega), (show s < 2147483648 by omega)]
    exact fo_loop h hf hF hw m (s + 1) (by omega)
theorem m_firstOnes (h : JS σ) {f w : Nat} (hf : f < 16) (hF : JF1' σ f w) (hw : w ≤ 6) : Wc (d + 2) 57 [.ref (37 + 4 * f)] σ Φ = Φ (some (.long (lw (gB σ f w)))) σ := by
  have l := fo_loop (d := d) (Φ := Φ) h hf hF hw (max 1 (2 ^ w / 8)) 0 (by omega)
  have e0 : (0 : Int64) = lw (fun r => decide (r < 8 * 0) && gB σ f w r) := lw_of (fun r hr => by rw [lb_0]; simp)
  simp only [c_57, g_57_0, g_57_1, g_57_2, g_57_3, Nat.not_lt_zero, Bool.false_eq_true, Option.toList_some, Option.toList_none, List.cons_append, List.nil_append, kv_rv, kc1_i, kc1_r, kc1_n, n10, n01, n1514, n1213, n1312, if_true, if_false, not_true_eq_false, not_false_eq_true, and_self, true_and, and_true, false_and, and_false, or_true, true_or, or_false, false_or, Nat.reduceLeDiff, Nat.reduceLT, Nat.reduceEqDiff, Nat.reduceAdd]
  rw [e0]
  exact l
theorem or_lt64 {t l : Nat} (ht : t < 64) (hl : l < 6) : t ||| 2 ^ l < 64 := Nat.or_lt_two_pow (n := 6) ht (Nat.pow_lt_pow_right (by decide) hl)
theorem nio_loop (js : JS σ) (hK : JK σ) {B : Nat → Bool} {w C : Nat} {x : Int32} (hB : ∀ r, 2 ^ w ≤ r → B r = false) (hw : w ≤ 6) (H : ∀ τ, FR (fun b _ => b = 23) σ τ → Φ (some (.int (Int32.ofNat C))) τ) : ∀ m k, k + m = w → ∀ τ, FR (fun b _ => b = 23) σ τ → ∀ t y n, t < 64 → cnt (unt t) w = m → y < fac m → n + cost (nd B w) m t y = C → ∀ v9 v10 : Value, Wp (d + 3) 67 13 [.ref 22, .long (lw B), .null, .int (Int32.ofNat w), .int x, .int (Int32.ofNat n), .int (Int32.ofNat t), .int (Int32.ofNat y), .int (Int32.ofNat k), v9, v10] [] τ Φ
  | 0, k, e, τ, fr, t, y, n, ht, hc, hy, hC, v9, v10 => by
    have e2 : k = w := by omega
    subst e2
    simp only [g_67_13, g_67_15, g_67_16, g_67_88, g_67_90, ari_aa, ari_al, ari_la, ari_mm, ari_ml, ari_lm, ari_ltl, ari_llt, ari_lt, ari_le, ari_lel, ari_lle, ari_0, ari_eq, ari_eql, ari_leq, ari_cl, Nat.not_lt_zero, Bool.false_eq_true, Option.toList_some, Option.toList_none, List.cons_append, List.nil_append, kv_rv, kc1_i, kc1_r, kc1_n, n10, n01, n1514, n1213, n1312, if_true, if_false, not_true_eq_false, not_false_eq_true, and_self, true_and, and_true, false_and, and_false, or_true, true_or, or_false, false_or, Nat.reduceLeDiff, Nat.reduceLT, Nat.reduceEqDiff, Nat.reduceAdd, (show k < 7 by omega), (show k < 2147483648 by omega), (show k ≤ k by omega)]
    rw [show n = C from hC]
    exact H τ fr
  | m + 1, k, e, τ, fr, t, y, n, ht, hc, hy, hC, v9, v10 => by
    have js2 := fr.js js
    have hK2 := hK.fr fr (fun b i q => by omega)
    have l0 : kv_i τ 4 m = Int32.ofNat (fac m) := (hK2.2.2.2.2.2.2.2 4 m (by decide) (by decide)).trans (fac_k m (by omega)).1
    have hq : y / fac m < m + 1 := Nat.div_lt_of_lt_mul (by rw [Nat.mul_comm]; exact hy)
    obtain ⟨a, b, c⟩ := nu_spec (t := t) (q := y / fac m) (w := w) (by omega) (by omega)
    have hc2 := cnt_unt a b
    have e1 : Int32.ofNat w - 1 = Int32.ofNat (w - 1) := ari_sl (n := 1) (by omega)
    have e2 : Int32.ofNat (w - 1) - Int32.ofNat k = Int32.ofNat m := by rw [ari_ss (by omega), show w - 1 - k = m by omega]
    simp only [g_67_13, g_67_15, g_67_16, ari_aa, ari_al, ari_la, ari_mm, ari_ml, ari_lm, ari_ltl, ari_llt, ari_lt, ari_le, ari_lel, ari_lle, ari_0, ari_eq, ari_eql, ari_leq, ari_cl, Nat.not_lt_zero, Bool.false_eq_true, Option.toList_some, Option.toList_none, List.cons_append, List.nil_append, kv_rv, kc1_i, kc1_r, kc1_n, n10, n01, n1514, n1213, n1312, if_true, if_false, not_true_eq_false, not_false_eq_true, and_self, true_and, and_true, false_and, and_false, or_true, true_or, or_false, false_or, Nat.reduceLeDiff, Nat.reduceLT, Nat.reduceEqDiff, Nat.reduceAdd, (show k < 7 by omega), (show k < 2147483648 by omega), (show w < 7 by omega), (show w < 2147483648 by omega), (show ¬ w ≤ k by omega)]
    simp only [g_67_19, g_67_22, g_67_23, g_67_24, g_67_25, g_67_27, g_67_28, g_67_29, g_67_31, g_67_33, g_67_34, g_67_36, g_67_38, g_67_41, g_67_43, g_67_45, g_67_47, g_67_49, g_67_52, g_67_54, g_67_55, g_67_56, g_67_58, g_67_60, g_67_61, g_67_62, g_67_63, g_67_65, g_67_67, kv_w8_0, kv_w8_1, kv_w8_2, kv_w8_3, kv_w8_4, ari_aa, ari_al, ari_la, ari_mm, ari_ml, ari_lm, ari_ltl, ari_llt, ari_lt, ari_le, ari_lel, ari_lle, ari_0, ari_eq, ari_eql, ari_leq, ari_cl, Nat.not_lt_zero, Bool.false_eq_true, Option.toList_some, Option.toList_none, List.cons_append, List.nil_append, kv_rv, kc1_i, kc1_r, kc1_n, n10, n01, n1514, n1213, n1312, if_true, if_false, not_true_eq_false, not_false_eq_true, and_self, true_and, and_true, false_and, and_false, or_true, true_or, or_false, false_or, Nat.reduceLeDiff, Nat.reduceLT, Nat.reduceEqDiff, Nat.reduceAdd, e1, e2, l0, hK2.2.2.2.2.1, m_letterAt ht hw hc hy, m_lesser ht (show nu t (y / fac m) < 7 by omega), c, ari_rem, s_22 js2, r_8_4 js2, (show m < 7 by omega), (show m < 2147483648 by omega)]
    refine m_nodesOf js2 hK2 hB ht hw (show nu t (y / fac m) < 6 by omega) (fun υ fr2 => ?_)
    simp only [g_67_70, g_67_71, g_67_73, g_67_75, g_67_76, g_67_78, g_67_79, g_67_80, g_67_82, g_67_85, ari_aa, ari_al, ari_la, ari_mm, ari_ml, ari_lm, ari_ltl, ari_llt, ari_lt, ari_le, ari_lel, ari_lle, ari_0, ari_eq, ari_eql, ari_leq, ari_cl, Nat.not_lt_zero, Bool.false_eq_true, Option.toList_some, Option.toList_none, List.cons_append, List.nil_append, kv_rv, kc1_i, kc1_r, kc1_n, n10, n01, n1514, n1213, n1312, if_true, if_false, not_true_eq_false, not_false_eq_true, and_self, true_and, and_true, false_and, and_false, or_true, true_or, or_false, false_or, Nat.reduceLeDiff, Nat.reduceLT, Nat.reduceEqDiff, Nat.reduceAdd, ari_31 (show nu t (y / fac m) < 32 by omega), ari_1shl _ (show nu t (y / fac m) < 31 by omega), ari_or]
    exact nio_loop js hK hB hw H m (k + 1) (by omega) υ (fr.tr fr2) _ _ _ (or_lt64 ht (by omega)) (by omega) (Nat.mod_lt _ (fac_pos m)) (by rw [← hC]; show _ = n + (nd B w t (nu t (y / fac m)) + cost (nd B w) m (t ||| 2 ^ nu t (y / fac m)) (y % fac m)); omega) _ _
theorem m_nodesIn (js : JS σ) (hK : JK σ) {B : Nat → Bool} {w x : Nat} (hB : ∀ r, 2 ^ w ≤ r → B r = false) (hw : w ≤ 6) (hx : x < fac w) (H : ∀ τ, FR (fun b _ => b = 23) σ τ → Φ (some (.int (Int32.ofNat (cost (nd B w) w 0 x)))) τ) : Wc (d + 3) 67 [.ref 22, .long (lw B), .int (Int32.ofNat w), .int (Int32.ofNat x)] σ Φ := by
  have l := nio_loop (d := d) (x := Int32.ofNat x) js hK hB hw H w 0 (by omega) σ (FR.rf _ σ) 0 x 0 (by omega) (cnt_unt0 w) hx (by omega) .null .null
  simp only [c_67, g_67_0, g_67_1, g_67_3, g_67_4, g_67_6, g_67_8, g_67_10, g_67_11, Nat.not_lt_zero, Bool.false_eq_true, Option.toList_some, Option.toList_none, List.cons_append, List.nil_append, kv_rv, kc1_i, kc1_r, kc1_n, n10, n01, n1514, n1213, n1312, if_true, if_false, not_true_eq_false, not_false_eq_true, and_self, true_and, and_true, false_and, and_false, or_true, true_or, or_false, false_or, Nat.reduceLeDiff, Nat.reduceLT, Nat.reduceEqDiff, Nat.reduceAdd]
  exact l
end GI

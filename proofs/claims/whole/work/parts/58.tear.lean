/-! ===== tear ===== -/
theorem scn_w : ∀ w, w ≤ 8 → 1 ≤ w → (2 ^ w + 7) / 8 = max 1 (2 ^ w / 8) ∧ ∀ s, s < max 1 (2 ^ w / 8) → s < 32 ∧ 8 * s < 2 ^ w := by decide +kernel
theorem scn_r {w s : Nat} (hw : w ≤ 8) (h1 : 1 ≤ w) (h8 : 8 * s < 2 ^ w) : s < max 1 (2 ^ w / 8) := by
  have : ∀ w, w ≤ 8 → 1 ≤ w → ∀ s, s < 32 → 8 * s < 2 ^ w → s < max 1 (2 ^ w / 8) := by decide +kernel
  have hW := pw8 hw
  exact this w hw h1 s (by omega) h8
theorem msk_w : ∀ c, c ≤ 8 → (1 : Int32) <<< (Int32.ofNat c &&& 31) - 1 = Int32.ofNat (2 ^ c - 1) := by decide
theorem msk_a : ∀ o c : Nat, Int32.ofNat o &&& Int32.ofNat (2 ^ c - 1) = Int32.ofNat (o % 2 ^ c) := fun o c => by rw [ari_and, Nat.and_two_pow_sub_one_eq_mod]
def tearH (L H : Nat → Nat) (s : Nat) : Nat → Nat := fun r => if r / 8 = s ∧ L s ≤ r % 8 then 0 else H r
section TE
variable {d : Nat} {σ : kv_S} {Φ : Option Value → kv_S → Prop}
theorem m_allOf {c : Nat} (hc : c ≤ 8) : Wc d 27 [.int (Int32.ofNat c)] σ Φ = Φ (some (.int (Int32.ofNat (2 ^ c - 1)))) σ := by
  simp only [c_27, g_27_0, g_27_1, g_27_2, g_27_3, g_27_4, g_27_5, msk_w c hc]
theorem m_sheetSize_m (h : JS σ) {f w : Nat} (hf : f < 16) (hw : w ≤ 8) (e : kv_i σ 150 f = Int32.ofNat w) : Wc (d + 1) 124 [.ref 149, .int (Int32.ofNat f)] σ Φ = Φ (some (.int (Int32.ofNat (min 8 (2 ^ w))))) σ := by
  have hW := pw8 hw
  by_cases c : 8 ≤ 2 ^ w
  · simp only [c_124, g_124_0, g_124_1, g_124_2, g_124_5, g_124_7, g_124_10, g_124_11, g_124_12, g_124_15, g_124_18, g_124_20, kv_w8_0, kv_w8_1, kv_w8_2, kv_w8_3, kv_w8_4, ari_aa, ari_al, ari_la, ari_mm, ari_ml, ari_lm, ari_ltl, ari_llt, ari_lt, ari_le, ari_lel, ari_lle, ari_0, ari_eq, ari_eql, ari_leq, ari_cl, Nat.not_lt_zero, Bool.false_eq_true, Option.toList_some, Option.toList_none, List.cons_append, List.nil_append, kv_rv, kc1_i, kc1_r, kc1_n, n10, n01, n1514, n1213, n1312, if_true, if_false, not_true_eq_false, not_false_eq_true, and_self, true_and, and_true, false_and, and_false, or_true, true_or, or_false, false_or, Nat.reduceLeDiff, Nat.reduceLT, Nat.reduceEqDiff, Nat.reduceAdd, m_rows_m h hf hw e, s_149 h, c, (show 2 ^ w < 257 by omega), (show 2 ^ w < 2147483648 by omega), Nat.min_eq_left c]; rfl
  · simp only [c_124, g_124_0, g_124_1, g_124_2, g_124_5, g_124_7, g_124_10, g_124_11, g_124_12, g_124_15, g_124_18, g_124_20, kv_w8_0, kv_w8_1, kv_w8_2, kv_w8_3, kv_w8_4, ari_aa, ari_al, ari_la, ari_mm, ari_ml, ari_lm, ari_ltl, ari_llt, ari_lt, ari_le, ari_lel, ari_lle, ari_0, ari_eq, ari_eql, ari_leq, ari_cl, Nat.not_lt_zero, Bool.false_eq_true, Option.toList_some, Option.toList_none, List.cons_append, List.nil_append, kv_rv, kc1_i, kc1_r, kc1_n, n10, n01, n1514, n1213, n1312, if_true, if_false, not_true_eq_false, not_false_eq_true, and_self, true_and, and_true, false_and, and_false, or_true, true_or, or_false, false_or, Nat.reduceLeDiff, Nat.reduceLT, Nat.reduceEqDiff, Nat.reduceAdd, m_rows_m h hf hw e, s_149 h, c, (show 2 ^ w < 257 by omega), (show 2 ^ w < 2147483648 by omega), Nat.min_eq_right (Nat.le_of_lt (Nat.lt_of_not_le c))]
theorem m_leave (h : JS σ) {f s c l o u : Nat} (hf : f < 16) (hs : s < 32) (hc : c ≤ 8) (e1 : kv_i σ (40 + 4 * f) s = Int32.ofNat l) (e2 : kv_i σ (38 + 4 * f) s = Int32.ofNat o) (e3 : kv_i σ (39 + 4 * f) s = Int32.ofNat u) : Wc (d + 1) 26 [.ref (37 + 4 * f), .int (Int32.ofNat s), .int (Int32.ofNat c)] σ Φ = Φ (some (.int (Int32.ofNat l))) (kv_si (kv_si (kv_si σ (40 + 4 * f) s (Int32.ofNat c)) (38 + 4 * f) s (Int32.ofNat (o % 2 ^ c))) (39 + 4 * f) s (Int32.ofNat (u % 2 ^ c))) := by
  simp only [c_26, g_26_0, g_26_1, g_26_4, g_26_5, g_26_6, g_26_7, g_26_8, g_26_11, g_26_12, g_26_13, g_26_14, g_26_15, g_26_18, g_26_19, g_26_20, g_26_21, g_26_22, g_26_25, g_26_26, g_26_27, g_26_28, g_26_31, g_26_32, g_26_33, g_26_34, g_26_35, g_26_38, g_26_39, g_26_40, g_26_41, kv_w8_0, kv_w8_1, kv_w8_2, kv_w8_3, kv_w8_4, n_si, n_sl, n_sr, n_mk, sh_si, sh_sl, sh_sr, sh_mk, i_si, i_sl, i_sr, i_mk, l_si, l_sl, l_sr, l_mk, r_si, r_sl, r_sr, r_mk, ari_aa, ari_al, ari_la, ari_mm, ari_ml, ari_lm, ari_ltl, ari_llt, ari_lt, ari_le, ari_lel, ari_lle, ari_0, ari_eq, ari_eql, ari_leq, ari_cl, Nat.not_lt_zero, Bool.false_eq_true, Option.toList_some, Option.toList_none, List.cons_append, List.nil_append, kv_rv, kc1_i, kc1_r, kc1_n, n10, n01, n1514, n1213, n1312, if_true, if_false, not_true_eq_false, not_false_eq_true, and_self, true_and, and_true, false_and, and_false, or_true, true_or, or_false, false_or, Nat.reduceLeDiff, Nat.reduceLT, Nat.reduceEqDiff, Nat.reduceAdd, sT h hf, sO h hf, rO h hf, sF h hf, rF h hf, sL h hf, rL h hf, e1, e2, e3, m_allOf hc, msk_a, (show s < 32 by omega), (show s < 2147483648 by omega), (show 8 ≤ 38 + 4 * f by omega), (show 8 ≤ 39 + 4 * f by omega), (show 8 ≤ 40 + 4 * f by omega), (show ¬ (39 + 4 * f = 38 + 4 * f) by omega), (show ¬ (38 + 4 * f = 40 + 4 * f) by omega), (show ¬ (39 + 4 * f = 40 + 4 * f) by omega)]
theorem CF.tear {f w s c : Nat} {L H : Nat → Nat} (hL : ∀ s, s < 32 → 8 * s < 2 ^ w → L s ≤ 8) (hcf : CF σ f w L H) (hs : s < 32) (h8 : 8 * s < 2 ^ w) (hc : c ≤ 8) {o u : Nat} (ho : o < 256) (hu : u < 256) (e2 : kv_i σ (38 + 4 * f) s = Int32.ofNat o) (e3 : kv_i σ (39 + 4 * f) s = Int32.ofNat u) (hb : ∀ p, o.testBit p = (decide (p < L s) && decide (H (8 * s + p) = 1)) ∧ u.testBit p = (decide (p < L s) && decide (H (8 * s + p) = 2))) : CF (kv_si (kv_si (kv_si σ (40 + 4 * f) s (Int32.ofNat c)) (38 + 4 * f) s (Int32.ofNat (o % 2 ^ c))) (39 + 4 * f) s (Int32.ofNat (u % 2 ^ c))) f w (up1 L s c) (tearH L H s) := by
  refine ⟨by simp (disch := omega) only [ne_ess]; exact hcf.1, fun s' hs' h8' => ?_⟩
  by_cases e : s' = s
  · subst e
    refine ⟨o % 2 ^ c, u % 2 ^ c, Nat.lt_of_le_of_lt (Nat.mod_le _ _) ho, Nat.lt_of_le_of_lt (Nat.mod_le _ _) hu, by rw [up1_eq rfl]; simp (disch := omega) only [ne_ess, eq_ess], by simp (disch := omega) only [ne_ess, eq_ess], by simp (disch := omega) only [ne_ess, eq_ess], fun p => ?_⟩
    rw [Nat.testBit_mod_two_pow, Nat.testBit_mod_two_pow, (hb p).1, (hb p).2, up1_eq rfl]
    by_cases cp : p < c
    · unfold tearH
      by_cases cl : p < L s'
      · rw [if_neg (by omega), decide_eq_true cl, decide_eq_true cp]; exact ⟨rfl, rfl⟩
      · rw [if_pos (by omega), decide_eq_false cl, decide_eq_true cp]; exact ⟨rfl, rfl⟩
    · rw [decide_eq_false cp]; exact ⟨rfl, rfl⟩
  · have := hL s' hs' h8'
    obtain ⟨o2, u2, k1, k2, k3, k4, k5, k6⟩ := hcf.2 s' hs' h8'
    refine ⟨o2, u2, k1, k2, by rw [up1_ne e]; simp (disch := omega) only [ne_ess]; exact k3, by simp (disch := omega) only [ne_ess]; exact k4, by simp (disch := omega) only [ne_ess]; exact k5, fun p => ?_⟩
    rw [(k6 p).1, (k6 p).2, up1_ne e]
    by_cases cp : p < L s'
    · unfold tearH; rw [if_neg (by omega)]; exact ⟨rfl, rfl⟩
    · rw [decide_eq_false cp]; exact ⟨rfl, rfl⟩
theorem tear_loop (h : JS σ) {f s had c : Nat} (hf : f < 16) (hs : s < 32) (hc : c ≤ 8) (hh : had ≤ 8) : ∀ m n, had + n + m = c → Wp d 131 59 [.ref 149, .int (Int32.ofNat f), .int (Int32.ofNat s), .int (Int32.ofNat c), .int (Int32.ofNat had), .int (Int32.ofNat (had + n))] [] (kv_frg σ 151 (256 * f + 8 * s + had) n 0) Φ = Wp d 131 90 [.ref 149, .int (Int32.ofNat f), .int (Int32.ofNat s), .int (Int32.ofNat c), .int (Int32.ofNat had), .int (Int32.ofNat c)] [] (kv_frg σ 151 (256 * f + 8 * s + had) (c - had) 0) Φ
  | 0, n, e => by
    have e2 : had + n = c := by omega
    have e3 : n = c - had := by omega
    simp only [g_131_59, g_131_61, g_131_62, ari_aa, ari_al, ari_la, ari_mm, ari_ml, ari_lm, ari_ltl, ari_llt, ari_lt, ari_le, ari_lel, ari_lle, ari_0, ari_eq, ari_eql, ari_leq, ari_cl, Nat.not_lt_zero, Bool.false_eq_true, Option.toList_some, Option.toList_none, List.cons_append, List.nil_append, kv_rv, kc1_i, kc1_r, kc1_n, n10, n01, n1514, n1213, n1312, if_true, if_false, not_true_eq_false, not_false_eq_true, and_self, true_and, and_true, false_and, and_false, or_true, true_or, or_false, false_or, Nat.reduceLeDiff, Nat.reduceLT, Nat.reduceEqDiff, Nat.reduceAdd, e2, (show c < 9 by omega), (show c < 2147483648 by omega), (show c ≤ c by omega)]
    rw [e3]
  | m + 1, n, e => by
    simp only [g_131_59, g_131_61, g_131_62, ari_aa, ari_al, ari_la, ari_mm, ari_ml, ari_lm, ari_ltl, ari_llt, ari_lt, ari_le, ari_lel, ari_lle, ari_0, ari_eq, ari_eql, ari_leq, ari_cl, Nat.not_lt_zero, Bool.false_eq_true, Option.toList_some, Option.toList_none, List.cons_append, List.nil_append, kv_rv, kc1_i, kc1_r, kc1_n, n10, n01, n1514, n1213, n1312, if_true, if_false, not_true_eq_false, not_false_eq_true, and_self, true_and, and_true, false_and, and_false, or_true, true_or, or_false, false_or, Nat.reduceLeDiff, Nat.reduceLT, Nat.reduceEqDiff, Nat.reduceAdd, (show had + n < 9 by omega), (show had + n < 2147483648 by omega), (show c < 9 by omega), (show c < 2147483648 by omega), (show ¬ c ≤ had + n by omega)]
    simp only [g_131_65, g_131_66, g_131_69, g_131_72, g_131_73, g_131_74, g_131_76, g_131_77, g_131_78, g_131_79, g_131_81, g_131_82, g_131_83, g_131_84, g_131_87, ari_aa, ari_al, ari_la, ari_mm, ari_ml, ari_lm, ari_ltl, ari_llt, ari_lt, ari_le, ari_lel, ari_lle, ari_0, ari_eq, ari_eql, ari_leq, ari_cl, Nat.not_lt_zero, Bool.false_eq_true, Option.toList_some, Option.toList_none, List.cons_append, List.nil_append, kv_rv, kc1_i, kc1_r, kc1_n, n10, n01, n1514, n1213, n1312, if_true, if_false, not_true_eq_false, not_false_eq_true, and_self, true_and, and_true, false_and, and_false, or_true, true_or, or_false, false_or, Nat.reduceLeDiff, Nat.reduceLT, Nat.reduceEqDiff, Nat.reduceAdd, frg_sh, frg_r, s_149 h, s_151 h, r_149_3 h, (show vp_nar .byte (0 : Int32) = 0 from rfl), (show 256 * f + 8 * s + had + n < 4096 by omega), (show 256 * f + 8 * s + had + n < 2147483648 by omega), show 256 * f + 8 * s + (had + n) = (256 * f + 8 * s + had) + n by omega, frg_s]
    exact tear_loop h hf hs hc hh m (n + 1) (by omega)
theorem m_tear_m (h : JS σ) {F f w s c l : Nat} (hF : F ≤ 16) (hk : kv_i σ 149 1 = Int32.ofNat F) (hf : f < F) (hw : w ≤ 8) (h1w : 1 ≤ w) (e : kv_i σ 150 f = Int32.ofNat w) (hs : s < max 1 (2 ^ w / 8)) (hc : c ≤ min 8 (2 ^ w)) (hl : l ≤ 8) (el : kv_i σ 152 (32 * f + s) = Int32.ofNat l) : Wc (d + 2) 131 [.ref 149, .int (Int32.ofNat f), .int (Int32.ofNat s), .int (Int32.ofNat c)] σ Φ = Φ (some (.int (Int32.ofNat l))) (kv_si (kv_frg σ 151 (256 * f + 8 * s + l) (c - l) 0) 152 (32 * f + s) (Int32.ofNat c)) := by
  have hW := pw8 hw
  have hf16 : f < 16 := by omega
  obtain ⟨q1, q2⟩ := scn_w w hw h1w
  have q3 := q2 s hs
  have hc8 : c ≤ 8 := by omega
  generalize hM : max 1 (2 ^ w / 8) = M at *
  generalize hm : min 8 (2 ^ w) = m at *
  simp only [c_131, g_131_0, g_131_1, g_131_2, g_131_5, g_131_8, g_131_9, g_131_12, g_131_13, g_131_14, g_131_15, g_131_18, g_131_20, g_131_21, g_131_23, g_131_24, g_131_27, g_131_28, g_131_31, g_131_32, g_131_33, g_131_34, g_131_37, g_131_40, g_131_41, g_131_42, g_131_43, g_131_46, g_131_48, g_131_49, g_131_50, g_131_51, g_131_52, g_131_53, g_131_55, g_131_57, kv_w8_0, kv_w8_1, kv_w8_2, kv_w8_3, kv_w8_4, ari_aa, ari_al, ari_la, ari_mm, ari_ml, ari_lm, ari_ltl, ari_llt, ari_lt, ari_le, ari_lel, ari_lle, ari_0, ari_eq, ari_eql, ari_leq, ari_cl, Nat.not_lt_zero, Bool.false_eq_true, Option.toList_some, Option.toList_none, List.cons_append, List.nil_append, kv_rv, kc1_i, kc1_r, kc1_n, n10, n01, n1514, n1213, n1312, if_true, if_false, not_true_eq_false, not_false_eq_true, and_self, true_and, and_true, false_and, and_false, or_true, true_or, or_false, false_or, Nat.reduceLeDiff, Nat.reduceLT, Nat.reduceEqDiff, Nat.reduceAdd, ari_div, (show ¬ (8 : Int32) = 0 by decide), m_isFunction_m h, hk, m_rows_m h hf16 hw e, m_sheetSize_m h hf16 hw e, q1, hm, el, s_149 h, s_152 h, r_149_4 h, (show f < F by omega), (show f < 2147483648 by omega), (show F < 17 by omega), (show F < 2147483648 by omega), (show s < 32 by omega), (show s < 2147483648 by omega), (show 2 ^ w + 7 < 2147483648 by omega), (show M < 2147483648 by omega), (show ¬ M ≤ s by omega), (show c < 9 by omega), (show c < 2147483648 by omega), (show m < 9 by omega), (show m < 2147483648 by omega), (show c ≤ m by omega), (show 32 * f + s < 512 by omega), (show 32 * f + s < 2147483648 by omega)]
  by_cases cl : c ≤ l
  · simp only [g_131_59, g_131_61, g_131_62, ari_aa, ari_al, ari_la, ari_mm, ari_ml, ari_lm, ari_ltl, ari_llt, ari_lt, ari_le, ari_lel, ari_lle, ari_0, ari_eq, ari_eql, ari_leq, ari_cl, Nat.not_lt_zero, Bool.false_eq_true, Option.toList_some, Option.toList_none, List.cons_append, List.nil_append, kv_rv, kc1_i, kc1_r, kc1_n, n10, n01, n1514, n1213, n1312, if_true, if_false, not_true_eq_false, not_false_eq_true, and_self, true_and, and_true, false_and, and_false, or_true, true_or, or_false, false_or, Nat.reduceLeDiff, Nat.reduceLT, Nat.reduceEqDiff, Nat.reduceAdd, cl, (show c < 9 by omega), (show c < 2147483648 by omega), (show l < 9 by omega), (show l < 2147483648 by omega)]
    rw [show c - l = 0 by omega, frg_0]
    simp only [g_131_90, g_131_91, g_131_94, g_131_96, g_131_97, g_131_98, g_131_99, g_131_100, g_131_101, g_131_102, g_131_104, ari_aa, ari_al, ari_la, ari_mm, ari_ml, ari_lm, ari_ltl, ari_llt, ari_lt, ari_le, ari_lel, ari_lle, ari_0, ari_eq, ari_eql, ari_leq, ari_cl, Nat.not_lt_zero, Bool.false_eq_true, Option.toList_some, Option.toList_none, List.cons_append, List.nil_append, kv_rv, kc1_i, kc1_r, kc1_n, n10, n01, n1514, n1213, n1312, if_true, if_false, not_true_eq_false, not_false_eq_true, and_self, true_and, and_true, false_and, and_false, or_true, true_or, or_false, false_or, Nat.reduceLeDiff, Nat.reduceLT, Nat.reduceEqDiff, Nat.reduceAdd, s_149 h, s_152 h, r_149_4 h, (show 32 * f + s < 512 by omega), (show 32 * f + s < 2147483648 by omega)]
  · have hl2 := tear_loop (d := d + 2) (Φ := Φ) h hf16 q3.1 hc8 hl (c - l) 0 (by omega)
    simp only [frg_0, Nat.add_zero] at hl2
    refine hl2.trans ?_
    simp only [g_131_90, g_131_91, g_131_94, g_131_96, g_131_97, g_131_98, g_131_99, g_131_100, g_131_101, g_131_102, g_131_104, ari_aa, ari_al, ari_la, ari_mm, ari_ml, ari_lm, ari_ltl, ari_llt, ari_lt, ari_le, ari_lel, ari_lle, ari_0, ari_eq, ari_eql, ari_leq, ari_cl, Nat.not_lt_zero, Bool.false_eq_true, Option.toList_some, Option.toList_none, List.cons_append, List.nil_append, kv_rv, kc1_i, kc1_r, kc1_n, n10, n01, n1514, n1213, n1312, if_true, if_false, not_true_eq_false, not_false_eq_true, and_self, true_and, and_true, false_and, and_false, or_true, true_or, or_false, false_or, Nat.reduceLeDiff, Nat.reduceLT, Nat.reduceEqDiff, Nat.reduceAdd, frg_sh, frg_r, s_149 h, s_152 h, r_149_4 h, (show 32 * f + s < 512 by omega), (show 32 * f + s < 2147483648 by omega)]
theorem MF.tear {f w s c : Nat} {L H : Nat → Nat} (hw : w ≤ 8) (hL : ∀ s, s < 32 → 8 * s < 2 ^ w → L s ≤ 8) (hm : MF σ f w L H) (hs : s < 32) (h8 : 8 * s < 2 ^ w) (hc : c ≤ 8) : MF (kv_si (kv_frg σ 151 (256 * f + 8 * s + L s) (c - L s) 0) 152 (32 * f + s) (Int32.ofNat c)) f w (up1 L s c) (tearH L H s) := by
  have hW := pw8 hw
  have hLs := hL s hs h8
  refine ⟨by rw [ne_ess (by omega), frg_i, if_neg (by omega)]; exact hm.1, fun s' hs' h8' => ?_⟩
  have := hL s' hs' h8'
  by_cases e : s' = s
  · subst e
    rw [up1_eq rfl]
    refine ⟨eq_ess ⟨rfl, rfl⟩, fun p hp => ?_⟩
    unfold tearH
    by_cases cp : p < L s'
    · rw [ne_ess (by omega), frg_i, if_neg (by omega), if_neg (by omega)]; exact (hm.2 s' hs' h8').2 p cp
    · rw [ne_ess (by omega), frg_i, if_pos (by omega), if_pos (by omega)]; rfl
  · rw [up1_ne e]
    refine ⟨by rw [ne_ess (by omega), frg_i, if_neg (by omega)]; exact (hm.2 s' hs' h8').1, fun p hp => ?_⟩
    unfold tearH
    rw [ne_ess (by omega), frg_i, if_neg (by omega), if_neg (by omega)]; exact (hm.2 s' hs' h8').2 p hp
end TE
theorem LH.tear {w s c : Nat} {L H : Nat → Nat} (h : LH w L H) (hc : c ≤ 8) (hc2 : c ≤ 2 ^ w) : LH w (up1 L s c) (tearH L H s) := by
  refine ⟨h.1, h.2.1, fun s' hs' h8' => ?_⟩
  obtain ⟨b1, b2, b3⟩ := h.2.2 s' hs' h8'
  unfold tearH
  by_cases e : s' = s
  · subst e
    rw [up1_eq rfl]
    refine ⟨hc, hc2, fun p hp => ?_⟩
    by_cases cp : p < L s'
    · rw [if_neg (by omega)]; exact b3 p cp
    · rw [if_pos (by omega)]; omega
  · rw [up1_ne e]
    refine ⟨b1, b2, fun p hp => ?_⟩
    rw [if_neg (by omega)]; exact b3 p hp
theorem frg_fr {P : Nat → Nat → Prop} {σ τ : kv_S} (h : FR P σ τ) {a s n : Nat} {v : Int32} (hp : ∀ j, s ≤ j → j < s + n → P a j) : FR P σ (kv_frg τ a s n v) := ⟨h.1, h.2.1, fun b j hb => by rw [frg_i, if_neg (fun w => hb (by rw [w.1]; exact hp j w.2.1 w.2.2))]; exact h.2.2.1 b j hb, fun b j hb => h.2.2.2 b j hb⟩
section TF
variable {d : Nat} {σ : kv_S} {Φ : Option Value → kv_S → Prop}
theorem m_tear_c (h : JS σ) {F f w s c l o u : Nat} (hF : F ≤ 16) (hk : kv_i σ 8 9 = Int32.ofNat F) (hf : f < F) (hw : w ≤ 8) (h1w : 1 ≤ w) (e : kv_i σ (37 + 4 * f) 3 = Int32.ofNat w) (hs : s < max 1 (2 ^ w / 8)) (hc : c ≤ min 8 (2 ^ w)) (e1 : kv_i σ (40 + 4 * f) s = Int32.ofNat l) (e2 : kv_i σ (38 + 4 * f) s = Int32.ofNat o) (e3 : kv_i σ (39 + 4 * f) s = Int32.ofNat u) : Wc (d + 2) 23 [.ref 8, .int (Int32.ofNat f), .int (Int32.ofNat s), .int (Int32.ofNat c)] σ Φ = Φ (some (.int (Int32.ofNat l))) (kv_si (kv_si (kv_si σ (40 + 4 * f) s (Int32.ofNat c)) (38 + 4 * f) s (Int32.ofNat (o % 2 ^ c))) (39 + 4 * f) s (Int32.ofNat (u % 2 ^ c))) := by
  have hW := pw8 hw
  have hf16 : f < 16 := by omega
  obtain ⟨q1, q2⟩ := scn_w w hw h1w
  have q3 := q2 s hs
  have hc8 : c ≤ 8 := by omega
  have hsc := @m_sheetCount (d + 1) σ
  generalize hM : max 1 (2 ^ w / 8) = M at *
  generalize hm : min 8 (2 ^ w) = m at *
  have hsc : ∀ {d : Nat} {Ψ : Option Value → kv_S → Prop}, Wc (d + 1) 24 [.ref (37 + 4 * f)] σ Ψ = Ψ (some (.int (Int32.ofNat M))) σ := by intro d Ψ; rw [m_sheetCount h hf16 hw e, hM]
  have hss : ∀ {d : Nat} {Ψ : Option Value → kv_S → Prop}, Wc (d + 1) 13 [.ref (37 + 4 * f)] σ Ψ = Ψ (some (.int (Int32.ofNat m))) σ := by intro d Ψ; rw [m_sheetSize h hf16 hw e, hm]
  simp only [c_23, g_23_0, g_23_1, g_23_2, g_23_5, g_23_8, g_23_9, g_23_12, g_23_13, g_23_14, g_23_17, g_23_18, g_23_19, g_23_22, g_23_25, g_23_26, g_23_29, g_23_30, g_23_31, g_23_34, g_23_35, g_23_36, g_23_39, g_23_42, g_23_43, g_23_44, g_23_45, g_23_48, g_23_49, g_23_50, g_23_51, g_23_52, g_23_55, kv_w8_0, kv_w8_1, kv_w8_2, kv_w8_3, kv_w8_4, ari_aa, ari_al, ari_la, ari_mm, ari_ml, ari_lm, ari_ltl, ari_llt, ari_lt, ari_le, ari_lel, ari_lle, ari_0, ari_eq, ari_eql, ari_leq, ari_cl, Nat.not_lt_zero, Bool.false_eq_true, Option.toList_some, Option.toList_none, List.cons_append, List.nil_append, kv_rv, kc1_i, kc1_r, kc1_n, n10, n01, n1514, n1213, n1312, if_true, if_false, not_true_eq_false, not_false_eq_true, and_self, true_and, and_true, false_and, and_false, or_true, true_or, or_false, false_or, Nat.reduceLeDiff, Nat.reduceLT, Nat.reduceEqDiff, Nat.reduceAdd, m_isFunction_c h, hk, hsc, hss, m_leave h hf16 q3.1 hc8 e1 e2 e3, sT h hf16, rT h hf16, s_8 h, s_9 h, r_8_0 h, (show f < F by omega), (show f < 2147483648 by omega), (show F < 17 by omega), (show F < 2147483648 by omega), (show f < 16 by omega), (show f < 2147483648 by omega), (show s < 32 by omega), (show s < 2147483648 by omega), (show M < 2147483648 by omega), (show ¬ M ≤ s by omega), (show c < 9 by omega), (show c < 2147483648 by omega), (show m < 9 by omega), (show m < 2147483648 by omega), (show c ≤ m by omega)]
theorem m_tear_cb (h : JS σ) {F f w : Nat} {s c : Int32} (hF : F ≤ 16) (hk : kv_i σ 8 9 = Int32.ofNat F) (hf : f < F) (hw : w ≤ 8) (e : kv_i σ (37 + 4 * f) 3 = Int32.ofNat w) (hb : ¬ ((¬ s < 0 ∧ s < Int32.ofNat (max 1 (2 ^ w / 8))) ∧ (¬ c < 0 ∧ c ≤ Int32.ofNat (min 8 (2 ^ w))))) : Wc (d + 2) 23 [.ref 8, .int (Int32.ofNat f), .int s, .int c] σ Φ = Φ (some (.int (-1))) σ := by
  have hf16 : f < 16 := by omega
  have hp := nFr hF hf
  have hf0 := hp.1
  by_cases c1 : s < 0
  · simp only [c_23, g_23_0, g_23_1, g_23_2, g_23_5, g_23_8, g_23_9, g_23_12, g_23_13, g_23_14, g_23_17, g_23_18, g_23_19, g_23_22, g_23_25, g_23_26, g_23_29, g_23_30, g_23_31, g_23_34, g_23_35, g_23_36, g_23_39, g_23_42, g_23_43, kv_w8_0, kv_w8_1, kv_w8_2, kv_w8_3, kv_w8_4, Nat.not_lt_zero, Bool.false_eq_true, Option.toList_some, Option.toList_none, List.cons_append, List.nil_append, kv_rv, kc1_i, kc1_r, kc1_n, n10, n01, n1514, n1213, n1312, if_true, if_false, not_true_eq_false, not_false_eq_true, and_self, true_and, and_true, false_and, and_false, or_true, true_or, or_false, false_or, Nat.reduceLeDiff, Nat.reduceLT, Nat.reduceEqDiff, Nat.reduceAdd, m_isFunction_c h, hk, hp, c1, s_8 h]
  · by_cases c2 : s < Int32.ofNat (max 1 (2 ^ w / 8))
    · have c2' : ¬ Int32.ofNat (max 1 (2 ^ w / 8)) ≤ s := by rw [Int32.not_le]; exact c2
      by_cases c3 : c < 0
      · simp only [c_23, g_23_0, g_23_1, g_23_2, g_23_5, g_23_8, g_23_9, g_23_12, g_23_13, g_23_14, g_23_17, g_23_18, g_23_19, g_23_22, g_23_25, g_23_26, g_23_29, g_23_30, g_23_31, g_23_34, g_23_35, g_23_36, g_23_39, g_23_42, g_23_43, kv_w8_0, kv_w8_1, kv_w8_2, kv_w8_3, kv_w8_4, Nat.not_lt_zero, Bool.false_eq_true, Option.toList_some, Option.toList_none, List.cons_append, List.nil_append, kv_rv, kc1_i, kc1_r, kc1_n, n10, n01, n1514, n1213, n1312, if_true, if_false, not_true_eq_false, not_false_eq_true, and_self, true_and, and_true, false_and, and_false, or_true, true_or, or_false, false_or, Nat.reduceLeDiff, Nat.reduceLT, Nat.reduceEqDiff, Nat.reduceAdd, ari_cl, m_isFunction_c h, hk, hp, hf0, c1, c2', c3, m_sheetCount h hf16 hw e, sT h hf16, rT h hf16, s_8 h, s_9 h, r_8_0 h, (show f < 16 by omega), (show f < 2147483648 by omega)]
      · have c4 : ¬ c ≤ Int32.ofNat (min 8 (2 ^ w)) := fun q => hb ⟨⟨c1, c2⟩, c3, q⟩
        simp only [c_23, g_23_0, g_23_1, g_23_2, g_23_5, g_23_8, g_23_9, g_23_12, g_23_13, g_23_14, g_23_17, g_23_18, g_23_19, g_23_22, g_23_25, g_23_26, g_23_29, g_23_30, g_23_31, g_23_34, g_23_35, g_23_36, g_23_39, g_23_42, g_23_43, kv_w8_0, kv_w8_1, kv_w8_2, kv_w8_3, kv_w8_4, Nat.not_lt_zero, Bool.false_eq_true, Option.toList_some, Option.toList_none, List.cons_append, List.nil_append, kv_rv, kc1_i, kc1_r, kc1_n, n10, n01, n1514, n1213, n1312, if_true, if_false, not_true_eq_false, not_false_eq_true, and_self, true_and, and_true, false_and, and_false, or_true, true_or, or_false, false_or, Nat.reduceLeDiff, Nat.reduceLT, Nat.reduceEqDiff, Nat.reduceAdd, ari_cl, m_isFunction_c h, hk, hp, hf0, c1, c2', c3, c4, m_sheetCount h hf16 hw e, m_sheetSize h hf16 hw e, sT h hf16, rT h hf16, s_8 h, s_9 h, r_8_0 h, (show f < 16 by omega), (show f < 2147483648 by omega)]
    · have c2' : Int32.ofNat (max 1 (2 ^ w / 8)) ≤ s := by rw [← Int32.not_lt]; exact c2
      simp only [c_23, g_23_0, g_23_1, g_23_2, g_23_5, g_23_8, g_23_9, g_23_12, g_23_13, g_23_14, g_23_17, g_23_18, g_23_19, g_23_22, g_23_25, g_23_26, g_23_29, g_23_30, g_23_31, g_23_34, g_23_35, g_23_36, g_23_39, g_23_42, g_23_43, kv_w8_0, kv_w8_1, kv_w8_2, kv_w8_3, kv_w8_4, Nat.not_lt_zero, Bool.false_eq_true, Option.toList_some, Option.toList_none, List.cons_append, List.nil_append, kv_rv, kc1_i, kc1_r, kc1_n, n10, n01, n1514, n1213, n1312, if_true, if_false, not_true_eq_false, not_false_eq_true, and_self, true_and, and_true, false_and, and_false, or_true, true_or, or_false, false_or, Nat.reduceLeDiff, Nat.reduceLT, Nat.reduceEqDiff, Nat.reduceAdd, ari_cl, m_isFunction_c h, hk, hp, hf0, c1, c2', m_sheetCount h hf16 hw e, sT h hf16, rT h hf16, s_8 h, s_9 h, r_8_0 h, (show f < 16 by omega), (show f < 2147483648 by omega)]
theorem m_tear_mb (h : JS σ) {F f w : Nat} {s c : Int32} (hF : F ≤ 16) (hk : kv_i σ 149 1 = Int32.ofNat F) (hf : f < F) (hw : w ≤ 8) (h1w : 1 ≤ w) (e : kv_i σ 150 f = Int32.ofNat w) (hb : ¬ ((¬ s < 0 ∧ s < Int32.ofNat (max 1 (2 ^ w / 8))) ∧ (¬ c < 0 ∧ c ≤ Int32.ofNat (min 8 (2 ^ w))))) : Wc (d + 2) 131 [.ref 149, .int (Int32.ofNat f), .int s, .int c] σ Φ = Φ (some (.int (-1))) σ := by
  have hf16 : f < 16 := by omega
  have hp := nFr hF hf
  have hW := pw8 hw
  have q1 := (scn_w w hw h1w).1
  by_cases c1 : s < 0
  · simp only [c_131, g_131_0, g_131_1, g_131_2, g_131_5, g_131_8, g_131_9, g_131_12, g_131_13, g_131_14, g_131_15, g_131_18, g_131_20, g_131_21, g_131_23, g_131_24, g_131_27, g_131_28, g_131_31, g_131_32, g_131_33, g_131_34, g_131_37, g_131_40, g_131_41, kv_w8_0, kv_w8_1, kv_w8_2, kv_w8_3, kv_w8_4, Nat.not_lt_zero, Bool.false_eq_true, Option.toList_some, Option.toList_none, List.cons_append, List.nil_append, kv_rv, kc1_i, kc1_r, kc1_n, n10, n01, n1514, n1213, n1312, if_true, if_false, not_true_eq_false, not_false_eq_true, and_self, true_and, and_true, false_and, and_false, or_true, true_or, or_false, false_or, Nat.reduceLeDiff, Nat.reduceLT, Nat.reduceEqDiff, Nat.reduceAdd, m_isFunction_m h, hk, hp, c1, s_149 h]
  · by_cases c2 : s < Int32.ofNat (max 1 (2 ^ w / 8))
    · have c2' : ¬ Int32.ofNat (max 1 (2 ^ w / 8)) ≤ s := by rw [Int32.not_le]; exact c2
      by_cases c3 : c < 0
      · simp only [c_131, g_131_0, g_131_1, g_131_2, g_131_5, g_131_8, g_131_9, g_131_12, g_131_13, g_131_14, g_131_15, g_131_18, g_131_20, g_131_21, g_131_23, g_131_24, g_131_27, g_131_28, g_131_31, g_131_32, g_131_33, g_131_34, g_131_37, g_131_40, g_131_41, kv_w8_0, kv_w8_1, kv_w8_2, kv_w8_3, kv_w8_4, Nat.not_lt_zero, Bool.false_eq_true, Option.toList_some, Option.toList_none, List.cons_append, List.nil_append, kv_rv, kc1_i, kc1_r, kc1_n, n10, n01, n1514, n1213, n1312, if_true, if_false, not_true_eq_false, not_false_eq_true, and_self, true_and, and_true, false_and, and_false, or_true, true_or, or_false, false_or, Nat.reduceLeDiff, Nat.reduceLT, Nat.reduceEqDiff, Nat.reduceAdd, ari_al, ari_div, (show ¬ (8 : Int32) = 0 by decide), q1, m_isFunction_m h, hk, hp, c1, c2', c3, m_rows_m h hf16 hw e, s_149 h, (show 2 ^ w + 7 < 2147483648 by omega)]
      · have c4 : ¬ c ≤ Int32.ofNat (min 8 (2 ^ w)) := fun q => hb ⟨⟨c1, c2⟩, c3, q⟩
        simp only [c_131, g_131_0, g_131_1, g_131_2, g_131_5, g_131_8, g_131_9, g_131_12, g_131_13, g_131_14, g_131_15, g_131_18, g_131_20, g_131_21, g_131_23, g_131_24, g_131_27, g_131_28, g_131_31, g_131_32, g_131_33, g_131_34, g_131_37, g_131_40, g_131_41, kv_w8_0, kv_w8_1, kv_w8_2, kv_w8_3, kv_w8_4, Nat.not_lt_zero, Bool.false_eq_true, Option.toList_some, Option.toList_none, List.cons_append, List.nil_append, kv_rv, kc1_i, kc1_r, kc1_n, n10, n01, n1514, n1213, n1312, if_true, if_false, not_true_eq_false, not_false_eq_true, and_self, true_and, and_true, false_and, and_false, or_true, true_or, or_false, false_or, Nat.reduceLeDiff, Nat.reduceLT, Nat.reduceEqDiff, Nat.reduceAdd, ari_al, ari_div, (show ¬ (8 : Int32) = 0 by decide), q1, m_isFunction_m h, hk, hp, c1, c2', c3, c4, m_rows_m h hf16 hw e, m_sheetSize_m h hf16 hw e, s_149 h, (show 2 ^ w + 7 < 2147483648 by omega)]
    · have c2' : Int32.ofNat (max 1 (2 ^ w / 8)) ≤ s := by rw [← Int32.not_lt]; exact c2
      simp only [c_131, g_131_0, g_131_1, g_131_2, g_131_5, g_131_8, g_131_9, g_131_12, g_131_13, g_131_14, g_131_15, g_131_18, g_131_20, g_131_21, g_131_23, g_131_24, g_131_27, g_131_28, g_131_31, g_131_32, g_131_33, g_131_34, g_131_37, g_131_40, g_131_41, kv_w8_0, kv_w8_1, kv_w8_2, kv_w8_3, kv_w8_4, Nat.not_lt_zero, Bool.false_eq_true, Option.toList_some, Option.toList_none, List.cons_append, List.nil_append, kv_rv, kc1_i, kc1_r, kc1_n, n10, n01, n1514, n1213, n1312, if_true, if_false, not_true_eq_false, not_false_eq_true, and_self, true_and, and_true, false_and, and_false, or_true, true_or, or_false, false_or, Nat.reduceLeDiff, Nat.reduceLT, Nat.reduceEqDiff, Nat.reduceAdd, ari_al, ari_div, (show ¬ (8 : Int32) = 0 by decide), q1, m_isFunction_m h, hk, hp, c1, c2', m_rows_m h hf16 hw e, s_149 h, (show 2 ^ w + 7 < 2147483648 by omega)]
end TF
/-- promise 5: tear -/
theorem o_3 (d : Nat) : ob_3 JJ (d + 2) := by
  intro σ h p s c
  have h' := h
  obtain ⟨a1, a2, a3, ⟨F, hF, f1, f2, f3⟩, a5, a6, a7⟩ := h'
  by_cases hp : ¬ p < 0 ∧ p < Int32.ofNat F
  · obtain ⟨f, hf, rfl, ec⟩ := i32_nat (by omega) hp.1 hp.2
    obtain ⟨w, hj⟩ := f3 f hf
    have hj : JF1' σ f w := hj
    have hW := pw8 hj.2.1
    by_cases hb : (¬ s < 0 ∧ s < Int32.ofNat (max 1 (2 ^ w / 8))) ∧ (¬ c < 0 ∧ c ≤ Int32.ofNat (min 8 (2 ^ w)))
    · obtain ⟨s, hs, rfl, -⟩ := i32_nat (by omega) hb.1.1 hb.1.2
      obtain ⟨c, hc, rfl⟩ := i32_le_nat (by omega) hb.2
      obtain ⟨L, H, hLH, hC, hM⟩ := hj.fv
      obtain ⟨s32, s8⟩ := (scn_w w hj.2.1 hj.1).2 s hs
      obtain ⟨o, u, ho, hu, c1, c2, c3, c4⟩ := hC.2 s s32 s8
      rw [m_tear_c a1 hF f1 hf hj.2.1 hj.1 hj.2.2.1 hs hc c1 c2 c3]
      refine ⟨_, rfl, ?_⟩
      have hc8 : c ≤ 8 := by omega
      have cf := hC.tear hLH.le s32 s8 hc8 ho hu c2 c3 c4
      have fr : FR (fun b j => 38 + 4 * f ≤ b ∧ b ≤ 40 + 4 * f) σ (kv_si (kv_si (kv_si σ (40 + 4 * f) s (Int32.ofNat c)) (38 + 4 * f) s (Int32.ofNat (o % 2 ^ c))) (39 + 4 * f) s (Int32.ofNat (u % 2 ^ c))) := (((FR.rf _ σ).si (by omega)).si (by omega)).si (by omega)
      generalize kv_si (kv_si (kv_si σ (40 + 4 * f) s (Int32.ofNat c)) (38 + 4 * f) s (Int32.ofNat (o % 2 ^ c))) (39 + 4 * f) s (Int32.ofNat (u % 2 ^ c)) = τ at *
      have hM2 : MF τ f w L H := hM.fr fr hLH.2.1 hLH.le (fun b j q => by omega)
      have hLs := hLH.le s s32 s8
      rw [m_tear_m (fr.js a1) hF (by rw [fr.i (by omega)]; exact f2) hf hj.2.1 hj.1 hM2.1 hs hc hLs (hM2.2 s s32 s8).1]
      refine ⟨rfl, ?_⟩
      have mf := hM2.tear hLH.2.1 hLH.le s32 s8 hc8
      have fr3 : FR (fun b j => b = 151 ∧ 256 * f ≤ j ∧ j < 256 * f + 256 ∨ b = 152 ∧ j = 32 * f + s) τ (kv_si (kv_frg τ 151 (256 * f + 8 * s + L s) (c - L s) 0) 152 (32 * f + s) (Int32.ofNat c)) := (frg_fr (FR.rf _ τ) (fun j q1 q2 => by omega)).si (by omega)
      refine JJ.fun (f := f) (w := w) ((fr.mono (Q := fun b j => 38 + 4 * f ≤ b ∧ b ≤ 40 + 4 * f ∨ b = 151 ∧ 256 * f ≤ j ∧ j < 256 * f + 256 ∨ b = 152 ∧ j = 32 * f + s) (fun b j q => Or.inl q)).tr (fr3.mono (fun b j q => Or.inr q))) (by omega) (fun b j q => Or.inl (by unfold cFf; omega)) (FV.jf (hLH.tear hc8 (by omega)) ?_ mf) h
      exact cf.fr fr3 (fun b j q => by omega)
    · rw [m_tear_cb a1 hF f1 hf hj.2.1 hj.2.2.1 hb]
      refine ⟨_, rfl, ?_⟩
      rw [m_tear_mb a1 hF f2 hf hj.2.1 hj.1 hj.2.2.2.1 hb]
      exact ⟨rfl, h⟩
  · simp only [c_23, g_23_0, g_23_1, g_23_2, g_23_5, g_23_8, g_23_9, g_23_12, g_23_13, g_23_14, g_23_17, g_23_18, g_23_19, g_23_22, g_23_25, g_23_26, g_23_29, g_23_30, g_23_31, g_23_34, g_23_35, g_23_36, g_23_39, g_23_42, g_23_43, kv_w8_0, kv_w8_1, kv_w8_2, kv_w8_3, kv_w8_4, Nat.not_lt_zero, Bool.false_eq_true, Option.toList_some, Option.toList_none, List.cons_append, List.nil_append, kv_rv, kc1_i, kc1_r, kc1_n, n10, n01, n1514, n1213, n1312, if_true, if_false, not_true_eq_false, not_false_eq_true, and_self, true_and, and_true, false_and, and_false, or_true, true_or, or_false, false_or, Nat.reduceLeDiff, Nat.reduceLT, Nat.reduceEqDiff, Nat.reduceAdd, m_isFunction_c a1, f1, hp, s_8 a1]
    refine ⟨_, rfl, ?_⟩
    simp only [c_131, g_131_0, g_131_1, g_131_2, g_131_5, g_131_8, g_131_9, g_131_12, g_131_13, g_131_14, g_131_15, g_131_18, g_131_20, g_131_21, g_131_23, g_131_24, g_131_27, g_131_28, g_131_31, g_131_32, g_131_33, g_131_34, g_131_37, g_131_40, g_131_41, kv_w8_0, kv_w8_1, kv_w8_2, kv_w8_3, kv_w8_4, Nat.not_lt_zero, Bool.false_eq_true, Option.toList_some, Option.toList_none, List.cons_append, List.nil_append, kv_rv, kc1_i, kc1_r, kc1_n, n10, n01, n1514, n1213, n1312, if_true, if_false, not_true_eq_false, not_false_eq_true, and_self, true_and, and_true, false_and, and_false, or_true, true_or, or_false, false_or, Nat.reduceLeDiff, Nat.reduceLT, Nat.reduceEqDiff, Nat.reduceAdd, m_isFunction_m a1, f2, hp, s_149 a1]
    exact h

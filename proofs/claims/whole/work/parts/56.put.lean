/-! ===== put ===== -/
section PU
variable {d : Nat} {σ : kv_S} {Φ : Option Value → kv_S → Prop}
theorem up1_ne {H : Nat → Nat} {r v x : Nat} (h : ¬ x = r) : up1 H r v x = H x := if_neg h
theorem up1_eq {H : Nat → Nat} {r v x : Nat} (h : x = r) : up1 H r v x = v := if_pos h
/-- the class holds a value at a row -/
theorem m_hold (h : JS σ) {f w row v : Nat} {L H : Nat → Nat} (hf : f < 16) (hw : w ≤ 8) (hL : ∀ s, s < 32 → 8 * s < 2 ^ w → L s ≤ 8) (hc : CF σ f w L H) (hr : row < 2 ^ w) (hl : row % 8 < L (row / 8)) (hv : v ≤ 2) (HΦ : ∀ τ, FR (fun b j => (b = 38 + 4 * f ∨ b = 39 + 4 * f) ∧ j = row / 8) σ τ → CF τ f w L (up1 H row v) → Φ none τ) : Wc d 21 [.ref (37 + 4 * f), .int (Int32.ofNat row), .int (Int32.ofNat v)] σ Φ := by
  have hW := pw8 hw
  obtain ⟨o, u, ho, hu, c1, c2, c3, c4⟩ := hc.2 (row / 8) (by omega) (by omega)
  have d1 := clr_i o ho (row % 8) (by omega)
  have d2 := clr_i u hu (row % 8) (by omega)
  have d3 := clr_tb o ho (row % 8) (by omega)
  have d4 := clr_tb u hu (row % 8) (by omega)
  have d5 := clr_f ho (show row % 8 < 8 by omega)
  have d6 := clr_f hu (show row % 8 < 8 by omega)
  have key : ∀ (τ : kv_S) (o' u' : Nat), FR (fun b j => (b = 38 + 4 * f ∨ b = 39 + 4 * f) ∧ j = row / 8) σ τ → kv_i τ (38 + 4 * f) (row / 8) = Int32.ofNat o' → kv_i τ (39 + 4 * f) (row / 8) = Int32.ofNat u' → o' < 256 → u' < 256 → (∀ q, o'.testBit q = if q = row % 8 then decide (v = 1) else o.testBit q) → (∀ q, u'.testBit q = if q = row % 8 then decide (v = 2) else u.testBit q) → Φ none τ := by
    intro τ o' u' fr e1 e2 b1 b2 t1 t2
    refine HΦ τ fr ⟨(fr.i (by omega)).trans hc.1, fun s hs h8 => ?_⟩
    have hLs := hL s hs h8
    by_cases es : s = row / 8
    · subst es
      refine ⟨o', u', b1, b2, (fr.i (by omega)).trans c1, e1, e2, fun p => ?_⟩
      rw [t1, t2]
      by_cases ep : p = row % 8
      · rw [if_pos ep, if_pos ep, up1_eq (by omega), decide_eq_true (by omega : p < L (row / 8))]
        simp
      · rw [if_neg ep, if_neg ep, (c4 p).1, (c4 p).2]
        by_cases cp : p < L (row / 8)
        · rw [up1_ne (by omega)]; exact ⟨rfl, rfl⟩
        · rw [decide_eq_false cp]; exact ⟨rfl, rfl⟩
    · rw [fr.i (by omega), fr.i (by omega), fr.i (by omega)]
      obtain ⟨o2, u2, k1, k2, k3, k4, k5, k6⟩ := hc.2 s hs h8
      refine ⟨o2, u2, k1, k2, k3, k4, k5, fun p => ?_⟩
      rw [(k6 p).1, (k6 p).2]
      by_cases cp : p < L s
      · rw [up1_ne (by omega)]; exact ⟨rfl, rfl⟩
      · rw [decide_eq_false cp]; exact ⟨rfl, rfl⟩
  have hv3 : v = 0 ∨ v = 1 ∨ v = 2 := by omega
  rcases hv3 with rfl | rfl | rfl
  · simp only [c_21, g_21_0, g_21_1, g_21_2, g_21_3, g_21_4, g_21_5, g_21_6, g_21_8, g_21_9, g_21_10, g_21_12, g_21_13, g_21_16, g_21_17, g_21_18, g_21_19, g_21_21, g_21_22, g_21_23, g_21_24, g_21_25, g_21_26, g_21_29, g_21_30, g_21_31, g_21_32, g_21_34, g_21_35, g_21_36, g_21_37, g_21_38, g_21_39, g_21_40, g_21_43, g_21_44, g_21_47, g_21_48, g_21_49, g_21_50, g_21_52, g_21_53, g_21_54, g_21_57, g_21_58, g_21_59, g_21_62, g_21_63, g_21_66, g_21_67, g_21_68, g_21_69, g_21_71, g_21_72, g_21_73, kv_w8_0, kv_w8_1, kv_w8_2, kv_w8_3, kv_w8_4, n_si, n_sl, n_sr, n_mk, sh_si, sh_sl, sh_sr, sh_mk, i_si, i_sl, i_sr, i_mk, l_si, l_sl, l_sr, l_mk, r_si, r_sl, r_sr, r_mk, ari_aa, ari_al, ari_la, ari_mm, ari_ml, ari_lm, ari_ltl, ari_llt, ari_lt, ari_le, ari_lel, ari_lle, ari_0, ari_eq, ari_eql, ari_leq, ari_cl, Nat.not_lt_zero, Bool.false_eq_true, Option.toList_some, Option.toList_none, List.cons_append, List.nil_append, kv_rv, kc1_i, kc1_r, kc1_n, n10, n01, n1514, n1213, n1312, if_true, if_false, not_true_eq_false, not_false_eq_true, and_self, true_and, and_true, false_and, and_false, or_true, true_or, or_false, false_or, Nat.reduceLeDiff, Nat.reduceLT, Nat.reduceEqDiff, Nat.reduceAdd, ari_l31, ari_31, ari_sh, ari_7, ari_1shl, Nat.reducePow, sT h hf, sO h hf, rO h hf, sF h hf, rF h hf, c2, c3, d1, d2, (show row < 2147483648 by omega), (show row / 8 < 32 by omega), (show row / 8 < 2147483648 by omega), (show row % 8 < 8 by omega), (show row % 8 < 2147483648 by omega), (show row % 8 < 31 by omega), (show row % 8 < 2147483648 by omega), (show row % 8 < 32 by omega), (show row % 8 < 2147483648 by omega), (show 8 ≤ 38 + 4 * f by omega), (show 8 ≤ 39 + 4 * f by omega), (show ¬ (39 + 4 * f = 38 + 4 * f) by omega)]
    refine key _ (clr o (row % 8)) (clr u (row % 8)) (((FR.rf _ σ).si (by omega)).si (by omega)) (by simp (disch := omega) only [ne_ess, eq_ess]) (by simp (disch := omega) only [ne_ess, eq_ess]) d3.1 d4.1 (fun q => ?_) (fun q => ?_)
    · rw [(d5 q).1]; by_cases e : q = row % 8 <;> simp [e]
    · rw [(d6 q).1]; by_cases e : q = row % 8 <;> simp [e]
  · simp only [c_21, g_21_0, g_21_1, g_21_2, g_21_3, g_21_4, g_21_5, g_21_6, g_21_8, g_21_9, g_21_10, g_21_12, g_21_13, g_21_16, g_21_17, g_21_18, g_21_19, g_21_21, g_21_22, g_21_23, g_21_24, g_21_25, g_21_26, g_21_29, g_21_30, g_21_31, g_21_32, g_21_34, g_21_35, g_21_36, g_21_37, g_21_38, g_21_39, g_21_40, g_21_43, g_21_44, g_21_47, g_21_48, g_21_49, g_21_50, g_21_52, g_21_53, g_21_54, g_21_57, g_21_58, g_21_59, g_21_62, g_21_63, g_21_66, g_21_67, g_21_68, g_21_69, g_21_71, g_21_72, g_21_73, kv_w8_0, kv_w8_1, kv_w8_2, kv_w8_3, kv_w8_4, n_si, n_sl, n_sr, n_mk, sh_si, sh_sl, sh_sr, sh_mk, i_si, i_sl, i_sr, i_mk, l_si, l_sl, l_sr, l_mk, r_si, r_sl, r_sr, r_mk, ari_aa, ari_al, ari_la, ari_mm, ari_ml, ari_lm, ari_ltl, ari_llt, ari_lt, ari_le, ari_lel, ari_lle, ari_0, ari_eq, ari_eql, ari_leq, ari_cl, Nat.not_lt_zero, Bool.false_eq_true, Option.toList_some, Option.toList_none, List.cons_append, List.nil_append, kv_rv, kc1_i, kc1_r, kc1_n, n10, n01, n1514, n1213, n1312, if_true, if_false, not_true_eq_false, not_false_eq_true, and_self, true_and, and_true, false_and, and_false, or_true, true_or, or_false, false_or, Nat.reduceLeDiff, Nat.reduceLT, Nat.reduceEqDiff, Nat.reduceAdd, ari_l31, ari_31, ari_sh, ari_7, ari_1shl, ari_or, Nat.reducePow, sT h hf, sO h hf, rO h hf, sF h hf, rF h hf, c2, c3, d1, d2, (show row < 2147483648 by omega), (show row / 8 < 32 by omega), (show row / 8 < 2147483648 by omega), (show row % 8 < 8 by omega), (show row % 8 < 2147483648 by omega), (show row % 8 < 31 by omega), (show row % 8 < 2147483648 by omega), (show row % 8 < 32 by omega), (show row % 8 < 2147483648 by omega), (show 8 ≤ 38 + 4 * f by omega), (show 8 ≤ 39 + 4 * f by omega), (show ¬ (39 + 4 * f = 38 + 4 * f) by omega), (show ¬ (38 + 4 * f = 39 + 4 * f) by omega)]
    refine key _ (clr o (row % 8) ||| 2 ^ (row % 8)) (clr u (row % 8)) ((((FR.rf _ σ).si (by omega)).si (by omega)).si (by omega)) (by simp (disch := omega) only [ne_ess, eq_ess]) (by simp (disch := omega) only [ne_ess, eq_ess]) d3.2.1 d4.1 (fun q => ?_) (fun q => ?_)
    · rw [(d5 q).2]; by_cases e : q = row % 8 <;> simp [e]
    · rw [(d6 q).1]; by_cases e : q = row % 8 <;> simp [e]
  · simp only [c_21, g_21_0, g_21_1, g_21_2, g_21_3, g_21_4, g_21_5, g_21_6, g_21_8, g_21_9, g_21_10, g_21_12, g_21_13, g_21_16, g_21_17, g_21_18, g_21_19, g_21_21, g_21_22, g_21_23, g_21_24, g_21_25, g_21_26, g_21_29, g_21_30, g_21_31, g_21_32, g_21_34, g_21_35, g_21_36, g_21_37, g_21_38, g_21_39, g_21_40, g_21_43, g_21_44, g_21_47, g_21_48, g_21_49, g_21_50, g_21_52, g_21_53, g_21_54, g_21_57, g_21_58, g_21_59, g_21_62, g_21_63, g_21_66, g_21_67, g_21_68, g_21_69, g_21_71, g_21_72, g_21_73, kv_w8_0, kv_w8_1, kv_w8_2, kv_w8_3, kv_w8_4, n_si, n_sl, n_sr, n_mk, sh_si, sh_sl, sh_sr, sh_mk, i_si, i_sl, i_sr, i_mk, l_si, l_sl, l_sr, l_mk, r_si, r_sl, r_sr, r_mk, ari_aa, ari_al, ari_la, ari_mm, ari_ml, ari_lm, ari_ltl, ari_llt, ari_lt, ari_le, ari_lel, ari_lle, ari_0, ari_eq, ari_eql, ari_leq, ari_cl, Nat.not_lt_zero, Bool.false_eq_true, Option.toList_some, Option.toList_none, List.cons_append, List.nil_append, kv_rv, kc1_i, kc1_r, kc1_n, n10, n01, n1514, n1213, n1312, if_true, if_false, not_true_eq_false, not_false_eq_true, and_self, true_and, and_true, false_and, and_false, or_true, true_or, or_false, false_or, Nat.reduceLeDiff, Nat.reduceLT, Nat.reduceEqDiff, Nat.reduceAdd, ari_l31, ari_31, ari_sh, ari_7, ari_1shl, ari_or, Nat.reducePow, sT h hf, sO h hf, rO h hf, sF h hf, rF h hf, c2, c3, d1, d2, (show row < 2147483648 by omega), (show row / 8 < 32 by omega), (show row / 8 < 2147483648 by omega), (show row % 8 < 8 by omega), (show row % 8 < 2147483648 by omega), (show row % 8 < 31 by omega), (show row % 8 < 2147483648 by omega), (show row % 8 < 32 by omega), (show row % 8 < 2147483648 by omega), (show 8 ≤ 38 + 4 * f by omega), (show 8 ≤ 39 + 4 * f by omega), (show ¬ (39 + 4 * f = 38 + 4 * f) by omega), (show ¬ (38 + 4 * f = 39 + 4 * f) by omega)]
    refine key _ (clr o (row % 8)) (clr u (row % 8) ||| 2 ^ (row % 8)) ((((FR.rf _ σ).si (by omega)).si (by omega)).si (by omega)) (by simp (disch := omega) only [ne_ess, eq_ess]) (by simp (disch := omega) only [ne_ess, eq_ess]) d3.1 d4.2.1 (fun q => ?_) (fun q => ?_)
    · rw [(d5 q).1]; by_cases e : q = row % 8 <;> simp [e]
    · rw [(d6 q).2]; by_cases e : q = row % 8 <;> simp [e]
/-- the model's places take a value -/
theorem MF.put {f w row v : Nat} {L H : Nat → Nat} (hw : w ≤ 8) (hL : ∀ s, s < 32 → 8 * s < 2 ^ w → L s ≤ 8) (hm : MF σ f w L H) (hr : row < 2 ^ w) : MF (kv_si σ 151 (256 * f + row) (Int32.ofNat v)) f w L (up1 H row v) := by
  have hW := pw8 hw
  refine ⟨(ne_ess (by omega)).trans hm.1, fun s hs h8 => ⟨(ne_ess (by omega)).trans (hm.2 s hs h8).1, fun p hp => ?_⟩⟩
  have := hL s hs h8
  by_cases e : 8 * s + p = row
  · rw [eq_ess ⟨rfl, by omega⟩, up1_eq e]
  · rw [ne_ess (by omega), up1_ne e]; exact (hm.2 s hs h8).2 p hp
theorem i2b2 : ∀ v, v ≤ 2 → (Int32.ofNat v).toInt8.toInt32 = Int32.ofNat v ∧ vp_nar .byte (Int32.ofNat v) = Int32.ofNat v := by decide
end PU

/-! ===== function ===== -/
theorem fil_r (σ : kv_S) (a n : Nat) (v : Int32) : kv_r (kv_fil σ a n v) = kv_r σ := Eq.trans rfl rfl
theorem fil_fr {P : Nat → Nat → Prop} {σ τ : kv_S} (h : FR P σ τ) {a n : Nat} {v : Int32} (hp : ∀ j, j < n → P a j) : FR P σ (kv_fil τ a n v) := ⟨h.1, h.2.1, fun b j hb => by rw [fil_i, if_neg (fun w => hb (by rw [w.1]; exact hp j w.2))]; exact h.2.2.1 b j hb, fun b j hb => h.2.2.2 b j hb⟩
section FU
variable {d : Nat} {σ : kv_S} {Φ : Option Value → kv_S → Prop}
theorem m_tbegin (h : JS σ) {f w : Nat} (hf : f < 16) (hw : w ≤ 8) : Wc (d + 2) 11 [.ref (37 + 4 * f), .int (Int32.ofNat w)] σ Φ = Φ none (kv_fil (kv_fil (kv_fil (kv_si σ (37 + 4 * f) 3 (Int32.ofNat w)) (38 + 4 * f) 32 0) (39 + 4 * f) 32 0) (40 + 4 * f) 32 (Int32.ofNat (min 8 (2 ^ w)))) := by
  have h1 := h.si (37 + 4 * f) 3 (Int32.ofNat w)
  have h3 : JS (kv_fil (kv_fil (kv_si σ (37 + 4 * f) 3 (Int32.ofNat w)) (38 + 4 * f) 32 0) (39 + 4 * f) 32 0) := (h1.fil _ _ _).fil _ _ _
  have e : kv_i (kv_fil (kv_fil (kv_si σ (37 + 4 * f) 3 (Int32.ofNat w)) (38 + 4 * f) 32 0) (39 + 4 * f) 32 0) (37 + 4 * f) 3 = Int32.ofNat w := by rw [fil_i, if_neg (by omega), fil_i, if_neg (by omega), eq_ess ⟨rfl, rfl⟩]
  simp only [c_11, g_11_0, g_11_1, g_11_2, g_11_5, g_11_6, g_11_9, g_11_10, g_11_13, g_11_14, g_11_17, g_11_18, g_11_21, g_11_22, g_11_25, g_11_26, g_11_29, g_11_32, kv_w8_0, kv_w8_1, kv_w8_2, kv_w8_3, kv_w8_4, n_si, n_sl, n_sr, n_mk, sh_si, sh_sl, sh_sr, sh_mk, i_si, i_sl, i_sr, i_mk, l_si, l_sl, l_sr, l_mk, r_si, r_sl, r_sr, r_mk, Nat.not_lt_zero, Bool.false_eq_true, Option.toList_some, Option.toList_none, List.cons_append, List.nil_append, kv_rv, kc1_i, kc1_r, kc1_n, n10, n01, n1514, n1213, n1312, if_true, if_false, not_true_eq_false, not_false_eq_true, and_self, true_and, and_true, false_and, and_false, or_true, true_or, or_false, false_or, Nat.reduceLeDiff, Nat.reduceLT, Nat.reduceEqDiff, Nat.reduceAdd, fil_sh, fil_r, sT h hf, rO h hf, rF h hf, rL h hf, m_fill _ (38 + 4 * f) 32 0 (by omega) (sO h1 hf) (by decide), m_fill _ (39 + 4 * f) 32 0 (by omega) (sF (h1.fil _ _ _) hf) (by decide), m_sheetSize h3 hf hw e, m_fill _ (40 + 4 * f) 32 (Int32.ofNat (min 8 (2 ^ w))) (by omega) (sL h3 hf) (by decide), (show 8 ≤ 37 + 4 * f by omega)]
theorem m_func_c (h : JS σ) {F w : Nat} (hF : F < 16) (hk : kv_i σ 8 9 = Int32.ofNat F) (hw : w ≤ 8) (h1 : 1 ≤ w) : Wc (d + 3) 10 [.ref 8, .int (Int32.ofNat w)] σ Φ = Φ (some (.int (Int32.ofNat F))) (kv_si (kv_fil (kv_fil (kv_fil (kv_si σ (37 + 4 * F) 3 (Int32.ofNat w)) (38 + 4 * F) 32 0) (39 + 4 * F) 32 0) (40 + 4 * F) 32 (Int32.ofNat (min 8 (2 ^ w)))) 8 9 (Int32.ofNat (F + 1))) := by
  simp only [c_10, g_10_0, g_10_1, g_10_2, g_10_5, g_10_6, g_10_8, g_10_11, g_10_12, g_10_13, g_10_14, g_10_17, g_10_19, g_10_22, g_10_24, g_10_25, g_10_26, g_10_29, g_10_30, g_10_33, g_10_34, g_10_35, g_10_38, g_10_39, g_10_39r, g_10_40, g_10_43, g_10_44, g_10_45, g_10_48, g_10_49, g_10_52, g_10_53, g_10_54, kv_w8_0, kv_w8_1, kv_w8_2, kv_w8_3, kv_w8_4, n_si, n_sl, n_sr, n_mk, sh_si, sh_sl, sh_sr, sh_mk, i_si, i_sl, i_sr, i_mk, l_si, l_sl, l_sr, l_mk, r_si, r_sl, r_sr, r_mk, ari_aa, ari_al, ari_la, ari_mm, ari_ml, ari_lm, ari_ltl, ari_llt, ari_lt, ari_le, ari_lel, ari_lle, ari_0, ari_eq, ari_eql, ari_leq, ari_cl, Nat.not_lt_zero, Bool.false_eq_true, Option.toList_some, Option.toList_none, List.cons_append, List.nil_append, kv_rv, kc1_i, kc1_r, kc1_n, n10, n01, n1514, n1213, n1312, if_true, if_false, not_true_eq_false, not_false_eq_true, and_self, true_and, and_true, false_and, and_false, or_true, true_or, or_false, false_or, Nat.reduceLeDiff, Nat.reduceLT, Nat.reduceEqDiff, Nat.reduceAdd, fil_sh, fil_r, fil_i, hk, m_tbegin h hF hw, sT h hF, rT h hF, s_8 h, s_9 h, r_8_0 h, ari_sl, Nat.add_sub_cancel, (show F < 16 by omega), (show F < 2147483648 by omega), (show w < 9 by omega), (show w < 2147483648 by omega), (show w ≤ 8 by omega), (show ¬ w < 1 by omega), (show 1 ≤ F + 1 by omega), (show ¬ (8 = 38 + 4 * F) by omega), (show ¬ (8 = 39 + 4 * F) by omega), (show ¬ (8 = 40 + 4 * F) by omega), (show ¬ (8 = 37 + 4 * F) by omega)]
theorem func_loop1 (h : JS σ) {F : Nat} {w : Int32} (hF : F < 16) : ∀ m n, n + m = 256 → Wp d 123 49 [.ref 149, .int w, .int (Int32.ofNat F), .int (Int32.ofNat n)] [] (kv_frg σ 151 (256 * F) n 0) Φ = Wp d 123 75 [.ref 149, .int w, .int (Int32.ofNat F), .int (Int32.ofNat 256)] [] (kv_frg σ 151 (256 * F) 256 0) Φ
  | 0, n, e => by
    have e2 : n = 256 := by omega
    subst e2
    simp only [g_123_49, g_123_50, g_123_53, ari_aa, ari_al, ari_la, ari_mm, ari_ml, ari_lm, ari_ltl, ari_llt, ari_lt, ari_le, ari_lel, ari_lle, ari_0, ari_eq, ari_eql, ari_leq, ari_cl, Nat.not_lt_zero, Bool.false_eq_true, Option.toList_some, Option.toList_none, List.cons_append, List.nil_append, kv_rv, kc1_i, kc1_r, kc1_n, n10, n01, n1514, n1213, n1312, if_true, if_false, not_true_eq_false, not_false_eq_true, and_self, true_and, and_true, false_and, and_false, or_true, true_or, or_false, false_or, Nat.reduceLeDiff, Nat.reduceLT, Nat.reduceEqDiff, Nat.reduceAdd]
  | m + 1, n, e => by
    simp only [g_123_49, g_123_50, g_123_53, ari_aa, ari_al, ari_la, ari_mm, ari_ml, ari_lm, ari_ltl, ari_llt, ari_lt, ari_le, ari_lel, ari_lle, ari_0, ari_eq, ari_eql, ari_leq, ari_cl, Nat.not_lt_zero, Bool.false_eq_true, Option.toList_some, Option.toList_none, List.cons_append, List.nil_append, kv_rv, kc1_i, kc1_r, kc1_n, n10, n01, n1514, n1213, n1312, if_true, if_false, not_true_eq_false, not_false_eq_true, and_self, true_and, and_true, false_and, and_false, or_true, true_or, or_false, false_or, Nat.reduceLeDiff, Nat.reduceLT, Nat.reduceEqDiff, Nat.reduceAdd, (show n < 256 by omega), (show n < 2147483648 by omega), (show ¬ 256 ≤ n by omega)]
    simp only [g_123_56, g_123_57, g_123_60, g_123_63, g_123_64, g_123_65, g_123_66, g_123_67, g_123_68, g_123_69, g_123_72, ari_aa, ari_al, ari_la, ari_mm, ari_ml, ari_lm, ari_ltl, ari_llt, ari_lt, ari_le, ari_lel, ari_lle, ari_0, ari_eq, ari_eql, ari_leq, ari_cl, Nat.not_lt_zero, Bool.false_eq_true, Option.toList_some, Option.toList_none, List.cons_append, List.nil_append, kv_rv, kc1_i, kc1_r, kc1_n, n10, n01, n1514, n1213, n1312, if_true, if_false, not_true_eq_false, not_false_eq_true, and_self, true_and, and_true, false_and, and_false, or_true, true_or, or_false, false_or, Nat.reduceLeDiff, Nat.reduceLT, Nat.reduceEqDiff, Nat.reduceAdd, frg_sh, frg_r, s_149 h, s_151 h, r_149_3 h, (show vp_nar .byte (0 : Int32) = 0 from rfl), (show 256 * F + n < 4096 by omega), (show 256 * F + n < 2147483648 by omega), frg_s]
    exact func_loop1 h hF m (n + 1) (by omega)
theorem func_loop2 (h : JS σ) {F w : Nat} (hF : F < 16) (hw : w ≤ 8) (e : kv_i σ 150 F = Int32.ofNat w) : ∀ m n, n + m = 32 → Wp (d + 2) 123 77 [.ref 149, .int (Int32.ofNat w), .int (Int32.ofNat F), .int (Int32.ofNat n)] [] (kv_frg σ 152 (32 * F) n (Int32.ofNat (min 8 (2 ^ w)))) Φ = Φ (some (.int (Int32.ofNat F))) (kv_frg σ 152 (32 * F) 32 (Int32.ofNat (min 8 (2 ^ w))))
  | 0, n, e1 => by
    have e2 : n = 32 := by omega
    subst e2
    simp only [g_123_77, g_123_78, g_123_80, g_123_105, g_123_106, ari_aa, ari_al, ari_la, ari_mm, ari_ml, ari_lm, ari_ltl, ari_llt, ari_lt, ari_le, ari_lel, ari_lle, ari_0, ari_eq, ari_eql, ari_leq, ari_cl, Nat.not_lt_zero, Bool.false_eq_true, Option.toList_some, Option.toList_none, List.cons_append, List.nil_append, kv_rv, kc1_i, kc1_r, kc1_n, n10, n01, n1514, n1213, n1312, if_true, if_false, not_true_eq_false, not_false_eq_true, and_self, true_and, and_true, false_and, and_false, or_true, true_or, or_false, false_or, Nat.reduceLeDiff, Nat.reduceLT, Nat.reduceEqDiff, Nat.reduceAdd]
  | m + 1, n, e1 => by
    have e' : kv_i (kv_frg σ 152 (32 * F) n (Int32.ofNat (min 8 (2 ^ w)))) 150 F = Int32.ofNat w := by rw [frg_i, if_neg (by omega)]; exact e
    simp only [g_123_77, g_123_78, g_123_80, ari_aa, ari_al, ari_la, ari_mm, ari_ml, ari_lm, ari_ltl, ari_llt, ari_lt, ari_le, ari_lel, ari_lle, ari_0, ari_eq, ari_eql, ari_leq, ari_cl, Nat.not_lt_zero, Bool.false_eq_true, Option.toList_some, Option.toList_none, List.cons_append, List.nil_append, kv_rv, kc1_i, kc1_r, kc1_n, n10, n01, n1514, n1213, n1312, if_true, if_false, not_true_eq_false, not_false_eq_true, and_self, true_and, and_true, false_and, and_false, or_true, true_or, or_false, false_or, Nat.reduceLeDiff, Nat.reduceLT, Nat.reduceEqDiff, Nat.reduceAdd, (show n < 32 by omega), (show n < 2147483648 by omega), (show ¬ 32 ≤ n by omega)]
    simp only [g_123_83, g_123_84, g_123_87, g_123_89, g_123_90, g_123_91, g_123_92, g_123_93, g_123_94, g_123_95, g_123_98, g_123_99, g_123_102, kv_w8_0, kv_w8_1, kv_w8_2, kv_w8_3, kv_w8_4, ari_aa, ari_al, ari_la, ari_mm, ari_ml, ari_lm, ari_ltl, ari_llt, ari_lt, ari_le, ari_lel, ari_lle, ari_0, ari_eq, ari_eql, ari_leq, ari_cl, Nat.not_lt_zero, Bool.false_eq_true, Option.toList_some, Option.toList_none, List.cons_append, List.nil_append, kv_rv, kc1_i, kc1_r, kc1_n, n10, n01, n1514, n1213, n1312, if_true, if_false, not_true_eq_false, not_false_eq_true, and_self, true_and, and_true, false_and, and_false, or_true, true_or, or_false, false_or, Nat.reduceLeDiff, Nat.reduceLT, Nat.reduceEqDiff, Nat.reduceAdd, m_sheetSize_m (h.frg _ _ _ _) hF hw e', frg_sh, frg_r, s_149 h, s_152 h, r_149_4 h, (show 32 * F + n < 512 by omega), (show 32 * F + n < 2147483648 by omega), frg_s]
    exact func_loop2 h hF hw e m (n + 1) (by omega)
theorem m_func_m (h : JS σ) {F w : Nat} (hF : F < 16) (hk : kv_i σ 149 1 = Int32.ofNat F) (hw : w ≤ 8) (h1 : 1 ≤ w) : Wc (d + 2) 123 [.ref 149, .int (Int32.ofNat w)] σ Φ = Φ (some (.int (Int32.ofNat F))) (kv_frg (kv_frg (kv_si (kv_si σ 150 F (Int32.ofNat w)) 149 1 (Int32.ofNat (F + 1))) 151 (256 * F) 256 0) 152 (32 * F) 32 (Int32.ofNat (min 8 (2 ^ w)))) := by
  have hs : JS (kv_si (kv_si σ 150 F (Int32.ofNat w)) 149 1 (Int32.ofNat (F + 1))) := (h.si _ _ _).si _ _ _
  have hl := func_loop1 (d := d + 2) (Φ := Φ) (w := Int32.ofNat w) hs hF 256 0 (by omega)
  have hl2 := func_loop2 (d := d) (Φ := Φ) (hs.frg 151 (256 * F) 256 0) hF hw (by rw [frg_i, if_neg (by omega), ne_ess (by omega), eq_ess ⟨rfl, rfl⟩]) 32 0 (by omega)
  simp only [frg_0] at hl hl2
  simp only [c_123, g_123_0, g_123_1, g_123_2, g_123_5, g_123_6, g_123_8, g_123_11, g_123_12, g_123_13, g_123_14, g_123_17, g_123_19, g_123_22, g_123_24, g_123_25, g_123_26, g_123_29, g_123_30, g_123_31, g_123_34, g_123_35, g_123_36, g_123_37, g_123_38, g_123_38r, g_123_39, g_123_42, g_123_43, g_123_44, g_123_47, g_123_48, kv_w8_0, kv_w8_1, kv_w8_2, kv_w8_3, kv_w8_4, n_si, n_sl, n_sr, n_mk, sh_si, sh_sl, sh_sr, sh_mk, i_si, i_sl, i_sr, i_mk, l_si, l_sl, l_sr, l_mk, r_si, r_sl, r_sr, r_mk, ari_aa, ari_al, ari_la, ari_mm, ari_ml, ari_lm, ari_ltl, ari_llt, ari_lt, ari_le, ari_lel, ari_lle, ari_0, ari_eq, ari_eql, ari_leq, ari_cl, Nat.not_lt_zero, Bool.false_eq_true, Option.toList_some, Option.toList_none, List.cons_append, List.nil_append, kv_rv, kc1_i, kc1_r, kc1_n, n10, n01, n1514, n1213, n1312, if_true, if_false, not_true_eq_false, not_false_eq_true, and_self, true_and, and_true, false_and, and_false, or_true, true_or, or_false, false_or, Nat.reduceLeDiff, Nat.reduceLT, Nat.reduceEqDiff, Nat.reduceAdd, hk, s_149 h, s_150 h, r_149_2 h, (show F < 16 by omega), (show F < 2147483648 by omega), (show w < 9 by omega), (show w < 2147483648 by omega), (show w ≤ 8 by omega), (show ¬ w < 1 by omega), (show ¬ F = 16 by omega), (show ¬ (149 = 150) by decide)]
  refine hl.trans ?_
  simp only [g_123_75, g_123_76, Nat.not_lt_zero, Bool.false_eq_true, Option.toList_some, Option.toList_none, List.cons_append, List.nil_append, kv_rv, kc1_i, kc1_r, kc1_n, n10, n01, n1514, n1213, n1312, if_true, if_false, not_true_eq_false, not_false_eq_true, and_self, true_and, and_true, false_and, and_false, or_true, true_or, or_false, false_or, Nat.reduceLeDiff, Nat.reduceLT, Nat.reduceEqDiff, Nat.reduceAdd]
  exact hl2
theorem m_func_cb {n : Int32} (hb : n < 1 ∨ ¬ n ≤ 8) : Wc (d + 3) 10 [.ref 8, .int n] σ Φ = Φ (some (.int (-1))) σ := by
  by_cases c : n < 1
  · simp only [c_10, g_10_0, g_10_1, g_10_2, g_10_5, g_10_6, g_10_8, g_10_11, g_10_12, c, if_true]
  · simp only [c_10, g_10_0, g_10_1, g_10_2, g_10_5, g_10_6, g_10_8, g_10_11, g_10_12, c, hb.resolve_left c, if_true, if_false]
theorem m_func_mb {n : Int32} (hb : n < 1 ∨ ¬ n ≤ 8) : Wc (d + 2) 123 [.ref 149, .int n] σ Φ = Φ (some (.int (-1))) σ := by
  by_cases c : n < 1
  · simp only [c_123, g_123_0, g_123_1, g_123_2, g_123_5, g_123_6, g_123_8, g_123_11, g_123_12, c, if_true]
  · simp only [c_123, g_123_0, g_123_1, g_123_2, g_123_5, g_123_6, g_123_8, g_123_11, g_123_12, c, hb.resolve_left c, if_true, if_false]
theorem m_func_cf (h : JS σ) (hk : kv_i σ 8 9 = 16) {n : Int32} (h1 : ¬ n < 1) (h2 : n ≤ 8) : Wc (d + 3) 10 [.ref 8, .int n] σ Φ = Φ (some (.int (-3))) σ := by
  simp only [c_10, g_10_0, g_10_1, g_10_2, g_10_5, g_10_6, g_10_8, g_10_11, g_10_12, g_10_13, g_10_14, g_10_17, g_10_19, g_10_22, g_10_24, s_8 h, hk, h1, h2, (show ¬ (16 : Int32) < 16 by decide), if_true, if_false]
theorem m_func_mf (h : JS σ) (hk : kv_i σ 149 1 = 16) {n : Int32} (h1 : ¬ n < 1) (h2 : n ≤ 8) : Wc (d + 2) 123 [.ref 149, .int n] σ Φ = Φ (some (.int (-3))) σ := by
  simp only [c_123, g_123_0, g_123_1, g_123_2, g_123_5, g_123_6, g_123_8, g_123_11, g_123_12, g_123_13, g_123_14, g_123_17, g_123_19, g_123_22, g_123_24, s_149 h, hk, h1, h2, not_true_eq_false, if_true, if_false]
end FU
/-- promise 2: function -/
theorem o_0 (d : Nat) : ob_0 JJ (d + 3) := by
  intro σ h n
  have h' := h
  obtain ⟨a1, a2, a3, ⟨F, hF, f1, f2, f3⟩, a5, a6, a7⟩ := h'
  by_cases hb : n < 1 ∨ ¬ n ≤ 8
  · rw [m_func_cb hb]
    refine ⟨_, rfl, ?_⟩
    rw [m_func_mb hb]
    exact ⟨rfl, h⟩
  · rw [not_or, Classical.not_not] at hb
    by_cases h8 : F = 16
    · subst h8
      rw [m_func_cf a1 (f1.trans (by decide)) hb.1 hb.2]
      refine ⟨_, rfl, ?_⟩
      rw [m_func_mf a1 (f2.trans (by decide)) hb.1 hb.2]
      exact ⟨rfl, h⟩
    · have hF16 : F < 16 := by omega
      have n1 := mt Int32.lt_iff_toInt_lt.mpr hb.1
      have n2 := Int32.le_iff_toInt_le.mp hb.2
      rw [show (1 : Int32).toInt = 1 by decide] at n1
      rw [show (8 : Int32).toInt = 8 by decide] at n2
      obtain ⟨w, hw1, hw8, rfl⟩ : ∃ w, 1 ≤ w ∧ w ≤ 8 ∧ n = Int32.ofNat w := ⟨n.toInt.toNat, by omega, by omega, by rw [i32_eq, oN_toInt (by omega)]; omega⟩
      rw [m_func_c a1 hF16 f1 hw8 hw1]
      refine ⟨_, rfl, ?_⟩
      obtain ⟨τ, hτ⟩ : ∃ τ, τ = kv_si (kv_fil (kv_fil (kv_fil (kv_si σ (37 + 4 * F) 3 (Int32.ofNat w)) (38 + 4 * F) 32 0) (39 + 4 * F) 32 0) (40 + 4 * F) 32 (Int32.ofNat (min 8 (2 ^ w)))) 8 9 (Int32.ofNat (F + 1)) := ⟨_, rfl⟩
      rw [← hτ]
      have fr : FR (fun b j => 37 + 4 * F ≤ b ∧ b ≤ 40 + 4 * F ∨ b = 8 ∧ j = 9) σ τ := by rw [hτ]; exact ((fil_fr (fil_fr (fil_fr ((FR.rf _ σ).si (by omega)) (fun j q => by omega)) (fun j q => by omega)) (fun j q => by omega))).si (by omega)
      have hc : CF τ F w (fun _ => min 8 (2 ^ w)) (fun _ => 0) := by
        refine ⟨by rw [hτ, ne_ess (by omega), fil_i, if_neg (by omega), fil_i, if_neg (by omega), fil_i, if_neg (by omega), eq_ess ⟨rfl, rfl⟩], fun s hs h8 => ⟨0, 0, by decide, by decide, by rw [hτ, ne_ess (by omega), fil_i, if_pos ⟨rfl, hs⟩], by rw [hτ, ne_ess (by omega), fil_i, if_neg (by omega), fil_i, if_neg (by omega), fil_i, if_pos ⟨rfl, hs⟩]; rfl, by rw [hτ, ne_ess (by omega), fil_i, if_neg (by omega), fil_i, if_pos ⟨rfl, hs⟩]; rfl, fun p => ?_⟩⟩
        rw [Nat.zero_testBit]
        simp
      have e8 : kv_i τ 8 9 = Int32.ofNat (F + 1) := by rw [hτ, eq_ess ⟨rfl, rfl⟩]
      rw [m_func_m (fr.js a1) hF16 (by rw [fr.i (by omega)]; exact f2) hw8 hw1]
      refine ⟨rfl, ?_⟩
      obtain ⟨υ, hυ⟩ : ∃ υ, υ = kv_frg (kv_frg (kv_si (kv_si τ 150 F (Int32.ofNat w)) 149 1 (Int32.ofNat (F + 1))) 151 (256 * F) 256 0) 152 (32 * F) 32 (Int32.ofNat (min 8 (2 ^ w))) := ⟨_, rfl⟩
      rw [← hυ]
      have fr2 : FR (fun b j => b = 150 ∧ j = F ∨ b = 149 ∧ j = 1 ∨ b = 151 ∧ 256 * F ≤ j ∧ j < 256 * F + 256 ∨ b = 152 ∧ 32 * F ≤ j ∧ j < 32 * F + 32) τ υ := by rw [hυ]; exact frg_fr (frg_fr (((FR.rf _ τ).si (by omega)).si (by omega)) (fun j q1 q2 => by omega)) (fun j q1 q2 => by omega)
      have hW := pw8 hw8
      have hm : MF υ F w (fun _ => min 8 (2 ^ w)) (fun _ => 0) := by
        refine ⟨by rw [hυ, frg_i, if_neg (by omega), frg_i, if_neg (by omega), ne_ess (by omega), eq_ess ⟨rfl, rfl⟩], fun s hs h8 => ⟨by rw [hυ, frg_i, if_pos (by omega)], fun p hp => ?_⟩⟩
        have hp8 : p < 8 := by have : p < min 8 (2 ^ w) := hp; omega
        rw [hυ, frg_i, if_neg (by omega), frg_i, if_pos (by omega)]
        rfl
      have e149 : kv_i υ 149 1 = Int32.ofNat (F + 1) := by rw [hυ, frg_i, if_neg (by omega), frg_i, if_neg (by omega), eq_ess ⟨rfl, rfl⟩]
      have fr3 : FR (fun b j => cFf F b j ∨ b = 8 ∧ j = 9 ∨ b = 149 ∧ j = 1) σ υ := (fr.mono (fun b j q => by unfold cFf; omega)).tr (fr2.mono (fun b j q => by unfold cFf; omega))
      refine ⟨fr3.js a1, a2.fr fr3 (by unfold cFf; omega), a3.fr fr3 (by unfold cFf; omega), ⟨F + 1, by omega, by rw [fr2.i (by omega)]; exact e8, e149, fun f hf => ?_⟩, a5.fr fr3 (by unfold cFf cN; omega), a6.fr fr3 (by unfold cFf cC; omega), a7.fr fr3 (by unfold cFf cH; omega)⟩
      by_cases e : f = F
      · subst e
        exact ⟨w, FV.jf ⟨hw1, hw8, fun s hs h8 => ⟨Nat.min_le_left _ _, Nat.min_le_right _ _, fun p hp => by omega⟩⟩ (hc.fr fr2 (fun b j q => by omega)) hm⟩
      · obtain ⟨w', hj⟩ := f3 f (by omega)
        exact ⟨w', JF1'.fine fr3 (fun b j q => by unfold cFf at *; omega) hj⟩

/-! ===== the constructors, walked ===== -/
theorem a_1 (d : Nat) (σ : kv_S) (hn : kv_n σ = 1) (hsh : kv_sh σ 8 = (8, 11)) (Φ : Option Value → kv_S → Prop) : Wp (d + 2) 1 0 [.ref 8, .null] [] σ Φ = Wp (d + 2) 1 111 [.ref 8, .int 0] [] (kv_ops kv_opA σ) Φ := by
  simp only [g_1_0, g_1_1, g_1_4, g_1_5, g_1_7, g_1_10, g_1_13, g_1_14, g_1_16, g_1_19, g_1_22, g_1_23, g_1_26, g_1_26r, g_1_27, g_1_30, g_1_33, g_1_34, g_1_37, g_1_37r, g_1_38, g_1_41, g_1_44, g_1_45, g_1_48, g_1_48r, g_1_49, g_1_52, g_1_55, g_1_56, g_1_59, g_1_59r, g_1_60, g_1_63, g_1_66, g_1_67, g_1_70, g_1_70r, g_1_71, g_1_74, g_1_77, g_1_78, g_1_81, g_1_81r, g_1_82, g_1_85, g_1_88, g_1_89, g_1_92, g_1_92r, g_1_93, g_1_96, g_1_99, g_1_100, g_1_101, g_1_104, g_1_105, g_1_106, g_1_109, g_1_110, c_2, c_3, c_4, c_5, c_6, c_7, kv_w8_0, kv_w8_1, kv_w8_2, kv_w8_3, kv_w8_4, n_si, n_sl, n_sr, n_mk, sh_si, sh_sl, sh_sr, sh_mk, i_si, i_sl, i_sr, i_mk, l_si, l_sl, l_sr, l_mk, r_si, r_sl, r_sr, r_mk, hn, hsh, Option.toList_none, List.nil_append, (show kv_c1 (.ref 8) = true from rfl), (show ¬ (16 : Int32) < 0 by decide), (show (16 : Int32).toNatClampNeg = 16 by decide), (show ¬ (8 : Int32) < 0 by decide), (show (8 : Int32).toNatClampNeg = 8 by decide), not_false_eq_true, if_false, if_true, Nat.reduceAdd, Nat.reduceLeDiff, Nat.reduceEqDiff, Nat.reduceLT]
  rfl

theorem nI_cl {i : Nat} (h : i < 2 ^ 31) : (Int32.ofNat i).toNatClampNeg = i := Int32.toNatClampNeg_ofNat_of_lt h
theorem a_T (d : Nat) (σ : kv_S) (i : Nat) (hi : i < 16) (hn : kv_n σ = 29 + 4 * i) (h8 : kv_sh σ 8 = (8, 11)) (h9 : kv_sh σ 9 = (14, 16)) (hr : kv_r σ 8 0 = some 9) (Φ : Option Value → kv_S → Prop) : Wp (d + 2) 1 111 [.ref 8, .int (Int32.ofNat i)] [] σ Φ = Wp (d + 2) 1 111 [.ref 8, .int (Int32.ofNat i + 1)] [] (kv_ops (kv_opT i) σ) Φ := by
  have c1 : ¬ (16 : Int32) ≤ Int32.ofNat i := by
    have : ∀ j, j < 16 → ¬ (16 : Int32) ≤ Int32.ofNat j := by decide
    exact this i hi
  have c2 : ¬ Int32.ofNat i < 0 := by
    have : ∀ j, j < 16 → ¬ Int32.ofNat j < 0 := by decide
    exact this i hi
  have c3 : (Int32.ofNat i).toNatClampNeg = i := nI_cl (by omega)
  have e0 : 8 + kv_n σ = 37 + 4 * i := by omega
  have e1 : 8 + (kv_n σ + 1) = 38 + 4 * i := by omega
  have e2 : 8 + (kv_n σ + 1 + 1) = 39 + 4 * i := by omega
  have e3 : 8 + (kv_n σ + 1 + 1 + 1) = 40 + 4 * i := by omega
  have k1 : 8 ≤ 37 + 4 * i := by omega
  have k2 : 37 + 4 * i < 38 + 4 * i := by omega
  have n1 : ¬ 37 + 4 * i = 38 + 4 * i := by omega
  have n2 : ¬ 37 + 4 * i = 39 + 4 * i := by omega
  have n3 : ¬ 37 + 4 * i = 40 + 4 * i := by omega
  have m0 : ¬ 9 = 37 + 4 * i := by omega
  have m1 : ¬ 9 = 38 + 4 * i := by omega
  have m2 : ¬ 9 = 39 + 4 * i := by omega
  have m3 : ¬ 9 = 40 + 4 * i := by omega
  rw [g_1_111, g_1_112, g_1_114, if_neg c1]
  conv => lhs; simp only [g_1_117, g_1_118, g_1_121, g_1_122, g_1_125, g_1_125r, g_1_126, g_1_129, g_1_130, g_1_133, c_8, kv_w8_0, kv_w8_1, kv_w8_2, kv_w8_3, kv_w8_4, n_si, n_sl, n_sr, n_mk, sh_si, sh_sl, sh_sr, sh_mk, i_si, i_sl, i_sr, i_mk, l_si, l_sl, l_sr, l_mk, r_si, r_sl, r_sr, r_mk, e0, e1, e2, e3, h8, h9, hr, kv_rv, c1, c2, c3, hi, k1, k2, n1, n2, n3, m0, m1, m2, m3, Option.toList_none, List.nil_append, (show kv_c1 (.ref 8) = true from rfl), (show kv_N 5 = 4 from rfl), not_false_eq_true, if_false, if_true, and_self, true_or, Nat.reduceLeDiff]
  rfl
theorem a_N (d : Nat) (σ : kv_S) (i : Nat) (hi : i < 8) (hn : kv_n σ = 93 + 6 * i) (h8 : kv_sh σ 8 = (8, 11)) (h9 : kv_sh σ 10 = (15, 8)) (hr : kv_r σ 8 1 = some 10) (Φ : Option Value → kv_S → Prop) : Wp (d + 2) 1 138 [.ref 8, .int (Int32.ofNat i)] [] σ Φ = Wp (d + 2) 1 138 [.ref 8, .int (Int32.ofNat i + 1)] [] (kv_ops (kv_opN i) σ) Φ := by
  have c1 : ¬ (8 : Int32) ≤ Int32.ofNat i := by
    have : ∀ j, j < 8 → ¬ (8 : Int32) ≤ Int32.ofNat j := by decide
    exact this i hi
  have c2 : ¬ Int32.ofNat i < 0 := by
    have : ∀ j, j < 8 → ¬ Int32.ofNat j < 0 := by decide
    exact this i hi
  have c3 : (Int32.ofNat i).toNatClampNeg = i := nI_cl (by omega)
  have e0 : 8 + kv_n σ = 101 + 6 * i := by omega
  have e1 : 8 + (kv_n σ + 1) = 102 + 6 * i := by omega
  have e2 : 8 + (kv_n σ + 1 + 1) = 103 + 6 * i := by omega
  have e3 : 8 + (kv_n σ + 1 + 1 + 1) = 104 + 6 * i := by omega
  have e4 : 8 + (kv_n σ + 1 + 1 + 1 + 1) = 105 + 6 * i := by omega
  have e5 : 8 + (kv_n σ + 1 + 1 + 1 + 1 + 1) = 106 + 6 * i := by omega
  have k1 : 8 ≤ 101 + 6 * i := by omega
  have k2 : 101 + 6 * i < 102 + 6 * i := by omega
  have n1 : ¬ 101 + 6 * i = 102 + 6 * i := by omega
  have n2 : ¬ 101 + 6 * i = 103 + 6 * i := by omega
  have n3 : ¬ 101 + 6 * i = 104 + 6 * i := by omega
  have n4 : ¬ 101 + 6 * i = 105 + 6 * i := by omega
  have n5 : ¬ 101 + 6 * i = 106 + 6 * i := by omega
  have m0 : ¬ 10 = 101 + 6 * i := by omega
  have m1 : ¬ 10 = 102 + 6 * i := by omega
  have m2 : ¬ 10 = 103 + 6 * i := by omega
  have m3 : ¬ 10 = 104 + 6 * i := by omega
  have m4 : ¬ 10 = 105 + 6 * i := by omega
  have m5 : ¬ 10 = 106 + 6 * i := by omega
  rw [g_1_138, g_1_139, g_1_141, if_neg c1]
  conv => lhs; simp only [g_1_144, g_1_145, g_1_148, g_1_149, g_1_152, g_1_152r, g_1_153, g_1_156, g_1_157, g_1_160, c_9, kv_w8_0, kv_w8_1, kv_w8_2, kv_w8_3, kv_w8_4, n_si, n_sl, n_sr, n_mk, sh_si, sh_sl, sh_sr, sh_mk, i_si, i_sl, i_sr, i_mk, l_si, l_sl, l_sr, l_mk, r_si, r_sl, r_sr, r_mk, e0, e1, e2, e3, e4, e5, h8, h9, hr, kv_rv, c1, c2, c3, hi, k1, k2, n1, n2, n3, n4, n5, m0, m1, m2, m3, m4, m5, Option.toList_none, List.nil_append, (show kv_c1 (.ref 8) = true from rfl), (show kv_N 2 = 7 from rfl), (show (15 = 14) = False by decide), not_false_eq_true, if_false, if_true, and_self, true_or, false_and, or_true, Nat.reduceLeDiff]
  rfl
theorem kv_osh_lt : ∀ (l : List (Nat × Nat × Nat × Nat)) (n b : Nat), b < 8 + n → kv_osh n l b = none
  | [], n, b, h => rfl
  | o :: l, n, b, h => by
    rw [kv_osh_cons, kv_osh_lt l _ b (by split <;> omega)]
    dsimp only
    rw [if_neg]
    simp
    intro _
    omega
theorem kv_or_app (l1 l2 : List (Nat × Nat × Nat × Nat)) (b k : Nat) (h1 : kv_or l1 b k = none) (h2 : kv_or l2 b k = none) : kv_or (l1 ++ l2) b k = none := by
  induction l1 with
  | nil => exact h2
  | cons o l ih =>
    rw [List.cons_append, kv_or_cons]
    rw [kv_or_cons] at h1
    cases hw : kv_or l b k with
    | some q => rw [hw] at h1; cases h1
    | none => rw [hw] at h1; rw [ih hw]; exact h1
theorem kv_on_app (l1 l2 : List (Nat × Nat × Nat × Nat)) : kv_on (l1 ++ l2) = kv_on l1 + kv_on l2 := by simp [kv_on]
theorem kv_opTs_n : ∀ i, kv_on (kv_opTs i) = 4 * i
  | 0 => rfl
  | i + 1 => by rw [kv_opTs, kv_on_app, kv_opTs_n i]; show 4 * i + 4 = _; omega
theorem kv_opNs_n : ∀ i, kv_on (kv_opNs i) = 6 * i
  | 0 => rfl
  | i + 1 => by rw [kv_opNs, kv_on_app, kv_opNs_n i]; show 6 * i + 6 = _; omega
theorem kv_opTs_r (k : Nat) : ∀ i, kv_or (kv_opTs i) 8 k = none
  | 0 => rfl
  | i + 1 => by
    rw [kv_opTs]
    refine kv_or_app _ _ _ _ (kv_opTs_r k i) ?_
    have h : ¬ 8 = 37 + 4 * i := by omega
    simp [kv_opT, kv_or, h]
theorem kv_opNs_r (k : Nat) : ∀ i, kv_or (kv_opNs i) 8 k = none
  | 0 => rfl
  | i + 1 => by
    rw [kv_opNs]
    refine kv_or_app _ _ _ _ (kv_opNs_r k i) ?_
    have h : ¬ 8 = 101 + 6 * i := by omega
    simp [kv_opN, kv_or, h]
theorem a_Ts (d : Nat) (σ : kv_S) (hn : kv_n σ = 29) (h8 : kv_sh σ 8 = (8, 11)) (h9 : kv_sh σ 9 = (14, 16)) (hr : kv_r σ 8 0 = some 9) (Φ : Option Value → kv_S → Prop) : ∀ i, i ≤ 16 → Wp (d + 2) 1 111 [.ref 8, .int 0] [] σ Φ = Wp (d + 2) 1 111 [.ref 8, .int (Int32.ofNat i)] [] (kv_ops (kv_opTs i) σ) Φ
  | 0, _ => rfl
  | i + 1, hi => by
    rw [a_Ts d σ hn h8 h9 hr Φ i (by omega)]
    rw [a_T d _ i (by omega) (by rw [kv_n_ops, kv_opTs_n, hn]) (by rw [kv_sh_ops, kv_osh_lt _ _ _ (by omega)]; exact h8) (by rw [kv_sh_ops, kv_osh_lt _ _ _ (by omega)]; exact h9) (by rw [kv_r_ops, kv_opTs_r]; exact hr) Φ]
    rw [kv_opTs, kv_ops_app, show Int32.ofNat i + 1 = Int32.ofNat (i + 1) from (Int32.ofNat_add i 1).symm]
theorem a_Ns (d : Nat) (σ : kv_S) (hn : kv_n σ = 93) (h8 : kv_sh σ 8 = (8, 11)) (h9 : kv_sh σ 10 = (15, 8)) (hr : kv_r σ 8 1 = some 10) (Φ : Option Value → kv_S → Prop) : ∀ i, i ≤ 8 → Wp (d + 2) 1 138 [.ref 8, .int 0] [] σ Φ = Wp (d + 2) 1 138 [.ref 8, .int (Int32.ofNat i)] [] (kv_ops (kv_opNs i) σ) Φ
  | 0, _ => rfl
  | i + 1, hi => by
    rw [a_Ns d σ hn h8 h9 hr Φ i (by omega)]
    rw [a_N d _ i (by omega) (by rw [kv_n_ops, kv_opNs_n, hn]) (by rw [kv_sh_ops, kv_osh_lt _ _ _ (by omega)]; exact h8) (by rw [kv_sh_ops, kv_osh_lt _ _ _ (by omega)]; exact h9) (by rw [kv_r_ops, kv_opNs_r]; exact hr) Φ]
    rw [kv_opNs, kv_ops_app, show Int32.ofNat i + 1 = Int32.ofNat (i + 1) from (Int32.ofNat_add i 1).symm]
/-- LogicSmith() -/
theorem a_LogicSmith (d : Nat) (σ : kv_S) (hn : kv_n σ = 1) (hsh : kv_sh σ 8 = (8, 11)) (Φ : Option Value → kv_S → Prop) : Wc (d + 2) 1 [.ref 8] σ Φ = Φ none (kv_ops (kv_opA ++ (kv_opTs 16 ++ kv_opNs 8)) σ) := by
  rw [Wc_eq, show kv_ent 1 [.ref 8] = [.ref 8, .null] from rfl, a_1 d σ hn hsh]
  have n1 : kv_n (kv_ops kv_opA σ) = 29 := by rw [kv_n_ops, hn]; rfl
  have s1 : kv_sh (kv_ops kv_opA σ) 8 = (8, 11) := by rw [kv_sh_ops, kv_osh_lt _ _ _ (by omega)]; exact hsh
  have s2 : kv_sh (kv_ops kv_opA σ) 9 = (14, 16) := by rw [kv_sh_ops, hn]; rfl
  have s3 : kv_sh (kv_ops kv_opA σ) 10 = (15, 8) := by rw [kv_sh_ops, hn]; rfl
  have r1 : kv_r (kv_ops kv_opA σ) 8 0 = some 9 := by rw [kv_r_ops]; rfl
  have r2 : kv_r (kv_ops kv_opA σ) 8 1 = some 10 := by rw [kv_r_ops]; rfl
  rw [a_Ts d _ n1 s1 s2 r1 Φ 16 (Nat.le_refl _)]
  generalize hτ : kv_ops (kv_opTs 16) (kv_ops kv_opA σ) = τ
  have n2 : kv_n τ = 93 := by rw [← hτ, kv_n_ops, n1, kv_opTs_n]
  have s4 : kv_sh τ 8 = (8, 11) := by rw [← hτ, kv_sh_ops, kv_osh_lt _ _ _ (by omega)]; exact s1
  have s5 : kv_sh τ 10 = (15, 8) := by rw [← hτ, kv_sh_ops, kv_osh_lt _ _ _ (by omega)]; exact s3
  have r3 : kv_r τ 8 1 = some 10 := by rw [← hτ, kv_r_ops, kv_opTs_r]; exact r2
  rw [show Int32.ofNat 16 = (16 : Int32) by decide, g_1_111, g_1_112, g_1_114, if_pos (by decide), g_1_136, g_1_137 rfl, a_Ns d τ n2 s4 s5 r3 Φ 8 (Nat.le_refl _), show Int32.ofNat 8 = (8 : Int32) by decide, g_1_138, g_1_139, g_1_141, if_pos (by decide), g_1_163, kv_ops_app, kv_ops_app, hτ]

/-- LogicSmithModel() -/
theorem a_Model (d : Nat) (σ : kv_S) (hn : kv_n σ = 142) (hsh : kv_sh σ 149 = (9, 47)) (Φ : Option Value → kv_S → Prop) : Wc (d + 1) 122 [.ref 149] σ Φ = Φ none (kv_ops kv_opM.tail σ) := by
  rw [Wc_eq, show kv_ent 122 [.ref 149] = [.ref 149] from rfl]
  simp only [g_122_0, g_122_1, g_122_4, g_122_5, g_122_7, g_122_9, g_122_12, g_122_13, g_122_16, g_122_18, g_122_21, g_122_22, g_122_25, g_122_27, g_122_30, g_122_31, g_122_33, g_122_35, g_122_35r, g_122_36, g_122_37, g_122_38, g_122_39, g_122_39r, g_122_40, g_122_41, g_122_42, g_122_43, g_122_43r, g_122_44, g_122_45, g_122_47, g_122_48, g_122_48r, g_122_49, g_122_50, g_122_52, g_122_53, g_122_53r, g_122_54, g_122_55, g_122_57, g_122_58, g_122_58r, g_122_59, g_122_60, g_122_63, g_122_64, g_122_64r, g_122_65, g_122_67, g_122_70, g_122_71, g_122_71r, g_122_72, g_122_74, g_122_77, g_122_78, g_122_78r, g_122_79, g_122_81, g_122_84, g_122_85, g_122_88, g_122_89, g_122_92, g_122_94, g_122_97, g_122_98, g_122_101, g_122_103, g_122_106, g_122_107, g_122_109, g_122_111, g_122_114, g_122_115, g_122_117, g_122_119, g_122_122, g_122_123, g_122_125, g_122_127, g_122_130, g_122_131, g_122_133, g_122_135, g_122_138, g_122_139, g_122_141, g_122_143, g_122_146, g_122_147, g_122_150, g_122_152, g_122_155, g_122_156, g_122_158, g_122_160, g_122_163, g_122_164, g_122_166, g_122_168, g_122_171, g_122_172, g_122_174, g_122_176, g_122_179, g_122_180, g_122_182, g_122_184, g_122_187, g_122_188, g_122_190, g_122_192, g_122_195, g_122_196, g_122_198, g_122_200, g_122_203, g_122_204, g_122_206, g_122_208, g_122_211, g_122_212, g_122_214, g_122_216, g_122_219, g_122_220, g_122_223, g_122_225, g_122_228, g_122_229, g_122_232, g_122_234, g_122_237, g_122_238, g_122_241, g_122_243, g_122_246, g_122_247, g_122_250, g_122_252, g_122_255, g_122_256, g_122_258, g_122_260, g_122_263, g_122_264, g_122_265, g_122_268, g_122_269, g_122_272, g_122_274, g_122_277, g_122_278, g_122_281, g_122_283, g_122_286, g_122_287, g_122_290, g_122_292, g_122_295, g_122_296, g_122_298, g_122_300, g_122_303, g_122_304, g_122_306, g_122_308, g_122_311, g_122_312, g_122_314, g_122_316, g_122_319, g_122_320, g_122_322, g_122_324, g_122_327, g_122_328, g_122_330, g_122_332, g_122_335, g_122_336, g_122_338, g_122_340, g_122_343, kv_w8_0, kv_w8_1, kv_w8_2, kv_w8_3, kv_w8_4, n_si, n_sl, n_sr, n_mk, sh_si, sh_sl, sh_sr, sh_mk, i_si, i_sl, i_sr, i_mk, l_si, l_sl, l_sr, l_mk, r_si, r_sl, r_sr, r_mk, hn, hsh, (show ¬ (0 : Int32) < 0 by decide), (show (0 : Int32).toNatClampNeg = 0 by decide), (show ¬ (1 : Int32) < 0 by decide), (show (1 : Int32).toNatClampNeg = 1 by decide), (show ¬ (2 : Int32) < 0 by decide), (show (2 : Int32).toNatClampNeg = 2 by decide), (show ¬ (3 : Int32) < 0 by decide), (show (3 : Int32).toNatClampNeg = 3 by decide), (show ¬ (4 : Int32) < 0 by decide), (show (4 : Int32).toNatClampNeg = 4 by decide), (show ¬ (5 : Int32) < 0 by decide), (show (5 : Int32).toNatClampNeg = 5 by decide), (show ¬ (6 : Int32) < 0 by decide), (show (6 : Int32).toNatClampNeg = 6 by decide), (show ¬ (7 : Int32) < 0 by decide), (show (7 : Int32).toNatClampNeg = 7 by decide), (show ¬ (8 : Int32) < 0 by decide), (show (8 : Int32).toNatClampNeg = 8 by decide), (show ¬ (9 : Int32) < 0 by decide), (show (9 : Int32).toNatClampNeg = 9 by decide), (show ¬ (16 : Int32) < 0 by decide), (show (16 : Int32).toNatClampNeg = 16 by decide), (show ¬ (32 : Int32) < 0 by decide), (show (32 : Int32).toNatClampNeg = 32 by decide), (show ¬ (40 : Int32) < 0 by decide), (show (40 : Int32).toNatClampNeg = 40 by decide), (show ¬ (41 : Int32) < 0 by decide), (show (41 : Int32).toNatClampNeg = 41 by decide), (show ¬ (48 : Int32) < 0 by decide), (show (48 : Int32).toNatClampNeg = 48 by decide), (show ¬ (64 : Int32) < 0 by decide), (show (64 : Int32).toNatClampNeg = 64 by decide), (show ¬ (243 : Int32) < 0 by decide), (show (243 : Int32).toNatClampNeg = 243 by decide), (show ¬ (320 : Int32) < 0 by decide), (show (320 : Int32).toNatClampNeg = 320 by decide), (show ¬ (512 : Int32) < 0 by decide), (show (512 : Int32).toNatClampNeg = 512 by decide), (show ¬ (4000 : Int32) < 0 by decide), (show (4000 : Int32).toNatClampNeg = 4000 by decide), (show ¬ (4096 : Int32) < 0 by decide), (show (4096 : Int32).toNatClampNeg = 4096 by decide), (show ¬ (6561 : Int32) < 0 by decide), (show (6561 : Int32).toNatClampNeg = 6561 by decide), not_false_eq_true, if_false, if_true, Nat.reduceAdd, Nat.reduceLeDiff, Nat.reduceEqDiff, Nat.reduceLT]
  rfl

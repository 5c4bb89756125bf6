theorem c_2 (d : Nat) (σ : kv_S) (a : Nat) (h8 : 8 ≤ a) (hsh : kv_sh σ a = (3, 3)) (hlt : a < 8 + kv_n σ) (Φ : Option Value → kv_S → Prop) : Wc (d + 1) 2 [.ref a] σ Φ = Φ none (kv_si (kv_sr (kv_mkc (kv_sr (kv_mkc σ 10 243) a 0 (some (8 + kv_n σ))) 10 243) a 1 (some (8 + (kv_n σ + 1)))) a 2 0) := by
  rw [Wc_eq, show kv_ent 2 [.ref a] = [.ref a] from rfl]
  have e0 : ¬ a = 8 + kv_n σ := by omega
  have e1 : ¬ a = 8 + (kv_n σ + 1) := by omega
  simp only [g_2_0, g_2_1, g_2_4, g_2_5, g_2_8, g_2_10, g_2_13, g_2_14, g_2_17, g_2_19, g_2_22, g_2_23, g_2_24, g_2_27, kv_w8_0, kv_w8_1, kv_w8_2, kv_w8_3, kv_w8_4, n_si, n_sl, n_sr, n_mk, sh_si, sh_sl, sh_sr, sh_mk, i_si, i_sl, i_sr, i_mk, l_si, l_sl, l_sr, l_mk, r_si, r_sl, r_sr, r_mk, h8, hsh, e0, e1, if_false, (show ¬ (243 : Int32) < 0 by decide), (show (243 : Int32).toNatClampNeg = 243 by decide), (show 243 ≤ 10000 by decide), not_false_eq_true]
theorem c_3 (d : Nat) (σ : kv_S) (a : Nat) (h8 : 8 ≤ a) (hsh : kv_sh σ a = (1, 12)) (hlt : a < 8 + kv_n σ) (Φ : Option Value → kv_S → Prop) : Wc (d + 1) 3 [.ref a] σ Φ = Φ none (kv_sl (kv_sl (kv_si (kv_sr (kv_mkc (kv_sr (kv_mkc (kv_sr (kv_mkc (kv_sr (kv_mkc (kv_sr (kv_mkc (kv_sr (kv_mkc (kv_si (kv_si (kv_sr (kv_mkc σ 10 40) a 0 (some (8 + kv_n σ))) a 1 0) a 2 0) 10 40) a 3 (some (8 + (kv_n σ + 1)))) 10 40) a 4 (some (8 + (kv_n σ + 1 + 1)))) 10 40) a 5 (some (8 + (kv_n σ + 1 + 1 + 1)))) 11 40) a 6 (some (8 + (kv_n σ + 1 + 1 + 1 + 1)))) 11 40) a 7 (some (8 + (kv_n σ + 1 + 1 + 1 + 1 + 1)))) 11 32) a 8 (some (8 + (kv_n σ + 1 + 1 + 1 + 1 + 1 + 1)))) a 9 0) a 10 0) a 11 0) := by
  rw [Wc_eq, show kv_ent 3 [.ref a] = [.ref a] from rfl]
  have e0 : ¬ a = 8 + kv_n σ := by omega
  have e1 : ¬ a = 8 + (kv_n σ + 1) := by omega
  have e2 : ¬ a = 8 + (kv_n σ + 1 + 1) := by omega
  have e3 : ¬ a = 8 + (kv_n σ + 1 + 1 + 1) := by omega
  have e4 : ¬ a = 8 + (kv_n σ + 1 + 1 + 1 + 1) := by omega
  have e5 : ¬ a = 8 + (kv_n σ + 1 + 1 + 1 + 1 + 1) := by omega
  have e6 : ¬ a = 8 + (kv_n σ + 1 + 1 + 1 + 1 + 1 + 1) := by omega
  simp only [g_3_0, g_3_1, g_3_4, g_3_5, g_3_7, g_3_9, g_3_12, g_3_13, g_3_14, g_3_17, g_3_18, g_3_19, g_3_22, g_3_23, g_3_25, g_3_27, g_3_30, g_3_31, g_3_33, g_3_35, g_3_38, g_3_39, g_3_41, g_3_43, g_3_46, g_3_47, g_3_49, g_3_51, g_3_54, g_3_55, g_3_57, g_3_59, g_3_62, g_3_63, g_3_65, g_3_67, g_3_70, g_3_71, g_3_72, g_3_75, g_3_76, g_3_77, g_3_80, g_3_81, g_3_82, g_3_85, kv_w8_0, kv_w8_1, kv_w8_2, kv_w8_3, kv_w8_4, n_si, n_sl, n_sr, n_mk, sh_si, sh_sl, sh_sr, sh_mk, i_si, i_sl, i_sr, i_mk, l_si, l_sl, l_sr, l_mk, r_si, r_sl, r_sr, r_mk, h8, hsh, e0, e1, e2, e3, e4, e5, e6, if_false, (show ¬ (32 : Int32) < 0 by decide), (show (32 : Int32).toNatClampNeg = 32 by decide), (show 32 ≤ 10000 by decide), (show ¬ (40 : Int32) < 0 by decide), (show (40 : Int32).toNatClampNeg = 40 by decide), (show 40 ≤ 10000 by decide), not_false_eq_true]
theorem c_4 (d : Nat) (σ : kv_S) (a : Nat) (h8 : 8 ≤ a) (hsh : kv_sh σ a = (0, 3)) (hlt : a < 8 + kv_n σ) (Φ : Option Value → kv_S → Prop) : Wc (d + 1) 4 [.ref a] σ Φ = Φ none (kv_sr (kv_mkc (kv_sr (kv_mkc (kv_sr (kv_mkc σ 11 64) a 0 (some (8 + kv_n σ))) 10 64) a 1 (some (8 + (kv_n σ + 1)))) 10 64) a 2 (some (8 + (kv_n σ + 1 + 1)))) := by
  rw [Wc_eq, show kv_ent 4 [.ref a] = [.ref a] from rfl]
  have e0 : ¬ a = 8 + kv_n σ := by omega
  have e1 : ¬ a = 8 + (kv_n σ + 1) := by omega
  have e2 : ¬ a = 8 + (kv_n σ + 1 + 1) := by omega
  simp only [g_4_0, g_4_1, g_4_4, g_4_5, g_4_7, g_4_9, g_4_12, g_4_13, g_4_15, g_4_17, g_4_20, g_4_21, g_4_23, g_4_25, g_4_28, kv_w8_0, kv_w8_1, kv_w8_2, kv_w8_3, kv_w8_4, n_si, n_sl, n_sr, n_mk, sh_si, sh_sl, sh_sr, sh_mk, i_si, i_sl, i_sr, i_mk, l_si, l_sl, l_sr, l_mk, r_si, r_sl, r_sr, r_mk, h8, hsh, e0, e1, e2, if_false, (show ¬ (64 : Int32) < 0 by decide), (show (64 : Int32).toNatClampNeg = 64 by decide), (show 64 ≤ 10000 by decide), not_false_eq_true]
theorem c_5 (d : Nat) (σ : kv_S) (a : Nat) (h8 : 8 ≤ a) (hsh : kv_sh σ a = (7, 2)) (hlt : a < 8 + kv_n σ) (Φ : Option Value → kv_S → Prop) : Wc (d + 1) 5 [.ref a] σ Φ = Φ none (kv_si (kv_sr (kv_mkc σ 11 200) a 0 (some (8 + kv_n σ))) a 1 1) := by
  rw [Wc_eq, show kv_ent 5 [.ref a] = [.ref a] from rfl]
  have e0 : ¬ a = 8 + kv_n σ := by omega
  simp only [g_5_0, g_5_1, g_5_4, g_5_5, g_5_8, g_5_10, g_5_13, g_5_14, g_5_15, g_5_18, kv_w8_0, kv_w8_1, kv_w8_2, kv_w8_3, kv_w8_4, n_si, n_sl, n_sr, n_mk, sh_si, sh_sl, sh_sr, sh_mk, i_si, i_sl, i_sr, i_mk, l_si, l_sl, l_sr, l_mk, r_si, r_sl, r_sr, r_mk, h8, hsh, e0, if_false, (show ¬ (200 : Int32) < 0 by decide), (show (200 : Int32).toNatClampNeg = 200 by decide), (show 200 ≤ 10000 by decide), not_false_eq_true]
theorem c_6 (d : Nat) (σ : kv_S) (a : Nat) (h8 : 8 ≤ a) (hsh : kv_sh σ a = (6, 2)) (hlt : a < 8 + kv_n σ) (Φ : Option Value → kv_S → Prop) : Wc (d + 1) 6 [.ref a] σ Φ = Φ none (kv_sl (kv_sr (kv_mkc σ 11 200) a 0 (some (8 + kv_n σ))) a 1 0) := by
  rw [Wc_eq, show kv_ent 6 [.ref a] = [.ref a] from rfl]
  have e0 : ¬ a = 8 + kv_n σ := by omega
  simp only [g_6_0, g_6_1, g_6_4, g_6_5, g_6_8, g_6_10, g_6_13, g_6_14, g_6_15, g_6_18, kv_w8_0, kv_w8_1, kv_w8_2, kv_w8_3, kv_w8_4, n_si, n_sl, n_sr, n_mk, sh_si, sh_sl, sh_sr, sh_mk, i_si, i_sl, i_sr, i_mk, l_si, l_sl, l_sr, l_mk, r_si, r_sl, r_sr, r_mk, h8, hsh, e0, if_false, (show ¬ (200 : Int32) < 0 by decide), (show (200 : Int32).toNatClampNeg = 200 by decide), (show 200 ≤ 10000 by decide), not_false_eq_true]
theorem c_7 (d : Nat) (σ : kv_S) (a : Nat) (h8 : 8 ≤ a) (hsh : kv_sh σ a = (4, 6)) (hlt : a < 8 + kv_n σ) (Φ : Option Value → kv_S → Prop) : Wc (d + 1) 7 [.ref a] σ Φ = Φ none (kv_si (kv_si (kv_sr (kv_mkc (kv_sr (kv_mkc (kv_sr (kv_mkc (kv_sr (kv_mkc σ 10 1800) a 0 (some (8 + kv_n σ))) 10 40) a 1 (some (8 + (kv_n σ + 1)))) 10 40) a 2 (some (8 + (kv_n σ + 1 + 1)))) 10 6) a 3 (some (8 + (kv_n σ + 1 + 1 + 1)))) a 4 0) a 5 (-1)) := by
  rw [Wc_eq, show kv_ent 7 [.ref a] = [.ref a] from rfl]
  have e0 : ¬ a = 8 + kv_n σ := by omega
  have e1 : ¬ a = 8 + (kv_n σ + 1) := by omega
  have e2 : ¬ a = 8 + (kv_n σ + 1 + 1) := by omega
  have e3 : ¬ a = 8 + (kv_n σ + 1 + 1 + 1) := by omega
  simp only [g_7_0, g_7_1, g_7_4, g_7_5, g_7_8, g_7_10, g_7_13, g_7_14, g_7_16, g_7_18, g_7_21, g_7_22, g_7_24, g_7_26, g_7_29, g_7_30, g_7_32, g_7_34, g_7_37, g_7_38, g_7_39, g_7_42, g_7_43, g_7_44, g_7_47, kv_w8_0, kv_w8_1, kv_w8_2, kv_w8_3, kv_w8_4, n_si, n_sl, n_sr, n_mk, sh_si, sh_sl, sh_sr, sh_mk, i_si, i_sl, i_sr, i_mk, l_si, l_sl, l_sr, l_mk, r_si, r_sl, r_sr, r_mk, h8, hsh, e0, e1, e2, e3, if_false, (show ¬ (6 : Int32) < 0 by decide), (show (6 : Int32).toNatClampNeg = 6 by decide), (show 6 ≤ 10000 by decide), (show ¬ (40 : Int32) < 0 by decide), (show (40 : Int32).toNatClampNeg = 40 by decide), (show 40 ≤ 10000 by decide), (show ¬ (1800 : Int32) < 0 by decide), (show (1800 : Int32).toNatClampNeg = 1800 by decide), (show 1800 ≤ 10000 by decide), not_false_eq_true]
theorem c_8 (d : Nat) (σ : kv_S) (a : Nat) (h8 : 8 ≤ a) (hsh : kv_sh σ a = (5, 4)) (hlt : a < 8 + kv_n σ) (Φ : Option Value → kv_S → Prop) : Wc (d + 1) 8 [.ref a] σ Φ = Φ none (kv_si (kv_sr (kv_mkc (kv_sr (kv_mkc (kv_sr (kv_mkc σ 10 32) a 0 (some (8 + kv_n σ))) 10 32) a 1 (some (8 + (kv_n σ + 1)))) 10 32) a 2 (some (8 + (kv_n σ + 1 + 1)))) a 3 1) := by
  rw [Wc_eq, show kv_ent 8 [.ref a] = [.ref a] from rfl]
  have e0 : ¬ a = 8 + kv_n σ := by omega
  have e1 : ¬ a = 8 + (kv_n σ + 1) := by omega
  have e2 : ¬ a = 8 + (kv_n σ + 1 + 1) := by omega
  simp only [g_8_0, g_8_1, g_8_4, g_8_5, g_8_7, g_8_9, g_8_12, g_8_13, g_8_15, g_8_17, g_8_20, g_8_21, g_8_23, g_8_25, g_8_28, g_8_29, g_8_30, g_8_33, kv_w8_0, kv_w8_1, kv_w8_2, kv_w8_3, kv_w8_4, n_si, n_sl, n_sr, n_mk, sh_si, sh_sl, sh_sr, sh_mk, i_si, i_sl, i_sr, i_mk, l_si, l_sl, l_sr, l_mk, r_si, r_sl, r_sr, r_mk, h8, hsh, e0, e1, e2, if_false, (show ¬ (32 : Int32) < 0 by decide), (show (32 : Int32).toNatClampNeg = 32 by decide), (show 32 ≤ 10000 by decide), not_false_eq_true]
theorem c_9 (d : Nat) (σ : kv_S) (a : Nat) (h8 : 8 ≤ a) (hsh : kv_sh σ a = (2, 7)) (hlt : a < 8 + kv_n σ) (Φ : Option Value → kv_S → Prop) : Wc (d + 1) 9 [.ref a] σ Φ = Φ none (kv_si (kv_si (kv_sr (kv_mkc (kv_sr (kv_mkc (kv_sr (kv_mkc (kv_sr (kv_mkc (kv_sr (kv_mkc σ 10 40) a 0 (some (8 + kv_n σ))) 10 40) a 1 (some (8 + (kv_n σ + 1)))) 10 40) a 2 (some (8 + (kv_n σ + 1 + 1)))) 12 40) a 3 (some (8 + (kv_n σ + 1 + 1 + 1)))) 10 6) a 4 (some (8 + (kv_n σ + 1 + 1 + 1 + 1)))) a 5 1) a 6 0) := by
  rw [Wc_eq, show kv_ent 9 [.ref a] = [.ref a] from rfl]
  have e0 : ¬ a = 8 + kv_n σ := by omega
  have e1 : ¬ a = 8 + (kv_n σ + 1) := by omega
  have e2 : ¬ a = 8 + (kv_n σ + 1 + 1) := by omega
  have e3 : ¬ a = 8 + (kv_n σ + 1 + 1 + 1) := by omega
  have e4 : ¬ a = 8 + (kv_n σ + 1 + 1 + 1 + 1) := by omega
  simp only [g_9_0, g_9_1, g_9_4, g_9_5, g_9_7, g_9_9, g_9_12, g_9_13, g_9_15, g_9_17, g_9_20, g_9_21, g_9_23, g_9_25, g_9_28, g_9_29, g_9_31, g_9_33, g_9_36, g_9_37, g_9_39, g_9_41, g_9_44, g_9_45, g_9_46, g_9_49, g_9_50, g_9_51, g_9_54, kv_w8_0, kv_w8_1, kv_w8_2, kv_w8_3, kv_w8_4, n_si, n_sl, n_sr, n_mk, sh_si, sh_sl, sh_sr, sh_mk, i_si, i_sl, i_sr, i_mk, l_si, l_sl, l_sr, l_mk, r_si, r_sl, r_sr, r_mk, h8, hsh, e0, e1, e2, e3, e4, if_false, (show ¬ (6 : Int32) < 0 by decide), (show (6 : Int32).toNatClampNeg = 6 by decide), (show 6 ≤ 10000 by decide), (show ¬ (40 : Int32) < 0 by decide), (show (40 : Int32).toNatClampNeg = 40 by decide), (show 40 ≤ 10000 by decide), not_false_eq_true]

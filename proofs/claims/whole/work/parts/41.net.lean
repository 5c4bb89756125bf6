/-! ===== net ===== -/
section NE
variable {d : Nat} {σ : kv_S} {Φ : Option Value → kv_S → Prop}
theorem m_begin_c (h : JS σ) {k : Nat} (hk : k < 8) (n : Int32) : Wc (d + 1) 77 [.ref (101 + 6 * k), .int n] σ Φ = Φ none (kv_fil (kv_si (kv_si σ (101 + 6 * k) 5 n) (101 + 6 * k) 6 0) (106 + 6 * k) 6 (-3)) := by
  rw [Wc_eq, show kv_ent 77 [.ref (101 + 6 * k), .int n] = [.ref (101 + 6 * k), .int n] from rfl]
  have n1 : 8 ≤ 101 + 6 * k := by omega
  have hs : kv_sh (kv_si (kv_si σ (101 + 6 * k) 5 n) (101 + 6 * k) 6 0) (106 + 6 * k) = (10, 6) := nO h hk
  simp only [g_77_0, g_77_1, g_77_2, g_77_5, g_77_6, g_77_7, g_77_10, g_77_11, g_77_14, g_77_16, g_77_19, kv_w8_0, kv_w8_1, kv_w8_2, kv_w8_3, kv_w8_4, n_si, n_sl, n_sr, n_mk, sh_si, sh_sl, sh_sr, sh_mk, i_si, i_sl, i_sr, i_mk, l_si, l_sl, l_sr, l_mk, r_si, r_sl, r_sr, r_mk, nN h hk, qO h hk, kv_rv, n1, m_fill _ (106 + 6 * k) 6 (-3) (by omega) hs (by decide), Option.toList_none, List.nil_append]
theorem m_net_c (h : JS σ) {K : Nat} (hK : K < 8) (hk : kv_i σ 8 10 = Int32.ofNat K) (n : Int32) (h1 : ¬ n < 1) (h2 : n ≤ 8) : Wc (d + 2) 76 [.ref 8, .int n] σ Φ = Φ (some (.int (Int32.ofNat K))) (kv_si (kv_fil (kv_si (kv_si σ (101 + 6 * K) 5 n) (101 + 6 * K) 6 0) (106 + 6 * K) 6 (-3)) 8 10 (Int32.ofNat (K + 1))) := by
  rw [Wc_eq, show kv_ent 76 [.ref 8, .int n] = [.ref 8, .int n] from rfl]
  have c1 : Int32.ofNat K < 8 := nI_lt (a := K) (b := 8) hK (by decide)
  have c2 : ¬ Int32.ofNat K < 0 := nI_pos (n := K) (by omega)
  have c3 : (Int32.ofNat K).toNatClampNeg = K := nI_cl (by omega)
  have e1 : Int32.ofNat K + 1 = Int32.ofNat (K + 1) := (Int32.ofNat_add K 1).symm
  have e2 : Int32.ofNat (K + 1) - 1 = Int32.ofNat K := nI_pred K
  have n1 : ¬ (8 = 106 + 6 * K ∧ 10 < 6) := by omega
  have n2 : ¬ (8 = 101 + 6 * K ∧ 10 = 6) := by omega
  have n3 : ¬ (8 = 101 + 6 * K ∧ 10 = 5) := by omega
  simp only [g_76_0, g_76_1, g_76_2, g_76_5, g_76_6, g_76_8, g_76_11, g_76_12, g_76_13, g_76_14, g_76_17, g_76_19, g_76_22, g_76_24, g_76_25, g_76_26, g_76_29, g_76_30, g_76_33, g_76_34, g_76_35, g_76_38, g_76_39, g_76_39r, g_76_40, g_76_43, g_76_44, g_76_45, g_76_48, g_76_49, g_76_52, g_76_53, g_76_54, kv_w8_0, kv_w8_1, kv_w8_2, kv_w8_3, kv_w8_4, n_si, n_sl, n_sr, n_mk, sh_si, sh_sl, sh_sr, sh_mk, i_si, i_sl, i_sr, i_mk, l_si, l_sl, l_sr, l_mk, r_si, r_sl, r_sr, r_mk, fil_sh, fil_i, hk, h1, h2, c1, c2, c3, hK, s_8 h, s_10 h, r_8_1 h, qN h hK, nN h hK, kv_rv, m_begin_c h hK n, n1, n2, n3, e1, e2, Option.toList_none, List.nil_append, if_true, if_false, not_false_eq_true, and_self, or_true, (show (15 = 14) = False by decide), Nat.reduceLeDiff]
end NE

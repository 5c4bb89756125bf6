/-! ===== net ===== -/
section NE
variable {d : Nat} {σ : kv_S} {Φ : Option Value → kv_S → Prop}
theorem m_begin_c (h : JS σ) {k : Nat} (hk : k < 8) (n : Int32) : Wc (d + 1) 77 [.ref (101 + 6 * k), .int n] σ Φ = Φ none (kv_fil (kv_si (kv_si σ (101 + 6 * k) 5 n) (101 + 6 * k) 6 0) (106 + 6 * k) 6 (-3)) := by
  rw [Wc_eq, show kv_ent 77 [.ref (101 + 6 * k), .int n] = [.ref (101 + 6 * k), .int n] from rfl]
  have n1 : 8 ≤ 101 + 6 * k := by omega
  have hs : kv_sh (kv_si (kv_si σ (101 + 6 * k) 5 n) (101 + 6 * k) 6 0) (106 + 6 * k) = (10, 6) := nO h hk
  simp only [g_77_0, g_77_1, g_77_2, g_77_5, g_77_6, g_77_7, g_77_10, g_77_11, g_77_14, g_77_16, g_77_19, kv_w8_0, kv_w8_1, kv_w8_2, kv_w8_3, kv_w8_4, n_si, n_sl, n_sr, n_mk, sh_si, sh_sl, sh_sr, sh_mk, i_si, i_sl, i_sr, i_mk, l_si, l_sl, l_sr, l_mk, r_si, r_sl, r_sr, r_mk, nN h hk, qO h hk, kv_rv, n1, m_fill _ (106 + 6 * k) 6 (-3) (by omega) hs (by decide), Option.toList_none, List.nil_append]
theorem m_net_c (h : JS σ) {K : Nat} (hK : K < 8) (hk : kv_i σ 8 10 = Int32.ofNat K) (n : Int32) (h1 : ¬ n < 1) (h2 : n ≤ 8) : Wc (d + 2) 76 [.ref 8, .int n] σ Φ = Φ (some (.int (Int32.ofNat K))) (kv_si (kv_fil (kv_si (kv_si σ (101 + 6 * K) 5 n) (101 + 6 * K) 6 0) (106 + 6 * K) 6 (-3)) 8 10 (Int32.ofNat (K + 1))) := by
  rw [Wc_eq, show kv_ent 76 [.ref 8, .int n] = [.ref 8, .int n] from rfl]
  have c1 : Int32.ofNat K < 8 := nI_lt (a := K) (b := 8) hK (by decide)
  have c2 : ¬ Int32.ofNat K < 0 := nI_pos (n := K) (by omega)
  have c3 : (Int32.ofNat K).toNatClampNeg = K := nI_cl (by omega)
  have e1 : Int32.ofNat K + 1 = Int32.ofNat (K + 1) := (Int32.ofNat_add K 1).symm
  have e2 : Int32.ofNat (K + 1) - 1 = Int32.ofNat K := nI_pred K
  have n1 : ¬ (8 = 106 + 6 * K ∧ 10 < 6) := by omega
  have n2 : ¬ (8 = 101 + 6 * K ∧ 10 = 6) := by omega
  have n3 : ¬ (8 = 101 + 6 * K ∧ 10 = 5) := by omega
  simp only [g_76_0, g_76_1, g_76_2, g_76_5, g_76_6, g_76_8, g_76_11, g_76_12, g_76_13, g_76_14, g_76_17, g_76_19, g_76_22, g_76_24, g_76_25, g_76_26, g_76_29, g_76_30, g_76_33, g_76_34, g_76_35, g_76_38, g_76_39, g_76_39r, g_76_40, g_76_43, g_76_44, g_76_45, g_76_48, g_76_49, g_76_52, g_76_53, g_76_54, kv_w8_0, kv_w8_1, kv_w8_2, kv_w8_3, kv_w8_4, n_si, n_sl, n_sr, n_mk, sh_si, sh_sl, sh_sr, sh_mk, i_si, i_sl, i_sr, i_mk, l_si, l_sl, l_sr, l_mk, r_si, r_sl, r_sr, r_mk, fil_sh, fil_i, hk, h1, h2, c1, c2, c3, hK, s_8 h, s_10 h, r_8_1 h, qN h hK, nN h hK, kv_rv, m_begin_c h hK n, n1, n2, n3, e1, e2, Option.toList_none, List.nil_append, if_true, if_false, not_false_eq_true, and_self, or_true, (show (15 = 14) = False by decide), Nat.reduceLeDiff]
end NE
/-- n places of a row, from s on, are v -/
def kv_frg (σ : kv_S) (a s n : Nat) (v : Int32) : kv_S := (σ.1, (fun b k => if b = a ∧ s ≤ k ∧ k < s + n then v else σ.2.1 b k), σ.2.2)
theorem frg_i (σ : kv_S) (a s n : Nat) (v : Int32) (b k : Nat) : kv_i (kv_frg σ a s n v) b k = if b = a ∧ s ≤ k ∧ k < s + n then v else kv_i σ b k := Eq.trans rfl rfl
theorem frg_sh (σ : kv_S) (a s n : Nat) (v : Int32) : kv_sh (kv_frg σ a s n v) = kv_sh σ := Eq.trans rfl rfl
theorem frg_r (σ : kv_S) (a s n : Nat) (v : Int32) : kv_r (kv_frg σ a s n v) = kv_r σ := Eq.trans rfl rfl
theorem frg_0 (σ : kv_S) (a s : Nat) (v : Int32) : kv_frg σ a s 0 v = σ := by
  have : (fun (b k : Nat) => if b = a ∧ s ≤ k ∧ k < s + 0 then v else σ.2.1 b k) = σ.2.1 := by funext b k; rw [if_neg (by omega)]
  unfold kv_frg
  rw [this]
theorem frg_s (σ : kv_S) (a s n : Nat) (v : Int32) : kv_si (kv_frg σ a s n v) a (s + n) v = kv_frg σ a s (n + 1) v := by
  unfold kv_si kv_frg kv_up
  dsimp only
  congr 2
  funext b k
  by_cases h1 : b = a ∧ k = s + n
  · rw [if_pos h1, if_pos (by omega)]
  · rw [if_neg h1]
    by_cases h2 : b = a ∧ s ≤ k ∧ k < s + n
    · rw [if_pos h2, if_pos (by omega)]
    · rw [if_neg h2, if_neg (by omega)]
theorem JS.frg {σ : kv_S} (h : JS σ) (a s n : Nat) (v : Int32) : JS (kv_frg σ a s n v) := h.of rfl rfl
theorem frg_low (σ : kv_S) {a : Nat} (s n : Nat) (v : Int32) (h : 8 ≤ a) : kv_low σ (kv_frg σ a s n v) := fun b hb => ⟨rfl, by funext k; rw [frg_i, if_neg (by omega)], rfl⟩
theorem m_net_loop {d : Nat} {Φ : Option Value → kv_S → Prop} (σ : kv_S) (h : JS σ) {K : Nat} (hK : K < 8) (hk : kv_i σ 149 26 = Int32.ofNat K) (n : Int32) : ∀ m j, j + m = 6 → Wp d 154 47 [.ref 149, .int n, .int (Int32.ofNat j)] [] (kv_frg σ 174 (6 * K) j (-3)) Φ = Wp d 154 75 [.ref 149, .int n, .int 6] [] (kv_frg σ 174 (6 * K) 6 (-3)) Φ
  | 0, j, e => by
    have : j = 6 := by omega
    subst this
    rw [show Int32.ofNat 6 = (6 : Int32) by decide, g_154_47, g_154_48, g_154_50, if_pos (by decide)]
  | m + 1, j, e => by
    have c1 : ¬ (6 : Int32) ≤ Int32.ofNat j := nI_ge (a := j) (b := 6) (by omega) (by decide)
    obtain ⟨x1, x2⟩ := i32_lin (a := 6) (k := K) (j := j) (x := 6) (p := Int32.ofNat K) (q := Int32.ofNat j) (by omega) (by decide) rfl rfl
    have x3 : 6 * K + j < 48 := by omega
    have n1 : ¬ (149 = 174) := by decide
    rw [g_154_47, g_154_48, g_154_50, if_neg c1]
    simp only [g_154_53, g_154_54, g_154_57, g_154_59, g_154_60, g_154_63, g_154_64, g_154_65, g_154_66, g_154_68, g_154_69, g_154_72, frg_sh, frg_r, frg_i, s_149 h, s_174 h, r_149_33 h, kv_rv, hk, x1, x2, x3, n1, frg_s, false_and, if_false, not_false_eq_true, (show ∀ x : Int32, kv_c1 (.int x) = true from fun _ => rfl), Nat.reduceLeDiff]
    rw [show Int32.ofNat j + 1 = Int32.ofNat (j + 1) from (Int32.ofNat_add j 1).symm]
    exact m_net_loop σ h hK hk n m (j + 1) (by omega)
theorem m_net_m {d : Nat} {Φ : Option Value → kv_S → Prop} {σ : kv_S} (h : JS σ) {K : Nat} (hK : K < 8) (hk : kv_i σ 149 26 = Int32.ofNat K) (n : Int32) (h1 : ¬ n < 1) (h2 : n ≤ 8) : Wc d 154 [.ref 149, .int n] σ Φ = Φ (some (.int (Int32.ofNat K))) (kv_si (kv_frg (kv_si (kv_si σ 168 K n) 169 K 0) 174 (6 * K) 6 (-3)) 149 26 (Int32.ofNat (K + 1))) := by
  rw [Wc_eq, show kv_ent 154 [.ref 149, .int n] = [.ref 149, .int n, .null] from rfl]
  have c0 : ¬ Int32.ofNat K = 8 := by
    rw [show (8 : Int32) = Int32.ofNat 8 by decide, i32_inj (by omega) (by decide)]
    omega
  have c2 : ¬ Int32.ofNat K < 0 := nI_pos (n := K) (by omega)
  have c3 : (Int32.ofNat K).toNatClampNeg = K := nI_cl (by omega)
  have e1 : Int32.ofNat K + 1 = Int32.ofNat (K + 1) := (Int32.ofNat_add K 1).symm
  have e2 : Int32.ofNat (K + 1) - 1 = Int32.ofNat K := nI_pred K
  have hs : JS (kv_si (kv_si σ 168 K n) 169 K 0) := (h.si _ _ _).si _ _ _
  have hk2 : kv_i (kv_si (kv_si σ 168 K n) 169 K 0) 149 26 = Int32.ofNat K := by rw [ne_ess (by omega), ne_ess (by omega)]; exact hk
  have hl := m_net_loop (d := d) (Φ := Φ) _ hs hK hk2 n 6 0 (by omega)
  rw [frg_0, show Int32.ofNat 0 = (0 : Int32) by decide] at hl
  simp only [g_154_0, g_154_1, g_154_2, g_154_5, g_154_6, g_154_8, g_154_11, g_154_12, g_154_13, g_154_14, g_154_17, g_154_19, g_154_22, g_154_24, g_154_25, g_154_26, g_154_29, g_154_30, g_154_33, g_154_34, g_154_35, g_154_36, g_154_39, g_154_40, g_154_43, g_154_44, g_154_45, g_154_46, n_si, n_sl, n_sr, n_mk, sh_si, sh_sl, sh_sr, sh_mk, i_si, i_sl, i_sr, i_mk, l_si, l_sl, l_sr, l_mk, r_si, r_sl, r_sr, r_mk, hk, h1, h2, c0, c2, c3, hK, s_149 h, s_168 h, s_169 h, r_149_27 h, r_149_28 h, kv_rv, if_true, if_false, not_false_eq_true, (show ¬ (149 = 168) by decide), (show ¬ (149 = 169) by decide), false_and, (show ∀ x : Int32, kv_c1 (.int x) = true from fun _ => rfl), Nat.reduceLeDiff]
  rw [hl]
  simp only [g_154_75, g_154_76, g_154_76r, g_154_77, g_154_80, g_154_81, g_154_82, g_154_85, g_154_86, g_154_89, g_154_90, g_154_91, n_si, n_sl, n_sr, n_mk, sh_si, sh_sl, sh_sr, sh_mk, i_si, i_sl, i_sr, i_mk, l_si, l_sl, l_sr, l_mk, r_si, r_sl, r_sr, r_mk, frg_sh, frg_i, hk, s_149 h, (show ¬ (149 = 174) by decide), (show ¬ (149 = 168) by decide), (show ¬ (149 = 169) by decide), false_and, if_false, if_true, and_self, e1, e2, Nat.reduceLeDiff]
section NB
variable {d : Nat} {σ : kv_S} {Φ : Option Value → kv_S → Prop}
theorem m_net_cb (n : Int32) (hb : n < 1 ∨ ¬ n ≤ 8) : Wc (d + 2) 76 [.ref 8, .int n] σ Φ = Φ (some (.int (-1))) σ := by
  rw [Wc_eq, show kv_ent 76 [.ref 8, .int n] = [.ref 8, .int n] from rfl]
  by_cases c : n < 1
  · simp only [g_76_0, g_76_1, g_76_2, g_76_5, g_76_6, g_76_8, g_76_11, g_76_12, c, if_true]
  · simp only [g_76_0, g_76_1, g_76_2, g_76_5, g_76_6, g_76_8, g_76_11, g_76_12, c, hb.resolve_left c, if_true, if_false]
theorem m_net_mb (n : Int32) (hb : n < 1 ∨ ¬ n ≤ 8) : Wc d 154 [.ref 149, .int n] σ Φ = Φ (some (.int (-1))) σ := by
  rw [Wc_eq, show kv_ent 154 [.ref 149, .int n] = [.ref 149, .int n, .null] from rfl]
  by_cases c : n < 1
  · simp only [g_154_0, g_154_1, g_154_2, g_154_5, g_154_6, g_154_8, g_154_11, g_154_12, c, if_true]
  · simp only [g_154_0, g_154_1, g_154_2, g_154_5, g_154_6, g_154_8, g_154_11, g_154_12, c, hb.resolve_left c, if_true, if_false]
theorem m_net_cf (h : JS σ) (hk : kv_i σ 8 10 = 8) (n : Int32) (h1 : ¬ n < 1) (h2 : n ≤ 8) : Wc (d + 2) 76 [.ref 8, .int n] σ Φ = Φ (some (.int (-3))) σ := by
  rw [Wc_eq, show kv_ent 76 [.ref 8, .int n] = [.ref 8, .int n] from rfl]
  simp only [g_76_0, g_76_1, g_76_2, g_76_5, g_76_6, g_76_8, g_76_11, g_76_12, g_76_13, g_76_14, g_76_17, g_76_19, g_76_22, g_76_24, s_8 h, hk, h1, h2, (show ¬ (8 : Int32) < 8 by decide), if_true, if_false]
theorem m_net_mf (h : JS σ) (hk : kv_i σ 149 26 = 8) (n : Int32) (h1 : ¬ n < 1) (h2 : n ≤ 8) : Wc d 154 [.ref 149, .int n] σ Φ = Φ (some (.int (-3))) σ := by
  rw [Wc_eq, show kv_ent 154 [.ref 149, .int n] = [.ref 149, .int n, .null] from rfl]
  simp only [g_154_0, g_154_1, g_154_2, g_154_5, g_154_6, g_154_8, g_154_11, g_154_12, g_154_13, g_154_14, g_154_17, g_154_19, g_154_22, g_154_24, s_149 h, hk, h1, h2, not_true_eq_false, if_true, if_false]
end NB

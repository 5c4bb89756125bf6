/-! ===== out ===== -/
section OU
variable {d : Nat} {σ : kv_S} {Φ : Option Value → kv_S → Prop}
theorem m_out_c (h : JS σ) {K k w G i : Nat} (hK : K ≤ 8) (hk : kv_i σ 8 10 = Int32.ofNat K) {p q : Int32} (hp : ¬ p < 0 ∧ p < Int32.ofNat K) (ec : p.toNatClampNeg = k) (hk8 : k < 8) (hq0 : ¬ q < 0) (hq1 : q < 6) (ei : q.toNatClampNeg = i) (hi : i < 6) (hw : w ≤ 8) (hG : G ≤ 40) (e5 : kv_i σ (101 + 6 * k) 5 = Int32.ofNat w) (e6 : kv_i σ (101 + 6 * k) 6 = Int32.ofNat G) (x : Int32) (hx : x = -3 ∨ vO w G x) : Wc (d + 2) 83 [.ref 8, .int p, .int q, .int x] σ Φ = Φ (some (.int 0)) (if kv_i σ (106 + 6 * k) i = x then σ else if kv_i σ 32 5 = p then kv_si (kv_si σ (106 + 6 * k) i x) 32 5 (-1) else kv_si σ (106 + 6 * k) i x) := by
  rw [Wc_eq, show kv_ent 83 [.ref 8, .int p, .int q, .int x] = [.ref 8, .int p, .int q, .int x] from rfl]
  have hs := h.si (106 + 6 * k) i x
  have n1 : ¬ (32 = 106 + 6 * k ∧ 5 = i) := by omega
  have n2 : 8 ≤ 106 + 6 * k := by omega
  have h4 : ¬ (6 : Int32) ≤ q := by rw [Int32.not_le]; exact hq1
  by_cases c : x = -3
  · by_cases e : kv_i σ (106 + 6 * k) i = x
    · simp only [g_83_0, g_83_1, g_83_2, g_83_5, g_83_8, g_83_9, g_83_12, g_83_13, g_83_15, g_83_18, g_83_19, g_83_21, g_83_24, g_83_25, g_83_26, g_83_27, g_83_30, g_83_33, g_83_34, g_83_35, g_83_36, g_83_39, g_83_40, g_83_41, g_83_44, g_83_45, g_83_46, g_83_47, g_83_50, g_83_51, g_83_54, g_83_55, g_83_56, g_83_59, g_83_60, g_83_61, g_83_62, g_83_63, g_83_66, g_83_67, g_83_70, g_83_71, kv_w8_0, kv_w8_1, kv_w8_2, kv_w8_3, kv_w8_4, n_si, n_sl, n_sr, n_mk, sh_si, sh_sl, sh_sr, sh_mk, i_si, i_sl, i_sr, i_mk, l_si, l_sl, l_sr, l_mk, r_si, r_sl, r_sr, r_mk, m_isNet_c h, hk, hp, hq0, hq1, h4, ec, ei, hi, hk8, e, c, s_8 h, s_10 h, r_8_1 h, qN h hk8, nN h hk8, qO h hk8, nO h hk8, kv_rv, Option.toList_some, List.cons_append, List.nil_append, (show ¬ (1 : Int32) = 0 by decide), if_true, if_false, not_false_eq_true, and_self, or_true, (show (15 = 14) = False by decide), Nat.reduceLeDiff]
    · rw [c] at e hs
      simp only [g_83_0, g_83_1, g_83_2, g_83_5, g_83_8, g_83_9, g_83_12, g_83_13, g_83_15, g_83_18, g_83_19, g_83_21, g_83_24, g_83_25, g_83_26, g_83_27, g_83_30, g_83_33, g_83_34, g_83_35, g_83_36, g_83_39, g_83_40, g_83_41, g_83_44, g_83_45, g_83_46, g_83_47, g_83_50, g_83_51, g_83_54, g_83_55, g_83_56, g_83_59, g_83_60, g_83_61, g_83_62, g_83_63, g_83_66, g_83_67, g_83_70, g_83_71, kv_w8_0, kv_w8_1, kv_w8_2, kv_w8_3, kv_w8_4, n_si, n_sl, n_sr, n_mk, sh_si, sh_sl, sh_sr, sh_mk, i_si, i_sl, i_sr, i_mk, l_si, l_sl, l_sr, l_mk, r_si, r_sl, r_sr, r_mk, m_isNet_c h, m_note_c hs, hk, hp, hq0, hq1, h4, ec, ei, hi, hk8, e, c, n1, n2, s_8 h, s_10 h, s_32 h, r_8_1 h, r_8_8 h, qN h hk8, nN h hk8, qO h hk8, nO h hk8, kv_rv, Option.toList_some, Option.toList_none, List.cons_append, List.nil_append, (show ¬ (1 : Int32) = 0 by decide), if_true, if_false, not_false_eq_true, and_self, or_true, (show (15 = 14) = False by decide), Nat.reduceLeDiff]
  · have hv := hx.resolve_left c
    by_cases e : kv_i σ (106 + 6 * k) i = x
    · simp only [g_83_0, g_83_1, g_83_2, g_83_5, g_83_8, g_83_9, g_83_12, g_83_13, g_83_15, g_83_18, g_83_19, g_83_21, g_83_24, g_83_25, g_83_26, g_83_27, g_83_30, g_83_33, g_83_34, g_83_35, g_83_36, g_83_39, g_83_40, g_83_41, g_83_44, g_83_45, g_83_46, g_83_47, g_83_50, g_83_51, g_83_54, g_83_55, g_83_56, g_83_59, g_83_60, g_83_61, g_83_62, g_83_63, g_83_66, g_83_67, g_83_70, g_83_71, kv_w8_0, kv_w8_1, kv_w8_2, kv_w8_3, kv_w8_4, n_si, n_sl, n_sr, n_mk, sh_si, sh_sl, sh_sr, sh_mk, i_si, i_sl, i_sr, i_mk, l_si, l_sl, l_sr, l_mk, r_si, r_sl, r_sr, r_mk, m_isNet_c h, m_isOp_ct h hK hk hp ec hk8 hw hG e5 e6 x hv, hk, hp, hq0, hq1, h4, ec, ei, hi, hk8, e, c, s_8 h, s_10 h, r_8_1 h, qN h hk8, nN h hk8, qO h hk8, nO h hk8, kv_rv, Option.toList_some, List.cons_append, List.nil_append, (show ¬ (1 : Int32) = 0 by decide), if_true, if_false, not_false_eq_true, and_self, or_true, (show (15 = 14) = False by decide), Nat.reduceLeDiff]
    · simp only [g_83_0, g_83_1, g_83_2, g_83_5, g_83_8, g_83_9, g_83_12, g_83_13, g_83_15, g_83_18, g_83_19, g_83_21, g_83_24, g_83_25, g_83_26, g_83_27, g_83_30, g_83_33, g_83_34, g_83_35, g_83_36, g_83_39, g_83_40, g_83_41, g_83_44, g_83_45, g_83_46, g_83_47, g_83_50, g_83_51, g_83_54, g_83_55, g_83_56, g_83_59, g_83_60, g_83_61, g_83_62, g_83_63, g_83_66, g_83_67, g_83_70, g_83_71, kv_w8_0, kv_w8_1, kv_w8_2, kv_w8_3, kv_w8_4, n_si, n_sl, n_sr, n_mk, sh_si, sh_sl, sh_sr, sh_mk, i_si, i_sl, i_sr, i_mk, l_si, l_sl, l_sr, l_mk, r_si, r_sl, r_sr, r_mk, m_isNet_c h, m_note_c hs, m_isOp_ct h hK hk hp ec hk8 hw hG e5 e6 x hv, hk, hp, hq0, hq1, h4, ec, ei, hi, hk8, e, c, n1, n2, s_8 h, s_10 h, s_32 h, r_8_1 h, r_8_8 h, qN h hk8, nN h hk8, qO h hk8, nO h hk8, kv_rv, Option.toList_some, Option.toList_none, List.cons_append, List.nil_append, (show ¬ (1 : Int32) = 0 by decide), if_true, if_false, not_false_eq_true, and_self, or_true, (show (15 = 14) = False by decide), Nat.reduceLeDiff]
theorem m_out_cb (h : JS σ) {K : Nat} (hK : K ≤ 8) (hk : kv_i σ 8 10 = Int32.ofNat K) (p q x : Int32) (hb : ¬ (¬ p < 0 ∧ p < Int32.ofNat K) ∨ ¬ (¬ q < 0 ∧ q < 6)) : Wc (d + 2) 83 [.ref 8, .int p, .int q, .int x] σ Φ = Φ (some (.int (-1))) σ := by
  rw [Wc_eq, show kv_ent 83 [.ref 8, .int p, .int q, .int x] = [.ref 8, .int p, .int q, .int x] from rfl]
  by_cases hp : ¬ p < 0 ∧ p < Int32.ofNat K
  · have hq := hb.resolve_left (fun w => w hp)
    by_cases c : q < 0
    · simp only [g_83_0, g_83_1, g_83_2, g_83_5, g_83_8, g_83_9, g_83_12, g_83_13, g_83_15, g_83_18, g_83_19, g_83_21, g_83_24, g_83_25, g_83_26, g_83_27, g_83_30, g_83_33, g_83_34, kv_w8_0, kv_w8_1, kv_w8_2, kv_w8_3, kv_w8_4, m_isNet_c h, hk, hp, c, s_8 h, Option.toList_some, List.cons_append, List.nil_append, (show ¬ (1 : Int32) = 0 by decide), if_true, if_false, not_false_eq_true, and_self]
    · have c2 : (6 : Int32) ≤ q := by
        have : ¬ q < 6 := fun w => hq ⟨c, w⟩
        rw [Int32.not_lt] at this; exact this
      simp only [g_83_0, g_83_1, g_83_2, g_83_5, g_83_8, g_83_9, g_83_12, g_83_13, g_83_15, g_83_18, g_83_19, g_83_21, g_83_24, g_83_25, g_83_26, g_83_27, g_83_30, g_83_33, g_83_34, kv_w8_0, kv_w8_1, kv_w8_2, kv_w8_3, kv_w8_4, m_isNet_c h, hk, hp, c, c2, s_8 h, Option.toList_some, List.cons_append, List.nil_append, (show ¬ (1 : Int32) = 0 by decide), if_true, if_false, not_false_eq_true, and_self]
  · simp only [g_83_0, g_83_1, g_83_2, g_83_5, g_83_8, g_83_9, g_83_12, g_83_13, g_83_15, g_83_18, g_83_19, g_83_21, g_83_24, g_83_25, g_83_26, g_83_27, g_83_30, g_83_33, g_83_34, kv_w8_0, kv_w8_1, kv_w8_2, kv_w8_3, kv_w8_4, m_isNet_c h, hk, hp, s_8 h, Option.toList_some, List.cons_append, List.nil_append, if_true, if_false]
theorem m_out_cx (h : JS σ) {K k w G : Nat} (hK : K ≤ 8) (hk : kv_i σ 8 10 = Int32.ofNat K) {p q : Int32} (hp : ¬ p < 0 ∧ p < Int32.ofNat K) (ec : p.toNatClampNeg = k) (hk8 : k < 8) (hq0 : ¬ q < 0) (hq1 : q < 6) (hw : w ≤ 8) (hG : G ≤ 40) (e5 : kv_i σ (101 + 6 * k) 5 = Int32.ofNat w) (e6 : kv_i σ (101 + 6 * k) 6 = Int32.ofNat G) (x : Int32) (hx3 : ¬ x = -3) (hx : ¬ vO w G x) : Wc (d + 2) 83 [.ref 8, .int p, .int q, .int x] σ Φ = Φ (some (.int (-1))) σ := by
  rw [Wc_eq, show kv_ent 83 [.ref 8, .int p, .int q, .int x] = [.ref 8, .int p, .int q, .int x] from rfl]
  have h4 : ¬ (6 : Int32) ≤ q := by rw [Int32.not_le]; exact hq1
  simp only [g_83_0, g_83_1, g_83_2, g_83_5, g_83_8, g_83_9, g_83_12, g_83_13, g_83_15, g_83_18, g_83_19, g_83_21, g_83_24, g_83_25, g_83_26, g_83_27, g_83_30, g_83_33, g_83_34, kv_w8_0, kv_w8_1, kv_w8_2, kv_w8_3, kv_w8_4, m_isNet_c h, m_isOp_cf h hK hk hp ec hk8 hw hG e5 e6 x hx, hk, hp, hq0, h4, hx3, s_8 h, Option.toList_some, List.cons_append, List.nil_append, (show ¬ (1 : Int32) = 0 by decide), if_true, if_false, not_false_eq_true, not_true_eq_false, and_self]
end OU
section OM
variable {d : Nat} {σ : kv_S} {Φ : Option Value → kv_S → Prop}
theorem m_out_m (h : JS σ) {K k w G i : Nat} (hK : K ≤ 8) (hk : kv_i σ 149 26 = Int32.ofNat K) {p q : Int32} (hp : ¬ p < 0 ∧ p < Int32.ofNat K) (ep : p = Int32.ofNat k) (ec : p.toNatClampNeg = k) (hk8 : k < 8) (hq : ¬ q < 0 ∧ q < 6) (eq_ : q = Int32.ofNat i) (hi : i < 6) (hw : w ≤ 8) (hG : G ≤ 40) (e5 : kv_i σ 168 k = Int32.ofNat w) (e6 : kv_i σ 169 k = Int32.ofNat G) (x : Int32) (hx : x = -3 ∨ vO w G x) : Wc (d + 2) 161 [.ref 149, .int p, .int q, .int x] σ Φ = Φ (some (.int 0)) (kv_si (if kv_i σ 174 (6 * k + i) = x then σ else if kv_i σ 149 34 = p then kv_si σ 149 34 (-1) else σ) 174 (6 * k + i) x) := by
  rw [Wc_eq, show kv_ent 161 [.ref 149, .int p, .int q, .int x] = [.ref 149, .int p, .int q, .int x] from rfl]
  obtain ⟨x1, x2⟩ := i32_lin (a := 6) (k := k) (j := i) (x := 6) (by omega) (by decide) ep eq_
  have x3 : 6 * k + i < 48 := by omega
  by_cases c : x = -3
  · by_cases e : kv_i σ 174 (6 * k + i) = x
    · rw [c] at e
      simp only [g_161_0, g_161_1, g_161_2, g_161_5, g_161_8, g_161_9, g_161_12, g_161_15, g_161_16, g_161_18, g_161_21, g_161_22, g_161_23, g_161_24, g_161_27, g_161_30, g_161_31, g_161_32, g_161_33, g_161_36, g_161_38, g_161_39, g_161_40, g_161_41, g_161_42, g_161_43, g_161_44, g_161_47, g_161_48, g_161_49, g_161_52, g_161_53, g_161_56, g_161_58, g_161_59, g_161_60, g_161_61, g_161_62, g_161_63, g_161_64, g_161_65, kv_w8_0, kv_w8_1, kv_w8_2, kv_w8_3, kv_w8_4, n_si, n_sl, n_sr, n_mk, sh_si, sh_sl, sh_sr, sh_mk, i_si, i_sl, i_sr, i_mk, l_si, l_sl, l_sr, l_mk, r_si, r_sl, r_sr, r_mk, m_isNet_m h, m_isOutput_m, hk, hp, hq, x1, x2, x3, e, c, s_149 h, s_174 h, r_149_33 h, kv_rv, Option.toList_some, List.cons_append, List.nil_append, (show ¬ (1 : Int32) = 0 by decide), if_true, if_false, not_false_eq_true, and_self, Nat.reduceLeDiff]
    · rw [c] at e
      by_cases u : kv_i σ 149 34 = p
      · simp only [g_161_0, g_161_1, g_161_2, g_161_5, g_161_8, g_161_9, g_161_12, g_161_15, g_161_16, g_161_18, g_161_21, g_161_22, g_161_23, g_161_24, g_161_27, g_161_30, g_161_31, g_161_32, g_161_33, g_161_36, g_161_38, g_161_39, g_161_40, g_161_41, g_161_42, g_161_43, g_161_44, g_161_47, g_161_48, g_161_49, g_161_52, g_161_53, g_161_56, g_161_58, g_161_59, g_161_60, g_161_61, g_161_62, g_161_63, g_161_64, g_161_65, kv_w8_0, kv_w8_1, kv_w8_2, kv_w8_3, kv_w8_4, n_si, n_sl, n_sr, n_mk, sh_si, sh_sl, sh_sr, sh_mk, i_si, i_sl, i_sr, i_mk, l_si, l_sl, l_sr, l_mk, r_si, r_sl, r_sr, r_mk, m_isNet_m h, m_isOutput_m, m_changed_m h, hk, hp, hq, x1, x2, x3, e, c, u, s_149 h, s_174 h, r_149_33 h, kv_rv, Option.toList_some, Option.toList_none, List.cons_append, List.nil_append, (show ¬ (1 : Int32) = 0 by decide), if_true, if_false, not_false_eq_true, and_self, Nat.reduceLeDiff]
      · simp only [g_161_0, g_161_1, g_161_2, g_161_5, g_161_8, g_161_9, g_161_12, g_161_15, g_161_16, g_161_18, g_161_21, g_161_22, g_161_23, g_161_24, g_161_27, g_161_30, g_161_31, g_161_32, g_161_33, g_161_36, g_161_38, g_161_39, g_161_40, g_161_41, g_161_42, g_161_43, g_161_44, g_161_47, g_161_48, g_161_49, g_161_52, g_161_53, g_161_56, g_161_58, g_161_59, g_161_60, g_161_61, g_161_62, g_161_63, g_161_64, g_161_65, kv_w8_0, kv_w8_1, kv_w8_2, kv_w8_3, kv_w8_4, n_si, n_sl, n_sr, n_mk, sh_si, sh_sl, sh_sr, sh_mk, i_si, i_sl, i_sr, i_mk, l_si, l_sl, l_sr, l_mk, r_si, r_sl, r_sr, r_mk, m_isNet_m h, m_isOutput_m, m_changed_m h, hk, hp, hq, x1, x2, x3, e, c, u, s_149 h, s_174 h, r_149_33 h, kv_rv, Option.toList_some, Option.toList_none, List.cons_append, List.nil_append, (show ¬ (1 : Int32) = 0 by decide), if_true, if_false, not_false_eq_true, and_self, Nat.reduceLeDiff]
  · have hv := hx.resolve_left c
    by_cases e : kv_i σ 174 (6 * k + i) = x
    · simp only [g_161_0, g_161_1, g_161_2, g_161_5, g_161_8, g_161_9, g_161_12, g_161_15, g_161_16, g_161_18, g_161_21, g_161_22, g_161_23, g_161_24, g_161_27, g_161_30, g_161_31, g_161_32, g_161_33, g_161_36, g_161_38, g_161_39, g_161_40, g_161_41, g_161_42, g_161_43, g_161_44, g_161_47, g_161_48, g_161_49, g_161_52, g_161_53, g_161_56, g_161_58, g_161_59, g_161_60, g_161_61, g_161_62, g_161_63, g_161_64, g_161_65, kv_w8_0, kv_w8_1, kv_w8_2, kv_w8_3, kv_w8_4, n_si, n_sl, n_sr, n_mk, sh_si, sh_sl, sh_sr, sh_mk, i_si, i_sl, i_sr, i_mk, l_si, l_sl, l_sr, l_mk, r_si, r_sl, r_sr, r_mk, m_isNet_m h, m_isOutput_m, m_isOp_mt h hp.1 ec hk8 hw hG e5 e6 x hv, hk, hp, hq, x1, x2, x3, e, c, s_149 h, s_174 h, r_149_33 h, kv_rv, Option.toList_some, List.cons_append, List.nil_append, (show ¬ (1 : Int32) = 0 by decide), if_true, if_false, not_false_eq_true, and_self, Nat.reduceLeDiff]
    · by_cases u : kv_i σ 149 34 = p
      · simp only [g_161_0, g_161_1, g_161_2, g_161_5, g_161_8, g_161_9, g_161_12, g_161_15, g_161_16, g_161_18, g_161_21, g_161_22, g_161_23, g_161_24, g_161_27, g_161_30, g_161_31, g_161_32, g_161_33, g_161_36, g_161_38, g_161_39, g_161_40, g_161_41, g_161_42, g_161_43, g_161_44, g_161_47, g_161_48, g_161_49, g_161_52, g_161_53, g_161_56, g_161_58, g_161_59, g_161_60, g_161_61, g_161_62, g_161_63, g_161_64, g_161_65, kv_w8_0, kv_w8_1, kv_w8_2, kv_w8_3, kv_w8_4, n_si, n_sl, n_sr, n_mk, sh_si, sh_sl, sh_sr, sh_mk, i_si, i_sl, i_sr, i_mk, l_si, l_sl, l_sr, l_mk, r_si, r_sl, r_sr, r_mk, m_isNet_m h, m_isOutput_m, m_changed_m h, m_isOp_mt h hp.1 ec hk8 hw hG e5 e6 x hv, hk, hp, hq, x1, x2, x3, e, c, u, s_149 h, s_174 h, r_149_33 h, kv_rv, Option.toList_some, Option.toList_none, List.cons_append, List.nil_append, (show ¬ (1 : Int32) = 0 by decide), if_true, if_false, not_false_eq_true, and_self, Nat.reduceLeDiff]
      · simp only [g_161_0, g_161_1, g_161_2, g_161_5, g_161_8, g_161_9, g_161_12, g_161_15, g_161_16, g_161_18, g_161_21, g_161_22, g_161_23, g_161_24, g_161_27, g_161_30, g_161_31, g_161_32, g_161_33, g_161_36, g_161_38, g_161_39, g_161_40, g_161_41, g_161_42, g_161_43, g_161_44, g_161_47, g_161_48, g_161_49, g_161_52, g_161_53, g_161_56, g_161_58, g_161_59, g_161_60, g_161_61, g_161_62, g_161_63, g_161_64, g_161_65, kv_w8_0, kv_w8_1, kv_w8_2, kv_w8_3, kv_w8_4, n_si, n_sl, n_sr, n_mk, sh_si, sh_sl, sh_sr, sh_mk, i_si, i_sl, i_sr, i_mk, l_si, l_sl, l_sr, l_mk, r_si, r_sl, r_sr, r_mk, m_isNet_m h, m_isOutput_m, m_changed_m h, m_isOp_mt h hp.1 ec hk8 hw hG e5 e6 x hv, hk, hp, hq, x1, x2, x3, e, c, u, s_149 h, s_174 h, r_149_33 h, kv_rv, Option.toList_some, Option.toList_none, List.cons_append, List.nil_append, (show ¬ (1 : Int32) = 0 by decide), if_true, if_false, not_false_eq_true, and_self, Nat.reduceLeDiff]
theorem m_out_mb (h : JS σ) {K : Nat} (hK : K ≤ 8) (hk : kv_i σ 149 26 = Int32.ofNat K) (p q x : Int32) (hb : ¬ (¬ p < 0 ∧ p < Int32.ofNat K) ∨ ¬ (¬ q < 0 ∧ q < 6)) : Wc (d + 2) 161 [.ref 149, .int p, .int q, .int x] σ Φ = Φ (some (.int (-1))) σ := by
  rw [Wc_eq, show kv_ent 161 [.ref 149, .int p, .int q, .int x] = [.ref 149, .int p, .int q, .int x] from rfl]
  by_cases hp : ¬ p < 0 ∧ p < Int32.ofNat K
  · have hq := hb.resolve_left (fun w => w hp)
    simp only [g_161_0, g_161_1, g_161_2, g_161_5, g_161_8, g_161_9, g_161_12, g_161_15, g_161_16, g_161_18, g_161_21, g_161_22, g_161_23, g_161_24, g_161_27, g_161_30, g_161_31, kv_w8_0, kv_w8_1, kv_w8_2, kv_w8_3, kv_w8_4, m_isNet_m h, m_isOutput_m, hk, hp, hq, s_149 h, Option.toList_some, List.cons_append, List.nil_append, (show ¬ (1 : Int32) = 0 by decide), if_true, if_false, not_false_eq_true, and_self]
  · simp only [g_161_0, g_161_1, g_161_2, g_161_5, g_161_8, g_161_9, g_161_12, g_161_15, g_161_16, g_161_18, g_161_21, g_161_22, g_161_23, g_161_24, g_161_27, g_161_30, g_161_31, kv_w8_0, kv_w8_1, kv_w8_2, kv_w8_3, kv_w8_4, m_isNet_m h, hk, hp, s_149 h, Option.toList_some, List.cons_append, List.nil_append, if_true, if_false]
theorem m_out_mx (h : JS σ) {K k w G : Nat} (hK : K ≤ 8) (hk : kv_i σ 149 26 = Int32.ofNat K) {p q : Int32} (hp : ¬ p < 0 ∧ p < Int32.ofNat K) (ec : p.toNatClampNeg = k) (hk8 : k < 8) (hq : ¬ q < 0 ∧ q < 6) (hw : w ≤ 8) (hG : G ≤ 40) (e5 : kv_i σ 168 k = Int32.ofNat w) (e6 : kv_i σ 169 k = Int32.ofNat G) (x : Int32) (hx3 : ¬ x = -3) (hx : ¬ vO w G x) : Wc (d + 2) 161 [.ref 149, .int p, .int q, .int x] σ Φ = Φ (some (.int (-1))) σ := by
  rw [Wc_eq, show kv_ent 161 [.ref 149, .int p, .int q, .int x] = [.ref 149, .int p, .int q, .int x] from rfl]
  simp only [g_161_0, g_161_1, g_161_2, g_161_5, g_161_8, g_161_9, g_161_12, g_161_15, g_161_16, g_161_18, g_161_21, g_161_22, g_161_23, g_161_24, g_161_27, g_161_30, g_161_31, kv_w8_0, kv_w8_1, kv_w8_2, kv_w8_3, kv_w8_4, m_isNet_m h, m_isOutput_m, m_isOp_mf h hp.1 ec hk8 hw hG e5 e6 x hx, hk, hp, hq, hx3, s_149 h, Option.toList_some, List.cons_append, List.nil_append, (show ¬ (1 : Int32) = 0 by decide), if_true, if_false, not_false_eq_true, not_true_eq_false, and_self]
end OM
/-- one output is set on both sides -/
theorem JN.out {σ τ : kv_S} {k w0 G0 i0 : Nat} {v : Int32} (hk : k < 8) (hi0 : i0 < 6) (e5 : kv_i σ (101 + 6 * k) 5 = Int32.ofNat w0) (e6 : kv_i σ (101 + 6 * k) 6 = Int32.ofNat G0) (hw0 : w0 ≤ 8) (hG0 : G0 ≤ 40) (hv : v = -3 ∨ vO w0 G0 v) (h : ∀ b j, (101 ≤ b ∧ b < 149 ∨ 168 ≤ b ∧ b ≤ 174) → ¬ (b = 106 + 6 * k ∧ j = i0) → ¬ (b = 174 ∧ j = 6 * k + i0) → kv_i τ b j = kv_i σ b j) (e1 : kv_i τ (106 + 6 * k) i0 = v) (e2 : kv_i τ 174 (6 * k + i0) = v) (c1 : kv_i τ 8 10 = kv_i σ 8 10) (c2 : kv_i τ 149 26 = kv_i σ 149 26) (H : JN σ) : JN τ := by
  obtain ⟨K, a, b, c, H⟩ := H
  refine ⟨K, a, c1.trans b, c2.trans c, fun n hn => ?_⟩
  obtain ⟨w, G, w1, w2, w3, w4, w5, w6, w7, w8, w9⟩ := H n hn
  refine ⟨w, G, w1, w2, w3, ?_, ?_, ?_, ?_, fun j hj => ?_, fun i hi => ?_⟩
  · rw [h _ _ (by omega) (by omega) (by omega)]; exact w4
  · rw [h _ _ (by omega) (by omega) (by omega)]; exact w5
  · rw [h _ _ (by omega) (by omega) (by omega)]; exact w6
  · rw [h _ _ (by omega) (by omega) (by omega)]; exact w7
  · have := w8 j hj
    unfold JN2 at *
    rw [h (102 + 6 * n) j (by omega) (by omega) (by omega), h 170 (40 * n + j) (by omega) (by omega) (by omega), h 171 (40 * n + j) (by omega) (by omega) (by omega), h (103 + 6 * n) j (by omega) (by omega) (by omega), h 172 (40 * n + j) (by omega) (by omega) (by omega), h (104 + 6 * n) j (by omega) (by omega) (by omega), h 173 (40 * n + j) (by omega) (by omega) (by omega), h (105 + 6 * n) j (by omega) (by omega) (by omega)]
    exact this
  · by_cases cc : n = k ∧ i = i0
    · obtain ⟨rfl, rfl⟩ := cc
      rw [e1, e2]
      have ew : w = w0 := by rw [e5, i32_inj (by omega) (by omega)] at w4; omega
      have eG : G = G0 := by rw [e6, i32_inj (by omega) (by omega)] at w6; omega
      rw [ew, eG]
      exact ⟨rfl, hv⟩
    · rw [h 174 _ (by omega) (by omega) (by omega), h (106 + 6 * n) _ (by omega) (by omega) (by omega)]
      exact w9 i hi
/-- promise 19: out -/
theorem o_17 (d : Nat) : ob_17 JJ (d + 2) := by
  intro σ h p q x
  have h' := h
  obtain ⟨a1, a2, a3, a4, ⟨K, hK, k1, k2, k3⟩, a6, a7⟩ := h'
  by_cases hb : (¬ p < 0 ∧ p < Int32.ofNat K) ∧ (¬ q < 0 ∧ q < 6)
  · obtain ⟨hp, hq⟩ := hb
    obtain ⟨k, hk, ep, ec⟩ := i32_nat (by omega) hp.1 hp.2
    obtain ⟨i, hi, eq_, ei⟩ := i32_nat (n := 6) (by decide) hq.1 hq.2
    obtain ⟨w, G, w1, w2, w3, w4, w5, w6, w7, w8, w9⟩ := k3 k hk
    by_cases hx : x = -3 ∨ vO w G x
    · rw [m_out_c a1 hK k1 hp ec (by omega) hq.1 hq.2 ei hi w2 w3 w4 w6 x hx]
      refine ⟨_, rfl, ?_⟩
      have t8 := (w9 i hi).1
      obtain ⟨-, u2, -⟩ := id a7
      by_cases ew : kv_i σ (106 + 6 * k) i = x
      · rw [if_pos ew, m_out_m a1 hK k2 hp ep ec (by omega) hq eq_ hi w2 w3 w5 w7 x hx, t8, if_pos ew]
        refine ⟨rfl, JJ.cong (σ := σ) (fun b j _ => ?_) rfl rfl (kv_si_low σ _ _ (by decide)) h⟩
        rw [i_si]
        by_cases c : b = 174 ∧ j = 6 * k + i
        · obtain ⟨rfl, rfl⟩ := c
          rw [if_pos ⟨rfl, rfl⟩, t8, ew]
        · rw [if_neg c]
      · rw [if_neg ew]
        by_cases hu : kv_i σ 32 5 = p
        · rw [if_pos hu]
          have b1 := (a1.si (106 + 6 * k) i x).si 32 5 (-1)
          have f1 : ∀ b j, ¬ (b = 106 + 6 * k ∧ j = i) → ¬ (b = 32 ∧ j = 5) → kv_i (kv_si (kv_si σ (106 + 6 * k) i x) 32 5 (-1)) b j = kv_i σ b j := fun b j q1 q2 => by rw [ne_ess q2, ne_ess q1]
          have f2 : kv_i (kv_si (kv_si σ (106 + 6 * k) i x) 32 5 (-1)) 174 (6 * k + i) = kv_i σ (106 + 6 * k) i := by rw [f1 _ _ (by omega) (by omega)]; exact t8
          have f3 : kv_i (kv_si (kv_si σ (106 + 6 * k) i x) 32 5 (-1)) 149 34 = p := by rw [f1 _ _ (by omega) (by omega), u2]; exact hu
          rw [m_out_m b1 hK (by rw [f1 _ _ (by omega) (by omega)]; exact k2) hp ep ec (by omega) hq eq_ hi w2 w3 (by rw [f1 _ _ (by omega) (by omega)]; exact w5) (by rw [f1 _ _ (by omega) (by omega)]; exact w7) x hx, f2, if_neg ew, f3, if_pos rfl]
          refine ⟨rfl, ?_⟩
          have cg : ∀ b j, ¬ (b = 106 + 6 * k ∧ j = i) → ¬ (b = 32 ∧ j = 5) → ¬ (b = 149 ∧ j = 34) → ¬ (b = 174 ∧ j = 6 * k + i) → kv_i (kv_si (kv_si (kv_si (kv_si σ (106 + 6 * k) i x) 32 5 (-1)) 149 34 (-1)) 174 (6 * k + i) x) b j = kv_i σ b j := fun b j q1 q2 q3 q4 => by rw [ne_ess q4, ne_ess q3, f1 b j q1 q2]
          refine ⟨(b1.si _ _ _).si _ _ _, (((a2.low (kv_si_low σ _ _ (by omega))).low (kv_si_low _ _ _ (by decide))).low (kv_si_low _ _ _ (by decide))).low (kv_si_low _ _ _ (by decide)), a3.cong (fun j => cg _ _ (by omega) (by omega) (by omega) (by omega)), a4.cong (fun b j hb => cg _ _ (by omega) (by omega) (by omega) (by omega)) (cg _ _ (by omega) (by omega) (by omega) (by omega)) (cg _ _ (by omega) (by omega) (by omega) (by omega)), JN.out (k := k) (i0 := i) (v := x) (by omega) hi w4 w6 w2 w3 hx (fun b j hb q1 q2 => cg _ _ q1 (by omega) (by omega) q2) ?_ ?_ (cg _ _ (by omega) (by omega) (by omega) (by omega)) (cg _ _ (by omega) (by omega) (by omega) (by omega)) h.2.2.2.2.1, a6.cong (fun j => cg _ _ (by omega) (by omega) (by omega) (by omega)) (fun j => cg _ _ (by omega) (by omega) (by omega) (by omega)) (cg _ _ (by omega) (by omega) (by omega) (by omega)) (cg _ _ (by omega) (by omega) (by omega) (by omega)) (cg _ _ (by omega) (by omega) (by omega) (by omega)) (cg _ _ (by omega) (by omega) (by omega) (by omega)), a7.gone (fun b j hb => cg _ _ (by omega) (by omega) (by omega) (by omega)) (cg _ _ (by omega) (by omega) (by omega) (by omega)) (cg _ _ (by omega) (by omega) (by omega) (by omega)) ?_ ?_⟩
          · rw [ne_ess (by omega), ne_ess (by omega), ne_ess (by omega), i_si, if_pos ⟨rfl, rfl⟩]
          · rw [i_si, if_pos ⟨rfl, rfl⟩]
          · rw [ne_ess (by omega), ne_ess (by omega), i_si, if_pos ⟨rfl, rfl⟩]
          · rw [ne_ess (by omega), i_si, if_pos ⟨rfl, rfl⟩]
        · rw [if_neg hu]
          have b1 := a1.si (106 + 6 * k) i x
          have f1 : ∀ b j, ¬ (b = 106 + 6 * k ∧ j = i) → kv_i (kv_si σ (106 + 6 * k) i x) b j = kv_i σ b j := fun b j q1 => ne_ess q1
          have f2 : kv_i (kv_si σ (106 + 6 * k) i x) 174 (6 * k + i) = kv_i σ (106 + 6 * k) i := by rw [f1 _ _ (by omega)]; exact t8
          have f3 : ¬ kv_i (kv_si σ (106 + 6 * k) i x) 149 34 = p := by rw [f1 _ _ (by omega), u2]; exact hu
          rw [m_out_m b1 hK (by rw [f1 _ _ (by omega)]; exact k2) hp ep ec (by omega) hq eq_ hi w2 w3 (by rw [f1 _ _ (by omega)]; exact w5) (by rw [f1 _ _ (by omega)]; exact w7) x hx, f2, if_neg ew, if_neg f3]
          refine ⟨rfl, ?_⟩
          have cg : ∀ b j, ¬ (b = 106 + 6 * k ∧ j = i) → ¬ (b = 174 ∧ j = 6 * k + i) → kv_i (kv_si (kv_si σ (106 + 6 * k) i x) 174 (6 * k + i) x) b j = kv_i σ b j := fun b j q1 q3 => by rw [ne_ess q3, f1 b j q1]
          refine ⟨b1.si _ _ _, (a2.low (kv_si_low σ _ _ (by omega))).low (kv_si_low _ _ _ (by decide)), a3.cong (fun j => cg _ _ (by omega) (by omega)), a4.cong (fun b j hb => cg _ _ (by omega) (by omega)) (cg _ _ (by omega) (by omega)) (cg _ _ (by omega) (by omega)), JN.out (k := k) (i0 := i) (v := x) (by omega) hi w4 w6 w2 w3 hx (fun b j hb q1 q2 => cg _ _ q1 q2) ?_ ?_ (cg _ _ (by omega) (by omega)) (cg _ _ (by omega) (by omega)) h.2.2.2.2.1, a6.cong (fun j => cg _ _ (by omega) (by omega)) (fun j => cg _ _ (by omega) (by omega)) (cg _ _ (by omega) (by omega)) (cg _ _ (by omega) (by omega)) (cg _ _ (by omega) (by omega)) (cg _ _ (by omega) (by omega)), a7.cong (fun b j hb => cg _ _ (by omega) (by omega)) (fun n j hn => cg _ _ (by omega) (by omega)) (cg _ _ (by omega) (by omega)) (cg _ _ (by omega) (by omega)) (cg _ _ (by omega) (by omega)) (cg _ _ (by omega) (by omega)) (cg _ _ (by omega) (by omega))⟩
          · rw [ne_ess (by omega), i_si, if_pos ⟨rfl, rfl⟩]
          · rw [i_si, if_pos ⟨rfl, rfl⟩]
    · rw [not_or] at hx
      rw [m_out_cx a1 hK k1 hp ec (by omega) hq.1 hq.2 w2 w3 w4 w6 x hx.1 hx.2]
      refine ⟨_, rfl, ?_⟩
      rw [m_out_mx a1 hK k2 hp ec (by omega) hq w2 w3 w5 w7 x hx.1 hx.2]
      exact ⟨rfl, h⟩
  · have hb' : ¬ (¬ p < 0 ∧ p < Int32.ofNat K) ∨ ¬ (¬ q < 0 ∧ q < 6) := Classical.not_and_iff_not_or_not.mp hb
    rw [m_out_cb a1 hK k1 p q x hb']
    refine ⟨_, rfl, ?_⟩
    rw [m_out_mb a1 hK k2 p q x hb']
    exact ⟨rfl, h⟩

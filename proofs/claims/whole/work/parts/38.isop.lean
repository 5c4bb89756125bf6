/-! ===== isOperand ===== -/
section IO
variable {d : Nat} {σ : kv_S} {Φ : Option Value → kv_S → Prop}
theorem m_isOp_ct (h : JS σ) {K k w G : Nat} (hK : K ≤ 8) (hk : kv_i σ 8 10 = Int32.ofNat K) {p : Int32} (hp : ¬ p < 0 ∧ p < Int32.ofNat K) (ec : p.toNatClampNeg = k) (hk8 : k < 8) (hw : w ≤ 8) (hG : G ≤ 40) (e5 : kv_i σ (101 + 6 * k) 5 = Int32.ofNat w) (e6 : kv_i σ (101 + 6 * k) 6 = Int32.ofNat G) (x : Int32) (hx : vO w G x) : Wc (d + 1) 33 [.ref 8, .int p, .int x] σ Φ = Φ (some (.int 1)) σ := by
  rw [Wc_eq, show kv_ent 33 [.ref 8, .int p, .int x] = [.ref 8, .int p, .int x] from rfl]
  simp only [g_33_0, g_33_1, g_33_2, g_33_5, g_33_8, g_33_9, g_33_12, g_33_13, g_33_14, g_33_15, g_33_18, g_33_21, g_33_22, g_33_25, g_33_26, kv_w8_0, kv_w8_1, kv_w8_2, kv_w8_3, kv_w8_4, m_isNet_c h, m_knows_t h hk8 hw hG e5 e6 x hx, hk, hp, ec, hk8, s_8 h, s_10 h, r_8_1 h, qN h hk8, nN h hk8, kv_rv, Option.toList_some, List.cons_append, List.nil_append, (show ¬ (1 : Int32) = 0 by decide), if_true, if_false, not_false_eq_true, and_self, or_true, (show (15 = 14) = False by decide), Nat.reduceLeDiff]
theorem m_isOp_cf (h : JS σ) {K k w G : Nat} (hK : K ≤ 8) (hk : kv_i σ 8 10 = Int32.ofNat K) {p : Int32} (hp : ¬ p < 0 ∧ p < Int32.ofNat K) (ec : p.toNatClampNeg = k) (hk8 : k < 8) (hw : w ≤ 8) (hG : G ≤ 40) (e5 : kv_i σ (101 + 6 * k) 5 = Int32.ofNat w) (e6 : kv_i σ (101 + 6 * k) 6 = Int32.ofNat G) (x : Int32) (hx : ¬ vO w G x) : Wc (d + 1) 33 [.ref 8, .int p, .int x] σ Φ = Φ (some (.int 0)) σ := by
  rw [Wc_eq, show kv_ent 33 [.ref 8, .int p, .int x] = [.ref 8, .int p, .int x] from rfl]
  simp only [g_33_0, g_33_1, g_33_2, g_33_5, g_33_8, g_33_9, g_33_12, g_33_13, g_33_14, g_33_15, g_33_18, g_33_21, g_33_22, g_33_25, g_33_26, kv_w8_0, kv_w8_1, kv_w8_2, kv_w8_3, kv_w8_4, m_isNet_c h, m_knows_f h hk8 hw hG e5 e6 x hx, hk, hp, ec, hk8, s_8 h, s_10 h, r_8_1 h, qN h hk8, nN h hk8, kv_rv, Option.toList_some, List.cons_append, List.nil_append, (show ¬ (1 : Int32) = 0 by decide), if_true, if_false, not_false_eq_true, and_self, or_true, true_or, (show (15 = 14) = False by decide), Nat.reduceLeDiff]
theorem m_isOp_cn (h : JS σ) {K : Nat} (hk : kv_i σ 8 10 = Int32.ofNat K) {p : Int32} (hp : ¬ (¬ p < 0 ∧ p < Int32.ofNat K)) (x : Int32) : Wc (d + 1) 33 [.ref 8, .int p, .int x] σ Φ = Φ (some (.int 0)) σ := by
  rw [Wc_eq, show kv_ent 33 [.ref 8, .int p, .int x] = [.ref 8, .int p, .int x] from rfl]
  simp only [g_33_0, g_33_1, g_33_2, g_33_5, g_33_8, g_33_9, g_33_12, g_33_13, g_33_14, g_33_15, g_33_18, g_33_21, g_33_22, g_33_25, g_33_26, kv_w8_0, kv_w8_1, kv_w8_2, kv_w8_3, kv_w8_4, m_isNet_c h, hk, hp, s_8 h, Option.toList_some, List.cons_append, List.nil_append, if_true, if_false, true_or]
theorem add8 {G : Nat} (hG : G ≤ 40) : ((8 : Int32) + Int32.ofNat G).toInt = 8 + G := by
  rw [show (8 : Int32) = Int32.ofNat 8 by decide, ← Int32.ofNat_add, oN_toInt (by omega)]
  omega
theorem m_isOp_mt (h : JS σ) {k w G : Nat} {p : Int32} (hp0 : ¬ p < 0) (ec : p.toNatClampNeg = k) (hk8 : k < 8) (hw : w ≤ 8) (hG : G ≤ 40) (e5 : kv_i σ 168 k = Int32.ofNat w) (e6 : kv_i σ 169 k = Int32.ofNat G) (x : Int32) (hx : vO w G x) : Wc d 157 [.ref 149, .int p, .int x] σ Φ = Φ (some (.int 1)) σ := by
  rw [Wc_eq, show kv_ent 157 [.ref 149, .int p, .int x] = [.ref 149, .int p, .int x] from rfl]
  by_cases c1 : x = -1
  · simp only [g_157_0, g_157_1, g_157_2, g_157_5, g_157_6, g_157_8, g_157_11, g_157_12, g_157_15, g_157_16, g_157_17, g_157_20, g_157_21, g_157_22, g_157_25, g_157_26, g_157_28, g_157_31, g_157_32, g_157_34, g_157_35, g_157_38, g_157_39, g_157_40, g_157_41, g_157_44, g_157_45, g_157_48, g_157_49, s_149 h, c1, if_true, or_true]
  · by_cases c2 : x = -2
    · simp only [g_157_0, g_157_1, g_157_2, g_157_5, g_157_6, g_157_8, g_157_11, g_157_12, g_157_15, g_157_16, g_157_17, g_157_20, g_157_21, g_157_22, g_157_25, g_157_26, g_157_28, g_157_31, g_157_32, g_157_34, g_157_35, g_157_38, g_157_39, g_157_40, g_157_41, g_157_44, g_157_45, g_157_48, g_157_49, s_149 h, c2, (show ¬ (-2 : Int32) = -1 by decide), if_true, if_false, or_true]
    · rw [vO_iff hw hG] at hx
      have c1' := c1
      have c2' := c2
      rw [i32_eq, show (-1 : Int32).toInt = -1 by decide] at c1'
      rw [i32_eq, show (-2 : Int32).toInt = -2 by decide] at c2'
      have q0 : ¬ x < 0 := by rw [Int32.lt_iff_toInt_lt, show (0 : Int32).toInt = 0 by decide]; omega
      by_cases q1 : x < Int32.ofNat w
      · simp only [g_157_0, g_157_1, g_157_2, g_157_5, g_157_6, g_157_8, g_157_11, g_157_12, g_157_15, g_157_16, g_157_17, g_157_20, g_157_21, g_157_22, g_157_25, g_157_26, g_157_28, g_157_31, g_157_32, g_157_34, g_157_35, g_157_38, g_157_39, g_157_40, g_157_41, g_157_44, g_157_45, g_157_48, g_157_49, s_149 h, s_168 h, r_149_27 h, kv_rv, ec, hp0, hk8, e5, c1, c2, q0, q1, if_true, if_false, not_false_eq_true, or_true]
      · have q1' := mt Int32.lt_iff_toInt_lt.mpr q1
        rw [oN_toInt (by omega)] at q1'
        have q2 : ¬ x < 8 := by rw [Int32.lt_iff_toInt_lt, show (8 : Int32).toInt = 8 by decide]; omega
        have q3 : ¬ 8 + Int32.ofNat G ≤ x := by rw [Int32.le_iff_toInt_le, add8 hG]; omega
        simp only [g_157_0, g_157_1, g_157_2, g_157_5, g_157_6, g_157_8, g_157_11, g_157_12, g_157_15, g_157_16, g_157_17, g_157_20, g_157_21, g_157_22, g_157_25, g_157_26, g_157_28, g_157_31, g_157_32, g_157_34, g_157_35, g_157_38, g_157_39, g_157_40, g_157_41, g_157_44, g_157_45, g_157_48, g_157_49, s_149 h, s_168 h, s_169 h, r_149_27 h, r_149_28 h, kv_rv, ec, hp0, hk8, e5, e6, c1, c2, q0, q1, q2, q3, if_true, if_false, not_false_eq_true, or_true]
theorem m_isOp_mf (h : JS σ) {k w G : Nat} {p : Int32} (hp0 : ¬ p < 0) (ec : p.toNatClampNeg = k) (hk8 : k < 8) (hw : w ≤ 8) (hG : G ≤ 40) (e5 : kv_i σ 168 k = Int32.ofNat w) (e6 : kv_i σ 169 k = Int32.ofNat G) (x : Int32) (hx : ¬ vO w G x) : Wc d 157 [.ref 149, .int p, .int x] σ Φ = Φ (some (.int 0)) σ := by
  rw [Wc_eq, show kv_ent 157 [.ref 149, .int p, .int x] = [.ref 149, .int p, .int x] from rfl]
  have c1 : ¬ x = -1 := fun e => hx (Or.inl e)
  have c2 : ¬ x = -2 := fun e => hx (Or.inr (Or.inl e))
  rw [vO_iff hw hG] at hx
  have c1' := c1
  have c2' := c2
  rw [i32_eq, show (-1 : Int32).toInt = -1 by decide] at c1'
  rw [i32_eq, show (-2 : Int32).toInt = -2 by decide] at c2'
  by_cases q2 : x < 8
  · by_cases q0 : x < 0
    · simp only [g_157_0, g_157_1, g_157_2, g_157_5, g_157_6, g_157_8, g_157_11, g_157_12, g_157_15, g_157_16, g_157_17, g_157_20, g_157_21, g_157_22, g_157_25, g_157_26, g_157_28, g_157_31, g_157_32, g_157_34, g_157_35, g_157_38, g_157_39, g_157_40, g_157_41, g_157_44, g_157_45, g_157_48, g_157_49, s_149 h, s_168 h, r_149_27 h, kv_rv, ec, hp0, hk8, e5, c1, c2, q0, q2, if_true, if_false, not_false_eq_true, true_or]
    · have q0' := mt Int32.lt_iff_toInt_lt.mpr q0
      rw [show (0 : Int32).toInt = 0 by decide] at q0'
      have q1 : ¬ x < Int32.ofNat w := by rw [Int32.lt_iff_toInt_lt, oN_toInt (by omega)]; omega
      simp only [g_157_0, g_157_1, g_157_2, g_157_5, g_157_6, g_157_8, g_157_11, g_157_12, g_157_15, g_157_16, g_157_17, g_157_20, g_157_21, g_157_22, g_157_25, g_157_26, g_157_28, g_157_31, g_157_32, g_157_34, g_157_35, g_157_38, g_157_39, g_157_40, g_157_41, g_157_44, g_157_45, g_157_48, g_157_49, s_149 h, s_168 h, r_149_27 h, kv_rv, ec, hp0, hk8, e5, c1, c2, q0, q1, q2, if_true, if_false, not_false_eq_true, true_or]
  · have q2' := mt Int32.lt_iff_toInt_lt.mpr q2
    rw [show (8 : Int32).toInt = 8 by decide] at q2'
    have q0 : ¬ x < 0 := by rw [Int32.lt_iff_toInt_lt, show (0 : Int32).toInt = 0 by decide]; omega
    have q1 : ¬ x < Int32.ofNat w := by rw [Int32.lt_iff_toInt_lt, oN_toInt (by omega)]; omega
    have q3 : 8 + Int32.ofNat G ≤ x := by rw [Int32.le_iff_toInt_le, add8 hG]; omega
    simp only [g_157_0, g_157_1, g_157_2, g_157_5, g_157_6, g_157_8, g_157_11, g_157_12, g_157_15, g_157_16, g_157_17, g_157_20, g_157_21, g_157_22, g_157_25, g_157_26, g_157_28, g_157_31, g_157_32, g_157_34, g_157_35, g_157_38, g_157_39, g_157_40, g_157_41, g_157_44, g_157_45, g_157_48, g_157_49, s_149 h, s_168 h, s_169 h, r_149_27 h, r_149_28 h, kv_rv, ec, hp0, hk8, e5, e6, c1, c2, q0, q1, q2, q3, if_true, if_false, not_false_eq_true, true_or]
end IO

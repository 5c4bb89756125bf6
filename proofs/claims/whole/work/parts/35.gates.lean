/-! ===== isGate, knows, isOperand ===== -/
section GT
variable {d : Nat} {σ : kv_S} {Φ : Option Value → kv_S → Prop}
theorem m_isGate_c (h : JS σ) (K : Nat) (hK : K ≤ 8) (hk : kv_i σ 8 10 = Int32.ofNat K) (p q : Int32) : Wc (d + 1) 82 [.ref 8, .int p, .int q] σ Φ = Φ (some (.int (if (¬ p < 0 ∧ p < Int32.ofNat K) ∧ (¬ q < 0 ∧ q < kv_i σ (101 + 6 * p.toNatClampNeg) 6) then 1 else 0))) σ := by
  rw [Wc_eq, show kv_ent 82 [.ref 8, .int p, .int q] = [.ref 8, .int p, .int q] from rfl]
  by_cases h1 : ¬ p < 0 ∧ p < Int32.ofNat K
  · obtain ⟨k, hk8, ek, ec⟩ := i32_nat (by omega) h1.1 h1.2
    have hk9 : k < 8 := by omega
    by_cases h2 : q < 0
    · simp only [g_82_0, g_82_1, g_82_2, g_82_5, g_82_8, g_82_9, g_82_12, g_82_13, g_82_14, g_82_17, g_82_18, g_82_19, g_82_22, g_82_25, g_82_26, g_82_29, g_82_30, kv_w8_0, kv_w8_1, kv_w8_2, kv_w8_3, kv_w8_4, m_isNet_c h, hk, h1, h2, s_8 h, Option.toList_some, List.cons_append, List.nil_append, (show ¬ (1 : Int32) = 0 by decide), if_true, if_false, not_true_eq_false, not_false_eq_true, false_and, and_false, and_self, true_or]
    · by_cases h3 : q < kv_i σ (101 + 6 * k) 6
      · have h4 : ¬ kv_i σ (101 + 6 * k) 6 ≤ q := by rw [Int32.not_le]; exact h3
        simp only [g_82_0, g_82_1, g_82_2, g_82_5, g_82_8, g_82_9, g_82_12, g_82_13, g_82_14, g_82_17, g_82_18, g_82_19, g_82_22, g_82_25, g_82_26, g_82_29, g_82_30, kv_w8_0, kv_w8_1, kv_w8_2, kv_w8_3, kv_w8_4, m_isNet_c h, hk, h1, h2, h3, h4, ec, s_8 h, s_10 h, r_8_1 h, qN h hk9, nN h hk9, kv_rv, hk9, Option.toList_some, List.cons_append, List.nil_append, (show ¬ (1 : Int32) = 0 by decide), if_true, if_false, not_true_eq_false, not_false_eq_true, and_self, or_true, (show (15 = 14) = False by decide), Nat.reduceLeDiff]
      · have h4 : kv_i σ (101 + 6 * k) 6 ≤ q := by rw [Int32.not_lt] at h3; exact h3
        simp only [g_82_0, g_82_1, g_82_2, g_82_5, g_82_8, g_82_9, g_82_12, g_82_13, g_82_14, g_82_17, g_82_18, g_82_19, g_82_22, g_82_25, g_82_26, g_82_29, g_82_30, kv_w8_0, kv_w8_1, kv_w8_2, kv_w8_3, kv_w8_4, m_isNet_c h, hk, h1, h2, h3, h4, ec, s_8 h, s_10 h, r_8_1 h, qN h hk9, nN h hk9, kv_rv, hk9, Option.toList_some, List.cons_append, List.nil_append, (show ¬ (1 : Int32) = 0 by decide), if_true, if_false, not_true_eq_false, not_false_eq_true, and_self, and_false, or_true, true_or, (show (15 = 14) = False by decide), Nat.reduceLeDiff]
  · simp only [g_82_0, g_82_1, g_82_2, g_82_5, g_82_8, g_82_9, g_82_12, g_82_13, g_82_14, g_82_17, g_82_18, g_82_19, g_82_22, g_82_25, g_82_26, g_82_29, g_82_30, kv_w8_0, kv_w8_1, kv_w8_2, kv_w8_3, kv_w8_4, m_isNet_c h, hk, h1, s_8 h, Option.toList_some, List.cons_append, List.nil_append, if_true, if_false, false_and, true_or]
theorem m_isGate_m (h : JS σ) (K : Nat) (hK : K ≤ 8) (hk : kv_i σ 149 26 = Int32.ofNat K) (p q : Int32) : Wc (d + 1) 160 [.ref 149, .int p, .int q] σ Φ = Φ (some (.int (if (¬ p < 0 ∧ p < Int32.ofNat K) ∧ (¬ q < 0 ∧ q < kv_i σ 169 p.toNatClampNeg) then 1 else 0))) σ := by
  rw [Wc_eq, show kv_ent 160 [.ref 149, .int p, .int q] = [.ref 149, .int p, .int q] from rfl]
  by_cases h1 : ¬ p < 0 ∧ p < Int32.ofNat K
  · obtain ⟨k, hk8, ek, ec⟩ := i32_nat (by omega) h1.1 h1.2
    have hk9 : k < 8 := by omega
    by_cases h2 : q < 0
    · simp only [g_160_0, g_160_1, g_160_2, g_160_5, g_160_8, g_160_9, g_160_12, g_160_13, g_160_14, g_160_17, g_160_18, g_160_19, g_160_22, g_160_23, g_160_26, g_160_27, kv_w8_0, kv_w8_1, kv_w8_2, kv_w8_3, kv_w8_4, m_isNet_m h, hk, h1, h2, s_149 h, Option.toList_some, List.cons_append, List.nil_append, (show ¬ (1 : Int32) = 0 by decide), if_true, if_false, not_true_eq_false, not_false_eq_true, false_and, and_false, and_self, true_or]
    · by_cases h3 : q < kv_i σ 169 k
      · have h4 : ¬ kv_i σ 169 k ≤ q := by rw [Int32.not_le]; exact h3
        simp only [g_160_0, g_160_1, g_160_2, g_160_5, g_160_8, g_160_9, g_160_12, g_160_13, g_160_14, g_160_17, g_160_18, g_160_19, g_160_22, g_160_23, g_160_26, g_160_27, kv_w8_0, kv_w8_1, kv_w8_2, kv_w8_3, kv_w8_4, m_isNet_m h, hk, h1, h2, h3, h4, ec, s_149 h, s_169 h, r_149_28 h, kv_rv, hk9, Option.toList_some, List.cons_append, List.nil_append, (show ¬ (1 : Int32) = 0 by decide), if_true, if_false, not_true_eq_false, not_false_eq_true, and_self, or_true]
      · have h4 : kv_i σ 169 k ≤ q := by rw [Int32.not_lt] at h3; exact h3
        simp only [g_160_0, g_160_1, g_160_2, g_160_5, g_160_8, g_160_9, g_160_12, g_160_13, g_160_14, g_160_17, g_160_18, g_160_19, g_160_22, g_160_23, g_160_26, g_160_27, kv_w8_0, kv_w8_1, kv_w8_2, kv_w8_3, kv_w8_4, m_isNet_m h, hk, h1, h2, h3, h4, ec, s_149 h, s_169 h, r_149_28 h, kv_rv, hk9, Option.toList_some, List.cons_append, List.nil_append, (show ¬ (1 : Int32) = 0 by decide), if_true, if_false, not_true_eq_false, not_false_eq_true, and_self, and_false, or_true, true_or]
  · simp only [g_160_0, g_160_1, g_160_2, g_160_5, g_160_8, g_160_9, g_160_12, g_160_13, g_160_14, g_160_17, g_160_18, g_160_19, g_160_22, g_160_23, g_160_26, g_160_27, kv_w8_0, kv_w8_1, kv_w8_2, kv_w8_3, kv_w8_4, m_isNet_m h, hk, h1, s_149 h, Option.toList_some, List.cons_append, List.nil_append, if_true, if_false, false_and, true_or]
end GT

/-! ===== small methods, as equations ===== -/
section EZ
variable {d : Nat} {σ : kv_S} {Φ : Option Value → kv_S → Prop}
theorem ent1 (M a : Nat) (h : kv_ent M [.ref a] = [.ref a]) : Wc d M [.ref a] σ Φ = Wp d M 0 [.ref a] [] σ Φ := by rw [Wc_eq, h]
theorem m_letters_c (h : JS σ) : Wc d 65 [.ref 8] σ Φ = Φ (some (.int (kv_i σ 14 2))) σ := by
  rw [Wc_eq, show kv_ent 65 [.ref 8] = [.ref 8] from rfl]
  simp only [g_65_0, g_65_1, g_65_4, g_65_7, s_8 h, s_14 h, r_8_3 h, kv_rv]
theorem m_letters_m (h : JS σ) : Wc d 147 [.ref 149] σ Φ = Φ (some (.int (kv_i σ 149 14))) σ := by
  rw [Wc_eq, show kv_ent 147 [.ref 149] = [.ref 149] from rfl]
  simp only [g_147_0, g_147_1, g_147_4, s_149 h]
theorem m_summed_c (h : JS σ) (p : Int32) (hb : ∀ k, ¬ p < 0 → p < kv_i σ 14 1 → k = p.toNatClampNeg → k < 40) : Wc d 64 [.ref 8, .int p] σ Φ = Φ (some (.int (if ¬ p < 0 ∧ p < kv_i σ 14 1 then kv_i σ 15 p.toNatClampNeg else -1))) σ := by
  rw [Wc_eq, show kv_ent 64 [.ref 8, .int p] = [.ref 8, .int p] from rfl]
  by_cases h1 : p < 0
  · simp only [g_64_0, g_64_1, g_64_4, g_64_5, g_64_6, g_64_9, g_64_12, g_64_15, g_64_16, g_64_19, g_64_22, g_64_23, g_64_24, g_64_27, g_64_28, s_8 h, s_14 h, s_15 h, r_8_3 h, r_14_0 h, kv_rv, h1, if_true, not_true_eq_false, false_and, if_false]
  · by_cases h2 : p < kv_i σ 14 1
    · have h3 : ¬ kv_i σ 14 1 ≤ p := by rw [Int32.not_le]; exact h2
      have h4 := hb _ h1 h2 rfl
      simp only [g_64_0, g_64_1, g_64_4, g_64_5, g_64_6, g_64_9, g_64_12, g_64_15, g_64_16, g_64_19, g_64_22, g_64_23, g_64_24, g_64_27, g_64_28, s_8 h, s_14 h, s_15 h, r_8_3 h, r_14_0 h, kv_rv, h1, h2, h3, h4, if_true, not_false_eq_true, and_self, if_false]
    · have h3 : kv_i σ 14 1 ≤ p := by rw [Int32.not_lt] at h2; exact h2
      simp only [g_64_0, g_64_1, g_64_4, g_64_5, g_64_6, g_64_9, g_64_12, g_64_15, g_64_16, g_64_19, g_64_22, g_64_23, g_64_24, g_64_27, g_64_28, s_8 h, s_14 h, s_15 h, r_8_3 h, r_14_0 h, kv_rv, h1, h2, h3, if_true, not_false_eq_true, and_false, if_false]
theorem m_summed_m (h : JS σ) (p : Int32) (hb : ∀ k, ¬ p < 0 → p < kv_i σ 149 12 → k = p.toNatClampNeg → k < 40) : Wc d 146 [.ref 149, .int p] σ Φ = Φ (some (.int (if ¬ p < 0 ∧ p < kv_i σ 149 12 then kv_i σ 159 p.toNatClampNeg else -1))) σ := by
  rw [Wc_eq, show kv_ent 146 [.ref 149, .int p] = [.ref 149, .int p] from rfl]
  by_cases h1 : p < 0
  · simp only [g_146_0, g_146_1, g_146_4, g_146_5, g_146_6, g_146_9, g_146_12, g_146_13, g_146_16, g_146_17, g_146_18, g_146_21, g_146_22, s_149 h, s_159 h, r_149_13 h, kv_rv, h1, if_true, not_true_eq_false, false_and, if_false]
  · by_cases h2 : p < kv_i σ 149 12
    · have h3 : ¬ kv_i σ 149 12 ≤ p := by rw [Int32.not_le]; exact h2
      have h4 := hb _ h1 h2 rfl
      simp only [g_146_0, g_146_1, g_146_4, g_146_5, g_146_6, g_146_9, g_146_12, g_146_13, g_146_16, g_146_17, g_146_18, g_146_21, g_146_22, s_149 h, s_159 h, r_149_13 h, kv_rv, h1, h2, h3, h4, if_true, not_false_eq_true, and_self, if_false]
    · have h3 : kv_i σ 149 12 ≤ p := by rw [Int32.not_lt] at h2; exact h2
      simp only [g_146_0, g_146_1, g_146_4, g_146_5, g_146_6, g_146_9, g_146_12, g_146_13, g_146_16, g_146_17, g_146_18, g_146_21, g_146_22, s_149 h, s_159 h, r_149_13 h, kv_rv, h1, h2, h3, if_true, not_false_eq_true, and_false, if_false]
theorem m_isFunction_c (h : JS σ) (p : Int32) : Wc d 18 [.ref 8, .int p] σ Φ = Φ (some (.int (if ¬ p < 0 ∧ p < kv_i σ 8 9 then 1 else 0))) σ := by
  rw [Wc_eq, show kv_ent 18 [.ref 8, .int p] = [.ref 8, .int p] from rfl]
  by_cases h1 : p < 0
  · simp only [g_18_0, g_18_1, g_18_4, g_18_5, g_18_6, g_18_9, g_18_12, g_18_13, g_18_16, g_18_17, s_8 h, h1, if_true, not_true_eq_false, false_and, if_false, true_or, or_true]
  · by_cases h2 : p < kv_i σ 8 9
    · have h3 : ¬ kv_i σ 8 9 ≤ p := by rw [Int32.not_le]; exact h2
      simp only [g_18_0, g_18_1, g_18_4, g_18_5, g_18_6, g_18_9, g_18_12, g_18_13, g_18_16, g_18_17, s_8 h, h1, h2, h3, if_true, not_false_eq_true, and_self, if_false, or_true]
    · have h3 : kv_i σ 8 9 ≤ p := by rw [Int32.not_lt] at h2; exact h2
      simp only [g_18_0, g_18_1, g_18_4, g_18_5, g_18_6, g_18_9, g_18_12, g_18_13, g_18_16, g_18_17, s_8 h, h1, h2, h3, if_true, not_false_eq_true, and_false, if_false, true_or]
theorem m_isFunction_m (h : JS σ) (p : Int32) : Wc d 128 [.ref 149, .int p] σ Φ = Φ (some (.int (if ¬ p < 0 ∧ p < kv_i σ 149 1 then 1 else 0))) σ := by
  rw [Wc_eq, show kv_ent 128 [.ref 149, .int p] = [.ref 149, .int p] from rfl]
  by_cases h1 : p < 0
  · simp only [g_128_0, g_128_1, g_128_4, g_128_5, g_128_6, g_128_9, g_128_12, g_128_13, g_128_16, g_128_17, s_149 h, h1, if_true, not_true_eq_false, false_and, if_false, true_or, or_true]
  · by_cases h2 : p < kv_i σ 149 1
    · have h3 : ¬ kv_i σ 149 1 ≤ p := by rw [Int32.not_le]; exact h2
      simp only [g_128_0, g_128_1, g_128_4, g_128_5, g_128_6, g_128_9, g_128_12, g_128_13, g_128_16, g_128_17, s_149 h, h1, h2, h3, if_true, not_false_eq_true, and_self, if_false, or_true]
    · have h3 : kv_i σ 149 1 ≤ p := by rw [Int32.not_lt] at h2; exact h2
      simp only [g_128_0, g_128_1, g_128_4, g_128_5, g_128_6, g_128_9, g_128_12, g_128_13, g_128_16, g_128_17, s_149 h, h1, h2, h3, if_true, not_false_eq_true, and_false, if_false, true_or]
end EZ

/-! ===== count, output ===== -/
theorem i32_eq {p q : Int32} : p = q ↔ p.toInt = q.toInt := Int32.toInt_inj.symm
theorem sw3 {p : Int32} (h0 : ¬ p = 0) (h1 : ¬ p = 1) (h2 : ¬ p = 2) : p.toInt < 0 ∨ 2 < p.toInt := by
  rw [i32_eq, show (0 : Int32).toInt = 0 by decide] at h0
  rw [i32_eq, show (1 : Int32).toInt = 1 by decide] at h1
  rw [i32_eq, show (2 : Int32).toInt = 2 by decide] at h2
  omega
section MO
variable {d : Nat} {σ : kv_S} {Φ : Option Value → kv_S → Prop}
theorem m_count_c (h : JS σ) (p : Int32) : Wc d 120 [.ref 8, .int p] σ Φ = Φ (some (.int (if p = 0 then kv_i σ 8 9 else if p = 1 then kv_i σ 8 10 else if p = 2 then kv_i σ 32 4 else -1))) σ := by
  rw [Wc_eq, show kv_ent 120 [.ref 8, .int p] = [.ref 8, .int p] from rfl]
  by_cases h0 : p = 0
  · subst h0; simp only [g_120_0, g_120_1_0, g_120_1_1, g_120_1_2, g_120_28, g_120_29, g_120_32, g_120_33, g_120_34, g_120_37, g_120_38, g_120_39, g_120_42, g_120_45, g_120_46, g_120_47, s_8 h, if_true]
  · by_cases h1 : p = 1
    · subst h1; simp only [g_120_0, g_120_1_0, g_120_1_1, g_120_1_2, g_120_28, g_120_29, g_120_32, g_120_33, g_120_34, g_120_37, g_120_38, g_120_39, g_120_42, g_120_45, g_120_46, g_120_47, s_8 h, if_true, (show ¬ (1 : Int32) = 0 by decide), if_false]
    · by_cases h2 : p = 2
      · subst h2; simp only [g_120_0, g_120_1_0, g_120_1_1, g_120_1_2, g_120_28, g_120_29, g_120_32, g_120_33, g_120_34, g_120_37, g_120_38, g_120_39, g_120_42, g_120_45, g_120_46, g_120_47, s_8 h, s_32 h, r_8_8 h, kv_rv, if_true, (show ¬ (2 : Int32) = 0 by decide), (show ¬ (2 : Int32) = 1 by decide), if_false]
      · rw [g_120_0, g_120_1_x (sw3 h0 h1 h2), g_120_46, g_120_47, if_neg h0, if_neg h1, if_neg h2]
theorem m_count_m (h : JS σ) (p : Int32) : Wc d 185 [.ref 149, .int p] σ Φ = Φ (some (.int (if p = 0 then kv_i σ 149 1 else if p = 1 then kv_i σ 149 26 else if p = 2 then kv_i σ 149 35 else -1))) σ := by
  rw [Wc_eq, show kv_ent 185 [.ref 149, .int p] = [.ref 149, .int p] from rfl]
  by_cases h0 : p = 0
  · simp only [g_185_0, g_185_1, g_185_4, g_185_5, g_185_8, g_185_11, g_185_12, g_185_13, g_185_16, g_185_17, g_185_20, g_185_23, g_185_24, g_185_25, g_185_28, g_185_29, g_185_32, g_185_35, g_185_36, s_149 h, h0, if_true, not_true_eq_false, if_false]
  · by_cases h1 : p = 1
    · simp only [g_185_0, g_185_1, g_185_4, g_185_5, g_185_8, g_185_11, g_185_12, g_185_13, g_185_16, g_185_17, g_185_20, g_185_23, g_185_24, g_185_25, g_185_28, g_185_29, g_185_32, g_185_35, g_185_36, s_149 h, h1, if_true, (show ¬ (1 : Int32) = 0 by decide), not_true_eq_false, not_false_eq_true, if_false]
    · by_cases h2 : p = 2
      · simp only [g_185_0, g_185_1, g_185_4, g_185_5, g_185_8, g_185_11, g_185_12, g_185_13, g_185_16, g_185_17, g_185_20, g_185_23, g_185_24, g_185_25, g_185_28, g_185_29, g_185_32, g_185_35, g_185_36, s_149 h, h2, if_true, (show ¬ (2 : Int32) = 0 by decide), (show ¬ (2 : Int32) = 1 by decide), not_true_eq_false, not_false_eq_true, if_false]
      · simp only [g_185_0, g_185_1, g_185_4, g_185_5, g_185_8, g_185_11, g_185_12, g_185_13, g_185_16, g_185_17, g_185_20, g_185_23, g_185_24, g_185_25, g_185_28, g_185_29, g_185_32, g_185_35, g_185_36, s_149 h, h0, h1, h2, if_true, not_false_eq_true, if_false]
theorem m_isNet_c (h : JS σ) (p : Int32) : Wc d 34 [.ref 8, .int p] σ Φ = Φ (some (.int (if ¬ p < 0 ∧ p < kv_i σ 8 10 then 1 else 0))) σ := by
  rw [Wc_eq, show kv_ent 34 [.ref 8, .int p] = [.ref 8, .int p] from rfl]
  by_cases h1 : p < 0
  · simp only [g_34_0, g_34_1, g_34_4, g_34_5, g_34_6, g_34_9, g_34_12, g_34_13, g_34_16, g_34_17, s_8 h, h1, if_true, not_true_eq_false, false_and, if_false, true_or, or_true]
  · by_cases h2 : p < kv_i σ 8 10
    · have h3 : ¬ kv_i σ 8 10 ≤ p := by rw [Int32.not_le]; exact h2
      simp only [g_34_0, g_34_1, g_34_4, g_34_5, g_34_6, g_34_9, g_34_12, g_34_13, g_34_16, g_34_17, s_8 h, h1, h2, h3, if_true, not_false_eq_true, and_self, if_false, or_true]
    · have h3 : kv_i σ 8 10 ≤ p := by rw [Int32.not_lt] at h2; exact h2
      simp only [g_34_0, g_34_1, g_34_4, g_34_5, g_34_6, g_34_9, g_34_12, g_34_13, g_34_16, g_34_17, s_8 h, h1, h2, h3, if_true, not_false_eq_true, and_false, if_false, true_or]
theorem m_isNet_m (h : JS σ) (p : Int32) : Wc d 156 [.ref 149, .int p] σ Φ = Φ (some (.int (if ¬ p < 0 ∧ p < kv_i σ 149 26 then 1 else 0))) σ := by
  rw [Wc_eq, show kv_ent 156 [.ref 149, .int p] = [.ref 149, .int p] from rfl]
  by_cases h1 : p < 0
  · simp only [g_156_0, g_156_1, g_156_4, g_156_5, g_156_6, g_156_9, g_156_12, g_156_13, g_156_16, g_156_17, s_149 h, h1, if_true, not_true_eq_false, false_and, if_false, true_or, or_true]
  · by_cases h2 : p < kv_i σ 149 26
    · have h3 : ¬ kv_i σ 149 26 ≤ p := by rw [Int32.not_le]; exact h2
      simp only [g_156_0, g_156_1, g_156_4, g_156_5, g_156_6, g_156_9, g_156_12, g_156_13, g_156_16, g_156_17, s_149 h, h1, h2, h3, if_true, not_false_eq_true, and_self, if_false, or_true]
    · have h3 : kv_i σ 149 26 ≤ p := by rw [Int32.not_lt] at h2; exact h2
      simp only [g_156_0, g_156_1, g_156_4, g_156_5, g_156_6, g_156_9, g_156_12, g_156_13, g_156_16, g_156_17, s_149 h, h1, h2, h3, if_true, not_false_eq_true, and_false, if_false, true_or]
theorem m_isOutput_m (p : Int32) : Wc d 162 [.int p] σ Φ = Φ (some (.int (if ¬ p < 0 ∧ p < 6 then 1 else 0))) σ := by
  rw [Wc_eq, show kv_ent 162 [.int p] = [.int p] from rfl]
  by_cases h1 : p < 0
  · simp only [g_162_0, g_162_1, g_162_4, g_162_5, g_162_7, g_162_10, g_162_11, g_162_14, g_162_15, h1, if_true, not_true_eq_false, false_and, if_false, true_or, or_true]
  · by_cases h2 : p < 6
    · have h3 : ¬ (6 : Int32) ≤ p := by rw [Int32.not_le]; exact h2
      simp only [g_162_0, g_162_1, g_162_4, g_162_5, g_162_7, g_162_10, g_162_11, g_162_14, g_162_15, h1, h2, h3, if_true, not_false_eq_true, and_self, if_false, or_true]
    · have h3 : (6 : Int32) ≤ p := by rw [Int32.not_lt] at h2; exact h2
      simp only [g_162_0, g_162_1, g_162_4, g_162_5, g_162_7, g_162_10, g_162_11, g_162_14, g_162_15, h1, h2, h3, if_true, not_false_eq_true, and_false, if_false, true_or]
end MO
/-- an int that isn't below 0 and is below a number -/
theorem i32_nat {p : Int32} {n : Nat} (hn : n < 2 ^ 31) (h0 : ¬ p < 0) (h1 : p < Int32.ofNat n) : ∃ k, k < n ∧ p = Int32.ofNat k ∧ p.toNatClampNeg = k := by
  have h2 := Int32.lt_iff_toInt_lt.mp h1
  rw [oN_toInt hn] at h2
  have h3 : 0 ≤ p.toInt := by
    have := mt Int32.lt_iff_toInt_lt.mpr h0
    simpa using this
  refine ⟨p.toInt.toNat, by omega, ?_, rfl⟩
  rw [i32_eq, oN_toInt (by omega)]
  omega
/-- promise 31: count -/
theorem o_29 (d : Nat) : ob_29 JJ d := by
  intro σ h p
  rw [m_count_c h.1]
  refine ⟨_, rfl, ?_⟩
  rw [m_count_m h.1]
  obtain ⟨F, -, f1, f2, -⟩ := h.2.2.2.1
  obtain ⟨K, -, k1, k2, -⟩ := h.2.2.2.2.1
  obtain ⟨⟨S, -, s1, s2, -⟩, -⟩ := h.2.2.2.2.2.2
  exact ⟨by rw [f1, f2, k1, k2, s1, s2], h⟩
section MP
variable {d : Nat} {σ : kv_S} {Φ : Option Value → kv_S → Prop}
theorem m_output_c (h : JS σ) (K : Nat) (hK : K ≤ 8) (hk : kv_i σ 8 10 = Int32.ofNat K) (p q : Int32) : Wc (d + 1) 89 [.ref 8, .int p, .int q] σ Φ = Φ (some (.int (if (¬ p < 0 ∧ p < Int32.ofNat K) ∧ (¬ q < 0 ∧ q < 6) then kv_i σ (106 + 6 * p.toNatClampNeg) q.toNatClampNeg else -4))) σ := by
  rw [Wc_eq, show kv_ent 89 [.ref 8, .int p, .int q] = [.ref 8, .int p, .int q] from rfl]
  by_cases h1 : ¬ p < 0 ∧ p < Int32.ofNat K
  · obtain ⟨k, hk8, ek, ec⟩ := i32_nat (by omega) h1.1 h1.2
    by_cases h2 : q < 0
    · simp only [g_89_0, g_89_1, g_89_2, g_89_5, g_89_8, g_89_9, g_89_12, g_89_13, g_89_15, g_89_18, g_89_19, g_89_22, g_89_23, g_89_24, g_89_27, g_89_28, g_89_29, g_89_32, g_89_34, kv_w8_0, kv_w8_1, kv_w8_2, kv_w8_3, kv_w8_4, m_isNet_c h, hk, h1, h2, s_8 h, Option.toList_some, List.cons_append, List.nil_append, (show ¬ (1 : Int32) = 0 by decide), if_true, if_false, not_true_eq_false, not_false_eq_true, false_and, and_false, and_self]
    · by_cases h3 : q < 6
      · have h4 : ¬ (6 : Int32) ≤ q := by rw [Int32.not_le]; exact h3
        obtain ⟨j, hj, ej, ecj⟩ := i32_nat (n := 6) (by decide) h2 h3
        have hk9 : k < 8 := by omega
        simp only [g_89_0, g_89_1, g_89_2, g_89_5, g_89_8, g_89_9, g_89_12, g_89_13, g_89_15, g_89_18, g_89_19, g_89_22, g_89_23, g_89_24, g_89_27, g_89_28, g_89_29, g_89_32, g_89_34, kv_w8_0, kv_w8_1, kv_w8_2, kv_w8_3, kv_w8_4, m_isNet_c h, hk, h1, h2, h3, h4, ec, ecj, s_8 h, s_10 h, r_8_1 h, qN h hk9, nN h hk9, nO h hk9, qO h hk9, kv_rv, hk9, hj, Option.toList_some, List.cons_append, List.nil_append, (show ¬ (1 : Int32) = 0 by decide), if_true, if_false, not_true_eq_false, not_false_eq_true, and_self, or_true, (show (15 = 14) = False by decide), Nat.reduceLeDiff]
      · have h4 : (6 : Int32) ≤ q := by rw [Int32.not_lt] at h3; exact h3
        simp only [g_89_0, g_89_1, g_89_2, g_89_5, g_89_8, g_89_9, g_89_12, g_89_13, g_89_15, g_89_18, g_89_19, g_89_22, g_89_23, g_89_24, g_89_27, g_89_28, g_89_29, g_89_32, g_89_34, kv_w8_0, kv_w8_1, kv_w8_2, kv_w8_3, kv_w8_4, m_isNet_c h, hk, h1, h2, h3, h4, s_8 h, Option.toList_some, List.cons_append, List.nil_append, (show ¬ (1 : Int32) = 0 by decide), if_true, if_false, not_true_eq_false, not_false_eq_true, and_false, and_self]
  · simp only [g_89_0, g_89_1, g_89_2, g_89_5, g_89_8, g_89_9, g_89_12, g_89_13, g_89_15, g_89_18, g_89_19, g_89_22, g_89_23, g_89_24, g_89_27, g_89_28, g_89_29, g_89_32, g_89_34, kv_w8_0, kv_w8_1, kv_w8_2, kv_w8_3, kv_w8_4, m_isNet_c h, hk, h1, s_8 h, Option.toList_some, List.cons_append, List.nil_append, if_true, if_false, false_and]
theorem i32_lin {a k j : Nat} (hk : a * k + j < 2 ^ 31) {x p q : Int32} (ex : x = Int32.ofNat a) (ep : p = Int32.ofNat k) (eq_ : q = Int32.ofNat j) : ¬ x * p + q < 0 ∧ (x * p + q).toNatClampNeg = a * k + j := by
  rw [ex, ep, eq_, ← Int32.ofNat_mul, ← Int32.ofNat_add]
  exact ⟨nI_pos (n := a * k + j) hk, nI_cl hk⟩
theorem m_output_m (h : JS σ) (K : Nat) (hK : K ≤ 8) (hk : kv_i σ 149 26 = Int32.ofNat K) (p q : Int32) : Wc (d + 1) 165 [.ref 149, .int p, .int q] σ Φ = Φ (some (.int (if (¬ p < 0 ∧ p < Int32.ofNat K) ∧ (¬ q < 0 ∧ q < 6) then kv_i σ 174 (6 * p.toNatClampNeg + q.toNatClampNeg) else -4))) σ := by
  rw [Wc_eq, show kv_ent 165 [.ref 149, .int p, .int q] = [.ref 149, .int p, .int q] from rfl]
  by_cases h1 : ¬ p < 0 ∧ p < Int32.ofNat K
  · obtain ⟨k, hk8, ek, ec⟩ := i32_nat (by omega) h1.1 h1.2
    by_cases h2 : ¬ q < 0 ∧ q < 6
    · obtain ⟨j, hj, ej, ecj⟩ := i32_nat (n := 6) (by decide) h2.1 h2.2
      obtain ⟨x1, x2⟩ := i32_lin (a := 6) (k := k) (j := j) (x := 6) (by omega) (by decide) ek ej
      have x3 : 6 * k + j < 48 := by omega
      simp only [g_165_0, g_165_1, g_165_2, g_165_5, g_165_8, g_165_9, g_165_12, g_165_15, g_165_16, g_165_19, g_165_21, g_165_22, g_165_23, g_165_24, g_165_25, g_165_26, g_165_29, g_165_31, kv_w8_0, kv_w8_1, kv_w8_2, kv_w8_3, kv_w8_4, m_isNet_m h, m_isOutput_m, hk, h1, h2, x1, x2, x3, ec, ecj, s_149 h, s_174 h, r_149_33 h, kv_rv, Option.toList_some, List.cons_append, List.nil_append, (show ¬ (1 : Int32) = 0 by decide), if_true, if_false, not_true_eq_false, not_false_eq_true, and_self, or_true]
    · simp only [g_165_0, g_165_1, g_165_2, g_165_5, g_165_8, g_165_9, g_165_12, g_165_15, g_165_16, g_165_19, g_165_21, g_165_22, g_165_23, g_165_24, g_165_25, g_165_26, g_165_29, g_165_31, kv_w8_0, kv_w8_1, kv_w8_2, kv_w8_3, kv_w8_4, m_isNet_m h, m_isOutput_m, hk, h1, h2, s_149 h, Option.toList_some, List.cons_append, List.nil_append, (show ¬ (1 : Int32) = 0 by decide), if_true, if_false, not_true_eq_false, not_false_eq_true, and_false, and_self]
  · simp only [g_165_0, g_165_1, g_165_2, g_165_5, g_165_8, g_165_9, g_165_12, g_165_15, g_165_16, g_165_19, g_165_21, g_165_22, g_165_23, g_165_24, g_165_25, g_165_26, g_165_29, g_165_31, kv_w8_0, kv_w8_1, kv_w8_2, kv_w8_3, kv_w8_4, m_isNet_m h, hk, h1, s_149 h, Option.toList_some, List.cons_append, List.nil_append, if_true, if_false, false_and]
end MP
/-- promise 21: output -/
theorem o_19 (d : Nat) : ob_19 JJ (d + 1) := by
  intro σ h p q
  obtain ⟨K, hK, k1, k2, k3⟩ := h.2.2.2.2.1
  rw [m_output_c h.1 K hK k1]
  refine ⟨_, rfl, ?_⟩
  rw [m_output_m h.1 K hK k2]
  refine ⟨?_, h⟩
  by_cases hc : (¬ p < 0 ∧ p < Int32.ofNat K) ∧ (¬ q < 0 ∧ q < 6)
  · rw [if_pos hc, if_pos hc]
    obtain ⟨k, hk8, ek, ec⟩ := i32_nat (by omega) hc.1.1 hc.1.2
    obtain ⟨j, hj, ej, ecj⟩ := i32_nat (n := 6) (by decide) hc.2.1 hc.2.2
    obtain ⟨w, G, -, -, -, -, -, -, -, -, ho⟩ := k3 k hk8
    rw [ec, ecj, (ho j hj).1]
  · rw [if_neg hc, if_neg hc]

/-! ===== step ===== -/
section SP
variable {d : Nat} {σ : kv_S} {Φ : Option Value → kv_S → Prop}
theorem m_gateOf (h : JS σ) (p : Int32) (h0 : ¬ p < 0) (h1 : p.toNatClampNeg < 1800) : Wc d 113 [.ref 32, .int p] σ Φ = Φ (some (.int (kv_i σ 33 p.toNatClampNeg &&& 63))) σ := by
  rw [Wc_eq, show kv_ent 113 [.ref 32, .int p] = [.ref 32, .int p] from rfl]
  simp only [g_113_0, g_113_1, g_113_4, g_113_5, g_113_6, g_113_8, g_113_9, s_32 h, s_33 h, r_32_0 h, kv_rv, h0, h1, not_false_eq_true]
theorem m_ruleOf (h : JS σ) (p : Int32) (h0 : ¬ p < 0) (h1 : p.toNatClampNeg < 1800) : Wc d 114 [.ref 32, .int p] σ Φ = Φ (some (.int (kv_i σ 33 p.toNatClampNeg >>> ((6 : Int32) &&& 31) &&& 7))) σ := by
  rw [Wc_eq, show kv_ent 114 [.ref 32, .int p] = [.ref 32, .int p] from rfl]
  simp only [g_114_0, g_114_1, g_114_4, g_114_5, g_114_6, g_114_8, g_114_9, g_114_11, g_114_12, s_32 h, s_33 h, r_32_0 h, kv_rv, h0, h1, not_false_eq_true]
theorem m_operandOf (h : JS σ) (p : Int32) (h0 : ¬ p < 0) (h1 : p.toNatClampNeg < 1800) : Wc d 115 [.ref 32, .int p] σ Φ = Φ (some (.int (kv_i σ 33 p.toNatClampNeg >>> ((9 : Int32) &&& 31) + -2))) σ := by
  rw [Wc_eq, show kv_ent 115 [.ref 32, .int p] = [.ref 32, .int p] from rfl]
  simp only [g_115_0, g_115_1, g_115_4, g_115_5, g_115_6, g_115_8, g_115_9, g_115_11, g_115_12, s_32 h, s_33 h, r_32_0 h, kv_rv, h0, h1, not_false_eq_true]
theorem m_step_cx (h : JS σ) (p q : Int32) (hx : ¬ (¬ p < 0 ∧ p < kv_i σ 32 4) ∨ (¬ q = 0 ∧ ¬ q = 1 ∧ ¬ q = 2)) : Wc (d + 1) 112 [.ref 8, .int p, .int q] σ Φ = Φ (some (.int (-9))) σ := by
  rw [Wc_eq, show kv_ent 112 [.ref 8, .int p, .int q] = [.ref 8, .int p, .int q] from rfl]
  by_cases h0 : p < 0
  · simp only [g_112_0, g_112_1, g_112_4, g_112_5, g_112_6, g_112_9, g_112_12, g_112_15, g_112_17, g_112_18, g_112_19_0, g_112_19_1, g_112_19_2, g_112_44, g_112_45, g_112_48, g_112_49, g_112_52, g_112_53, g_112_54, g_112_57, g_112_58, g_112_61, g_112_62, g_112_63, g_112_66, g_112_67, g_112_70, g_112_71, g_112_73, s_8 h, s_32 h, r_8_8 h, kv_rv, h0, if_true]
  · by_cases h1 : p < kv_i σ 32 4
    · obtain ⟨q0, q1, q2⟩ := hx.resolve_left (fun w => w ⟨h0, h1⟩)
      rw [g_112_0, g_112_1, if_neg h0]
      simp only [g_112_4, g_112_5, g_112_6, g_112_9, g_112_12, s_8 h, s_32 h, r_8_8 h, kv_rv, h1, if_true]
      rw [g_112_18, g_112_19_x (sw3 q0 q1 q2), g_112_71, g_112_73]
    · simp only [g_112_0, g_112_1, g_112_4, g_112_5, g_112_6, g_112_9, g_112_12, g_112_15, g_112_17, g_112_18, g_112_19_0, g_112_19_1, g_112_19_2, g_112_44, g_112_45, g_112_48, g_112_49, g_112_52, g_112_53, g_112_54, g_112_57, g_112_58, g_112_61, g_112_62, g_112_63, g_112_66, g_112_67, g_112_70, g_112_71, g_112_73, s_8 h, s_32 h, r_8_8 h, kv_rv, h0, h1, if_true, if_false]
theorem m_step_c (h : JS σ) (p q : Int32) (h0 : ¬ p < 0) (h1 : p < kv_i σ 32 4) (h2 : p.toNatClampNeg < 1800) (hq : q = 0 ∨ q = 1 ∨ q = 2) : Wc (d + 1) 112 [.ref 8, .int p, .int q] σ Φ = Φ (some (.int (if q = 0 then kv_i σ 33 p.toNatClampNeg &&& 63 else if q = 1 then kv_i σ 33 p.toNatClampNeg >>> ((6 : Int32) &&& 31) &&& 7 else kv_i σ 33 p.toNatClampNeg >>> ((9 : Int32) &&& 31) + -2))) σ := by
  rw [Wc_eq, show kv_ent 112 [.ref 8, .int p, .int q] = [.ref 8, .int p, .int q] from rfl]
  rcases hq with rfl | rfl | rfl
  · simp only [g_112_0, g_112_1, g_112_4, g_112_5, g_112_6, g_112_9, g_112_12, g_112_15, g_112_17, g_112_18, g_112_19_0, g_112_19_1, g_112_19_2, g_112_44, g_112_45, g_112_48, g_112_49, g_112_52, g_112_53, g_112_54, g_112_57, g_112_58, g_112_61, g_112_62, g_112_63, g_112_66, g_112_67, g_112_70, g_112_71, g_112_73, kv_w8_0, kv_w8_1, kv_w8_2, kv_w8_3, kv_w8_4, s_8 h, s_32 h, r_8_8 h, kv_rv, h0, h1, m_gateOf h p h0 h2, if_true, if_false, Option.toList_some, List.cons_append, List.nil_append]
  · simp only [g_112_0, g_112_1, g_112_4, g_112_5, g_112_6, g_112_9, g_112_12, g_112_15, g_112_17, g_112_18, g_112_19_0, g_112_19_1, g_112_19_2, g_112_44, g_112_45, g_112_48, g_112_49, g_112_52, g_112_53, g_112_54, g_112_57, g_112_58, g_112_61, g_112_62, g_112_63, g_112_66, g_112_67, g_112_70, g_112_71, g_112_73, kv_w8_0, kv_w8_1, kv_w8_2, kv_w8_3, kv_w8_4, s_8 h, s_32 h, r_8_8 h, kv_rv, h0, h1, m_ruleOf h p h0 h2, if_true, if_false, Option.toList_some, List.cons_append, List.nil_append, (show ¬ (1 : Int32) = 0 by decide)]
  · simp only [g_112_0, g_112_1, g_112_4, g_112_5, g_112_6, g_112_9, g_112_12, g_112_15, g_112_17, g_112_18, g_112_19_0, g_112_19_1, g_112_19_2, g_112_44, g_112_45, g_112_48, g_112_49, g_112_52, g_112_53, g_112_54, g_112_57, g_112_58, g_112_61, g_112_62, g_112_63, g_112_66, g_112_67, g_112_70, g_112_71, g_112_73, kv_w8_0, kv_w8_1, kv_w8_2, kv_w8_3, kv_w8_4, s_8 h, s_32 h, r_8_8 h, kv_rv, h0, h1, m_operandOf h p h0 h2, if_true, if_false, Option.toList_some, List.cons_append, List.nil_append, (show ¬ (2 : Int32) = 0 by decide), (show ¬ (2 : Int32) = 1 by decide)]
theorem m_step_mx (h : JS σ) (p q : Int32) (hx : ¬ (¬ p < 0 ∧ p < kv_i σ 149 35) ∨ (¬ q = 0 ∧ ¬ q = 1 ∧ ¬ q = 2)) : Wc d 181 [.ref 149, .int p, .int q] σ Φ = Φ (some (.int (-9))) σ := by
  rw [Wc_eq, show kv_ent 181 [.ref 149, .int p, .int q] = [.ref 149, .int p, .int q] from rfl]
  by_cases h0 : p < 0
  · simp only [g_181_0, g_181_1, g_181_4, g_181_5, g_181_6, g_181_9, g_181_12, g_181_13, g_181_16, g_181_17, g_181_18, g_181_21, g_181_23, g_181_24, g_181_25, g_181_28, g_181_29, g_181_32, g_181_33, g_181_34, g_181_37, g_181_38, g_181_39, g_181_42, g_181_43, g_181_46, g_181_47, g_181_48, g_181_51, g_181_52, g_181_55, g_181_56, g_181_57, s_149 h, h0, if_true]
  · by_cases h1 : p < kv_i σ 149 35
    · obtain ⟨q0, q1, q2⟩ := hx.resolve_left (fun w => w ⟨h0, h1⟩)
      have h3 : ¬ kv_i σ 149 35 ≤ p := by rw [Int32.not_le]; exact h1
      by_cases c : q < 0
      · simp only [g_181_0, g_181_1, g_181_4, g_181_5, g_181_6, g_181_9, g_181_12, g_181_13, g_181_16, g_181_17, g_181_18, g_181_21, g_181_23, g_181_24, g_181_25, g_181_28, g_181_29, g_181_32, g_181_33, g_181_34, g_181_37, g_181_38, g_181_39, g_181_42, g_181_43, g_181_46, g_181_47, g_181_48, g_181_51, g_181_52, g_181_55, g_181_56, g_181_57, s_149 h, h0, h3, c, if_true, if_false]
      · have c2 : ¬ q ≤ 2 := by
          have := sw3 q0 q1 q2
          rw [Int32.lt_iff_toInt_lt, show (0 : Int32).toInt = 0 by decide] at c
          rw [Int32.le_iff_toInt_le, show (2 : Int32).toInt = 2 by decide]
          omega
        simp only [g_181_0, g_181_1, g_181_4, g_181_5, g_181_6, g_181_9, g_181_12, g_181_13, g_181_16, g_181_17, g_181_18, g_181_21, g_181_23, g_181_24, g_181_25, g_181_28, g_181_29, g_181_32, g_181_33, g_181_34, g_181_37, g_181_38, g_181_39, g_181_42, g_181_43, g_181_46, g_181_47, g_181_48, g_181_51, g_181_52, g_181_55, g_181_56, g_181_57, s_149 h, h0, h3, c, c2, if_true, if_false]
    · have h3 : kv_i σ 149 35 ≤ p := by rw [Int32.not_lt] at h1; exact h1
      simp only [g_181_0, g_181_1, g_181_4, g_181_5, g_181_6, g_181_9, g_181_12, g_181_13, g_181_16, g_181_17, g_181_18, g_181_21, g_181_23, g_181_24, g_181_25, g_181_28, g_181_29, g_181_32, g_181_33, g_181_34, g_181_37, g_181_38, g_181_39, g_181_42, g_181_43, g_181_46, g_181_47, g_181_48, g_181_51, g_181_52, g_181_55, g_181_56, g_181_57, s_149 h, h0, h3, if_true, if_false]
theorem m_step_m (h : JS σ) (p q : Int32) (h0 : ¬ p < 0) (h1 : p < kv_i σ 149 35) (h2 : p.toNatClampNeg < 4000) (hq : q = 0 ∨ q = 1 ∨ q = 2) : Wc d 181 [.ref 149, .int p, .int q] σ Φ = Φ (some (.int (if q = 0 then kv_i σ 175 p.toNatClampNeg else if q = 1 then kv_i σ 176 p.toNatClampNeg else kv_i σ 177 p.toNatClampNeg))) σ := by
  rw [Wc_eq, show kv_ent 181 [.ref 149, .int p, .int q] = [.ref 149, .int p, .int q] from rfl]
  have h3 : ¬ kv_i σ 149 35 ≤ p := by rw [Int32.not_le]; exact h1
  rcases hq with rfl | rfl | rfl
  · simp only [g_181_0, g_181_1, g_181_4, g_181_5, g_181_6, g_181_9, g_181_12, g_181_13, g_181_16, g_181_17, g_181_18, g_181_21, g_181_23, g_181_24, g_181_25, g_181_28, g_181_29, g_181_32, g_181_33, g_181_34, g_181_37, g_181_38, g_181_39, g_181_42, g_181_43, g_181_46, g_181_47, g_181_48, g_181_51, g_181_52, g_181_55, g_181_56, g_181_57, s_149 h, s_175 h, r_149_36 h, kv_rv, h0, h2, h3, if_true, if_false, not_false_eq_true, not_true_eq_false, (show ¬ (0 : Int32) < 0 by decide), (show (0 : Int32) ≤ 2 by decide)]
  · simp only [g_181_0, g_181_1, g_181_4, g_181_5, g_181_6, g_181_9, g_181_12, g_181_13, g_181_16, g_181_17, g_181_18, g_181_21, g_181_23, g_181_24, g_181_25, g_181_28, g_181_29, g_181_32, g_181_33, g_181_34, g_181_37, g_181_38, g_181_39, g_181_42, g_181_43, g_181_46, g_181_47, g_181_48, g_181_51, g_181_52, g_181_55, g_181_56, g_181_57, s_149 h, s_176 h, r_149_37 h, kv_rv, h0, h2, h3, if_true, if_false, not_false_eq_true, not_true_eq_false, (show ¬ (1 : Int32) < 0 by decide), (show (1 : Int32) ≤ 2 by decide), (show ¬ (1 : Int32) = 0 by decide)]
  · simp only [g_181_0, g_181_1, g_181_4, g_181_5, g_181_6, g_181_9, g_181_12, g_181_13, g_181_16, g_181_17, g_181_18, g_181_21, g_181_23, g_181_24, g_181_25, g_181_28, g_181_29, g_181_32, g_181_33, g_181_34, g_181_37, g_181_38, g_181_39, g_181_42, g_181_43, g_181_46, g_181_47, g_181_48, g_181_51, g_181_52, g_181_55, g_181_56, g_181_57, s_149 h, s_177 h, r_149_38 h, kv_rv, h0, h2, h3, if_true, if_false, not_false_eq_true, not_true_eq_false, (show ¬ (2 : Int32) < 0 by decide), (show (2 : Int32) ≤ 2 by decide), (show ¬ (2 : Int32) = 0 by decide), (show ¬ (2 : Int32) = 1 by decide)]
end SP
theorem st_bits {g r x : Nat} (hg : g < 40) (hr : r < 5) (hx : x < 50) : Int32.ofNat (512 * x + 64 * r + g) &&& 63 = Int32.ofNat g ∧ Int32.ofNat (512 * x + 64 * r + g) >>> ((6 : Int32) &&& 31) &&& 7 = Int32.ofNat r ∧ Int32.ofNat (512 * x + 64 * r + g) >>> ((9 : Int32) &&& 31) + -2 = Int32.ofNat x - 2 := by
  refine ⟨?_, ?_, ?_⟩
  · have := pk_andN (n := 512 * x + 64 * r + g) (by omega) (m := 63) 6 (by decide)
    refine this.trans ?_
    show Int32.ofNat _ = _
    congr 1
    omega
  · have e := pk_shrN (n := 512 * x + 64 * r + g) (by omega) ((6 : Int32) &&& 31) 6 (by decide)
    have := pk_andN (n := (512 * x + 64 * r + g) / 2 ^ 6) (by omega) (m := 7) 3 (by decide)
    show nI _ >>> _ &&& 7 = _
    rw [e]
    refine this.trans ?_
    show Int32.ofNat _ = _
    congr 1
    omega
  · have e := pk_shrN (n := 512 * x + 64 * r + g) (by omega) ((9 : Int32) &&& 31) 9 (by decide)
    show nI _ >>> _ + -2 = _
    rw [e, show (512 * x + 64 * r + g) / 2 ^ 9 = x by omega]
    show Int32.ofNat x + -2 = Int32.ofNat x - 2
    rw [Int32.sub_eq_add_neg]
/-- promise 28: step -/
theorem o_26 (d : Nat) : ob_26 JJ (d + 1) := by
  intro σ h p q
  obtain ⟨⟨S, hS, s1, s2, s3⟩, -⟩ := h.2.2.2.2.2.2
  by_cases hc : (¬ p < 0 ∧ p < Int32.ofNat S) ∧ (q = 0 ∨ q = 1 ∨ q = 2)
  · obtain ⟨⟨h0, h1⟩, hq⟩ := hc
    obtain ⟨i, hi, -, ei⟩ := i32_nat (by omega) h0 h1
    rw [m_step_c h.1 p q h0 (by rw [s1]; exact h1) (by omega) hq]
    refine ⟨_, rfl, ?_⟩
    rw [m_step_m h.1 p q h0 (by rw [s2]; exact h1) (by omega) hq]
    refine ⟨?_, h⟩
    obtain ⟨g, r, x, hg, hr, hx, e1, e2, e3, e4⟩ := s3 i hi
    obtain ⟨b1, b2, b3⟩ := st_bits hg hr hx
    rw [ei, e1, e2, e3, e4, b1, b2, b3]
  · have hx : ¬ (¬ p < 0 ∧ p < Int32.ofNat S) ∨ (¬ q = 0 ∧ ¬ q = 1 ∧ ¬ q = 2) := by
      by_cases w : ¬ p < 0 ∧ p < Int32.ofNat S
      · right
        refine ⟨fun e => hc ⟨w, Or.inl e⟩, fun e => hc ⟨w, Or.inr (Or.inl e)⟩, fun e => hc ⟨w, Or.inr (Or.inr e)⟩⟩
      · exact Or.inl w
    rw [m_step_cx h.1 p q (by rw [s1]; exact hx)]
    refine ⟨_, rfl, ?_⟩
    rw [m_step_mx h.1 p q (by rw [s2]; exact hx)]
    exact ⟨rfl, h⟩

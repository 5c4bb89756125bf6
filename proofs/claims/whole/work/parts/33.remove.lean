/-! ===== remove ===== -/
section RM
variable {d : Nat} {σ : kv_S} {Φ : Option Value → kv_S → Prop}
theorem m_note_c (h : JS σ) (p : Int32) : Wc d 79 [.ref 32, .int p] σ Φ = Φ none (if kv_i σ 32 5 = p then kv_si σ 32 5 (-1) else σ) := by
  rw [Wc_eq, show kv_ent 79 [.ref 32, .int p] = [.ref 32, .int p] from rfl]
  by_cases h1 : kv_i σ 32 5 = p
  · simp only [g_79_0, g_79_1, g_79_4, g_79_5, g_79_8, g_79_9, g_79_10, g_79_13, s_32 h, h1, if_true, if_false, not_true_eq_false, Nat.reduceLeDiff]
  · simp only [g_79_0, g_79_1, g_79_4, g_79_5, g_79_8, g_79_9, g_79_10, g_79_13, s_32 h, h1, if_true, if_false, not_false_eq_true]
theorem m_changed_m (h : JS σ) (p : Int32) : Wc d 158 [.ref 149, .int p] σ Φ = Φ none (if kv_i σ 149 34 = p then kv_si σ 149 34 (-1) else σ) := by
  rw [Wc_eq, show kv_ent 158 [.ref 149, .int p] = [.ref 149, .int p] from rfl]
  by_cases h1 : kv_i σ 149 34 = p
  · simp only [g_158_0, g_158_1, g_158_4, g_158_5, g_158_8, g_158_9, g_158_10, g_158_13, s_149 h, h1, if_true, if_false, not_true_eq_false, Nat.reduceLeDiff]
  · simp only [g_158_0, g_158_1, g_158_4, g_158_5, g_158_8, g_158_9, g_158_10, g_158_13, s_149 h, h1, if_true, if_false, not_false_eq_true]
end RM
section RN
variable {d : Nat} {σ : kv_S} {Φ : Option Value → kv_S → Prop}
theorem m_remove_c0 (h : JS σ) (h1 : ¬ kv_i σ 8 9 ≤ 0) : Wc (d + 1) 121 [.ref 8, .int 0] σ Φ = Φ (some (.int (kv_i σ 8 9 - 1))) (kv_si σ 8 9 (kv_i σ 8 9 - 1)) := by
  rw [Wc_eq, show kv_ent 121 [.ref 8, .int 0] = [.ref 8, .int 0] from rfl]
  simp only [g_121_0, g_121_1, g_121_4, g_121_5, g_121_8, g_121_11, g_121_12, g_121_12r, g_121_13, g_121_16, g_121_17, g_121_18, g_121_21, g_121_22, g_121_25, g_121_26, g_121_27, g_121_28, g_121_31, g_121_32, g_121_35, g_121_38, g_121_39, g_121_39r, g_121_40, g_121_43, g_121_44, g_121_45, g_121_48, g_121_49, g_121_52, g_121_53, g_121_56, g_121_59, g_121_60, g_121_63, g_121_64, g_121_65, n_si, n_sl, n_sr, n_mk, sh_si, sh_sl, sh_sr, sh_mk, i_si, i_sl, i_sr, i_mk, l_si, l_sl, l_sr, l_mk, r_si, r_sl, r_sr, r_mk, s_8 h, h1, if_true, if_false, not_true_eq_false, Nat.reduceLeDiff, and_self]
theorem m_remove_c1 (h : JS σ) (h1 : ¬ kv_i σ 8 10 ≤ 0) : Wc (d + 1) 121 [.ref 8, .int 1] σ Φ = Φ (some (.int (kv_i σ 8 10 - 1))) (if kv_i σ 32 5 = kv_i σ 8 10 - 1 then kv_si (kv_si σ 8 10 (kv_i σ 8 10 - 1)) 32 5 (-1) else kv_si σ 8 10 (kv_i σ 8 10 - 1)) := by
  rw [Wc_eq, show kv_ent 121 [.ref 8, .int 1] = [.ref 8, .int 1] from rfl]
  have hs := h.si 8 10 (kv_i σ 8 10 - 1)
  simp only [g_121_0, g_121_1, g_121_4, g_121_5, g_121_8, g_121_11, g_121_12, g_121_12r, g_121_13, g_121_16, g_121_17, g_121_18, g_121_21, g_121_22, g_121_25, g_121_26, g_121_27, g_121_28, g_121_31, g_121_32, g_121_35, g_121_38, g_121_39, g_121_39r, g_121_40, g_121_43, g_121_44, g_121_45, g_121_48, g_121_49, g_121_52, g_121_53, g_121_56, g_121_59, g_121_60, g_121_63, g_121_64, g_121_65, kv_w8_0, kv_w8_1, kv_w8_2, kv_w8_3, kv_w8_4, n_si, n_sl, n_sr, n_mk, sh_si, sh_sl, sh_sr, sh_mk, i_si, i_sl, i_sr, i_mk, l_si, l_sl, l_sr, l_mk, r_si, r_sl, r_sr, r_mk, s_8 h, s_32 h, r_8_8 h, kv_rv, h1, if_true, if_false, (show ¬ (1 : Int32) = 0 by decide), not_true_eq_false, not_false_eq_true, Nat.reduceLeDiff, and_self, m_note_c hs, (show ¬ (32 = 8 ∧ 5 = 10) by decide), Option.toList_none, List.nil_append]
  by_cases h2 : kv_i σ 32 5 = kv_i σ 8 10 - 1
  · simp only [h2, if_true, g_121_59, g_121_60, g_121_63, n_si, n_sl, n_sr, n_mk, sh_si, sh_sl, sh_sr, sh_mk, i_si, i_sl, i_sr, i_mk, l_si, l_sl, l_sr, l_mk, r_si, r_sl, r_sr, r_mk, s_8 h, (show ¬ (8 = 32 ∧ 10 = 5) by decide), if_false, and_self]
  · simp only [h2, if_false, g_121_59, g_121_60, g_121_63, n_si, n_sl, n_sr, n_mk, sh_si, sh_sl, sh_sr, sh_mk, i_si, i_sl, i_sr, i_mk, l_si, l_sl, l_sr, l_mk, r_si, r_sl, r_sr, r_mk, s_8 h, if_true, and_self]
theorem m_remove_cx (h : JS σ) (p : Int32) (h0 : p = 0 → kv_i σ 8 9 ≤ 0) (h1 : p = 1 → kv_i σ 8 10 ≤ 0) : Wc (d + 1) 121 [.ref 8, .int p] σ Φ = Φ (some (.int (-1))) σ := by
  rw [Wc_eq, show kv_ent 121 [.ref 8, .int p] = [.ref 8, .int p] from rfl]
  by_cases c0 : p = 0
  · subst c0
    simp only [g_121_0, g_121_1, g_121_4, g_121_5, g_121_8, g_121_11, g_121_12, g_121_12r, g_121_13, g_121_16, g_121_17, g_121_18, g_121_21, g_121_22, g_121_25, g_121_26, g_121_27, g_121_28, g_121_31, g_121_32, g_121_35, g_121_38, g_121_39, g_121_39r, g_121_40, g_121_43, g_121_44, g_121_45, g_121_48, g_121_49, g_121_52, g_121_53, g_121_56, g_121_59, g_121_60, g_121_63, g_121_64, g_121_65, s_8 h, h0 rfl, if_true, if_false, not_true_eq_false, not_false_eq_true, (show ¬ (0 : Int32) = 1 by decide)]
  · by_cases c1 : p = 1
    · subst c1
      simp only [g_121_0, g_121_1, g_121_4, g_121_5, g_121_8, g_121_11, g_121_12, g_121_12r, g_121_13, g_121_16, g_121_17, g_121_18, g_121_21, g_121_22, g_121_25, g_121_26, g_121_27, g_121_28, g_121_31, g_121_32, g_121_35, g_121_38, g_121_39, g_121_39r, g_121_40, g_121_43, g_121_44, g_121_45, g_121_48, g_121_49, g_121_52, g_121_53, g_121_56, g_121_59, g_121_60, g_121_63, g_121_64, g_121_65, s_8 h, h1 rfl, if_true, if_false, not_true_eq_false, not_false_eq_true, (show ¬ (1 : Int32) = 0 by decide)]
    · simp only [g_121_0, g_121_1, g_121_4, g_121_5, g_121_8, g_121_11, g_121_12, g_121_12r, g_121_13, g_121_16, g_121_17, g_121_18, g_121_21, g_121_22, g_121_25, g_121_26, g_121_27, g_121_28, g_121_31, g_121_32, g_121_35, g_121_38, g_121_39, g_121_39r, g_121_40, g_121_43, g_121_44, g_121_45, g_121_48, g_121_49, g_121_52, g_121_53, g_121_56, g_121_59, g_121_60, g_121_63, g_121_64, g_121_65, s_8 h, c0, c1, if_true, if_false, not_false_eq_true]
theorem m_remove_m0 (h : JS σ) (h1 : ¬ kv_i σ 149 1 = 0) : Wc (d + 1) 186 [.ref 149, .int 0] σ Φ = Φ (some (.int (kv_i σ 149 1 - 1))) (kv_si σ 149 1 (kv_i σ 149 1 - 1)) := by
  rw [Wc_eq, show kv_ent 186 [.ref 149, .int 0] = [.ref 149, .int 0] from rfl]
  simp only [g_186_0, g_186_1, g_186_4, g_186_5, g_186_6, g_186_9, g_186_10, g_186_13, g_186_14, g_186_17, g_186_20, g_186_23, g_186_24, g_186_27, g_186_30, g_186_31, g_186_32, g_186_33, g_186_36, g_186_37, g_186_37r, g_186_38, g_186_41, g_186_42, g_186_43, g_186_46, g_186_47, g_186_50, g_186_51, g_186_52, g_186_52r, g_186_53, g_186_56, g_186_57, g_186_58, g_186_61, g_186_62, g_186_63, g_186_66, g_186_69, g_186_70, g_186_73, n_si, n_sl, n_sr, n_mk, sh_si, sh_sl, sh_sr, sh_mk, i_si, i_sl, i_sr, i_mk, l_si, l_sl, l_sr, l_mk, r_si, r_sl, r_sr, r_mk, s_149 h, h1, if_true, if_false, not_true_eq_false, not_false_eq_true, Nat.reduceLeDiff, and_self, (show ¬ (0 : Int32) < 0 by decide), (show ¬ (1 : Int32) < 0 by decide)]
theorem m_remove_m1 (h : JS σ) (h1 : ¬ kv_i σ 149 26 = 0) : Wc (d + 1) 186 [.ref 149, .int 1] σ Φ = Φ (some (.int (kv_i σ 149 26 - 1))) (if kv_i σ 149 34 = kv_i σ 149 26 - 1 then kv_si (kv_si σ 149 26 (kv_i σ 149 26 - 1)) 149 34 (-1) else kv_si σ 149 26 (kv_i σ 149 26 - 1)) := by
  rw [Wc_eq, show kv_ent 186 [.ref 149, .int 1] = [.ref 149, .int 1] from rfl]
  have hs := h.si 149 26 (kv_i σ 149 26 - 1)
  simp only [g_186_0, g_186_1, g_186_4, g_186_5, g_186_6, g_186_9, g_186_10, g_186_13, g_186_14, g_186_17, g_186_20, g_186_23, g_186_24, g_186_27, g_186_30, g_186_31, g_186_32, g_186_33, g_186_36, g_186_37, g_186_37r, g_186_38, g_186_41, g_186_42, g_186_43, g_186_46, g_186_47, g_186_50, g_186_51, g_186_52, g_186_52r, g_186_53, g_186_56, g_186_57, g_186_58, g_186_61, g_186_62, g_186_63, g_186_66, g_186_69, g_186_70, g_186_73, kv_w8_0, kv_w8_1, kv_w8_2, kv_w8_3, kv_w8_4, n_si, n_sl, n_sr, n_mk, sh_si, sh_sl, sh_sr, sh_mk, i_si, i_sl, i_sr, i_mk, l_si, l_sl, l_sr, l_mk, r_si, r_sl, r_sr, r_mk, s_149 h, h1, if_true, if_false, (show ¬ (1 : Int32) = 0 by decide), (show ¬ (1 : Int32) < 0 by decide), (show ¬ (1 : Int32) < 1 by decide), not_true_eq_false, not_false_eq_true, Nat.reduceLeDiff, and_self, m_changed_m hs, (show (34 = 26) = False by decide), and_false, Option.toList_none, List.nil_append]
  by_cases h2 : kv_i σ 149 34 = kv_i σ 149 26 - 1
  · simp only [h2, if_true, g_186_69, g_186_70, g_186_73, n_si, n_sl, n_sr, n_mk, sh_si, sh_sl, sh_sr, sh_mk, i_si, i_sl, i_sr, i_mk, l_si, l_sl, l_sr, l_mk, r_si, r_sl, r_sr, r_mk, s_149 h, (show (26 = 34) = False by decide), and_false, if_false, and_self]
  · simp only [h2, if_false, g_186_69, g_186_70, g_186_73, n_si, n_sl, n_sr, n_mk, sh_si, sh_sl, sh_sr, sh_mk, i_si, i_sl, i_sr, i_mk, l_si, l_sl, l_sr, l_mk, r_si, r_sl, r_sr, r_mk, s_149 h, if_true, and_self]
theorem m_remove_mx (h : JS σ) (p : Int32) (h0 : p = 0 → kv_i σ 149 1 = 0) (h1 : p = 1 → kv_i σ 149 26 = 0) : Wc (d + 1) 186 [.ref 149, .int p] σ Φ = Φ (some (.int (-1))) σ := by
  rw [Wc_eq, show kv_ent 186 [.ref 149, .int p] = [.ref 149, .int p] from rfl]
  by_cases c0 : p = 0
  · subst c0
    simp only [g_186_0, g_186_1, g_186_4, g_186_5, g_186_6, g_186_9, g_186_10, g_186_13, g_186_14, g_186_17, g_186_20, g_186_23, g_186_24, g_186_27, g_186_30, g_186_31, g_186_32, g_186_33, g_186_36, g_186_37, g_186_37r, g_186_38, g_186_41, g_186_42, g_186_43, g_186_46, g_186_47, g_186_50, g_186_51, g_186_52, g_186_52r, g_186_53, g_186_56, g_186_57, g_186_58, g_186_61, g_186_62, g_186_63, g_186_66, g_186_69, g_186_70, g_186_73, s_149 h, h0 rfl, if_true, if_false, not_true_eq_false, not_false_eq_true, (show ¬ (0 : Int32) < 0 by decide), (show ¬ (1 : Int32) < 0 by decide)]
  · by_cases c1 : p = 1
    · subst c1
      simp only [g_186_0, g_186_1, g_186_4, g_186_5, g_186_6, g_186_9, g_186_10, g_186_13, g_186_14, g_186_17, g_186_20, g_186_23, g_186_24, g_186_27, g_186_30, g_186_31, g_186_32, g_186_33, g_186_36, g_186_37, g_186_37r, g_186_38, g_186_41, g_186_42, g_186_43, g_186_46, g_186_47, g_186_50, g_186_51, g_186_52, g_186_52r, g_186_53, g_186_56, g_186_57, g_186_58, g_186_61, g_186_62, g_186_63, g_186_66, g_186_69, g_186_70, g_186_73, s_149 h, h1 rfl, if_true, if_false, not_true_eq_false, not_false_eq_true, (show ¬ (1 : Int32) = 0 by decide), (show ¬ (1 : Int32) < 0 by decide), (show ¬ (1 : Int32) < 1 by decide)]
    · by_cases c2 : p < 0
      · simp only [g_186_0, g_186_1, g_186_4, g_186_5, g_186_6, g_186_9, g_186_10, g_186_13, g_186_14, g_186_17, g_186_20, g_186_23, g_186_24, g_186_27, g_186_30, g_186_31, g_186_32, g_186_33, g_186_36, g_186_37, g_186_37r, g_186_38, g_186_41, g_186_42, g_186_43, g_186_46, g_186_47, g_186_50, g_186_51, g_186_52, g_186_52r, g_186_53, g_186_56, g_186_57, g_186_58, g_186_61, g_186_62, g_186_63, g_186_66, g_186_69, g_186_70, g_186_73, s_149 h, c2, if_true]
      · have c3 : 1 < p := by
          rw [i32_eq, show (0 : Int32).toInt = 0 by decide] at c0
          rw [i32_eq, show (1 : Int32).toInt = 1 by decide] at c1
          rw [Int32.lt_iff_toInt_lt, show (0 : Int32).toInt = 0 by decide] at c2
          rw [Int32.lt_iff_toInt_lt, show (1 : Int32).toInt = 1 by decide]
          omega
        simp only [g_186_0, g_186_1, g_186_4, g_186_5, g_186_6, g_186_9, g_186_10, g_186_13, g_186_14, g_186_17, g_186_20, g_186_23, g_186_24, g_186_27, g_186_30, g_186_31, g_186_32, g_186_33, g_186_36, g_186_37, g_186_37r, g_186_38, g_186_41, g_186_42, g_186_43, g_186_46, g_186_47, g_186_50, g_186_51, g_186_52, g_186_52r, g_186_53, g_186_56, g_186_57, g_186_58, g_186_61, g_186_62, g_186_63, g_186_66, g_186_69, g_186_70, g_186_73, s_149 h, c2, c3, if_true, if_false]
end RN

theorem i32_pred {n : Nat} (h : 0 < n) : Int32.ofNat n - 1 = Int32.ofNat (n - 1) := by
  obtain ⟨m, rfl⟩ : ∃ m, n = m + 1 := ⟨n - 1, by omega⟩
  exact nI_pred m
theorem i32_le0 {n : Nat} (h : n < 2 ^ 31) : Int32.ofNat n ≤ 0 ↔ n = 0 := by
  rw [Int32.le_iff_toInt_le, oN_toInt h, show (0 : Int32).toInt = 0 by decide]
  omega
theorem i32_eq0 {n : Nat} (h : n < 2 ^ 31) : Int32.ofNat n = 0 ↔ n = 0 := by
  rw [i32_eq, oN_toInt h, show (0 : Int32).toInt = 0 by decide]
  omega
theorem i32_inj {n m : Nat} (h : n < 2 ^ 31) (h2 : m < 2 ^ 31) : Int32.ofNat n = Int32.ofNat m ↔ n = m := by
  rw [i32_eq, oN_toInt h, oN_toInt h2]
  omega
theorem ne_ess {σ : kv_S} {a k : Nat} {x : Int32} {b j : Nat} (h : ¬ (b = a ∧ j = k)) : kv_i (kv_si σ a k x) b j = kv_i σ b j := by rw [i_si, if_neg h]
theorem JH2.cong {σ τ : kv_S} (h : ∀ b k, (33 = b ∨ 175 ≤ b ∧ b ≤ 177) → kv_i τ b k = kv_i σ b k) {i : Nat} (H : JH2 σ i) : JH2 τ i := by
  have h0 : ∀ k, kv_i τ 33 k = kv_i σ 33 k := fun k => h _ k (Or.inl rfl)
  have g0 : ∀ k, kv_i τ 175 k = kv_i σ 175 k := fun k => h _ k (Or.inr (by decide))
  have g1 : ∀ k, kv_i τ 176 k = kv_i σ 176 k := fun k => h _ k (Or.inr (by decide))
  have g2 : ∀ k, kv_i τ 177 k = kv_i σ 177 k := fun k => h _ k (Or.inr (by decide))
  unfold JH2 at *
  simp only [h0, g0, g1, g2]
  exact H
/-- promise 32: remove -/
theorem o_30 (d : Nat) : ob_30 JJ (d + 1) := by
  intro σ h p
  have h' := h
  obtain ⟨a1, a2, a3, ⟨F, hF, f1, f2, f3⟩, ⟨K, hK, k1, k2, k3⟩, a6, a7⟩ := h'
  by_cases c0 : p = 0 ∧ F ≠ 0
  · obtain ⟨rfl, hF0⟩ := c0
    have e1 : ¬ kv_i σ 8 9 ≤ 0 := by rw [f1, i32_le0 (by omega)]; exact hF0
    rw [m_remove_c0 a1 e1]
    refine ⟨_, rfl, ?_⟩
    have b1 := a1.si 8 9 (kv_i σ 8 9 - 1)
    have e2 : kv_i (kv_si σ 8 9 (kv_i σ 8 9 - 1)) 149 1 = Int32.ofNat F := by rw [ne_ess (by decide)]; exact f2
    rw [m_remove_m0 b1 (by rw [e2, i32_eq0 (by omega)]; exact hF0), e2, f1, i32_pred (by omega)]
    refine ⟨rfl, ?_⟩
    have cg : ∀ b k, ¬ (b = 8 ∧ k = 9) → ¬ (b = 149 ∧ k = 1) → kv_i (kv_si (kv_si σ 8 9 (Int32.ofNat (F - 1))) 149 1 (Int32.ofNat (F - 1))) b k = kv_i σ b k := fun b k q1 q2 => by rw [ne_ess q2, ne_ess q1]
    refine ⟨(a1.si _ _ _).si _ _ _, (a2.low (kv_si_low σ _ _ (by decide))).low (kv_si_low _ _ _ (by decide)), a3.cong (fun k => cg _ _ (by omega) (by omega)), ⟨F - 1, by omega, ?_, ?_, fun f hf => (f3 f (by omega)).cong (fun b k hb => cg _ _ (by omega) (by omega)) (by omega)⟩, JN.cong (fun b k hb => cg _ _ (by omega) (by omega)) (cg _ _ (by decide) (by decide)) (cg _ _ (by decide) (by decide)) h.2.2.2.2.1, a6.cong (fun k => cg _ _ (by omega) (by omega)) (fun k => cg _ _ (by omega) (by omega)) (cg _ _ (by decide) (by decide)) (cg _ _ (by decide) (by decide)) (cg _ _ (by decide) (by decide)) (cg _ _ (by decide) (by decide)), a7.cong (fun b k hb => cg _ _ (by omega) (by omega)) (fun n k hn => cg _ _ (by omega) (by omega)) (cg _ _ (by decide) (by decide)) (cg _ _ (by decide) (by decide)) (cg _ _ (by decide) (by decide)) (cg _ _ (by decide) (by decide)) (cg _ _ (by decide) (by decide))⟩
    · rw [ne_ess (by decide), i_si, if_pos ⟨rfl, rfl⟩]
    · rw [i_si, if_pos ⟨rfl, rfl⟩]
  · by_cases c1 : p = 1 ∧ K ≠ 0
    · obtain ⟨rfl, hK0⟩ := c1
      have e1 : ¬ kv_i σ 8 10 ≤ 0 := by rw [k1, i32_le0 (by omega)]; exact hK0
      have ex : kv_i σ 8 10 - 1 = Int32.ofNat (K - 1) := by rw [k1, i32_pred (by omega)]
      rw [m_remove_c1 a1 e1, ex]
      obtain ⟨⟨S, t1, t2, t3, t4⟩, t5, t6⟩ := a7
      by_cases hu : kv_i σ 32 5 = Int32.ofNat (K - 1)
      · rw [if_pos hu]
        refine ⟨_, rfl, ?_⟩
        have b1 := (a1.si 8 10 (Int32.ofNat (K - 1))).si 32 5 (-1)
        have e2 : kv_i (kv_si (kv_si σ 8 10 (Int32.ofNat (K - 1))) 32 5 (-1)) 149 26 = Int32.ofNat K := by rw [ne_ess (by decide), ne_ess (by decide)]; exact k2
        have e3 : kv_i (kv_si (kv_si σ 8 10 (Int32.ofNat (K - 1))) 32 5 (-1)) 149 34 = Int32.ofNat (K - 1) := by rw [ne_ess (by decide), ne_ess (by decide), t5]; exact hu
        rw [m_remove_m1 b1 (by rw [e2, i32_eq0 (by omega)]; exact hK0), e2, e3, i32_pred (by omega), if_pos rfl]
        refine ⟨rfl, ?_⟩
        have cg : ∀ b k, ¬ (b = 8 ∧ k = 10) → ¬ (b = 32 ∧ k = 5) → ¬ (b = 149 ∧ k = 26) → ¬ (b = 149 ∧ k = 34) → kv_i (kv_si (kv_si (kv_si (kv_si σ 8 10 (Int32.ofNat (K - 1))) 32 5 (-1)) 149 26 (Int32.ofNat (K - 1))) 149 34 (-1)) b k = kv_i σ b k := fun b k q1 q2 q3 q4 => by rw [ne_ess q4, ne_ess q3, ne_ess q2, ne_ess q1]
        refine ⟨((b1.si _ _ _).si _ _ _), (((a2.low (kv_si_low σ _ _ (by decide))).low (kv_si_low _ _ _ (by decide))).low (kv_si_low _ _ _ (by decide))).low (kv_si_low _ _ _ (by decide)), a3.cong (fun k => cg _ _ (by omega) (by omega) (by omega) (by omega)), JF.cong (fun b k hb => cg _ _ (by omega) (by omega) (by omega) (by omega)) (cg _ _ (by decide) (by decide) (by decide) (by decide)) (cg _ _ (by decide) (by decide) (by decide) (by decide)) h.2.2.2.1, ⟨K - 1, by omega, ?_, ?_, fun k hk => (k3 k (by omega)).cong (fun b k hb => cg _ _ (by omega) (by omega) (by omega) (by omega)) (by omega)⟩, a6.cong (fun k => cg _ _ (by omega) (by omega) (by omega) (by omega)) (fun k => cg _ _ (by omega) (by omega) (by omega) (by omega)) (cg _ _ (by decide) (by decide) (by decide) (by decide)) (cg _ _ (by decide) (by decide) (by decide) (by decide)) (cg _ _ (by decide) (by decide) (by decide) (by decide)) (cg _ _ (by decide) (by decide) (by decide) (by decide)), ⟨S, t1, ?_, ?_, fun i hi => ?_⟩, ?_, Or.inl ?_⟩
        · rw [ne_ess (by decide), ne_ess (by decide), ne_ess (by decide), i_si, if_pos ⟨rfl, rfl⟩]
        · rw [ne_ess (by decide), i_si, if_pos ⟨rfl, rfl⟩]
        · rw [cg _ _ (by decide) (by decide) (by decide) (by decide)]; exact t2
        · rw [cg _ _ (by decide) (by decide) (by decide) (by decide)]; exact t3
        · exact JH2.cong (fun b k hb => cg _ _ (by omega) (by omega) (by omega) (by omega)) (t4 i hi)
        · rw [i_si, if_pos ⟨rfl, rfl⟩, ne_ess (by decide), ne_ess (by decide), i_si, if_pos ⟨rfl, rfl⟩]
        · rw [ne_ess (by decide), ne_ess (by decide), i_si, if_pos ⟨rfl, rfl⟩]
      · rw [if_neg hu]
        refine ⟨_, rfl, ?_⟩
        have b1 := a1.si 8 10 (Int32.ofNat (K - 1))
        have e2 : kv_i (kv_si σ 8 10 (Int32.ofNat (K - 1))) 149 26 = Int32.ofNat K := by rw [ne_ess (by decide)]; exact k2
        have e3 : kv_i (kv_si σ 8 10 (Int32.ofNat (K - 1))) 149 34 = kv_i σ 32 5 := by rw [ne_ess (by decide)]; exact t5
        rw [m_remove_m1 b1 (by rw [e2, i32_eq0 (by omega)]; exact hK0), e2, e3, i32_pred (by omega), if_neg hu]
        refine ⟨rfl, ?_⟩
        have cg : ∀ b k, ¬ (b = 8 ∧ k = 10) → ¬ (b = 149 ∧ k = 26) → kv_i (kv_si (kv_si σ 8 10 (Int32.ofNat (K - 1))) 149 26 (Int32.ofNat (K - 1))) b k = kv_i σ b k := fun b k q1 q2 => by rw [ne_ess q2, ne_ess q1]
        refine ⟨b1.si _ _ _, (a2.low (kv_si_low σ _ _ (by decide))).low (kv_si_low _ _ _ (by decide)), a3.cong (fun k => cg _ _ (by omega) (by omega)), JF.cong (fun b k hb => cg _ _ (by omega) (by omega)) (cg _ _ (by decide) (by decide)) (cg _ _ (by decide) (by decide)) h.2.2.2.1, ⟨K - 1, by omega, ?_, ?_, fun k hk => (k3 k (by omega)).cong (fun b k hb => cg _ _ (by omega) (by omega)) (by omega)⟩, a6.cong (fun k => cg _ _ (by omega) (by omega)) (fun k => cg _ _ (by omega) (by omega)) (cg _ _ (by decide) (by decide)) (cg _ _ (by decide) (by decide)) (cg _ _ (by decide) (by decide)) (cg _ _ (by decide) (by decide)), ⟨S, t1, ?_, ?_, fun i hi => ?_⟩, ?_, ?_⟩
        · rw [ne_ess (by decide), i_si, if_pos ⟨rfl, rfl⟩]
        · rw [i_si, if_pos ⟨rfl, rfl⟩]
        · rw [cg _ _ (by decide) (by decide)]; exact t2
        · rw [cg _ _ (by decide) (by decide)]; exact t3
        · exact JH2.cong (fun b k hb => cg _ _ (by omega) (by omega)) (t4 i hi)
        · rw [cg _ _ (by decide) (by decide), cg _ _ (by decide) (by decide)]; exact t5
        · rw [cg 32 5 (by decide) (by decide)]
          rcases t6 with t6 | ⟨k, K', q1, q2, q3, q4, q5⟩
          · exact Or.inl t6
          · have hKK : K' = K := by rw [k1, i32_inj (by omega) (by omega)] at q2; exact q2.symm
            have hne : k ≠ K - 1 := fun e => hu (by rw [q4, e])
            exact Or.inr ⟨k, K - 1, by omega, by rw [ne_ess (by decide), i_si, if_pos ⟨rfl, rfl⟩], by omega, q4, q5.cong (fun b k hb => cg _ _ (by omega) (by omega)) (cg _ _ (by omega) (by omega)) (cg _ _ (by omega) (by omega))⟩
    · rw [m_remove_cx a1 p (fun e => by rw [f1, i32_le0 (by omega)]; exact Classical.byContradiction fun q => c0 ⟨e, q⟩) (fun e => by rw [k1, i32_le0 (by omega)]; exact Classical.byContradiction fun q => c1 ⟨e, q⟩)]
      refine ⟨_, rfl, ?_⟩
      rw [m_remove_mx a1 p (fun e => by rw [f2, i32_eq0 (by omega)]; exact Classical.byContradiction fun q => c0 ⟨e, q⟩) (fun e => by rw [k2, i32_eq0 (by omega)]; exact Classical.byContradiction fun q => c1 ⟨e, q⟩)]
      exact ⟨rfl, h⟩

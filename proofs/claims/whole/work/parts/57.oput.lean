/-! ===== put, the promise ===== -/
theorem MF.lft {σ : kv_S} {f w row : Nat} {L H : Nat → Nat} (hw : w ≤ 8) (hL : ∀ s, s < 32 → 8 * s < 2 ^ w → L s ≤ 8) (hm : MF σ f w L H) (hr : row < 2 ^ w) : lft σ f row = L (row / 8) := by
  have hW := pw8 hw
  have := hL (row / 8) (by omega) (by omega)
  exact lft_of (by omega) (hm.2 (row / 8) (by omega) (by omega)).1
theorem lck_0 {σ : kv_S} {f row : Nat} : lck σ f row = 0 ↔ row % 8 < lft σ f row := by
  unfold lck
  by_cases c : lft σ f row = 0
  · rw [if_pos c, c]
    exact ⟨fun q => absurd q (by decide), fun q => absurd q (by omega)⟩
  · rw [if_neg c]
    by_cases c2 : row % 8 < lft σ f row
    · rw [if_pos c2]; exact ⟨fun _ => c2, fun _ => rfl⟩
    · rw [if_neg c2]; exact ⟨fun q => absurd q (by decide), fun q => absurd q c2⟩
section PV
variable {d : Nat} {σ : kv_S} {Φ : Option Value → kv_S → Prop}
theorem m_put_cl (h : JS σ) {F f w row v : Nat} (hF : F ≤ 16) (hk : kv_i σ 8 9 = Int32.ofNat F) (hf : f < F) (hj : JF1' σ f w) (hr : row < 2 ^ w) (hv : v ≤ 2) (hl : ¬ lck σ f row = 0) : Wc (d + 2) 16 [.ref 8, .int (Int32.ofNat f), .int (Int32.ofNat row), .int (Int32.ofNat v)] σ Φ = Φ (some (.int (lck σ f row))) σ := by
  have hf16 : f < 16 := by omega
  simp only [c_16, g_16_0, g_16_1, g_16_2, g_16_3, g_16_6, g_16_9, g_16_10, g_16_13, g_16_14, g_16_15, g_16_18, g_16_19, g_16_20, g_16_21, g_16_24, g_16_25, g_16_26, g_16_28, g_16_30, g_16_31, g_16_34, g_16_36, g_16_38, g_16_41, g_16_43, g_16_44, g_16_46, g_16_47, g_16_50, g_16_52, g_16_54, g_16_55, g_16_56, g_16_59, g_16_61, kv_w8_0, kv_w8_1, kv_w8_2, kv_w8_3, kv_w8_4, ari_aa, ari_al, ari_la, ari_mm, ari_ml, ari_lm, ari_ltl, ari_llt, ari_lt, ari_le, ari_lel, ari_lle, ari_0, ari_eq, ari_eql, ari_leq, ari_cl, Nat.not_lt_zero, Bool.false_eq_true, Option.toList_some, Option.toList_none, List.cons_append, List.nil_append, kv_rv, kc1_i, kc1_r, kc1_n, n10, n01, n1514, n1213, n1312, if_true, if_false, not_true_eq_false, not_false_eq_true, and_self, true_and, and_true, false_and, and_false, or_true, true_or, or_false, false_or, Nat.reduceLeDiff, Nat.reduceLT, Nat.reduceEqDiff, Nat.reduceAdd, m_isFR_t h hF hk hf hj.2.1 hj.2.2.1 hr, m_lackAt h hf16 hj hr, hl, sT h hf16, rT h hf16, s_8 h, s_9 h, r_8_0 h, (show f < 16 by omega), (show f < 2147483648 by omega), (show v < 3 by omega), (show v < 2147483648 by omega), (show v ≤ 2 by omega)]
theorem m_put_c (h : JS σ) {F f w row v : Nat} {L H : Nat → Nat} (hF : F ≤ 16) (hk : kv_i σ 8 9 = Int32.ofNat F) (hf : f < F) (hj : JF1' σ f w) (hL : ∀ s, s < 32 → 8 * s < 2 ^ w → L s ≤ 8) (hc : CF σ f w L H) (hr : row < 2 ^ w) (hv : v ≤ 2) (hl : lck σ f row = 0) (hl2 : row % 8 < L (row / 8)) (HΦ : ∀ τ, FR (fun b j => (b = 38 + 4 * f ∨ b = 39 + 4 * f) ∧ j = row / 8) σ τ → CF τ f w L (up1 H row v) → Φ (some (.int (Int32.ofNat (hld σ f row)))) τ) : Wc (d + 2) 16 [.ref 8, .int (Int32.ofNat f), .int (Int32.ofNat row), .int (Int32.ofNat v)] σ Φ := by
  have hf16 : f < 16 := by omega
  simp only [c_16, g_16_0, g_16_1, g_16_2, g_16_3, g_16_6, g_16_9, g_16_10, g_16_13, g_16_14, g_16_15, g_16_18, g_16_19, g_16_20, g_16_21, g_16_24, g_16_25, g_16_26, g_16_28, g_16_30, g_16_31, g_16_34, g_16_36, g_16_38, g_16_41, g_16_43, g_16_44, g_16_46, g_16_47, g_16_50, g_16_52, g_16_54, g_16_55, g_16_56, kv_w8_0, kv_w8_1, kv_w8_2, kv_w8_3, kv_w8_4, ari_aa, ari_al, ari_la, ari_mm, ari_ml, ari_lm, ari_ltl, ari_llt, ari_lt, ari_le, ari_lel, ari_lle, ari_0, ari_eq, ari_eql, ari_leq, ari_cl, Nat.not_lt_zero, Bool.false_eq_true, Option.toList_some, Option.toList_none, List.cons_append, List.nil_append, kv_rv, kc1_i, kc1_r, kc1_n, n10, n01, n1514, n1213, n1312, if_true, if_false, not_true_eq_false, not_false_eq_true, and_self, true_and, and_true, false_and, and_false, or_true, true_or, or_false, false_or, Nat.reduceLeDiff, Nat.reduceLT, Nat.reduceEqDiff, Nat.reduceAdd, m_isFR_t h hF hk hf hj.2.1 hj.2.2.1 hr, m_lackAt h hf16 hj hr, m_heldAt h hf16 hj hr, hl, sT h hf16, rT h hf16, s_8 h, s_9 h, r_8_0 h, (show f < 16 by omega), (show f < 2147483648 by omega), (show v < 3 by omega), (show v < 2147483648 by omega), (show v ≤ 2 by omega)]
  refine m_hold h hf16 hj.2.1 hL hc hr hl2 hv (fun τ fr cf => ?_)
  simp only [g_16_59, g_16_61, Nat.not_lt_zero, Bool.false_eq_true, Option.toList_some, Option.toList_none, List.cons_append, List.nil_append, kv_rv, kc1_i, kc1_r, kc1_n, n10, n01, n1514, n1213, n1312, if_true, if_false, not_true_eq_false, not_false_eq_true, and_self, true_and, and_true, false_and, and_false, or_true, true_or, or_false, false_or, Nat.reduceLeDiff, Nat.reduceLT, Nat.reduceEqDiff, Nat.reduceAdd]
  exact HΦ τ fr cf
theorem m_put_cb (h : JS σ) {F f w row : Nat} (hF : F ≤ 16) (hk : kv_i σ 8 9 = Int32.ofNat F) (hf : f < F) (hj : JF1' σ f w) (hr : row < 2 ^ w) {v : Int32} (hv : ¬ (¬ v < 0 ∧ v ≤ 2)) : Wc (d + 2) 16 [.ref 8, .int (Int32.ofNat f), .int (Int32.ofNat row), .int v] σ Φ = Φ (some (.int (-1))) σ := by
  by_cases c : v < 0
  · simp only [c_16, g_16_0, g_16_1, g_16_2, g_16_3, g_16_6, g_16_9, g_16_10, g_16_13, g_16_14, g_16_15, g_16_18, g_16_19, kv_w8_0, kv_w8_1, kv_w8_2, kv_w8_3, kv_w8_4, Nat.not_lt_zero, Bool.false_eq_true, Option.toList_some, Option.toList_none, List.cons_append, List.nil_append, kv_rv, kc1_i, kc1_r, kc1_n, n10, n01, n1514, n1213, n1312, if_true, if_false, not_true_eq_false, not_false_eq_true, and_self, true_and, and_true, false_and, and_false, or_true, true_or, or_false, false_or, Nat.reduceLeDiff, Nat.reduceLT, Nat.reduceEqDiff, Nat.reduceAdd, m_isFR_t h hF hk hf hj.2.1 hj.2.2.1 hr, c, s_8 h]
  · have c2 : ¬ v ≤ 2 := fun q => hv ⟨c, q⟩
    simp only [c_16, g_16_0, g_16_1, g_16_2, g_16_3, g_16_6, g_16_9, g_16_10, g_16_13, g_16_14, g_16_15, g_16_18, g_16_19, kv_w8_0, kv_w8_1, kv_w8_2, kv_w8_3, kv_w8_4, Nat.not_lt_zero, Bool.false_eq_true, Option.toList_some, Option.toList_none, List.cons_append, List.nil_append, kv_rv, kc1_i, kc1_r, kc1_n, n10, n01, n1514, n1213, n1312, if_true, if_false, not_true_eq_false, not_false_eq_true, and_self, true_and, and_true, false_and, and_false, or_true, true_or, or_false, false_or, Nat.reduceLeDiff, Nat.reduceLT, Nat.reduceEqDiff, Nat.reduceAdd, m_isFR_t h hF hk hf hj.2.1 hj.2.2.1 hr, c, c2, s_8 h]
theorem m_put_ml (h : JS σ) {F f w row v : Nat} (hF : F ≤ 16) (hk : kv_i σ 149 1 = Int32.ofNat F) (hf : f < F) (hj : JF1' σ f w) (hr : row < 2 ^ w) (hv : v ≤ 2) (hl : ¬ lck σ f row = 0) : Wc (d + 2) 126 [.ref 149, .int (Int32.ofNat f), .int (Int32.ofNat row), .int (Int32.ofNat v)] σ Φ = Φ (some (.int (lck σ f row))) σ := by
  have hf16 : f < 16 := by omega
  simp only [c_126, g_126_0, g_126_1, g_126_2, g_126_3, g_126_6, g_126_9, g_126_10, g_126_13, g_126_14, g_126_15, g_126_18, g_126_19, g_126_20, g_126_21, g_126_22, g_126_23, g_126_26, g_126_28, g_126_30, g_126_33, g_126_35, g_126_36, g_126_37, g_126_40, g_126_43, g_126_44, g_126_45, g_126_46, g_126_47, g_126_48, g_126_50, g_126_51, g_126_54, g_126_57, g_126_58, g_126_59, g_126_60, g_126_61, g_126_62, g_126_63, g_126_64, g_126_66, kv_w8_0, kv_w8_1, kv_w8_2, kv_w8_3, kv_w8_4, ari_aa, ari_al, ari_la, ari_mm, ari_ml, ari_lm, ari_ltl, ari_llt, ari_lt, ari_le, ari_lel, ari_lle, ari_0, ari_eq, ari_eql, ari_leq, ari_cl, Nat.not_lt_zero, Bool.false_eq_true, Option.toList_some, Option.toList_none, List.cons_append, List.nil_append, kv_rv, kc1_i, kc1_r, kc1_n, n10, n01, n1514, n1213, n1312, if_true, if_false, not_true_eq_false, not_false_eq_true, and_self, true_and, and_true, false_and, and_false, or_true, true_or, or_false, false_or, Nat.reduceLeDiff, Nat.reduceLT, Nat.reduceEqDiff, Nat.reduceAdd, m_isRow_t h hF hk hf hj.2.1 hj.2.2.2.1 hr, m_lacks h hf16 hj hr, hl, s_149 h, (show f < 16 by omega), (show f < 2147483648 by omega), (show v < 3 by omega), (show v < 2147483648 by omega), (show v ≤ 2 by omega)]
theorem m_put_m (h : JS σ) {F f w row v : Nat} (hF : F ≤ 16) (hk : kv_i σ 149 1 = Int32.ofNat F) (hf : f < F) (hw : w ≤ 8) (e3 : kv_i σ 150 f = Int32.ofNat w) (hr : row < 2 ^ w) (hv : v ≤ 2) {l : Nat} (el : kv_i σ 152 (32 * f + row / 8) = Int32.ofNat l) (hl : row % 8 < l) (hl8 : l ≤ 8) : Wc (d + 2) 126 [.ref 149, .int (Int32.ofNat f), .int (Int32.ofNat row), .int (Int32.ofNat v)] σ Φ = Φ (some (.int (kv_i σ 151 (256 * f + row)))) (kv_si σ 151 (256 * f + row) (Int32.ofNat v)) := by
  have hf16 : f < 16 := by omega
  have hW := pw8 hw
  have hlk : ∀ {d : Nat} {Ψ : Option Value → kv_S → Prop}, Wc d 129 [.ref 149, .int (Int32.ofNat f), .int (Int32.ofNat row)] σ Ψ = Ψ (some (.int 0)) σ := by
    intro d Ψ
    simp only [c_129, g_129_0, g_129_1, g_129_4, g_129_6, g_129_7, g_129_8, g_129_9, g_129_11, g_129_12, g_129_13, g_129_14, g_129_15, g_129_16, g_129_19, g_129_21, g_129_24, g_129_25, g_129_27, g_129_28, g_129_29, g_129_32, g_129_34, g_129_37, g_129_38, kv_w8_0, kv_w8_1, kv_w8_2, kv_w8_3, kv_w8_4, ari_aa, ari_al, ari_la, ari_mm, ari_ml, ari_lm, ari_ltl, ari_llt, ari_lt, ari_le, ari_lel, ari_lle, ari_0, ari_eq, ari_eql, ari_leq, ari_cl, Nat.not_lt_zero, Bool.false_eq_true, Option.toList_some, Option.toList_none, List.cons_append, List.nil_append, kv_rv, kc1_i, kc1_r, kc1_n, n10, n01, n1514, n1213, n1312, if_true, if_false, not_true_eq_false, not_false_eq_true, and_self, true_and, and_true, false_and, and_false, or_true, true_or, or_false, false_or, Nat.reduceLeDiff, Nat.reduceLT, Nat.reduceEqDiff, Nat.reduceAdd, ari_div, ari_rem, (show ¬ (8 : Int32) = 0 by decide), s_149 h, s_152 h, r_149_4 h, el, hl, (show row < 2147483648 by omega), (show row / 8 < 32 by omega), (show row / 8 < 2147483648 by omega), (show 32 * f + row / 8 < 512 by omega), (show 32 * f + row / 8 < 2147483648 by omega), (show l < 9 by omega), (show l < 2147483648 by omega), (show row % 8 < 8 by omega), (show row % 8 < 2147483648 by omega), (show ¬ l = 0 by omega)]
  simp only [c_126, g_126_0, g_126_1, g_126_2, g_126_3, g_126_6, g_126_9, g_126_10, g_126_13, g_126_14, g_126_15, g_126_18, g_126_19, g_126_20, g_126_21, g_126_22, g_126_23, g_126_26, g_126_28, g_126_30, g_126_33, g_126_35, g_126_36, g_126_37, g_126_40, g_126_43, g_126_44, g_126_45, g_126_46, g_126_47, g_126_48, g_126_50, g_126_51, g_126_54, g_126_57, g_126_58, g_126_59, g_126_60, g_126_61, g_126_62, g_126_63, g_126_64, g_126_66, kv_w8_0, kv_w8_1, kv_w8_2, kv_w8_3, kv_w8_4, n_si, n_sl, n_sr, n_mk, sh_si, sh_sl, sh_sr, sh_mk, i_si, i_sl, i_sr, i_mk, l_si, l_sl, l_sr, l_mk, r_si, r_sl, r_sr, r_mk, ari_aa, ari_al, ari_la, ari_mm, ari_ml, ari_lm, ari_ltl, ari_llt, ari_lt, ari_le, ari_lel, ari_lle, ari_0, ari_eq, ari_eql, ari_leq, ari_cl, Nat.not_lt_zero, Bool.false_eq_true, Option.toList_some, Option.toList_none, List.cons_append, List.nil_append, kv_rv, kc1_i, kc1_r, kc1_n, n10, n01, n1514, n1213, n1312, if_true, if_false, not_true_eq_false, not_false_eq_true, and_self, true_and, and_true, false_and, and_false, or_true, true_or, or_false, false_or, Nat.reduceLeDiff, Nat.reduceLT, Nat.reduceEqDiff, Nat.reduceAdd, m_isRow_t h hF hk hf hw e3 hr, hlk, (i2b2 v hv).1, (i2b2 v hv).2, s_149 h, s_151 h, r_149_3 h, (show f < 16 by omega), (show f < 2147483648 by omega), (show v < 3 by omega), (show v < 2147483648 by omega), (show v ≤ 2 by omega), (show 256 * f + row < 4096 by omega), (show 256 * f + row < 2147483648 by omega)]
theorem m_put_mb (h : JS σ) {F f w row : Nat} (hF : F ≤ 16) (hk : kv_i σ 149 1 = Int32.ofNat F) (hf : f < F) (hj : JF1' σ f w) (hr : row < 2 ^ w) {v : Int32} (hv : ¬ (¬ v < 0 ∧ v ≤ 2)) : Wc (d + 2) 126 [.ref 149, .int (Int32.ofNat f), .int (Int32.ofNat row), .int v] σ Φ = Φ (some (.int (-1))) σ := by
  by_cases c : v < 0
  · simp only [c_126, g_126_0, g_126_1, g_126_2, g_126_3, g_126_6, g_126_9, g_126_10, g_126_13, g_126_14, g_126_15, g_126_18, g_126_19, kv_w8_0, kv_w8_1, kv_w8_2, kv_w8_3, kv_w8_4, Nat.not_lt_zero, Bool.false_eq_true, Option.toList_some, Option.toList_none, List.cons_append, List.nil_append, kv_rv, kc1_i, kc1_r, kc1_n, n10, n01, n1514, n1213, n1312, if_true, if_false, not_true_eq_false, not_false_eq_true, and_self, true_and, and_true, false_and, and_false, or_true, true_or, or_false, false_or, Nat.reduceLeDiff, Nat.reduceLT, Nat.reduceEqDiff, Nat.reduceAdd, m_isRow_t h hF hk hf hj.2.1 hj.2.2.2.1 hr, c, s_149 h]
  · have c2 : ¬ v ≤ 2 := fun q => hv ⟨c, q⟩
    simp only [c_126, g_126_0, g_126_1, g_126_2, g_126_3, g_126_6, g_126_9, g_126_10, g_126_13, g_126_14, g_126_15, g_126_18, g_126_19, kv_w8_0, kv_w8_1, kv_w8_2, kv_w8_3, kv_w8_4, Nat.not_lt_zero, Bool.false_eq_true, Option.toList_some, Option.toList_none, List.cons_append, List.nil_append, kv_rv, kc1_i, kc1_r, kc1_n, n10, n01, n1514, n1213, n1312, if_true, if_false, not_true_eq_false, not_false_eq_true, and_self, true_and, and_true, false_and, and_false, or_true, true_or, or_false, false_or, Nat.reduceLeDiff, Nat.reduceLT, Nat.reduceEqDiff, Nat.reduceAdd, m_isRow_t h hF hk hf hj.2.1 hj.2.2.2.1 hr, c, c2, s_149 h]
end PV
theorem LH.up {w row v : Nat} {L H : Nat → Nat} (h : LH w L H) (hv : v ≤ 2) : LH w L (up1 H row v) := by
  refine ⟨h.1, h.2.1, fun s hs h8 => ⟨(h.2.2 s hs h8).1, (h.2.2 s hs h8).2.1, fun p hp => ?_⟩⟩
  by_cases e : 8 * s + p = row
  · rw [up1_eq e]; exact hv
  · rw [up1_ne e]; exact (h.2.2 s hs h8).2.2 p hp
theorem i32_le_nat {v : Int32} {n : Nat} (hn : n < 2147483647) (h : ¬ v < 0 ∧ v ≤ Int32.ofNat n) : ∃ k, k ≤ n ∧ v = Int32.ofNat k := by
  obtain ⟨k, h1, h2, -⟩ := i32_nat (p := v) (n := n + 1) (by omega) h.1 (by
    have := Int32.le_iff_toInt_le.mp h.2
    rw [Int32.lt_iff_toInt_lt]
    rw [ari_i (by omega)] at *
    omega)
  exact ⟨k, by omega, h2⟩
/-- promise 3: put -/
theorem o_1 (d : Nat) : ob_1 JJ (d + 2) := by
  intro σ h p q v
  have h' := h
  obtain ⟨a1, a2, a3, ⟨F, hF, f1, f2, f3⟩, a5, a6, a7⟩ := h'
  by_cases hp : ¬ p < 0 ∧ p < Int32.ofNat F
  · obtain ⟨f, hf, rfl, ec⟩ := i32_nat (by omega) hp.1 hp.2
    obtain ⟨w, hj⟩ := f3 f hf
    have hj : JF1' σ f w := hj
    by_cases hq : ¬ q < 0 ∧ q < Int32.ofNat (2 ^ w)
    · obtain ⟨row, hr, rfl, eq_⟩ := i32_nat (by have := pw8 hj.2.1; omega) hq.1 hq.2
      by_cases hv : ¬ v < 0 ∧ v ≤ 2
      · obtain ⟨v, hv2, rfl⟩ := i32_le_nat (n := 2) (by decide) hv
        clear hv
        have hv := hv2
        by_cases hl : lck σ f row = 0
        · obtain ⟨L, H, hLH, hC, hM⟩ := hj.fv
          have hW := pw8 hj.2.1
          have eL := hM.lft hLH.2.1 hLH.le hr
          have hl2 := lck_0.mp hl
          have h8 := hLH.le (row / 8) (by omega) (by omega)
          refine m_put_c a1 hF f1 hf hj hLH.le hC hr hv hl (by omega) (fun τ fr cf => ⟨_, rfl, ?_⟩)
          have hM2 : MF τ f w L H := hM.fr fr hLH.2.1 hLH.le (fun b j q => by omega)
          have hs := (hM2.2 (row / 8) (by omega) (by omega)).1
          rw [m_put_m (fr.js a1) hF (by rw [fr.i (by omega)]; exact f2) hf hLH.2.1 hM2.1 hr hv hs (by omega) h8]
          have e151 : kv_i τ 151 (256 * f + row) = Int32.ofNat (hld σ f row) := by
            have e1 := hM.2 (row / 8) (by omega) (by omega)
            have e2 := e1.2 (row % 8) (by omega)
            rw [show 8 * (row / 8) + row % 8 = row by omega] at e2
            have e3 := (hLH.2.2 (row / 8) (by omega) (by omega)).2.2 (row % 8) (by omega)
            rw [show 8 * (row / 8) + row % 8 = row by omega] at e3
            rw [fr.i (by omega), e2]
            unfold hld
            rw [if_pos hl2, e2, ari_cl (by omega)]
          refine ⟨by rw [e151], ?_⟩
          have fr2 : FR (fun b j => (b = 38 + 4 * f ∨ b = 39 + 4 * f) ∧ j = row / 8 ∨ b = 151 ∧ j = 256 * f + row) σ (kv_si τ 151 (256 * f + row) (Int32.ofNat v)) := (fr.mono (fun b j q => Or.inl q)).si (Or.inr ⟨rfl, rfl⟩)
          refine JJ.fun (f := f) (w := w) fr2 (by omega) (fun b j q => Or.inl (by unfold cFf; omega)) (FV.jf (hLH.up hv) ?_ (hM2.put hLH.2.1 hLH.le hr)) h
          exact cf.fr ((FR.rf (fun b j => b = 151 ∧ j = 256 * f + row) τ).si ⟨rfl, rfl⟩) (fun b j q => by omega)
        · rw [m_put_cl a1 hF f1 hf hj hr hv hl]
          refine ⟨_, rfl, ?_⟩
          rw [m_put_ml a1 hF f2 hf hj hr hv hl]
          exact ⟨rfl, h⟩
      · rw [m_put_cb a1 hF f1 hf hj hr hv]
        refine ⟨_, rfl, ?_⟩
        rw [m_put_mb a1 hF f2 hf hj hr hv]
        exact ⟨rfl, h⟩
    · simp only [c_16, g_16_0, g_16_1, g_16_2, g_16_3, g_16_6, g_16_9, g_16_10, g_16_13, g_16_14, g_16_15, g_16_18, g_16_19, kv_w8_0, kv_w8_1, kv_w8_2, kv_w8_3, kv_w8_4, Nat.not_lt_zero, Bool.false_eq_true, Option.toList_some, Option.toList_none, List.cons_append, List.nil_append, kv_rv, kc1_i, kc1_r, kc1_n, n10, n01, n1514, n1213, n1312, if_true, if_false, not_true_eq_false, not_false_eq_true, and_self, true_and, and_true, false_and, and_false, or_true, true_or, or_false, false_or, Nat.reduceLeDiff, Nat.reduceLT, Nat.reduceEqDiff, Nat.reduceAdd, m_isFR_b a1 hF f1 hf hj.2.1 hj.2.2.1 hq, s_8 a1]
      refine ⟨_, rfl, ?_⟩
      simp only [c_126, g_126_0, g_126_1, g_126_2, g_126_3, g_126_6, g_126_9, g_126_10, g_126_13, g_126_14, g_126_15, g_126_18, g_126_19, kv_w8_0, kv_w8_1, kv_w8_2, kv_w8_3, kv_w8_4, Nat.not_lt_zero, Bool.false_eq_true, Option.toList_some, Option.toList_none, List.cons_append, List.nil_append, kv_rv, kc1_i, kc1_r, kc1_n, n10, n01, n1514, n1213, n1312, if_true, if_false, not_true_eq_false, not_false_eq_true, and_self, true_and, and_true, false_and, and_false, or_true, true_or, or_false, false_or, Nat.reduceLeDiff, Nat.reduceLT, Nat.reduceEqDiff, Nat.reduceAdd, m_isRow_b a1 hF f2 hf hj.2.1 hj.2.2.2.1 hq, s_149 a1]
      exact h
  · simp only [c_16, g_16_0, g_16_1, g_16_2, g_16_3, g_16_6, g_16_9, g_16_10, g_16_13, g_16_14, g_16_15, g_16_18, g_16_19, kv_w8_0, kv_w8_1, kv_w8_2, kv_w8_3, kv_w8_4, Nat.not_lt_zero, Bool.false_eq_true, Option.toList_some, Option.toList_none, List.cons_append, List.nil_append, kv_rv, kc1_i, kc1_r, kc1_n, n10, n01, n1514, n1213, n1312, if_true, if_false, not_true_eq_false, not_false_eq_true, and_self, true_and, and_true, false_and, and_false, or_true, true_or, or_false, false_or, Nat.reduceLeDiff, Nat.reduceLT, Nat.reduceEqDiff, Nat.reduceAdd, m_isFR_n a1 f1 hp, s_8 a1]
    refine ⟨_, rfl, ?_⟩
    simp only [c_126, g_126_0, g_126_1, g_126_2, g_126_3, g_126_6, g_126_9, g_126_10, g_126_13, g_126_14, g_126_15, g_126_18, g_126_19, kv_w8_0, kv_w8_1, kv_w8_2, kv_w8_3, kv_w8_4, Nat.not_lt_zero, Bool.false_eq_true, Option.toList_some, Option.toList_none, List.cons_append, List.nil_append, kv_rv, kc1_i, kc1_r, kc1_n, n10, n01, n1514, n1213, n1312, if_true, if_false, not_true_eq_false, not_false_eq_true, and_self, true_and, and_true, false_and, and_false, or_true, true_or, or_false, false_or, Nat.reduceLeDiff, Nat.reduceLT, Nat.reduceEqDiff, Nat.reduceAdd, m_isRow_n a1 f2 hp, s_149 a1]
    exact h

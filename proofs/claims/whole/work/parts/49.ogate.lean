/-! ===== gate, the promise ===== -/
section GB
variable {d : Nat} {σ : kv_S} {Φ : Option Value → kv_S → Prop}
theorem m_gate_cn (h : JS σ) {K : Nat} (hk : kv_i σ 8 10 = Int32.ofNat K) {p t x y : Int32} (hp : ¬ (¬ p < 0 ∧ p < Int32.ofNat K)) : Wc (d + 2) 78 [.ref 8, .int p, .int t, .int x, .int y] σ Φ = Φ (some (.int (-1))) σ := by
  simp only [c_78, g_78_0, g_78_1, g_78_2, g_78_3, g_78_6, g_78_9, g_78_10, g_78_11, g_78_13, g_78_16, g_78_19, g_78_20, g_78_23, g_78_24, g_78_26, g_78_29, g_78_30, kv_w8_0, kv_w8_1, kv_w8_2, kv_w8_3, kv_w8_4, Nat.not_lt_zero, Bool.false_eq_true, Option.toList_some, Option.toList_none, List.cons_append, List.nil_append, kv_rv, kc1_i, kc1_r, kc1_n, n10, n01, n1514, n1213, n1312, if_true, if_false, not_true_eq_false, not_false_eq_true, and_self, true_and, and_true, false_and, and_false, or_true, true_or, or_false, false_or, Nat.reduceLeDiff, Nat.reduceLT, Nat.reduceEqDiff, Nat.reduceAdd, m_isOp_cn h hk hp, s_8 h]
theorem m_gate_mn (h : JS σ) {K : Nat} (hk : kv_i σ 149 26 = Int32.ofNat K) {p t x y : Int32} (hp : ¬ (¬ p < 0 ∧ p < Int32.ofNat K)) : Wc (d + 2) 155 [.ref 149, .int p, .int t, .int x, .int y] σ Φ = Φ (some (.int (-1))) σ := by
  simp only [c_155, g_155_0, g_155_1, g_155_2, g_155_5, g_155_8, g_155_9, g_155_12, g_155_13, g_155_15, g_155_18, g_155_19, g_155_20, g_155_21, g_155_24, g_155_27, g_155_28, g_155_29, g_155_31, g_155_34, g_155_37, g_155_38, kv_w8_0, kv_w8_1, kv_w8_2, kv_w8_3, kv_w8_4, Nat.not_lt_zero, Bool.false_eq_true, Option.toList_some, Option.toList_none, List.cons_append, List.nil_append, kv_rv, kc1_i, kc1_r, kc1_n, n10, n01, n1514, n1213, n1312, if_true, if_false, not_true_eq_false, not_false_eq_true, and_self, true_and, and_true, false_and, and_false, or_true, true_or, or_false, false_or, Nat.reduceLeDiff, Nat.reduceLT, Nat.reduceEqDiff, Nat.reduceAdd, m_isNet_m h, hk, hp, s_149 h]
theorem m_gate_cb (h : JS σ) {K k w G : Nat} (hK : K ≤ 8) (hk : kv_i σ 8 10 = Int32.ofNat K) (hkK : k < K) (hw : w ≤ 8) (hG : G ≤ 40) (e5 : kv_i σ (101 + 6 * k) 5 = Int32.ofNat w) (e6 : kv_i σ (101 + 6 * k) 6 = Int32.ofNat G) {t x y : Int32} (hb : ¬ (vO w G x ∧ vO w G y ∧ ¬ t < 0 ∧ t ≤ 15)) : Wc (d + 2) 78 [.ref 8, .int (Int32.ofNat k), .int t, .int x, .int y] σ Φ = Φ (some (.int (-1))) σ := by
  have hk8 : k < 8 := by omega
  have hp := n78 hK hkK
  have hc : (Int32.ofNat k).toNatClampNeg = k := ari_cl (by omega)
  by_cases hx : vO w G x
  · by_cases hy : vO w G y
    · by_cases h1 : t < 0
      · simp only [c_78, g_78_0, g_78_1, g_78_2, g_78_3, g_78_6, g_78_9, g_78_10, g_78_11, g_78_13, g_78_16, g_78_19, g_78_20, g_78_23, g_78_24, g_78_26, g_78_29, g_78_30, kv_w8_0, kv_w8_1, kv_w8_2, kv_w8_3, kv_w8_4, Nat.not_lt_zero, Bool.false_eq_true, Option.toList_some, Option.toList_none, List.cons_append, List.nil_append, kv_rv, kc1_i, kc1_r, kc1_n, n10, n01, n1514, n1213, n1312, if_true, if_false, not_true_eq_false, not_false_eq_true, and_self, true_and, and_true, false_and, and_false, or_true, true_or, or_false, false_or, Nat.reduceLeDiff, Nat.reduceLT, Nat.reduceEqDiff, Nat.reduceAdd, m_isOp_ct h hK hk hp hc hk8 hw hG e5 e6, hx, hy, h1, s_8 h]
      · have h2 : ¬ t ≤ 15 := fun q => hb ⟨hx, hy, h1, q⟩
        simp only [c_78, g_78_0, g_78_1, g_78_2, g_78_3, g_78_6, g_78_9, g_78_10, g_78_11, g_78_13, g_78_16, g_78_19, g_78_20, g_78_23, g_78_24, g_78_26, g_78_29, g_78_30, kv_w8_0, kv_w8_1, kv_w8_2, kv_w8_3, kv_w8_4, Nat.not_lt_zero, Bool.false_eq_true, Option.toList_some, Option.toList_none, List.cons_append, List.nil_append, kv_rv, kc1_i, kc1_r, kc1_n, n10, n01, n1514, n1213, n1312, if_true, if_false, not_true_eq_false, not_false_eq_true, and_self, true_and, and_true, false_and, and_false, or_true, true_or, or_false, false_or, Nat.reduceLeDiff, Nat.reduceLT, Nat.reduceEqDiff, Nat.reduceAdd, m_isOp_ct h hK hk hp hc hk8 hw hG e5 e6, hx, hy, h1, h2, s_8 h]
    · simp only [c_78, g_78_0, g_78_1, g_78_2, g_78_3, g_78_6, g_78_9, g_78_10, g_78_11, g_78_13, g_78_16, g_78_19, g_78_20, g_78_23, g_78_24, g_78_26, g_78_29, g_78_30, kv_w8_0, kv_w8_1, kv_w8_2, kv_w8_3, kv_w8_4, Nat.not_lt_zero, Bool.false_eq_true, Option.toList_some, Option.toList_none, List.cons_append, List.nil_append, kv_rv, kc1_i, kc1_r, kc1_n, n10, n01, n1514, n1213, n1312, if_true, if_false, not_true_eq_false, not_false_eq_true, and_self, true_and, and_true, false_and, and_false, or_true, true_or, or_false, false_or, Nat.reduceLeDiff, Nat.reduceLT, Nat.reduceEqDiff, Nat.reduceAdd, m_isOp_ct h hK hk hp hc hk8 hw hG e5 e6 x hx, m_isOp_cf h hK hk hp hc hk8 hw hG e5 e6 y hy, s_8 h]
  · simp only [c_78, g_78_0, g_78_1, g_78_2, g_78_3, g_78_6, g_78_9, g_78_10, g_78_11, g_78_13, g_78_16, g_78_19, g_78_20, g_78_23, g_78_24, g_78_26, g_78_29, g_78_30, kv_w8_0, kv_w8_1, kv_w8_2, kv_w8_3, kv_w8_4, Nat.not_lt_zero, Bool.false_eq_true, Option.toList_some, Option.toList_none, List.cons_append, List.nil_append, kv_rv, kc1_i, kc1_r, kc1_n, n10, n01, n1514, n1213, n1312, if_true, if_false, not_true_eq_false, not_false_eq_true, and_self, true_and, and_true, false_and, and_false, or_true, true_or, or_false, false_or, Nat.reduceLeDiff, Nat.reduceLT, Nat.reduceEqDiff, Nat.reduceAdd, m_isOp_cf h hK hk hp hc hk8 hw hG e5 e6 x hx, s_8 h]
theorem m_gate_mb (h : JS σ) {K k w G : Nat} (hK : K ≤ 8) (hk : kv_i σ 149 26 = Int32.ofNat K) (hkK : k < K) (hw : w ≤ 8) (hG : G ≤ 40) (e5 : kv_i σ 168 k = Int32.ofNat w) (e6 : kv_i σ 169 k = Int32.ofNat G) {t x y : Int32} (hb : ¬ (vO w G x ∧ vO w G y ∧ ¬ t < 0 ∧ t ≤ 15)) : Wc (d + 2) 155 [.ref 149, .int (Int32.ofNat k), .int t, .int x, .int y] σ Φ = Φ (some (.int (-1))) σ := by
  have hk8 : k < 8 := by omega
  have hp := n78 hK hkK
  have hc : (Int32.ofNat k).toNatClampNeg = k := ari_cl (by omega)
  by_cases h1 : t < 0
  · simp only [c_155, g_155_0, g_155_1, g_155_2, g_155_5, g_155_8, g_155_9, g_155_12, g_155_13, g_155_15, g_155_18, g_155_19, g_155_20, g_155_21, g_155_24, g_155_27, g_155_28, g_155_29, g_155_31, g_155_34, g_155_37, g_155_38, kv_w8_0, kv_w8_1, kv_w8_2, kv_w8_3, kv_w8_4, Nat.not_lt_zero, Bool.false_eq_true, Option.toList_some, Option.toList_none, List.cons_append, List.nil_append, kv_rv, kc1_i, kc1_r, kc1_n, n10, n01, n1514, n1213, n1312, if_true, if_false, not_true_eq_false, not_false_eq_true, and_self, true_and, and_true, false_and, and_false, or_true, true_or, or_false, false_or, Nat.reduceLeDiff, Nat.reduceLT, Nat.reduceEqDiff, Nat.reduceAdd, m_isNet_m h, hk, hp, h1, s_149 h]
  · by_cases h2 : t ≤ 15
    · have h3 : ¬ (15 : Int32) < t := by rw [Int32.not_lt]; exact h2
      by_cases hx : vO w G x
      · have hy : ¬ vO w G y := fun q => hb ⟨hx, q, h1, h2⟩
        simp only [c_155, g_155_0, g_155_1, g_155_2, g_155_5, g_155_8, g_155_9, g_155_12, g_155_13, g_155_15, g_155_18, g_155_19, g_155_20, g_155_21, g_155_24, g_155_27, g_155_28, g_155_29, g_155_31, g_155_34, g_155_37, g_155_38, kv_w8_0, kv_w8_1, kv_w8_2, kv_w8_3, kv_w8_4, Nat.not_lt_zero, Bool.false_eq_true, Option.toList_some, Option.toList_none, List.cons_append, List.nil_append, kv_rv, kc1_i, kc1_r, kc1_n, n10, n01, n1514, n1213, n1312, if_true, if_false, not_true_eq_false, not_false_eq_true, and_self, true_and, and_true, false_and, and_false, or_true, true_or, or_false, false_or, Nat.reduceLeDiff, Nat.reduceLT, Nat.reduceEqDiff, Nat.reduceAdd, m_isNet_m h, hk, hp, h1, h3, m_isOp_mt h hp.1 hc hk8 hw hG e5 e6 x hx, m_isOp_mf h hp.1 hc hk8 hw hG e5 e6 y hy, s_149 h]
      · simp only [c_155, g_155_0, g_155_1, g_155_2, g_155_5, g_155_8, g_155_9, g_155_12, g_155_13, g_155_15, g_155_18, g_155_19, g_155_20, g_155_21, g_155_24, g_155_27, g_155_28, g_155_29, g_155_31, g_155_34, g_155_37, g_155_38, kv_w8_0, kv_w8_1, kv_w8_2, kv_w8_3, kv_w8_4, Nat.not_lt_zero, Bool.false_eq_true, Option.toList_some, Option.toList_none, List.cons_append, List.nil_append, kv_rv, kc1_i, kc1_r, kc1_n, n10, n01, n1514, n1213, n1312, if_true, if_false, not_true_eq_false, not_false_eq_true, and_self, true_and, and_true, false_and, and_false, or_true, true_or, or_false, false_or, Nat.reduceLeDiff, Nat.reduceLT, Nat.reduceEqDiff, Nat.reduceAdd, m_isNet_m h, hk, hp, h1, h3, m_isOp_mf h hp.1 hc hk8 hw hG e5 e6 x hx, s_149 h]
    · have h3 : (15 : Int32) < t := by rw [Int32.not_le] at h2; exact h2
      simp only [c_155, g_155_0, g_155_1, g_155_2, g_155_5, g_155_8, g_155_9, g_155_12, g_155_13, g_155_15, g_155_18, g_155_19, g_155_20, g_155_21, g_155_24, g_155_27, g_155_28, g_155_29, g_155_31, g_155_34, g_155_37, g_155_38, kv_w8_0, kv_w8_1, kv_w8_2, kv_w8_3, kv_w8_4, Nat.not_lt_zero, Bool.false_eq_true, Option.toList_some, Option.toList_none, List.cons_append, List.nil_append, kv_rv, kc1_i, kc1_r, kc1_n, n10, n01, n1514, n1213, n1312, if_true, if_false, not_true_eq_false, not_false_eq_true, and_self, true_and, and_true, false_and, and_false, or_true, true_or, or_false, false_or, Nat.reduceLeDiff, Nat.reduceLT, Nat.reduceEqDiff, Nat.reduceAdd, m_isNet_m h, hk, hp, h1, h3, s_149 h]
theorem m_gate_cf (h : JS σ) {K k w : Nat} (hK : K ≤ 8) (hk : kv_i σ 8 10 = Int32.ofNat K) (hkK : k < K) (hw : w ≤ 8) (e5 : kv_i σ (101 + 6 * k) 5 = Int32.ofNat w) (e6 : kv_i σ (101 + 6 * k) 6 = Int32.ofNat 40) {t x y : Int32} (hb : vO w 40 x ∧ vO w 40 y ∧ ¬ t < 0 ∧ t ≤ 15) : Wc (d + 2) 78 [.ref 8, .int (Int32.ofNat k), .int t, .int x, .int y] σ Φ = Φ (some (.int (-3))) σ := by
  have hk8 : k < 8 := by omega
  have hp := n78 hK hkK
  have hc : (Int32.ofNat k).toNatClampNeg = k := ari_cl (by omega)
  simp only [c_78, g_78_0, g_78_1, g_78_2, g_78_3, g_78_6, g_78_9, g_78_10, g_78_11, g_78_13, g_78_16, g_78_19, g_78_20, g_78_23, g_78_24, g_78_26, g_78_29, g_78_30, g_78_31, g_78_32, g_78_35, g_78_36, g_78_37, g_78_40, g_78_42, g_78_45, g_78_47, kv_w8_0, kv_w8_1, kv_w8_2, kv_w8_3, kv_w8_4, Nat.not_lt_zero, Bool.false_eq_true, Option.toList_some, Option.toList_none, List.cons_append, List.nil_append, kv_rv, kc1_i, kc1_r, kc1_n, n10, n01, n1514, n1213, n1312, if_true, if_false, not_true_eq_false, not_false_eq_true, and_self, true_and, and_true, false_and, and_false, or_true, true_or, or_false, false_or, Nat.reduceLeDiff, Nat.reduceLT, Nat.reduceEqDiff, Nat.reduceAdd, ari_aa, ari_al, ari_la, ari_mm, ari_ml, ari_lm, ari_ltl, ari_llt, ari_lt, ari_le, ari_lel, ari_lle, ari_0, ari_eq, ari_eql, ari_leq, ari_cl, m_isOp_ct h hK hk hp hc hk8 hw (Nat.le_refl 40) e5 e6, hb, e6, nN h hk8, qN h hk8, s_8 h, s_10 h, r_8_1 h, (show k < 8 by omega), (show k < 2147483648 by omega), Nat.lt_irrefl]
theorem m_gate_mf (h : JS σ) {K k w : Nat} (hK : K ≤ 8) (hk : kv_i σ 149 26 = Int32.ofNat K) (hkK : k < K) (hw : w ≤ 8) (e5 : kv_i σ 168 k = Int32.ofNat w) (e6 : kv_i σ 169 k = Int32.ofNat 40) {t x y : Int32} (hb : vO w 40 x ∧ vO w 40 y ∧ ¬ t < 0 ∧ t ≤ 15) : Wc (d + 2) 155 [.ref 149, .int (Int32.ofNat k), .int t, .int x, .int y] σ Φ = Φ (some (.int (-3))) σ := by
  have hk8 : k < 8 := by omega
  have hp := n78 hK hkK
  have hc : (Int32.ofNat k).toNatClampNeg = k := ari_cl (by omega)
  have h3 : ¬ (15 : Int32) < t := by rw [Int32.not_lt]; exact hb.2.2.2
  simp only [c_155, g_155_0, g_155_1, g_155_2, g_155_5, g_155_8, g_155_9, g_155_12, g_155_13, g_155_15, g_155_18, g_155_19, g_155_20, g_155_21, g_155_24, g_155_27, g_155_28, g_155_29, g_155_31, g_155_34, g_155_37, g_155_38, g_155_39, g_155_40, g_155_43, g_155_44, g_155_45, g_155_47, g_155_50, g_155_52, kv_w8_0, kv_w8_1, kv_w8_2, kv_w8_3, kv_w8_4, Nat.not_lt_zero, Bool.false_eq_true, Option.toList_some, Option.toList_none, List.cons_append, List.nil_append, kv_rv, kc1_i, kc1_r, kc1_n, n10, n01, n1514, n1213, n1312, if_true, if_false, not_true_eq_false, not_false_eq_true, and_self, true_and, and_true, false_and, and_false, or_true, true_or, or_false, false_or, Nat.reduceLeDiff, Nat.reduceLT, Nat.reduceEqDiff, Nat.reduceAdd, ari_aa, ari_al, ari_la, ari_mm, ari_ml, ari_lm, ari_ltl, ari_llt, ari_lt, ari_le, ari_lel, ari_lle, ari_0, ari_eq, ari_eql, ari_leq, ari_cl, m_isNet_m h, hk, hp, hb, h3, m_isOp_mt h hp.1 hc hk8 hw (Nat.le_refl 40) e5 e6, e6, s_149 h, s_169 h, r_149_28 h, (show k < 8 by omega), (show k < 2147483648 by omega), (show k < K by omega), (show k < 2147483648 by omega)]
end GB
/-- the cells that gate writes -/
def cGate (k G : Nat) (b j : Nat) : Prop := 102 + 6 * k ≤ b ∧ b ≤ 105 + 6 * k ∧ j = G ∨ b = 101 + 6 * k ∧ j = 6 ∨ 170 ≤ b ∧ b ≤ 173 ∧ j = 40 * k + G ∨ b = 169 ∧ j = k ∨ b = 32 ∧ j = 5 ∨ b = 149 ∧ j = 34
/-- one more gate on both sides -/
theorem JJ.gate {σ τ : kv_S} {k w G t : Nat} {x y : Int32} (hk : k < 8) (hG : G < 40) (hw : w ≤ 8) (ht : t < 16) (hx : vO w G x) (hy : vO w G y) (e5 : kv_i σ (101 + 6 * k) 5 = Int32.ofNat w) (e6 : kv_i σ (101 + 6 * k) 6 = Int32.ofNat G) (h : FR (cGate k G) σ τ)
    (t0 : kv_i τ (102 + 6 * k) G = Int32.ofNat t) (t1 : kv_i τ (103 + 6 * k) G = x) (t2 : kv_i τ (104 + 6 * k) G = y) (t3 : kv_i τ (105 + 6 * k) G = 0) (t4 : kv_i τ (101 + 6 * k) 6 = Int32.ofNat (G + 1))
    (u0 : kv_i τ 170 (40 * k + G) = Int32.ofNat t) (u1 : kv_i τ 171 (40 * k + G) = x) (u2 : kv_i τ 172 (40 * k + G) = y) (u3 : kv_i τ 173 (40 * k + G) = 0) (u4 : kv_i τ 169 k = Int32.ofNat (G + 1))
    (v0 : kv_i τ 32 5 = if kv_i σ 32 5 = Int32.ofNat k then -1 else kv_i σ 32 5) (v1 : kv_i τ 149 34 = kv_i τ 32 5) (H : JJ σ) : JJ τ := by
  obtain ⟨a1, a2, a3, a4, ⟨K, hK, k1, k2, k3⟩, a6, ⟨⟨S, b1, b2, b3, b4⟩, b5, b6⟩⟩ := H
  have cg : ∀ b j, ¬ cGate k G b j → kv_i τ b j = kv_i σ b j := fun b j hb => h.i hb
  unfold cGate at cg
  refine ⟨h.js a1, a2.fr h (by unfold cGate; omega), a3.fr h (by unfold cGate; omega), a4.fr h (by unfold cGate cF; omega), ⟨K, hK, by rw [cg _ _ (by omega)]; exact k1, by rw [cg _ _ (by omega)]; exact k2, fun n hn => ?_⟩, a6.fr h (by unfold cGate cC; omega), ⟨⟨S, b1, by rw [cg _ _ (by omega)]; exact b2, by rw [cg _ _ (by omega)]; exact b3, fun i hi => JH2.cong (fun b j hb => cg _ _ (by omega)) (b4 i hi)⟩, v1, ?_⟩⟩
  · obtain ⟨w', G', w1, w2, w3, w4, w5, w6, w7, w8, w9⟩ := k3 n hn
    by_cases e : n = k
    · subst e
      have ew : w' = w := by rw [e5, i32_inj (by omega) (by omega)] at w4; exact w4.symm
      have eG : G' = G := by rw [e6, i32_inj (by omega) (by omega)] at w6; exact w6.symm
      subst ew eG
      refine ⟨w', G' + 1, w1, w2, by omega, by rw [cg _ _ (by omega)]; exact w4, by rw [cg _ _ (by omega)]; exact w5, t4, u4, fun g hg => ?_, fun i hi => ?_⟩
      · by_cases eg : g = G'
        · subst eg
          exact ⟨⟨t, ht, t0, u0⟩, by rw [u1, t1], by rw [t1]; exact hx, by rw [u2, t2], by rw [t2]; exact hy, by rw [u3, t3], Or.inl t3⟩
        · have := w8 g (by omega)
          unfold JN2 at *
          rw [cg _ _ (by omega), cg 170 _ (by omega), cg 171 _ (by omega), cg (103 + 6 * n) _ (by omega), cg 172 _ (by omega), cg (104 + 6 * n) _ (by omega), cg 173 _ (by omega), cg (105 + 6 * n) _ (by omega)]
          exact this
      · rw [cg 174 _ (by omega), cg (106 + 6 * n) _ (by omega)]
        exact ⟨(w9 i hi).1, (w9 i hi).2.imp id (vO.mono (by omega))⟩
    · exact (k3 n hn).fine (fun b j q1 q2 => cg _ _ (by omega)) (cg _ _ (by omega)) (cg _ _ (by omega)) (fun b g q1 q2 q3 => cg _ _ (by omega)) (fun i hi => cg _ _ (by omega))
  · rw [v0, cg 8 10 (by omega)]
    by_cases c : kv_i σ 32 5 = Int32.ofNat k
    · rw [if_pos c]; exact Or.inl rfl
    · rw [if_neg c]
      rcases b6 with b6 | ⟨k', K', q1, q2, q3, q4, q5⟩
      · exact Or.inl b6
      · have hne : k' ≠ k := fun e => c (by rw [q4, e])
        exact Or.inr ⟨k', K', q1, q2, q3, q4, q5.cong (fun b j hb => cg _ _ (by omega)) (cg _ _ (by omega)) (cg _ _ (by omega))⟩
/-- promise 17: gate -/
theorem o_15 (d : Nat) : ob_15 JJ (d + 2) := by
  intro σ h p t x y
  have h' := h
  obtain ⟨a1, a2, a3, a4, ⟨K, hK, k1, k2, k3⟩, a6, a7⟩ := h'
  by_cases hp : ¬ p < 0 ∧ p < Int32.ofNat K
  · obtain ⟨k, hk, rfl, ec⟩ := i32_nat (by omega) hp.1 hp.2
    obtain ⟨w, G, w1, w2, w3, w4, w5, w6, w7, w8, w9⟩ := k3 k hk
    by_cases hb : vO w G x ∧ vO w G y ∧ ¬ t < 0 ∧ t ≤ 15
    · by_cases hG : G = 40
      · subst hG
        rw [m_gate_cf a1 hK k1 hk w2 w4 w6 hb]
        refine ⟨_, rfl, ?_⟩
        rw [m_gate_mf a1 hK k2 hk w2 w5 w7 hb]
        exact ⟨rfl, h⟩
      · obtain ⟨hx, hy, ht0, ht1⟩ := hb
        obtain ⟨t, ht, rfl, -⟩ := i32_nat (n := 16) (by decide) ht0 (by rw [Int32.lt_iff_toInt_lt]; rw [Int32.le_iff_toInt_le] at ht1; rw [show (15 : Int32).toInt = 15 by decide] at ht1; rw [show (Int32.ofNat 16).toInt = 16 by decide]; omega)
        rw [m_gate_c a1 hK k1 hk w2 (by omega) w4 w6 hx hy ht]
        refine ⟨_, rfl, ?_⟩
        obtain ⟨τ, hτ⟩ : ∃ τ, τ = (if kv_i σ 32 5 = Int32.ofNat k then kv_si σ 32 5 (-1) else σ) := ⟨_, rfl⟩
        rw [← hτ]
        have f0 : FR (cGate k G) σ τ := by
          rw [hτ]
          by_cases c : kv_i σ 32 5 = Int32.ofNat k
          · rw [if_pos c]; exact (FR.rf _ σ).si (by unfold cGate; omega)
          · rw [if_neg c]; exact FR.rf _ σ
        have f1 : kv_i τ 32 5 = if kv_i σ 32 5 = Int32.ofNat k then -1 else kv_i σ 32 5 := by
          rw [hτ]
          by_cases c : kv_i σ 32 5 = Int32.ofNat k
          · rw [if_pos c, if_pos c, eq_ess ⟨rfl, rfl⟩]
          · rw [if_neg c, if_neg c]
        have f2 : ∀ b j, ¬ (b = 32 ∧ j = 5) → kv_i τ b j = kv_i σ b j := by
          intro b j hb
          rw [hτ]
          by_cases c : kv_i σ 32 5 = Int32.ofNat k
          · rw [if_pos c, ne_ess hb]
          · rw [if_neg c]
        obtain ⟨υ, hυ⟩ : ∃ υ, υ = kv_si (kv_si (kv_si (kv_si (kv_si τ (102 + 6 * k) G (Int32.ofNat t)) (103 + 6 * k) G x) (104 + 6 * k) G y) (105 + 6 * k) G 0) (101 + 6 * k) 6 (Int32.ofNat (G + 1)) := ⟨_, rfl⟩
        rw [← hυ]
        have f3 : FR (cGate k G) σ υ := by
          rw [hυ]
          exact ((((f0.si (by unfold cGate; omega)).si (by unfold cGate; omega)).si (by unfold cGate; omega)).si (by unfold cGate; omega)).si (by unfold cGate; omega)
        have r1 : ∀ b j, ¬ (102 + 6 * k ≤ b ∧ b ≤ 105 + 6 * k ∧ j = G) → ¬ (b = 101 + 6 * k ∧ j = 6) → kv_i υ b j = kv_i τ b j := fun b j q1 q2 => by rw [hυ, ne_ess (by omega), ne_ess (by omega), ne_ess (by omega), ne_ess (by omega), ne_ess (by omega)]
        have g34 : kv_i υ 149 34 = kv_i σ 32 5 := by rw [r1 _ _ (by omega) (by omega), f2 _ _ (by omega)]; exact a7.2.1
        rw [m_gate_m (f3.js a1) hK (by rw [r1 _ _ (by omega) (by omega), f2 _ _ (by omega)]; exact k2) hk w2 (by omega) (by rw [r1 _ _ (by omega) (by omega), f2 _ _ (by omega)]; exact w5) (by rw [r1 _ _ (by omega) (by omega), f2 _ _ (by omega)]; exact w7) hx hy ht, g34]
        refine ⟨rfl, ?_⟩
        obtain ⟨ζ, hζ⟩ : ∃ ζ, ζ = kv_si (kv_si (kv_si (kv_si (kv_si υ 170 (40 * k + G) (Int32.ofNat t)) 171 (40 * k + G) x) 172 (40 * k + G) y) 173 (40 * k + G) 0) 169 k (Int32.ofNat (G + 1)) := ⟨_, rfl⟩
        rw [← hζ]
        have f4 : FR (cGate k G) σ ζ := by
          rw [hζ]
          exact ((((f3.si (by unfold cGate; omega)).si (by unfold cGate; omega)).si (by unfold cGate; omega)).si (by unfold cGate; omega)).si (by unfold cGate; omega)
        have r2 : ∀ b j, b < 169 → kv_i ζ b j = kv_i υ b j := fun b j q1 => by rw [hζ, ne_ess (by omega), ne_ess (by omega), ne_ess (by omega), ne_ess (by omega), ne_ess (by omega)]
        obtain ⟨ω, hω⟩ : ∃ ω, ω = (if kv_i σ 32 5 = Int32.ofNat k then kv_si ζ 149 34 (-1) else ζ) := ⟨_, rfl⟩
        rw [← hω]
        have f5 : FR (cGate k G) σ ω := by
          rw [hω]
          by_cases c : kv_i σ 32 5 = Int32.ofNat k
          · rw [if_pos c]; exact f4.si (by unfold cGate; omega)
          · rw [if_neg c]; exact f4
        have r3 : ∀ b j, ¬ (b = 149 ∧ j = 34) → kv_i ω b j = kv_i ζ b j := by
          intro b j hb
          rw [hω]
          by_cases c : kv_i σ 32 5 = Int32.ofNat k
          · rw [if_pos c, ne_ess hb]
          · rw [if_neg c]
        have e32 : kv_i ω 32 5 = if kv_i σ 32 5 = Int32.ofNat k then -1 else kv_i σ 32 5 := by rw [r3 _ _ (by omega), r2 _ _ (by omega), r1 _ _ (by omega) (by omega)]; exact f1
        refine JJ.gate (by omega) (by omega) w2 ht hx hy w4 w6 f5 ?_ ?_ ?_ ?_ ?_ ?_ ?_ ?_ ?_ ?_ e32 ?_ h
        · rw [r3 _ _ (by omega), r2 _ _ (by omega), hυ]; simp (disch := omega) only [ne_ess, eq_ess]
        · rw [r3 _ _ (by omega), r2 _ _ (by omega), hυ]; simp (disch := omega) only [ne_ess, eq_ess]
        · rw [r3 _ _ (by omega), r2 _ _ (by omega), hυ]; simp (disch := omega) only [ne_ess, eq_ess]
        · rw [r3 _ _ (by omega), r2 _ _ (by omega), hυ]; simp (disch := omega) only [ne_ess, eq_ess]
        · rw [r3 _ _ (by omega), r2 _ _ (by omega), hυ]; simp (disch := omega) only [ne_ess, eq_ess]
        · rw [r3 _ _ (by omega), hζ]; simp (disch := omega) only [ne_ess, eq_ess]
        · rw [r3 _ _ (by omega), hζ]; simp (disch := omega) only [ne_ess, eq_ess]
        · rw [r3 _ _ (by omega), hζ]; simp (disch := omega) only [ne_ess, eq_ess]
        · rw [r3 _ _ (by omega), hζ]; simp (disch := omega) only [ne_ess, eq_ess]
        · rw [r3 _ _ (by omega), hζ]; simp (disch := omega) only [ne_ess, eq_ess]
        · rw [e32, hω]
          by_cases c : kv_i σ 32 5 = Int32.ofNat k
          · rw [if_pos c, if_pos c, eq_ess ⟨rfl, rfl⟩]
          · rw [if_neg c, if_neg c, r2 _ _ (by omega)]; exact g34
    · rw [m_gate_cb a1 hK k1 hk w2 w3 w4 w6 hb]
      refine ⟨_, rfl, ?_⟩
      rw [m_gate_mb a1 hK k2 hk w2 w3 w5 w7 hb]
      exact ⟨rfl, h⟩
  · rw [m_gate_cn a1 k1 hp]
    refine ⟨_, rfl, ?_⟩
    rw [m_gate_mn a1 k2 hp]
    exact ⟨rfl, h⟩

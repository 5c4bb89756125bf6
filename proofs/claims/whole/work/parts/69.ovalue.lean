/-! ===== value ===== -/
theorem lshr_bit (z : Int64) {r : Nat} (hr : r < 64) : (kv_lshr z (Int32.ofNat r)).toInt32 &&& 1 = bI (lb z r) := by
  obtain ⟨e, hb⟩ := lb_nat z
  have : kv_lshr z (Int32.ofNat r) = Int64.ofNat (z.toBitVec.toNat / 2 ^ r) := by conv => lhs; rw [e]
                                                                                  exact shr_l hb hr
  rw [this, l2i_n, ari_1, nat_bit, bI_n]
  rfl
theorem JN1'.fr {P : Nat → Nat → Prop} {σ τ : kv_S} (h : FR P σ τ) {k w G : Nat} (hk : k < 8) (hp : ∀ b j, P b j → ¬ cN b j) (hn : JN1' σ k w G) : JN1' τ k w G := by
  have c : ∀ b j, cN b j → kv_i τ b j = kv_i σ b j := fun b j q => h.i (fun q2 => hp b j q2 q)
  unfold cN at c
  unfold JN1' JN2 at *
  rw [c (101 + 6 * k) 5 (by omega), c (101 + 6 * k) 6 (by omega), c 168 k (by omega), c 169 k (by omega)]
  obtain ⟨w1, w2, w3, w4, w5, w6, w7, w8, w9⟩ := hn
  refine ⟨w1, w2, w3, w4, w5, w6, w7, fun g hg => ?_, fun i hi => ?_⟩
  · rw [c (102 + 6 * k) g (by omega), c 170 _ (by omega), c 171 _ (by omega), c (103 + 6 * k) g (by omega), c 172 _ (by omega), c (104 + 6 * k) g (by omega), c 173 _ (by omega), c (105 + 6 * k) g (by omega)]
    exact w8 g hg
  · rw [c 174 _ (by omega), c (106 + 6 * k) i (by omega)]; exact w9 i hi
theorem vl_fr {P : Nat → Nat → Prop} {σ τ : kv_S} (h : FR P σ τ) {k : Nat} (hk : k < 8) (hp : ∀ b j, P b j → ¬ cN b j) (G t row : Nat) : vl τ k G t row = vl σ k G t row := by
  have c : ∀ b j, cN b j → kv_i τ b j = kv_i σ b j := fun b j q => h.i (fun q2 => hp b j q2 q)
  unfold cN at c
  unfold vl
  rw [show tbN τ k = tbN σ k by funext g; unfold tbN; rw [c _ _ (by omega)], show kv_i τ (103 + 6 * k) = kv_i σ (103 + 6 * k) by funext g; exact c _ _ (by omega), show kv_i τ (104 + 6 * k) = kv_i σ (104 + 6 * k) by funext g; exact c _ _ (by omega)]
theorem vo_fr {P : Nat → Nat → Prop} {σ τ : kv_S} (h : FR P σ τ) {k : Nat} (hk : k < 8) (hp : ∀ b j, P b j → ¬ cN b j) (G t row : Nat) (x : Int32) : vo τ k G t row x = vo σ k G t row x := by unfold vo; rw [vl_fr h hk hp]
theorem sc_cN (b j : Nat) (h : SC b j) : ¬ cN b j := by unfold SC kv_ess at h; unfold cN; omega
theorem nw_row : ∀ w, w ≤ 8 → ∀ row, row < 2 ^ w → row / 64 < nwc w := by decide +kernel
/-- promise 22: value -/
theorem o_20 (d : Nat) : ob_20 JJ (d + 2) := by
  intro σ h p x q
  have h' := h
  obtain ⟨a1, a2, a3, a4, ⟨K, hK, k1, k2, k3⟩, a6, a7⟩ := h'
  by_cases hp : ¬ p < 0 ∧ p < Int32.ofNat K
  · obtain ⟨k, hk, rfl, ec⟩ := i32_nat (by omega) hp.1 hp.2
    obtain ⟨w, G, hn⟩ := k3 k hk
    have hn : JN1' σ k w G := hn
    have hk8 : k < 8 := by omega
    have hW := pw8 hn.2.1
    by_cases hx : vO w G x
    · by_cases hq : ¬ q < 0 ∧ q < Int32.ofNat (2 ^ w)
      · obtain ⟨row, hr, rfl, eq_⟩ := i32_nat (by omega) hq.1 hq.2
        simp only [c_90, g_90_0, g_90_1, g_90_2, g_90_3, g_90_6, g_90_9, g_90_10, g_90_13, g_90_14, g_90_15, g_90_16, g_90_19, g_90_20, g_90_21, g_90_24, g_90_25, g_90_28, g_90_29, g_90_30, g_90_31, g_90_34, g_90_35, g_90_38, g_90_39, g_90_40, kv_w8_0, kv_w8_1, kv_w8_2, kv_w8_3, kv_w8_4, ari_aa, ari_al, ari_la, ari_mm, ari_ml, ari_lm, ari_ltl, ari_llt, ari_lt, ari_le, ari_lel, ari_lle, ari_0, ari_eq, ari_eql, ari_leq, ari_cl, Nat.not_lt_zero, Bool.false_eq_true, Option.toList_some, Option.toList_none, List.cons_append, List.nil_append, kv_rv, kc1_i, kc1_r, kc1_n, n10, n01, n1514, n1213, n1312, if_true, if_false, not_true_eq_false, not_false_eq_true, and_self, true_and, and_true, false_and, and_false, or_true, true_or, or_false, false_or, Nat.reduceLeDiff, Nat.reduceLT, Nat.reduceEqDiff, Nat.reduceAdd, m_isOp_ct a1 hK k1 hp ec hk8 hn.2.1 hn.2.2.1 hn.2.2.2.1 hn.2.2.2.2.2.1, hx, hn.2.2.2.1, pow_w w hn.2.1, nN a1 hk8, qN a1 hk8, s_8 a1, s_10 a1, r_8_1 a1, s_26 a1, r_8_5 a1, (show k < 8 by omega), (show k < 2147483648 by omega), (show row < 257 by omega), (show row < 2147483648 by omega), (show row < 2 ^ w by omega), (show row < 2147483648 by omega), (show 2 ^ w < 257 by omega), (show 2 ^ w < 2147483648 by omega)]
        refine m_workOut a1 a2 hk8 (Or.inl rfl) hn (fun τ hw => ?_)
        have js := hw.1.js a1
        have vx := hx.onn hn.2.1 hn.2.2.1
        have hrw := nw_row w hn.2.1 row hr
        have ev := hw.2.2 x hx (row / 64) hrw (row % 64) (by omega)
        rw [show 64 * (row / 64) + row % 64 = row by omega] at ev
        have lt4 : row / 64 < 4 := by have := (nw_4 w hn.2.1).1; omega
        simp only [g_90_43, g_90_44, g_90_47, g_90_48, g_90_49, g_90_51, g_90_52, g_90_55, g_90_56, g_90_58, g_90_59, g_90_60, g_90_61, g_90_62, g_90_63, kv_w8_0, kv_w8_1, kv_w8_2, kv_w8_3, kv_w8_4, ari_aa, ari_al, ari_la, ari_mm, ari_ml, ari_lm, ari_ltl, ari_llt, ari_lt, ari_le, ari_lel, ari_lle, ari_0, ari_eq, ari_eql, ari_leq, ari_cl, Nat.not_lt_zero, Bool.false_eq_true, Option.toList_some, Option.toList_none, List.cons_append, List.nil_append, kv_rv, kc1_i, kc1_r, kc1_n, n10, n01, n1514, n1213, n1312, if_true, if_false, not_true_eq_false, not_false_eq_true, and_self, true_and, and_true, false_and, and_false, or_true, true_or, or_false, false_or, Nat.reduceLeDiff, Nat.reduceLT, Nat.reduceEqDiff, Nat.reduceAdd, ari_l31, ari_sh, Nat.reducePow, ari_63, m_word js (Or.inl rfl) vx.1 vx.2 lt4, lshr_bit _ (show row % 64 < 64 by omega), ev, s_8 js, s_26 js, r_8_5 js, (show row < 257 by omega), (show row < 2147483648 by omega), (show row / 64 < 5 by omega), (show row / 64 < 2147483648 by omega)]
        refine ⟨_, rfl, ?_⟩
        have fsc : FR SC σ τ := hw.1.sc (fun b j q => by unfold SC kv_ess; omega)
        have hn2 : JN1' τ k w G := hn.fr fsc hk8 sc_cN
        have g1 : kv_i τ 149 26 = Int32.ofNat K := by rw [fsc.ess (by unfold kv_ess; omega)]; exact k2
        simp only [c_166, g_166_0, g_166_1, g_166_2, g_166_5, g_166_8, g_166_9, g_166_10, g_166_11, g_166_14, g_166_17, g_166_18, g_166_21, g_166_22, g_166_23, g_166_24, g_166_27, g_166_28, g_166_29, g_166_30, g_166_33, g_166_34, g_166_35, g_166_36, g_166_37, g_166_38, g_166_39, kv_w8_0, kv_w8_1, kv_w8_2, kv_w8_3, kv_w8_4, ari_aa, ari_al, ari_la, ari_mm, ari_ml, ari_lm, ari_ltl, ari_llt, ari_lt, ari_le, ari_lel, ari_lle, ari_0, ari_eq, ari_eql, ari_leq, ari_cl, Nat.not_lt_zero, Bool.false_eq_true, Option.toList_some, Option.toList_none, List.cons_append, List.nil_append, kv_rv, kc1_i, kc1_r, kc1_n, n10, n01, n1514, n1213, n1312, if_true, if_false, not_true_eq_false, not_false_eq_true, and_self, true_and, and_true, false_and, and_false, or_true, true_or, or_false, false_or, Nat.reduceLeDiff, Nat.reduceLT, Nat.reduceEqDiff, Nat.reduceAdd, m_isNet_m js, g1, hp, m_isOp_mt js hp.1 ec hk8 hn.2.1 hn.2.2.1 hn2.2.2.2.2.1 hn2.2.2.2.2.2.2.1, hx, hn2.2.2.2.2.1, pow_w w hn.2.1, s_149 js, s_168 js, r_149_27 js, (show k < 8 by omega), (show k < 2147483648 by omega), (show k < K by omega), (show k < 2147483648 by omega), (show K < 9 by omega), (show K < 2147483648 by omega), (show row < 257 by omega), (show row < 2147483648 by omega), (show row < 2 ^ w by omega), (show row < 2147483648 by omega), (show 2 ^ w < 257 by omega), (show 2 ^ w < 2147483648 by omega)]
        refine m_work js hk8 hn2 (by omega) (tt_none hn.2.2.1) (fun υ fr2 hv => ?_)
        have js2 := fr2.js js
        simp only [g_166_42, g_166_43, g_166_44, g_166_45, g_166_48, kv_w8_0, kv_w8_1, kv_w8_2, kv_w8_3, kv_w8_4, Nat.not_lt_zero, Bool.false_eq_true, Option.toList_some, Option.toList_none, List.cons_append, List.nil_append, kv_rv, kc1_i, kc1_r, kc1_n, n10, n01, n1514, n1213, n1312, if_true, if_false, not_true_eq_false, not_false_eq_true, and_self, true_and, and_true, false_and, and_false, or_true, true_or, or_false, false_or, Nat.reduceLeDiff, Nat.reduceLT, Nat.reduceEqDiff, Nat.reduceAdd, m_valueOf js2 hn.2.1 hn.2.2.1 (show row < 256 by omega) hv hx, s_149 js2]
        refine ⟨?_, JJ.fr (fsc.tr (fr2.sc (fun b j q => by unfold SC kv_ess; omega))) h⟩
        have : nvo (vl τ k G 1000 row) row x = vo σ k G 1000 row x := vo_fr fsc hk8 sc_cN G 1000 row x
        rw [this]
      · by_cases c : q < 0
        · simp only [c_90, g_90_0, g_90_1, g_90_2, g_90_3, g_90_6, g_90_9, g_90_10, g_90_13, g_90_14, g_90_15, g_90_16, g_90_19, g_90_20, g_90_21, g_90_24, g_90_25, g_90_28, g_90_29, kv_w8_0, kv_w8_1, kv_w8_2, kv_w8_3, kv_w8_4, ari_aa, ari_al, ari_la, ari_mm, ari_ml, ari_lm, ari_ltl, ari_llt, ari_lt, ari_le, ari_lel, ari_lle, ari_0, ari_eq, ari_eql, ari_leq, ari_cl, Nat.not_lt_zero, Bool.false_eq_true, Option.toList_some, Option.toList_none, List.cons_append, List.nil_append, kv_rv, kc1_i, kc1_r, kc1_n, n10, n01, n1514, n1213, n1312, if_true, if_false, not_true_eq_false, not_false_eq_true, and_self, true_and, and_true, false_and, and_false, or_true, true_or, or_false, false_or, Nat.reduceLeDiff, Nat.reduceLT, Nat.reduceEqDiff, Nat.reduceAdd, m_isOp_ct a1 hK k1 hp ec hk8 hn.2.1 hn.2.2.1 hn.2.2.2.1 hn.2.2.2.2.2.1, hx, c, s_8 a1]
          refine ⟨_, rfl, ?_⟩
          simp only [c_166, g_166_0, g_166_1, g_166_2, g_166_5, g_166_8, g_166_9, g_166_10, g_166_11, g_166_14, g_166_17, g_166_18, g_166_21, g_166_22, g_166_23, g_166_24, g_166_27, g_166_28, g_166_29, g_166_30, g_166_33, g_166_34, kv_w8_0, kv_w8_1, kv_w8_2, kv_w8_3, kv_w8_4, ari_aa, ari_al, ari_la, ari_mm, ari_ml, ari_lm, ari_ltl, ari_llt, ari_lt, ari_le, ari_lel, ari_lle, ari_0, ari_eq, ari_eql, ari_leq, ari_cl, Nat.not_lt_zero, Bool.false_eq_true, Option.toList_some, Option.toList_none, List.cons_append, List.nil_append, kv_rv, kc1_i, kc1_r, kc1_n, n10, n01, n1514, n1213, n1312, if_true, if_false, not_true_eq_false, not_false_eq_true, and_self, true_and, and_true, false_and, and_false, or_true, true_or, or_false, false_or, Nat.reduceLeDiff, Nat.reduceLT, Nat.reduceEqDiff, Nat.reduceAdd, m_isNet_m a1, k2, m_isOp_mt a1 hp.1 ec hk8 hn.2.1 hn.2.2.1 hn.2.2.2.2.1 hn.2.2.2.2.2.2.1, hx, c, s_149 a1, (show k < 8 by omega), (show k < 2147483648 by omega), (show k < K by omega), (show k < 2147483648 by omega), (show K < 9 by omega), (show K < 2147483648 by omega)]
          exact h
        · have c2 : ¬ q < Int32.ofNat (2 ^ w) := fun q2 => hq ⟨c, q2⟩
          simp only [c_90, g_90_0, g_90_1, g_90_2, g_90_3, g_90_6, g_90_9, g_90_10, g_90_13, g_90_14, g_90_15, g_90_16, g_90_19, g_90_20, g_90_21, g_90_24, g_90_25, g_90_28, g_90_29, kv_w8_0, kv_w8_1, kv_w8_2, kv_w8_3, kv_w8_4, Nat.not_lt_zero, Bool.false_eq_true, Option.toList_some, Option.toList_none, List.cons_append, List.nil_append, kv_rv, kc1_i, kc1_r, kc1_n, n10, n01, n1514, n1213, n1312, if_true, if_false, not_true_eq_false, not_false_eq_true, and_self, true_and, and_true, false_and, and_false, or_true, true_or, or_false, false_or, Nat.reduceLeDiff, Nat.reduceLT, Nat.reduceEqDiff, Nat.reduceAdd, ari_0, ari_cl, m_isOp_ct a1 hK k1 hp ec hk8 hn.2.1 hn.2.2.1 hn.2.2.2.1 hn.2.2.2.2.2.1, hx, c, c2, hn.2.2.2.1, pow_w w hn.2.1, nN a1 hk8, qN a1 hk8, s_8 a1, s_10 a1, r_8_1 a1, (show k < 8 by omega), (show k < 2147483648 by omega)]
          refine ⟨_, rfl, ?_⟩
          simp only [c_166, g_166_0, g_166_1, g_166_2, g_166_5, g_166_8, g_166_9, g_166_10, g_166_11, g_166_14, g_166_17, g_166_18, g_166_21, g_166_22, g_166_23, g_166_24, g_166_27, g_166_28, g_166_29, g_166_30, g_166_33, g_166_34, kv_w8_0, kv_w8_1, kv_w8_2, kv_w8_3, kv_w8_4, Nat.not_lt_zero, Bool.false_eq_true, Option.toList_some, Option.toList_none, List.cons_append, List.nil_append, kv_rv, kc1_i, kc1_r, kc1_n, n10, n01, n1514, n1213, n1312, if_true, if_false, not_true_eq_false, not_false_eq_true, and_self, true_and, and_true, false_and, and_false, or_true, true_or, or_false, false_or, Nat.reduceLeDiff, Nat.reduceLT, Nat.reduceEqDiff, Nat.reduceAdd, ari_0, ari_lt, ari_cl, m_isNet_m a1, k2, m_isOp_mt a1 hp.1 ec hk8 hn.2.1 hn.2.2.1 hn.2.2.2.2.1 hn.2.2.2.2.2.2.1, hx, c, c2, hn.2.2.2.2.1, pow_w w hn.2.1, s_149 a1, s_168 a1, r_149_27 a1, (show k < 8 by omega), (show k < 2147483648 by omega), (show k < K by omega), (show k < 2147483648 by omega), (show K < 9 by omega), (show K < 2147483648 by omega)]
          exact h
    · simp only [c_90, g_90_0, g_90_1, g_90_2, g_90_3, g_90_6, g_90_9, g_90_10, g_90_13, g_90_14, g_90_15, g_90_16, g_90_19, g_90_20, g_90_21, g_90_24, g_90_25, g_90_28, g_90_29, kv_w8_0, kv_w8_1, kv_w8_2, kv_w8_3, kv_w8_4, Nat.not_lt_zero, Bool.false_eq_true, Option.toList_some, Option.toList_none, List.cons_append, List.nil_append, kv_rv, kc1_i, kc1_r, kc1_n, n10, n01, n1514, n1213, n1312, if_true, if_false, not_true_eq_false, not_false_eq_true, and_self, true_and, and_true, false_and, and_false, or_true, true_or, or_false, false_or, Nat.reduceLeDiff, Nat.reduceLT, Nat.reduceEqDiff, Nat.reduceAdd, m_isOp_cf a1 hK k1 hp ec hk8 hn.2.1 hn.2.2.1 hn.2.2.2.1 hn.2.2.2.2.2.1 x hx, s_8 a1]
      refine ⟨_, rfl, ?_⟩
      simp only [c_166, g_166_0, g_166_1, g_166_2, g_166_5, g_166_8, g_166_9, g_166_10, g_166_11, g_166_14, g_166_17, g_166_18, g_166_21, g_166_22, g_166_23, g_166_24, g_166_27, g_166_28, g_166_29, g_166_30, g_166_33, g_166_34, kv_w8_0, kv_w8_1, kv_w8_2, kv_w8_3, kv_w8_4, Nat.not_lt_zero, Bool.false_eq_true, Option.toList_some, Option.toList_none, List.cons_append, List.nil_append, kv_rv, kc1_i, kc1_r, kc1_n, n10, n01, n1514, n1213, n1312, if_true, if_false, not_true_eq_false, not_false_eq_true, and_self, true_and, and_true, false_and, and_false, or_true, true_or, or_false, false_or, Nat.reduceLeDiff, Nat.reduceLT, Nat.reduceEqDiff, Nat.reduceAdd, m_isNet_m a1, k2, hp, m_isOp_mf a1 hp.1 ec hk8 hn.2.1 hn.2.2.1 hn.2.2.2.2.1 hn.2.2.2.2.2.2.1 x hx, s_149 a1]
      exact h
  · simp only [c_90, g_90_0, g_90_1, g_90_2, g_90_3, g_90_6, g_90_9, g_90_10, g_90_13, g_90_14, g_90_15, g_90_16, g_90_19, g_90_20, g_90_21, g_90_24, g_90_25, g_90_28, g_90_29, kv_w8_0, kv_w8_1, kv_w8_2, kv_w8_3, kv_w8_4, Nat.not_lt_zero, Bool.false_eq_true, Option.toList_some, Option.toList_none, List.cons_append, List.nil_append, kv_rv, kc1_i, kc1_r, kc1_n, n10, n01, n1514, n1213, n1312, if_true, if_false, not_true_eq_false, not_false_eq_true, and_self, true_and, and_true, false_and, and_false, or_true, true_or, or_false, false_or, Nat.reduceLeDiff, Nat.reduceLT, Nat.reduceEqDiff, Nat.reduceAdd, m_isOp_cn a1 k1 hp, s_8 a1]
    refine ⟨_, rfl, ?_⟩
    simp only [c_166, g_166_0, g_166_1, g_166_2, g_166_5, g_166_8, g_166_9, g_166_10, g_166_11, g_166_14, g_166_17, g_166_18, g_166_21, g_166_22, g_166_23, g_166_24, g_166_27, g_166_28, g_166_29, g_166_30, g_166_33, g_166_34, kv_w8_0, kv_w8_1, kv_w8_2, kv_w8_3, kv_w8_4, Nat.not_lt_zero, Bool.false_eq_true, Option.toList_some, Option.toList_none, List.cons_append, List.nil_append, kv_rv, kc1_i, kc1_r, kc1_n, n10, n01, n1514, n1213, n1312, if_true, if_false, not_true_eq_false, not_false_eq_true, and_self, true_and, and_true, false_and, and_false, or_true, true_or, or_false, false_or, Nat.reduceLeDiff, Nat.reduceLT, Nat.reduceEqDiff, Nat.reduceAdd, m_isNet_m a1, k2, hp, s_149 a1]
    exact h

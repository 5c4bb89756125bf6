/-! ===== take ===== -/
theorem lshr_msk (z : Int64) {e c : Nat} (he : e < 64) : (kv_lshr z (Int32.ofNat e)).toInt32 &&& Int32.ofNat (2 ^ c - 1) = Int32.ofNat (z.toBitVec.toNat / 2 ^ e % 2 ^ c) := by
  obtain ⟨e1, hb⟩ := lb_nat z
  have : kv_lshr z (Int32.ofNat e) = Int64.ofNat (z.toBitVec.toNat / 2 ^ e) := by conv => lhs; rw [e1]
                                                                                  exact shr_l hb he
  rw [this, l2i_n, msk_a]
theorem msk_tb (z : Int64) (e c p : Nat) : (z.toBitVec.toNat / 2 ^ e % 2 ^ c).testBit p = (decide (p < c) && lb z (e + p)) := by
  rw [Nat.testBit_mod_two_pow, Nat.testBit_div_two_pow, Nat.add_comm p e]
  rfl
section TK
variable {d : Nat} {Φ : Option Value → kv_S → Prop}
/-- the first s sheets are taken -/
def tkI (f s c : Nat) (H : Nat → Nat) (τ : kv_S) : Prop := ∀ s', s' < s → ∃ o : Nat, o < 256 ∧ kv_i τ (40 + 4 * f) s' = Int32.ofNat c ∧ kv_i τ (38 + 4 * f) s' = Int32.ofNat o ∧ kv_i τ (39 + 4 * f) s' = Int32.ofNat 0 ∧ ∀ p, o.testBit p = (decide (p < c) && decide (H (8 * s' + p) = 1))
theorem become_loop {σ0 : kv_S} (h : JS σ0) {f k w G : Nat} {x : Int32} (hf : f < 16) (hw : w ≤ 8) (hw1 : 1 ≤ w) (hG : G ≤ 40) (e3 : kv_i σ0 (37 + 4 * f) 3 = Int32.ofNat w) (hx : vO w G x) (V : Nat → Bool) (hV : ∀ j, j < nwc w → ∀ r, r < 64 → lb (kv_l σ0 27 (onn x * 4 + j)) r = V (64 * j + r)) (HΦ : ∀ τ, FR (fun b _ => 38 + 4 * f ≤ b ∧ b ≤ 40 + 4 * f) σ0 τ → tkI f (max 1 (2 ^ w / 8)) (min 8 (2 ^ w)) (fun r => (V r).toNat) τ → Φ none τ) : ∀ m s, s + m = max 1 (2 ^ w / 8) → ∀ τ, FR (fun b _ => 38 + 4 * f ≤ b ∧ b ≤ 40 + 4 * f) σ0 τ → tkI f s (min 8 (2 ^ w)) (fun r => (V r).toNat) τ → Wp (d + 2) 40 2 [.ref (37 + 4 * f), .ref 26, .int x, .int (Int32.ofNat s)] [] τ Φ
  | 0, s, e, τ, fr, hI => by
    have e2 : s = max 1 (2 ^ w / 8) := by omega
    have hW := pw8 hw
    have js := fr.js h
    have e3' : kv_i τ (37 + 4 * f) 3 = Int32.ofNat w := by rw [fr.i (by omega)]; exact e3
    have hsc : ∀ {d : Nat} {Ψ : Option Value → kv_S → Prop}, Wc (d + 1) 24 [.ref (37 + 4 * f)] τ Ψ = Ψ (some (.int (Int32.ofNat s))) τ := by intro d Ψ; rw [m_sheetCount js hf hw e3', ← e2]
    simp only [g_40_2, g_40_3, g_40_4, g_40_7, g_40_64, kv_w8_0, kv_w8_1, kv_w8_2, kv_w8_3, kv_w8_4, ari_aa, ari_al, ari_la, ari_mm, ari_ml, ari_lm, ari_ltl, ari_llt, ari_lt, ari_le, ari_lel, ari_lle, ari_0, ari_eq, ari_eql, ari_leq, ari_cl, Nat.not_lt_zero, Bool.false_eq_true, Option.toList_some, Option.toList_none, List.cons_append, List.nil_append, kv_rv, kc1_i, kc1_r, kc1_n, n10, n01, n1514, n1213, n1312, if_true, if_false, not_true_eq_false, not_false_eq_true, and_self, true_and, and_true, false_and, and_false, or_true, true_or, or_false, false_or, Nat.reduceLeDiff, Nat.reduceLT, Nat.reduceEqDiff, Nat.reduceAdd, hsc, sT js hf, (show s < 40 by omega), (show s < 2147483648 by omega), (show s ≤ s by omega)]
    rw [e2] at hI
    exact HΦ τ fr hI
  | m + 1, s, e, τ, fr, hI => by
    have hW := pw8 hw
    have js := fr.js h
    have e3' : kv_i τ (37 + 4 * f) 3 = Int32.ofNat w := by rw [fr.i (by omega)]; exact e3
    obtain ⟨s32, s8⟩ := (scn_w w hw hw1).2 s (by omega)
    have vx := hx.onn hw hG
    have hj : s / 8 < nwc w := by have := nw_row w hw (8 * s) s8; omega
    have hj4 := (nw_4 w hw).1
    obtain ⟨S, hS⟩ : ∃ S, S = max 1 (2 ^ w / 8) := ⟨_, rfl⟩
    obtain ⟨c, hc⟩ : ∃ c, c = min 8 (2 ^ w) := ⟨_, rfl⟩
    rw [← hS] at e
    have hS40 : S < 40 := by omega
    have hc8 : c ≤ 8 := by omega
    have hsc : ∀ {d : Nat} {Ψ : Option Value → kv_S → Prop}, Wc (d + 1) 24 [.ref (37 + 4 * f)] τ Ψ = Ψ (some (.int (Int32.ofNat S))) τ := by intro d Ψ; rw [m_sheetCount js hf hw e3', ← hS]
    simp only [g_40_2, g_40_3, g_40_4, g_40_7, kv_w8_0, kv_w8_1, kv_w8_2, kv_w8_3, kv_w8_4, ari_aa, ari_al, ari_la, ari_mm, ari_ml, ari_lm, ari_ltl, ari_llt, ari_lt, ari_le, ari_lel, ari_lle, ari_0, ari_eq, ari_eql, ari_leq, ari_cl, Nat.not_lt_zero, Bool.false_eq_true, Option.toList_some, Option.toList_none, List.cons_append, List.nil_append, kv_rv, kc1_i, kc1_r, kc1_n, n10, n01, n1514, n1213, n1312, if_true, if_false, not_true_eq_false, not_false_eq_true, and_self, true_and, and_true, false_and, and_false, or_true, true_or, or_false, false_or, Nat.reduceLeDiff, Nat.reduceLT, Nat.reduceEqDiff, Nat.reduceAdd, hsc, sT js hf, (show s < 40 by omega), (show s < 2147483648 by omega), (show S < 41 by omega), (show S < 2147483648 by omega), (show ¬ S ≤ s by omega)]
    have hss : ∀ {τ' : kv_S} {d : Nat} {Ψ : Option Value → kv_S → Prop}, JS τ' → kv_i τ' (37 + 4 * f) 3 = Int32.ofNat w → Wc (d + 1) 13 [.ref (37 + 4 * f)] τ' Ψ = Ψ (some (.int (Int32.ofNat c))) τ' := by intro τ' d Ψ q1 q2; rw [m_sheetSize q1 hf hw q2, ← hc]
    obtain ⟨z, hz⟩ : ∃ z, z = kv_l τ 27 (onn x * 4 + s / 8) := ⟨_, rfl⟩
    have hm := lshr_msk z (e := 8 * (s % 8)) (c := c) (by omega)
    have q1 : JS (kv_si (kv_si τ (38 + 4 * f) s (Int32.ofNat (z.toBitVec.toNat / 2 ^ (8 * (s % 8)) % 2 ^ c))) (39 + 4 * f) s 0) := (js.si _ _ _).si _ _ _
    have q2 : kv_i (kv_si (kv_si τ (38 + 4 * f) s (Int32.ofNat (z.toBitVec.toNat / 2 ^ (8 * (s % 8)) % 2 ^ c))) (39 + 4 * f) s 0) (37 + 4 * f) 3 = Int32.ofNat w := by rw [ne_ess (by omega), ne_ess (by omega)]; exact e3'
    simp only [g_40_10, g_40_11, g_40_14, g_40_15, g_40_16, g_40_17, g_40_18, g_40_19, g_40_20, g_40_23, g_40_25, g_40_26, g_40_28, g_40_29, g_40_30, g_40_31, g_40_32, g_40_33, g_40_36, g_40_39, g_40_40, g_40_41, g_40_42, g_40_45, g_40_46, g_40_47, g_40_48, g_40_49, g_40_52, g_40_53, g_40_54, g_40_57, g_40_58, g_40_61, kv_w8_0, kv_w8_1, kv_w8_2, kv_w8_3, kv_w8_4, n_si, n_sl, n_sr, n_mk, sh_si, sh_sl, sh_sr, sh_mk, i_si, i_sl, i_sr, i_mk, l_si, l_sl, l_sr, l_mk, r_si, r_sl, r_sr, r_mk, ari_aa, ari_al, ari_la, ari_mm, ari_ml, ari_lm, ari_ltl, ari_llt, ari_lt, ari_le, ari_lel, ari_lle, ari_0, ari_eq, ari_eql, ari_leq, ari_cl, Nat.not_lt_zero, Bool.false_eq_true, Option.toList_some, Option.toList_none, List.cons_append, List.nil_append, kv_rv, kc1_i, kc1_r, kc1_n, n10, n01, n1514, n1213, n1312, if_true, if_false, not_true_eq_false, not_false_eq_true, and_self, true_and, and_true, false_and, and_false, or_true, true_or, or_false, false_or, Nat.reduceLeDiff, Nat.reduceLT, Nat.reduceEqDiff, Nat.reduceAdd, ari_l31, ari_sh, Nat.reducePow, ari_7, sT js hf, sO js hf, rO js hf, sF js hf, rF js hf, sL js hf, rL js hf, m_word js (Or.inl rfl) vx.1 vx.2 (show s / 8 < 4 by omega), ← hz, hss js e3', m_allOf hc8, hm, hss q1 q2, s_26 js, (show s < 32 by omega), (show s < 2147483648 by omega), (show 8 ≤ 38 + 4 * f by omega), (show 8 ≤ 39 + 4 * f by omega), (show 8 ≤ 40 + 4 * f by omega)]
    refine become_loop h (k := k) hf hw hw1 hG e3 hx V hV HΦ m (s + 1) (by omega) _ (((fr.si (by omega)).si (by omega)).si (by omega)) (fun s' hs' => ?_)
    rw [← hc]
    by_cases es : s' = s
    · subst es
      refine ⟨z.toBitVec.toNat / 2 ^ (8 * (s' % 8)) % 2 ^ c, ?_, by simp (disch := omega) only [ne_ess, eq_ess], by simp (disch := omega) only [ne_ess, eq_ess], by simp (disch := omega) only [ne_ess, eq_ess]; rfl, fun p => ?_⟩
      · have : 2 ^ c ≤ 256 := pw8 hc8
        exact Nat.lt_of_lt_of_le (Nat.mod_lt _ (by have := pw1 c; omega)) this
      · rw [msk_tb]
        by_cases cp : p < c
        · have := hV (s' / 8) hj (8 * (s' % 8) + p) (by omega)
          rw [← fr.l (by omega), ← hz, show 64 * (s' / 8) + (8 * (s' % 8) + p) = 8 * s' + p by omega] at this
          rw [this]
          show _ = (decide (p < c) && decide ((V (8 * s' + p)).toNat = 1))
          cases V (8 * s' + p) <;> rfl
        · rw [decide_eq_false cp]; rfl
    · obtain ⟨o, k1, k2, k3, k4, k5⟩ := hI s' (by omega)
      rw [← hc] at k2 k5
      exact ⟨o, k1, by simp (disch := omega) only [ne_ess]; exact k2, by simp (disch := omega) only [ne_ess]; exact k3, by simp (disch := omega) only [ne_ess]; exact k4, k5⟩
theorem take_l1 {σ : kv_S} (h : JS σ) {f w : Nat} {n x : Int32} {v5 v6 : Value} (hf : f < 16) (hw : w ≤ 8) (e : kv_i σ 150 f = Int32.ofNat w) : ∀ m j, j + m = 32 → Wp (d + 2) 169 45 [.ref 149, .int (Int32.ofNat f), .int n, .int x, .int (Int32.ofNat j), v5, v6] [] (kv_frg σ 152 (32 * f) j (Int32.ofNat (min 8 (2 ^ w)))) Φ = Wp (d + 2) 169 75 [.ref 149, .int (Int32.ofNat f), .int n, .int x, .int (Int32.ofNat 32), v5, v6] [] (kv_frg σ 152 (32 * f) 32 (Int32.ofNat (min 8 (2 ^ w)))) Φ
  | 0, j, e1 => by
    have e2 : j = 32 := by omega
    subst e2
    simp only [g_169_45, g_169_47, g_169_49, ari_aa, ari_al, ari_la, ari_mm, ari_ml, ari_lm, ari_ltl, ari_llt, ari_lt, ari_le, ari_lel, ari_lle, ari_0, ari_eq, ari_eql, ari_leq, ari_cl, Nat.not_lt_zero, Bool.false_eq_true, Option.toList_some, Option.toList_none, List.cons_append, List.nil_append, kv_rv, kc1_i, kc1_r, kc1_n, n10, n01, n1514, n1213, n1312, if_true, if_false, not_true_eq_false, not_false_eq_true, and_self, true_and, and_true, false_and, and_false, or_true, true_or, or_false, false_or, Nat.reduceLeDiff, Nat.reduceLT, Nat.reduceEqDiff, Nat.reduceAdd]
  | m + 1, j, e1 => by
    have e' : kv_i (kv_frg σ 152 (32 * f) j (Int32.ofNat (min 8 (2 ^ w)))) 150 f = Int32.ofNat w := by rw [frg_i, if_neg (by omega)]; exact e
    simp only [g_169_45, g_169_47, g_169_49, ari_aa, ari_al, ari_la, ari_mm, ari_ml, ari_lm, ari_ltl, ari_llt, ari_lt, ari_le, ari_lel, ari_lle, ari_0, ari_eq, ari_eql, ari_leq, ari_cl, Nat.not_lt_zero, Bool.false_eq_true, Option.toList_some, Option.toList_none, List.cons_append, List.nil_append, kv_rv, kc1_i, kc1_r, kc1_n, n10, n01, n1514, n1213, n1312, if_true, if_false, not_true_eq_false, not_false_eq_true, and_self, true_and, and_true, false_and, and_false, or_true, true_or, or_false, false_or, Nat.reduceLeDiff, Nat.reduceLT, Nat.reduceEqDiff, Nat.reduceAdd, (show j < 32 by omega), (show j < 2147483648 by omega), (show ¬ 32 ≤ j by omega)]
    simp only [g_169_52, g_169_53, g_169_56, g_169_58, g_169_59, g_169_60, g_169_62, g_169_63, g_169_64, g_169_65, g_169_68, g_169_69, g_169_72, kv_w8_0, kv_w8_1, kv_w8_2, kv_w8_3, kv_w8_4, ari_aa, ari_al, ari_la, ari_mm, ari_ml, ari_lm, ari_ltl, ari_llt, ari_lt, ari_le, ari_lel, ari_lle, ari_0, ari_eq, ari_eql, ari_leq, ari_cl, Nat.not_lt_zero, Bool.false_eq_true, Option.toList_some, Option.toList_none, List.cons_append, List.nil_append, kv_rv, kc1_i, kc1_r, kc1_n, n10, n01, n1514, n1213, n1312, if_true, if_false, not_true_eq_false, not_false_eq_true, and_self, true_and, and_true, false_and, and_false, or_true, true_or, or_false, false_or, Nat.reduceLeDiff, Nat.reduceLT, Nat.reduceEqDiff, Nat.reduceAdd, m_sheetSize_m (h.frg _ _ _ _) hf hw e', frg_sh, frg_r, s_149 h, s_152 h, r_149_4 h, (show 32 * f + j < 512 by omega), (show 32 * f + j < 2147483648 by omega), frg_s]
    exact take_l1 h hf hw e m (j + 1) (by omega)
theorem i2bI : ∀ b : Bool, (bI b).toInt8.toInt32 = bI b ∧ vp_nar .byte (bI b) = bI b := by decide
theorem take_l2 {σ0 : kv_S} (h : JS σ0) {f k w G : Nat} {x : Int32} (hf : f < 16) (hk : k < 8) (hn : JN1' σ0 k w G) (hx : vO w G x) (e : kv_i σ0 150 f = Int32.ofNat w) (HΦ : ∀ τ, FR (fun b j => b = 181 ∨ b = 151 ∧ 256 * f ≤ j ∧ j < 256 * f + 256) σ0 τ → (∀ r, r < 2 ^ w → kv_i τ 151 (256 * f + r) = bI (vo σ0 k G 1000 r x)) → Φ (some (.int (Int32.ofNat (cnt (fun r => vo σ0 k G 1000 r x) (2 ^ w))))) τ) : ∀ m r, r + m = 2 ^ w → ∀ τ, FR (fun b j => b = 181 ∨ b = 151 ∧ 256 * f ≤ j ∧ j < 256 * f + 256) σ0 τ → (∀ r', r' < r → kv_i τ 151 (256 * f + r') = bI (vo σ0 k G 1000 r' x)) → ∀ v6 : Value, Wp (d + 2) 169 81 [.ref 149, .int (Int32.ofNat f), .int (Int32.ofNat k), .int x, .int (Int32.ofNat (cnt (fun r => vo σ0 k G 1000 r x) r)), .int (Int32.ofNat r), v6] [] τ Φ
  | 0, r, e1, τ, fr, hs, v6 => by
    have hW := pw8 hn.2.1
    have e2 : r = 2 ^ w := by omega
    subst e2
    have js := fr.js h
    have e' : kv_i τ 150 f = Int32.ofNat w := by rw [fr.i (by omega)]; exact e
    simp only [g_169_81, g_169_83, g_169_84, g_169_85, g_169_88, g_169_137, g_169_139, kv_w8_0, kv_w8_1, kv_w8_2, kv_w8_3, kv_w8_4, ari_aa, ari_al, ari_la, ari_mm, ari_ml, ari_lm, ari_ltl, ari_llt, ari_lt, ari_le, ari_lel, ari_lle, ari_0, ari_eq, ari_eql, ari_leq, ari_cl, Nat.not_lt_zero, Bool.false_eq_true, Option.toList_some, Option.toList_none, List.cons_append, List.nil_append, kv_rv, kc1_i, kc1_r, kc1_n, n10, n01, n1514, n1213, n1312, if_true, if_false, not_true_eq_false, not_false_eq_true, and_self, true_and, and_true, false_and, and_false, or_true, true_or, or_false, false_or, Nat.reduceLeDiff, Nat.reduceLT, Nat.reduceEqDiff, Nat.reduceAdd, m_rows_m js hf hn.2.1 e', s_149 js, (show 2 ^ w < 257 by omega), (show 2 ^ w < 2147483648 by omega), (show 2 ^ w ≤ 2 ^ w by omega)]
    exact HΦ τ fr hs
  | m + 1, r, e1, τ, fr, hs, v6 => by
    have hW := pw8 hn.2.1
    have js := fr.js h
    have e' : kv_i τ 150 f = Int32.ofNat w := by rw [fr.i (by omega)]; exact e
    have hpN : ∀ b j, (b = 181 ∨ b = 151 ∧ 256 * f ≤ j ∧ j < 256 * f + 256) → ¬ cN b j := fun b j q => by unfold cN; omega
    have hn2 : JN1' τ k w G := hn.fr fr hk hpN
    simp only [g_169_81, g_169_83, g_169_84, g_169_85, g_169_88, kv_w8_0, kv_w8_1, kv_w8_2, kv_w8_3, kv_w8_4, ari_aa, ari_al, ari_la, ari_mm, ari_ml, ari_lm, ari_ltl, ari_llt, ari_lt, ari_le, ari_lel, ari_lle, ari_0, ari_eq, ari_eql, ari_leq, ari_cl, Nat.not_lt_zero, Bool.false_eq_true, Option.toList_some, Option.toList_none, List.cons_append, List.nil_append, kv_rv, kc1_i, kc1_r, kc1_n, n10, n01, n1514, n1213, n1312, if_true, if_false, not_true_eq_false, not_false_eq_true, and_self, true_and, and_true, false_and, and_false, or_true, true_or, or_false, false_or, Nat.reduceLeDiff, Nat.reduceLT, Nat.reduceEqDiff, Nat.reduceAdd, m_rows_m js hf hn.2.1 e', s_149 js, (show 2 ^ w < 257 by omega), (show 2 ^ w < 2147483648 by omega), (show r < 257 by omega), (show r < 2147483648 by omega), (show ¬ 2 ^ w ≤ r by omega)]
    simp only [g_169_91, g_169_92, g_169_93, g_169_95, g_169_96, kv_w8_0, kv_w8_1, kv_w8_2, kv_w8_3, kv_w8_4, Nat.not_lt_zero, Bool.false_eq_true, Option.toList_some, Option.toList_none, List.cons_append, List.nil_append, kv_rv, kc1_i, kc1_r, kc1_n, n10, n01, n1514, n1213, n1312, if_true, if_false, not_true_eq_false, not_false_eq_true, and_self, true_and, and_true, false_and, and_false, or_true, true_or, or_false, false_or, Nat.reduceLeDiff, Nat.reduceLT, Nat.reduceEqDiff, Nat.reduceAdd, s_149 js]
    refine m_work js hk hn2 (by omega) (tt_none hn.2.2.1) (fun υ fr2 hv => ?_)
    have js2 := fr2.js js
    have ev : nvo (vl τ k G 1000 r) r x = vo σ0 k G 1000 r x := vo_fr fr hk hpN G 1000 r x
    obtain ⟨b1, b2⟩ := i2bI (vo σ0 k G 1000 r x)
    simp only [g_169_99, g_169_100, g_169_101, g_169_103, g_169_106, g_169_108, g_169_109, g_169_112, g_169_115, g_169_116, g_169_117, g_169_119, g_169_120, g_169_122, g_169_123, g_169_124, g_169_126, g_169_128, g_169_129, g_169_131, g_169_134, kv_w8_0, kv_w8_1, kv_w8_2, kv_w8_3, kv_w8_4, n_si, n_sl, n_sr, n_mk, sh_si, sh_sl, sh_sr, sh_mk, i_si, i_sl, i_sr, i_mk, l_si, l_sl, l_sr, l_mk, r_si, r_sl, r_sr, r_mk, ari_aa, ari_al, ari_la, ari_mm, ari_ml, ari_lm, ari_ltl, ari_llt, ari_lt, ari_le, ari_lel, ari_lle, ari_0, ari_eq, ari_eql, ari_leq, ari_cl, Nat.not_lt_zero, Bool.false_eq_true, Option.toList_some, Option.toList_none, List.cons_append, List.nil_append, kv_rv, kc1_i, kc1_r, kc1_n, n10, n01, n1514, n1213, n1312, if_true, if_false, not_true_eq_false, not_false_eq_true, and_self, true_and, and_true, false_and, and_false, or_true, true_or, or_false, false_or, Nat.reduceLeDiff, Nat.reduceLT, Nat.reduceEqDiff, Nat.reduceAdd, m_valueOf js2 hn.2.1 hn.2.2.1 (show r < 256 by omega) hv hx, ev, b1, b2, s_149 js2, s_151 js2, r_149_3 js2, (show 256 * f + r < 4096 by omega), (show 256 * f + r < 2147483648 by omega)]
    rw [bI_n, ari_aa]
    refine take_l2 h hf hk hn hx e HΦ m (r + 1) (by omega) _ ((fr.tr (fr2.mono (fun b j q => Or.inl q))).si (by omega)) (fun r' hr' => ?_) _
    by_cases c : r' = r
    · subst c; rw [eq_ess ⟨rfl, rfl⟩, bI_n]
    · rw [ne_ess (by omega), fr2.i (by omega)]; exact hs r' (by omega)
end TK
/-- promise 8: take -/
theorem o_6 (d : Nat) : ob_6 JJ (d + 3) := by
  intro σ h p q x
  have h' := h
  obtain ⟨a1, a2, a3, ⟨F, hF, f1, f2, f3⟩, ⟨K, hK, k1, k2, k3⟩, a6, a7⟩ := h'
  by_cases hp : ¬ p < 0 ∧ p < Int32.ofNat F
  · obtain ⟨f, hf, rfl, ecf⟩ := i32_nat (by omega) hp.1 hp.2
    obtain ⟨wf, hj⟩ := f3 f hf
    have hj : JF1' σ f wf := hj
    have hf16 : f < 16 := by omega
    by_cases hq : ¬ q < 0 ∧ q < Int32.ofNat K
    · obtain ⟨k, hk, rfl, ec⟩ := i32_nat (by omega) hq.1 hq.2
      obtain ⟨w, G, hn⟩ := k3 k hk
      have hn : JN1' σ k w G := hn
      have hk8 : k < 8 := by omega
      have hW := pw8 hn.2.1
      have hw8 := hn.2.1
      have hwf8 := hj.2.1
      by_cases hx : vO w G x
      · by_cases hww : wf = w
        · subst hww
          simp only [c_32, g_32_0, g_32_1, g_32_2, g_32_5, g_32_8, g_32_9, g_32_10, g_32_11, g_32_14, g_32_17, g_32_18, g_32_21, g_32_22, g_32_23, g_32_26, g_32_27, g_32_30, g_32_31, g_32_32, g_32_35, g_32_38, g_32_39, g_32_40, g_32_41, g_32_44, g_32_45, g_32_48, g_32_49, g_32_50, kv_w8_0, kv_w8_1, kv_w8_2, kv_w8_3, kv_w8_4, ari_aa, ari_al, ari_la, ari_mm, ari_ml, ari_lm, ari_ltl, ari_llt, ari_lt, ari_le, ari_lel, ari_lle, ari_0, ari_eq, ari_eql, ari_leq, ari_cl, Nat.not_lt_zero, Bool.false_eq_true, Option.toList_some, Option.toList_none, List.cons_append, List.nil_append, kv_rv, kc1_i, kc1_r, kc1_n, n10, n01, n1514, n1213, n1312, if_true, if_false, not_true_eq_false, not_false_eq_true, and_self, true_and, and_true, false_and, and_false, or_true, true_or, or_false, false_or, Nat.reduceLeDiff, Nat.reduceLT, Nat.reduceEqDiff, Nat.reduceAdd, m_isFunction_c a1, f1, m_isOp_ct a1 hK k1 hq ec hk8 hn.2.1 hn.2.2.1 hn.2.2.2.1 hn.2.2.2.2.2.1, hx, hj.2.2.1, hn.2.2.2.1, sT a1 hf16, rT a1 hf16, nN a1 hk8, qN a1 hk8, s_8 a1, s_9 a1, r_8_0 a1, s_10 a1, r_8_1 a1, s_26 a1, r_8_5 a1, (show f < 16 by omega), (show f < 2147483648 by omega), (show f < F by omega), (show f < 2147483648 by omega), (show F < 17 by omega), (show F < 2147483648 by omega), (show k < 8 by omega), (show k < 2147483648 by omega), (show wf < 9 by omega), (show wf < 2147483648 by omega)]
          refine m_workOut a1 a2 hk8 (Or.inl rfl) hn (fun τ hw => ?_)
          have js := hw.1.js a1
          have e3 : kv_i τ (37 + 4 * f) 3 = Int32.ofNat wf := by rw [hw.1.i (by omega)]; exact hj.2.2.1
          simp only [g_32_53, g_32_54, g_32_57, g_32_58, g_32_59, g_32_60, g_32_63, g_32_64, kv_w8_0, kv_w8_1, kv_w8_2, kv_w8_3, kv_w8_4, ari_aa, ari_al, ari_la, ari_mm, ari_ml, ari_lm, ari_ltl, ari_llt, ari_lt, ari_le, ari_lel, ari_lle, ari_0, ari_eq, ari_eql, ari_leq, ari_cl, Nat.not_lt_zero, Bool.false_eq_true, Option.toList_some, Option.toList_none, List.cons_append, List.nil_append, kv_rv, kc1_i, kc1_r, kc1_n, n10, n01, n1514, n1213, n1312, if_true, if_false, not_true_eq_false, not_false_eq_true, and_self, true_and, and_true, false_and, and_false, or_true, true_or, or_false, false_or, Nat.reduceLeDiff, Nat.reduceLT, Nat.reduceEqDiff, Nat.reduceAdd, sT js hf16, rT js hf16, s_8 js, s_9 js, r_8_0 js, s_26 js, r_8_5 js, (show f < 16 by omega), (show f < 2147483648 by omega)]
          simp only [c_40, g_40_0, g_40_1, Nat.not_lt_zero, Bool.false_eq_true, Option.toList_some, Option.toList_none, List.cons_append, List.nil_append, kv_rv, kc1_i, kc1_r, kc1_n, n10, n01, n1514, n1213, n1312, if_true, if_false, not_true_eq_false, not_false_eq_true, and_self, true_and, and_true, false_and, and_false, or_true, true_or, or_false, false_or, Nat.reduceLeDiff, Nat.reduceLT, Nat.reduceEqDiff, Nat.reduceAdd]
          refine become_loop js (k := k) hf16 hw8 hj.1 hn.2.2.1 e3 hx (fun r => vo σ k G 1000 r x) (fun j hj' r hr => hw.2.2 x hx j hj' r hr) (fun υ fr2 hI => ?_) (max 1 (2 ^ wf / 8)) 0 (by omega) τ (FR.rf _ τ) (fun s' hs' => absurd hs' (by omega))
          have js2 := fr2.js js
          have hC : CF υ f wf (fun _ => min 8 (2 ^ wf)) (fun r => (vo σ k G 1000 r x).toNat) := by
            refine ⟨by rw [fr2.i (by omega)]; exact e3, fun s hs h8 => ?_⟩
            obtain ⟨o, k1, k2, k3, k4, k5⟩ := hI s (scn_r hw8 hj.1 h8)
            refine ⟨o, 0, k1, by decide, k2, k3, k4, fun p => ⟨k5 p, ?_⟩⟩
            rw [Nat.zero_testBit]
            have := Bool.toNat_le (vo σ k G 1000 (8 * s + p) x)
            rw [decide_eq_false (show ¬ (vo σ k G 1000 (8 * s + p) x).toNat = 2 by omega), Bool.and_false]
          have hLH : LH wf (fun _ => min 8 (2 ^ wf)) (fun r => (vo σ k G 1000 r x).toNat) := ⟨hj.1, hw8, fun s hs h8 => ⟨Nat.min_le_left _ _, Nat.min_le_right _ _, fun p hp => by have := Bool.toNat_le (vo σ k G 1000 (8 * s + p) x); show (vo σ k G 1000 (8 * s + p) x).toNat ≤ 2; omega⟩⟩
          simp only [g_32_67, g_32_68, g_32_71, g_32_72, g_32_73, g_32_74, g_32_77, kv_w8_0, kv_w8_1, kv_w8_2, kv_w8_3, kv_w8_4, ari_aa, ari_al, ari_la, ari_mm, ari_ml, ari_lm, ari_ltl, ari_llt, ari_lt, ari_le, ari_lel, ari_lle, ari_0, ari_eq, ari_eql, ari_leq, ari_cl, Nat.not_lt_zero, Bool.false_eq_true, Option.toList_some, Option.toList_none, List.cons_append, List.nil_append, kv_rv, kc1_i, kc1_r, kc1_n, n10, n01, n1514, n1213, n1312, if_true, if_false, not_true_eq_false, not_false_eq_true, and_self, true_and, and_true, false_and, and_false, or_true, true_or, or_false, false_or, Nat.reduceLeDiff, Nat.reduceLT, Nat.reduceEqDiff, Nat.reduceAdd, sT js2 hf16, rT js2 hf16, s_8 js2, s_9 js2, r_8_0 js2, (show f < 16 by omega), (show f < 2147483648 by omega)]
          have hco := @m_countOf (d := d) (σ := υ) (Φ := fun r τ_1 => Wp (d + 1 + 1 + 1) 32 77 [Value.ref 8, Value.int (Int32.ofNat f), Value.int (Int32.ofNat k), Value.int x] (r.toList ++ []) τ_1 fun r τ => ∃ v, r = some (Value.int v) ∧ Wc (d + 3) 169 [Value.ref 149, Value.int (Int32.ofNat f), Value.int (Int32.ofNat k), Value.int x] τ fun r2 τ2 => r2 = some (Value.int v) ∧ JJ τ2) js2 f wf 1 _ _ hf16 hLH hC (by decide)
          refine (Eq.mpr hco ?_)
          simp only [g_32_77, Nat.not_lt_zero, Bool.false_eq_true, Option.toList_some, Option.toList_none, List.cons_append, List.nil_append, kv_rv, kc1_i, kc1_r, kc1_n, n10, n01, n1514, n1213, n1312, if_true, if_false, not_true_eq_false, not_false_eq_true, and_self, true_and, and_true, false_and, and_false, or_true, true_or, or_false, false_or, Nat.reduceLeDiff, Nat.reduceLT, Nat.reduceEqDiff, Nat.reduceAdd]
          refine ⟨_, rfl, ?_⟩
          have frA : FR (fun b j => (b = 27 ∨ b = 26 ∧ j = 1) ∨ 38 + 4 * f ≤ b ∧ b ≤ 40 + 4 * f) σ υ := (hw.1.mono (fun b j q => Or.inl q)).tr (fr2.mono (fun b j q => Or.inr q))
          have hpA : ∀ b j, ((b = 27 ∨ b = 26 ∧ j = 1) ∨ 38 + 4 * f ≤ b ∧ b ≤ 40 + 4 * f) → ¬ cN b j := fun b j q => by unfold cN; omega
          have hn2 : JN1' υ k wf G := hn.fr frA hk8 hpA
          have g1 : kv_i υ 149 1 = Int32.ofNat F := by rw [frA.i (by omega)]; exact f2
          have g2 : kv_i υ 149 26 = Int32.ofNat K := by rw [frA.i (by omega)]; exact k2
          have g3 : kv_i υ 150 f = Int32.ofNat wf := by rw [frA.i (by omega)]; exact hj.2.2.2.1
          simp only [c_169, g_169_0, g_169_1, g_169_2, g_169_5, g_169_8, g_169_9, g_169_10, g_169_13, g_169_16, g_169_17, g_169_18, g_169_19, g_169_22, g_169_25, g_169_26, g_169_29, g_169_30, g_169_31, g_169_32, g_169_35, g_169_36, g_169_37, g_169_40, g_169_41, g_169_42, g_169_43, kv_w8_0, kv_w8_1, kv_w8_2, kv_w8_3, kv_w8_4, ari_aa, ari_al, ari_la, ari_mm, ari_ml, ari_lm, ari_ltl, ari_llt, ari_lt, ari_le, ari_lel, ari_lle, ari_0, ari_eq, ari_eql, ari_leq, ari_cl, Nat.not_lt_zero, Bool.false_eq_true, Option.toList_some, Option.toList_none, List.cons_append, List.nil_append, kv_rv, kc1_i, kc1_r, kc1_n, n10, n01, n1514, n1213, n1312, if_true, if_false, not_true_eq_false, not_false_eq_true, and_self, true_and, and_true, false_and, and_false, or_true, true_or, or_false, false_or, Nat.reduceLeDiff, Nat.reduceLT, Nat.reduceEqDiff, Nat.reduceAdd, m_isFunction_m js2, m_isNet_m js2, g1, g2, g3, m_isOp_mt js2 hq.1 ec hk8 hw8 hn.2.2.1 hn2.2.2.2.2.1 hn2.2.2.2.2.2.2.1, hx, hn2.2.2.2.2.1, s_149 js2, s_150 js2, r_149_2 js2, s_168 js2, r_149_27 js2, (show f < 16 by omega), (show f < 2147483648 by omega), (show f < F by omega), (show f < 2147483648 by omega), (show F < 17 by omega), (show F < 2147483648 by omega), (show k < 8 by omega), (show k < 2147483648 by omega), (show k < K by omega), (show k < 2147483648 by omega), (show K < 9 by omega), (show K < 2147483648 by omega), (show wf < 9 by omega), (show wf < 2147483648 by omega)]
          have l1 := take_l1 (d := d + 1) (n := Int32.ofNat k) (x := x) (v5 := .null) (v6 := .null) (Φ := fun r2 τ2 => r2 = some (Value.int (Int32.ofNat (cpl wf (fun x => min 8 (2 ^ wf)) (fun r => (vo σ k G 1000 r x).toNat) 1))) ∧ JJ τ2) js2 hf16 hw8 g3 32 0 (by omega)
          rw [frg_0] at l1
          refine l1.mpr ?_
          have fr3 : FR (fun b j => b = 152 ∧ 32 * f ≤ j ∧ j < 32 * f + 32) υ (kv_frg υ 152 (32 * f) 32 (Int32.ofNat (min 8 (2 ^ wf)))) := frg_fr (FR.rf _ υ) (fun j q1 q2 => by omega)
          have e152 : ∀ s, s < 32 → kv_i (kv_frg υ 152 (32 * f) 32 (Int32.ofNat (min 8 (2 ^ wf)))) 152 (32 * f + s) = Int32.ofNat (min 8 (2 ^ wf)) := fun s hs => by rw [frg_i, if_pos (by omega)]
          generalize kv_frg υ 152 (32 * f) 32 (Int32.ofNat (min 8 (2 ^ wf))) = ζ at *
          have js3 := fr3.js js2
          have hp3 : ∀ b j, (b = 152 ∧ 32 * f ≤ j ∧ j < 32 * f + 32) → ¬ cN b j := fun b j q => by unfold cN; omega
          have hn3 : JN1' ζ k wf G := hn2.fr fr3 hk8 hp3
          have ev : ∀ r, vo ζ k G 1000 r x = vo σ k G 1000 r x := fun r => (vo_fr fr3 hk8 hp3 G 1000 r x).trans (vo_fr frA hk8 hpA G 1000 r x)
          simp only [g_169_75, g_169_76, g_169_78, g_169_79, Nat.not_lt_zero, Bool.false_eq_true, Option.toList_some, Option.toList_none, List.cons_append, List.nil_append, kv_rv, kc1_i, kc1_r, kc1_n, n10, n01, n1514, n1213, n1312, if_true, if_false, not_true_eq_false, not_false_eq_true, and_self, true_and, and_true, false_and, and_false, or_true, true_or, or_false, false_or, Nat.reduceLeDiff, Nat.reduceLT, Nat.reduceEqDiff, Nat.reduceAdd]
          refine take_l2 js3 hf16 hk8 hn3 hx (by rw [fr3.i (by omega)]; exact g3) (fun ω fr4 hs => ⟨?_, ?_⟩) (2 ^ wf) 0 (by omega) ζ (FR.rf _ ζ) (fun r hr => absurd hr (by omega)) _
          · unfold cpl
            rw [if_neg (by decide), if_pos rfl, cnt_congr (P := cpv (fun _ => min 8 (2 ^ wf)) (fun r => (vo σ k G 1000 r x).toNat) 1) (Q := fun r => vo ζ k G 1000 r x) (2 ^ wf) (fun r hr => ?_)]
            unfold cpv
            rw [ev r, decide_eq_true (show r % 8 < min 8 (2 ^ wf) by omega), Bool.true_and]
            show decide ((vo σ k G 1000 r x).toNat = 1) = _
            cases vo σ k G 1000 r x <;> rfl
          · refine JJ.fun (f := f) (w := wf) (P := fun b j => ((b = 27 ∨ b = 26 ∧ j = 1) ∨ 38 + 4 * f ≤ b ∧ b ≤ 40 + 4 * f) ∨ (b = 152 ∧ 32 * f ≤ j ∧ j < 32 * f + 32) ∨ b = 181 ∨ b = 151 ∧ 256 * f ≤ j ∧ j < 256 * f + 256) (((frA.mono (fun b j q => Or.inl q)).tr (fr3.mono (fun b j q => Or.inr (Or.inl q)))).tr (fr4.mono (fun b j q => Or.inr (Or.inr q)))) hf16 (fun b j q => ?_) (FV.jf hLH ((hC.fr fr3 (fun b j q => by omega)).fr fr4 (fun b j q => by omega)) ⟨?_, fun s hs2 h8 => ⟨?_, fun p hp => ?_⟩⟩) h
            · unfold cFf SC kv_ess; omega
            · rw [fr4.i (by omega), fr3.i (by omega)]; exact g3
            · rw [fr4.i (by omega)]; exact e152 s hs2
            · have hp2 : p < min 8 (2 ^ wf) := hp
              have z1 := (scn_8 wf hw8 hj.1).2
              have z2 := scn_r hw8 hj.1 h8
              rw [hs (8 * s + p) (by omega), bI_n, ev]
        · simp only [c_32, g_32_0, g_32_1, g_32_2, g_32_5, g_32_8, g_32_9, g_32_10, g_32_11, g_32_14, g_32_17, g_32_18, g_32_21, g_32_22, g_32_23, g_32_26, g_32_27, g_32_30, g_32_31, g_32_32, g_32_35, g_32_38, g_32_39, kv_w8_0, kv_w8_1, kv_w8_2, kv_w8_3, kv_w8_4, ari_aa, ari_al, ari_la, ari_mm, ari_ml, ari_lm, ari_ltl, ari_llt, ari_lt, ari_le, ari_lel, ari_lle, ari_0, ari_eq, ari_eql, ari_leq, ari_cl, Nat.not_lt_zero, Bool.false_eq_true, Option.toList_some, Option.toList_none, List.cons_append, List.nil_append, kv_rv, kc1_i, kc1_r, kc1_n, n10, n01, n1514, n1213, n1312, if_true, if_false, not_true_eq_false, not_false_eq_true, and_self, true_and, and_true, false_and, and_false, or_true, true_or, or_false, false_or, Nat.reduceLeDiff, Nat.reduceLT, Nat.reduceEqDiff, Nat.reduceAdd, m_isFunction_c a1, f1, m_isOp_ct a1 hK k1 hq ec hk8 hn.2.1 hn.2.2.1 hn.2.2.2.1 hn.2.2.2.2.2.1, hx, hww, hj.2.2.1, hn.2.2.2.1, sT a1 hf16, rT a1 hf16, nN a1 hk8, qN a1 hk8, s_8 a1, s_9 a1, r_8_0 a1, s_10 a1, r_8_1 a1, (show f < 16 by omega), (show f < 2147483648 by omega), (show f < F by omega), (show f < 2147483648 by omega), (show F < 17 by omega), (show F < 2147483648 by omega), (show k < 8 by omega), (show k < 2147483648 by omega), (show w < 9 by omega), (show w < 2147483648 by omega), (show wf < 9 by omega), (show wf < 2147483648 by omega)]
          refine ⟨_, rfl, ?_⟩
          simp only [c_169, g_169_0, g_169_1, g_169_2, g_169_5, g_169_8, g_169_9, g_169_10, g_169_13, g_169_16, g_169_17, g_169_18, g_169_19, g_169_22, g_169_25, g_169_26, g_169_29, g_169_30, g_169_31, g_169_32, g_169_35, g_169_36, g_169_37, g_169_40, g_169_41, kv_w8_0, kv_w8_1, kv_w8_2, kv_w8_3, kv_w8_4, ari_aa, ari_al, ari_la, ari_mm, ari_ml, ari_lm, ari_ltl, ari_llt, ari_lt, ari_le, ari_lel, ari_lle, ari_0, ari_eq, ari_eql, ari_leq, ari_cl, Nat.not_lt_zero, Bool.false_eq_true, Option.toList_some, Option.toList_none, List.cons_append, List.nil_append, kv_rv, kc1_i, kc1_r, kc1_n, n10, n01, n1514, n1213, n1312, if_true, if_false, not_true_eq_false, not_false_eq_true, and_self, true_and, and_true, false_and, and_false, or_true, true_or, or_false, false_or, Nat.reduceLeDiff, Nat.reduceLT, Nat.reduceEqDiff, Nat.reduceAdd, m_isFunction_m a1, m_isNet_m a1, f2, k2, m_isOp_mt a1 hq.1 ec hk8 hn.2.1 hn.2.2.1 hn.2.2.2.2.1 hn.2.2.2.2.2.2.1, hx, hww, hj.2.2.2.1, hn.2.2.2.2.1, s_149 a1, s_150 a1, r_149_2 a1, s_168 a1, r_149_27 a1, (show f < 16 by omega), (show f < 2147483648 by omega), (show f < F by omega), (show f < 2147483648 by omega), (show F < 17 by omega), (show F < 2147483648 by omega), (show k < 8 by omega), (show k < 2147483648 by omega), (show k < K by omega), (show k < 2147483648 by omega), (show K < 9 by omega), (show K < 2147483648 by omega), (show w < 9 by omega), (show w < 2147483648 by omega), (show wf < 9 by omega), (show wf < 2147483648 by omega)]
          exact h
      · simp only [c_32, g_32_0, g_32_1, g_32_2, g_32_5, g_32_8, g_32_9, g_32_10, g_32_11, g_32_14, g_32_17, g_32_18, g_32_21, g_32_22, g_32_23, g_32_26, g_32_27, g_32_30, g_32_31, g_32_32, g_32_35, g_32_38, g_32_39, kv_w8_0, kv_w8_1, kv_w8_2, kv_w8_3, kv_w8_4, Nat.not_lt_zero, Bool.false_eq_true, Option.toList_some, Option.toList_none, List.cons_append, List.nil_append, kv_rv, kc1_i, kc1_r, kc1_n, n10, n01, n1514, n1213, n1312, if_true, if_false, not_true_eq_false, not_false_eq_true, and_self, true_and, and_true, false_and, and_false, or_true, true_or, or_false, false_or, Nat.reduceLeDiff, Nat.reduceLT, Nat.reduceEqDiff, Nat.reduceAdd, m_isFunction_c a1, f1, hp, m_isOp_cf a1 hK k1 hq ec hk8 hn.2.1 hn.2.2.1 hn.2.2.2.1 hn.2.2.2.2.2.1 x hx, s_8 a1]
        refine ⟨_, rfl, ?_⟩
        simp only [c_169, g_169_0, g_169_1, g_169_2, g_169_5, g_169_8, g_169_9, g_169_10, g_169_13, g_169_16, g_169_17, g_169_18, g_169_19, g_169_22, g_169_25, g_169_26, g_169_29, g_169_30, g_169_31, g_169_32, g_169_35, g_169_36, g_169_37, g_169_40, g_169_41, kv_w8_0, kv_w8_1, kv_w8_2, kv_w8_3, kv_w8_4, Nat.not_lt_zero, Bool.false_eq_true, Option.toList_some, Option.toList_none, List.cons_append, List.nil_append, kv_rv, kc1_i, kc1_r, kc1_n, n10, n01, n1514, n1213, n1312, if_true, if_false, not_true_eq_false, not_false_eq_true, and_self, true_and, and_true, false_and, and_false, or_true, true_or, or_false, false_or, Nat.reduceLeDiff, Nat.reduceLT, Nat.reduceEqDiff, Nat.reduceAdd, m_isFunction_m a1, m_isNet_m a1, f2, k2, hp, hq, m_isOp_mf a1 hq.1 ec hk8 hn.2.1 hn.2.2.1 hn.2.2.2.2.1 hn.2.2.2.2.2.2.1 x hx, s_149 a1]
        exact h
    · simp only [c_32, g_32_0, g_32_1, g_32_2, g_32_5, g_32_8, g_32_9, g_32_10, g_32_11, g_32_14, g_32_17, g_32_18, g_32_21, g_32_22, g_32_23, g_32_26, g_32_27, g_32_30, g_32_31, g_32_32, g_32_35, g_32_38, g_32_39, kv_w8_0, kv_w8_1, kv_w8_2, kv_w8_3, kv_w8_4, Nat.not_lt_zero, Bool.false_eq_true, Option.toList_some, Option.toList_none, List.cons_append, List.nil_append, kv_rv, kc1_i, kc1_r, kc1_n, n10, n01, n1514, n1213, n1312, if_true, if_false, not_true_eq_false, not_false_eq_true, and_self, true_and, and_true, false_and, and_false, or_true, true_or, or_false, false_or, Nat.reduceLeDiff, Nat.reduceLT, Nat.reduceEqDiff, Nat.reduceAdd, m_isFunction_c a1, f1, hp, m_isOp_cn a1 k1 hq, s_8 a1]
      refine ⟨_, rfl, ?_⟩
      simp only [c_169, g_169_0, g_169_1, g_169_2, g_169_5, g_169_8, g_169_9, g_169_10, g_169_13, g_169_16, g_169_17, g_169_18, g_169_19, g_169_22, g_169_25, g_169_26, g_169_29, g_169_30, g_169_31, g_169_32, g_169_35, g_169_36, g_169_37, g_169_40, g_169_41, kv_w8_0, kv_w8_1, kv_w8_2, kv_w8_3, kv_w8_4, Nat.not_lt_zero, Bool.false_eq_true, Option.toList_some, Option.toList_none, List.cons_append, List.nil_append, kv_rv, kc1_i, kc1_r, kc1_n, n10, n01, n1514, n1213, n1312, if_true, if_false, not_true_eq_false, not_false_eq_true, and_self, true_and, and_true, false_and, and_false, or_true, true_or, or_false, false_or, Nat.reduceLeDiff, Nat.reduceLT, Nat.reduceEqDiff, Nat.reduceAdd, m_isFunction_m a1, m_isNet_m a1, f2, k2, hp, hq, s_149 a1]
      exact h
  · simp only [c_32, g_32_0, g_32_1, g_32_2, g_32_5, g_32_8, g_32_9, g_32_10, g_32_11, g_32_14, g_32_17, g_32_18, g_32_21, g_32_22, g_32_23, g_32_26, g_32_27, g_32_30, g_32_31, g_32_32, g_32_35, g_32_38, g_32_39, kv_w8_0, kv_w8_1, kv_w8_2, kv_w8_3, kv_w8_4, Nat.not_lt_zero, Bool.false_eq_true, Option.toList_some, Option.toList_none, List.cons_append, List.nil_append, kv_rv, kc1_i, kc1_r, kc1_n, n10, n01, n1514, n1213, n1312, if_true, if_false, not_true_eq_false, not_false_eq_true, and_self, true_and, and_true, false_and, and_false, or_true, true_or, or_false, false_or, Nat.reduceLeDiff, Nat.reduceLT, Nat.reduceEqDiff, Nat.reduceAdd, m_isFunction_c a1, f1, hp, s_8 a1]
    refine ⟨_, rfl, ?_⟩
    simp only [c_169, g_169_0, g_169_1, g_169_2, g_169_5, g_169_8, g_169_9, g_169_10, g_169_13, g_169_16, g_169_17, g_169_18, g_169_19, g_169_22, g_169_25, g_169_26, g_169_29, g_169_30, g_169_31, g_169_32, g_169_35, g_169_36, g_169_37, g_169_40, g_169_41, kv_w8_0, kv_w8_1, kv_w8_2, kv_w8_3, kv_w8_4, Nat.not_lt_zero, Bool.false_eq_true, Option.toList_some, Option.toList_none, List.cons_append, List.nil_append, kv_rv, kc1_i, kc1_r, kc1_n, n10, n01, n1514, n1213, n1312, if_true, if_false, not_true_eq_false, not_false_eq_true, and_self, true_and, and_true, false_and, and_false, or_true, true_or, or_false, false_or, Nat.reduceLeDiff, Nat.reduceLT, Nat.reduceEqDiff, Nat.reduceAdd, m_isFunction_m a1, f2, hp, s_149 a1]
    exact h

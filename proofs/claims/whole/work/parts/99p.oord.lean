/-! ===== promise 15: order ===== -/
theorem i32_m1 (x : Int32) : x + -1 = x - 1 := (Int32.sub_eq_add_neg x 1).symm
section GP
variable {d : Nat} {σ : kv_S} {Φ : Option Value → kv_S → Prop} {B : Nat → Bool} {w : Nat}
theorem unt_pos {t w : Nat} (ht : t < 2 ^ w - 1) : 0 < cnt (unt t) w := by
  refine Nat.pos_of_ne_zero fun h => ?_
  have h0 : ∀ r, r < w → t.testBit r = true := fun r hr => by
    cases c : t.testBit r with
    | true => rfl
    | false =>
      have := cnt_lt_of (f := unt t) hr (by unfold unt; rw [c]; rfl)
      omega
  have e : t = 2 ^ w - 1 := by
    refine Nat.eq_of_testBit_eq fun r => ?_
    rw [Nat.testBit_two_pow_sub_one]
    by_cases hr : r < w
    · rw [h0 r hr, decide_eq_true hr]
    · rw [decide_eq_false hr]
      exact Nat.testBit_lt_two_pow (Nat.lt_of_lt_of_le (show t < 2 ^ w by omega) (Nat.pow_le_pow_right (by decide) (by omega)))
  omega
theorem unt_all (w : Nat) : cnt (unt (2 ^ w - 1)) w = 0 := cnt_false w (fun r hr => by unfold unt; rw [Nat.testBit_two_pow_sub_one, decide_eq_true hr]; rfl)
theorem so_l1 (js : JS σ) (hK : JK σ) (hB : ∀ r, 2 ^ w ≤ r → B r = false) (hw : w ≤ 6) {al : Int32} {v6 v7 v8 : Value} (H : ∀ τ, FR (fun b _ => b = 23 ∨ b = 24 ∨ b = 25) σ τ → (∀ u, u < 2 ^ w → fwK B w u τ) → ∀ v5 : Value, Wp (d + 3) 74 40 [.ref 22, .long (lw B), .null, .int (Int32.ofNat w), .int al, v5, v6, v7, v8] [] τ Φ) : ∀ n, n ≤ 2 ^ w - 1 → ∀ τ, FR (fun b _ => b = 23 ∨ b = 24 ∨ b = 25) σ τ → (∀ u, n ≤ u → u < 2 ^ w → fwK B w u τ) → Wp (d + 3) 74 21 [.ref 22, .long (lw B), .null, .int (Int32.ofNat w), .int al, .int (Int32.ofNat n - 1), v6, v7, v8] [] τ Φ
  | 0, hn, τ, fr, hI => by
    simp only [g_74_21, g_74_23, Nat.not_lt_zero, Bool.false_eq_true, Option.toList_some, Option.toList_none, List.cons_append, List.nil_append, kv_rv, kc1_i, kc1_r, kc1_n, n10, n01, n1514, n1213, n1312, if_true, if_false, not_true_eq_false, not_false_eq_true, and_self, true_and, and_true, false_and, and_false, or_true, true_or, or_false, false_or, Nat.reduceLeDiff, Nat.reduceLT, Nat.reduceEqDiff, Nat.reduceAdd, (show Int32.ofNat 0 - 1 < 0 by decide)]
    exact H τ fr (fun u hu => hI u (Nat.zero_le u) hu) _
  | n + 1, hn, τ, fr, hI => by
    have h6 := pow6 hw
    have js2 := fr.js js
    have hK2 := hK.fr fr (fun b i q => by omega)
    have e1 : Int32.ofNat (n + 1) - 1 = Int32.ofNat n := ari_sl (n := 1) (by omega)
    have hpos := unt_pos (t := n) (w := w) (by omega)
    rw [e1]
    simp only [g_74_21, g_74_23, g_74_26, g_74_27, g_74_28, g_74_29, g_74_31, kv_w8_0, kv_w8_1, kv_w8_2, kv_w8_3, kv_w8_4, ari_aa, ari_al, ari_la, ari_mm, ari_ml, ari_lm, ari_ltl, ari_llt, ari_lt, ari_le, ari_lel, ari_lle, ari_0, ari_eq, ari_eql, ari_leq, ari_cl, Nat.not_lt_zero, Bool.false_eq_true, Option.toList_some, Option.toList_none, List.cons_append, List.nil_append, kv_rv, kc1_i, kc1_r, kc1_n, n10, n01, n1514, n1213, n1312, if_true, if_false, not_true_eq_false, not_false_eq_true, and_self, true_and, and_true, false_and, and_false, or_true, true_or, or_false, false_or, Nat.reduceLeDiff, Nat.reduceLT, Nat.reduceEqDiff, Nat.reduceAdd, s_22 js2, r_8_4 js2, (show n < 64 by omega), (show n < 2147483648 by omega)]
    refine m_choose (m := cnt (unt n) w - 1) js2 hK2 hB hw (by omega) (by omega) (fun u h1 h2 => hI u (by omega) h2) (fun υ fr2 hf => ?_)
    simp only [g_74_34, g_74_37, Nat.not_lt_zero, Bool.false_eq_true, Option.toList_some, Option.toList_none, List.cons_append, List.nil_append, kv_rv, kc1_i, kc1_r, kc1_n, n10, n01, n1514, n1213, n1312, if_true, if_false, not_true_eq_false, not_false_eq_true, and_self, true_and, and_true, false_and, and_false, or_true, true_or, or_false, false_or, Nat.reduceLeDiff, Nat.reduceLT, Nat.reduceEqDiff, Nat.reduceAdd, i32_m1]
    refine so_l1 js hK hB hw H n (by omega) υ (fr.tr (fr2.mono (fun b k q => by omega))) (fun u h1 h2 => ?_)
    by_cases c : u = n
    · rw [c]; exact hf
    · have h3 := hI u (by omega) h2
      unfold fwK at h3 ⊢
      rw [fr2.i (b := 24) (k := u) (by omega), fr2.i (b := 25) (k := u) (by omega)]
      exact h3
theorem so_l2 (js : JS σ) (hK : JK σ) (hw : w ≤ 6) {al : Int32} {C : Nat} (hk : ∀ u, u < 2 ^ w → fwK B w u σ) (H : Φ (some (.int (Int32.ofNat C))) σ) : ∀ m k, k + m = w → ∀ t n, t < 2 ^ w → cnt (unt t) w = m → n + bo (nd B w) m t = C → ∀ v8 : Value, Wp (d + 2) 74 49 [.ref 22, .long (lw B), .null, .int (Int32.ofNat w), .int al, .int (Int32.ofNat n), .int (Int32.ofNat t), .int (Int32.ofNat k), v8] [] σ Φ
  | 0, k, e, t, n, ht, hc, hC, v8 => by
    have e2 : k = w := by omega
    subst e2
    simp only [g_74_49, g_74_51, g_74_52, g_74_102, g_74_104, ari_aa, ari_al, ari_la, ari_mm, ari_ml, ari_lm, ari_ltl, ari_llt, ari_lt, ari_le, ari_lel, ari_lle, ari_0, ari_eq, ari_eql, ari_leq, ari_cl, Nat.not_lt_zero, Bool.false_eq_true, Option.toList_some, Option.toList_none, List.cons_append, List.nil_append, kv_rv, kc1_i, kc1_r, kc1_n, n10, n01, n1514, n1213, n1312, if_true, if_false, not_true_eq_false, not_false_eq_true, and_self, true_and, and_true, false_and, and_false, or_true, true_or, or_false, false_or, Nat.reduceLeDiff, Nat.reduceLT, Nat.reduceEqDiff, Nat.reduceAdd, (show k < 7 by omega), (show k < 2147483648 by omega), (show k ≤ k by omega)]
    rw [show n = C from hC]
    exact H
  | m + 1, k, e, t, n, ht, hc, hC, v8 => by
    have h6 := pow6 hw
    have l0 : kv_i σ 4 m = Int32.ofNat (fac m) := (hK.2.2.2.2.2.2.2 4 m (by decide) (by decide)).trans (fac_k m (by omega)).1
    obtain ⟨a, b, c⟩ := nu_spec (t := t) (q := am (gq (nd B w) m t) m) (w := w) (by omega) (by have := (am_ok (gq (nd B w) m t) m).1; omega)
    have hc2 := cnt_unt a b
    have e1 : Int32.ofNat w - 1 = Int32.ofNat (w - 1) := ari_sl (n := 1) (by omega)
    have e2 : Int32.ofNat (w - 1) - Int32.ofNat k = Int32.ofNat m := by rw [ari_ss (by omega), show w - 1 - k = m by omega]
    have hf := (hk t ht).2 (by omega)
    rw [hc, show m + 1 - 1 = m by omega] at hf
    have hor : t ||| 2 ^ nu t (am (gq (nd B w) m t) m) < 2 ^ w := Nat.or_lt_two_pow ht (Nat.pow_lt_pow_right (by decide) a)
    have hb2 : n + am (gq (nd B w) m t) m * fac m + bo (nd B w) m (t ||| 2 ^ nu t (am (gq (nd B w) m t) m)) = C := by
      rw [← hC]
      show _ = n + (am (gq (nd B w) m t) m * fac m + bo (nd B w) m (t ||| 2 ^ nu t (am (gq (nd B w) m t) m)))
      omega
    simp only [g_74_49, g_74_51, g_74_52, ari_aa, ari_al, ari_la, ari_mm, ari_ml, ari_lm, ari_ltl, ari_llt, ari_lt, ari_le, ari_lel, ari_lle, ari_0, ari_eq, ari_eql, ari_leq, ari_cl, Nat.not_lt_zero, Bool.false_eq_true, Option.toList_some, Option.toList_none, List.cons_append, List.nil_append, kv_rv, kc1_i, kc1_r, kc1_n, n10, n01, n1514, n1213, n1312, if_true, if_false, not_true_eq_false, not_false_eq_true, and_self, true_and, and_true, false_and, and_false, or_true, true_or, or_false, false_or, Nat.reduceLeDiff, Nat.reduceLT, Nat.reduceEqDiff, Nat.reduceAdd, (show k < 7 by omega), (show k < 2147483648 by omega), (show w < 7 by omega), (show w < 2147483648 by omega), (show ¬ w ≤ k by omega)]
    simp only [g_74_55, g_74_56, g_74_59, g_74_61, g_74_62, g_74_64, g_74_66, g_74_68, g_74_70, g_74_73, g_74_76, g_74_77, g_74_78, g_74_79, g_74_81, g_74_82, g_74_83, g_74_84, g_74_85, g_74_87, g_74_89, g_74_90, g_74_92, g_74_93, g_74_94, g_74_96, g_74_99, kv_w8_0, kv_w8_1, kv_w8_2, kv_w8_3, kv_w8_4, ari_aa, ari_al, ari_la, ari_mm, ari_ml, ari_lm, ari_ltl, ari_llt, ari_lt, ari_le, ari_lel, ari_lle, ari_0, ari_eq, ari_eql, ari_leq, ari_cl, Nat.not_lt_zero, Bool.false_eq_true, Option.toList_some, Option.toList_none, List.cons_append, List.nil_append, kv_rv, kc1_i, kc1_r, kc1_n, n10, n01, n1514, n1213, n1312, if_true, if_false, not_true_eq_false, not_false_eq_true, and_self, true_and, and_true, false_and, and_false, or_true, true_or, or_false, false_or, Nat.reduceLeDiff, Nat.reduceLT, Nat.reduceEqDiff, Nat.reduceAdd, e1, e2, l0, hf, hK.2.2.2.2.1, m_lesser (show t < 64 by omega) (show nu t (am (gq (nd B w) m t) m) < 7 by omega), c, ari_31 (show nu t (am (gq (nd B w) m t) m) < 32 by omega), ari_1shl _ (show nu t (am (gq (nd B w) m t) m) < 31 by omega), ari_or, s_22 js, r_8_4 js, s_25 js, r_22_2 js, (show m < 7 by omega), (show m < 2147483648 by omega), (show t < 64 by omega), (show t < 2147483648 by omega)]
    exact so_l2 js hK hw hk H m (k + 1) (by omega) _ _ hor (by omega) hb2 _
theorem m_smallest (js : JS σ) (hK : JK σ) (hB : ∀ r, 2 ^ w ≤ r → B r = false) (hw : w ≤ 6) (hw1 : 1 ≤ w) (H : ∀ τ, FR (fun b _ => b = 23 ∨ b = 24 ∨ b = 25) σ τ → Φ (some (.int (Int32.ofNat (bo (nd B w) w 0)))) τ) : Wc (d + 3) 74 [.ref 22, .long (lw B), .int (Int32.ofNat w)] σ Φ := by
  have h6 := pow6 hw
  have h2 : 2 ≤ 2 ^ w := by
    have := Nat.pow_le_pow_right (n := 2) (by decide) hw1
    omega
  have e1 : Int32.ofNat (2 ^ w) - 1 = Int32.ofNat (2 ^ w - 1) := ari_sl (n := 1) (by omega)
  simp only [c_74, g_74_0, g_74_1, g_74_2, g_74_3, g_74_4, g_74_5, g_74_7, g_74_8, g_74_11, g_74_13, g_74_14, g_74_15, g_74_17, g_74_18, g_74_19, ari_aa, ari_al, ari_la, ari_mm, ari_ml, ari_lm, ari_ltl, ari_llt, ari_lt, ari_le, ari_lel, ari_lle, ari_0, ari_eq, ari_eql, ari_leq, ari_cl, Nat.not_lt_zero, Bool.false_eq_true, Option.toList_some, Option.toList_none, List.cons_append, List.nil_append, kv_rv, kc1_i, kc1_r, kc1_n, n10, n01, n1514, n1213, n1312, if_true, if_false, not_true_eq_false, not_false_eq_true, and_self, true_and, and_true, false_and, and_false, or_true, true_or, or_false, false_or, Nat.reduceLeDiff, Nat.reduceLT, Nat.reduceEqDiff, Nat.reduceAdd, pow_k hw, e1, s_22 js, r_8_4 js, s_24 js, r_22_1 js, (show 2 ^ w - 1 < 64 by omega), (show 2 ^ w - 1 < 2147483648 by omega)]
  refine so_l1 js hK hB hw (fun τ fr hk v5 => ?_) (2 ^ w - 1) (Nat.le_refl _) _ ((FR.rf _ σ).si (Or.inr (Or.inl rfl))) (fun u h3 h4 => ?_)
  · have js2 := fr.js js
    have hK2 := hK.fr fr (fun b i q => by omega)
    simp only [g_74_40, g_74_41, g_74_43, g_74_44, g_74_46, g_74_47, Nat.not_lt_zero, Bool.false_eq_true, Option.toList_some, Option.toList_none, List.cons_append, List.nil_append, kv_rv, kc1_i, kc1_r, kc1_n, n10, n01, n1514, n1213, n1312, if_true, if_false, not_true_eq_false, not_false_eq_true, and_self, true_and, and_true, false_and, and_false, or_true, true_or, or_false, false_or, Nat.reduceLeDiff, Nat.reduceLT, Nat.reduceEqDiff, Nat.reduceAdd]
    exact so_l2 js2 hK2 hw hk (H τ fr) w 0 (by omega) 0 0 (by omega) (cnt_unt0 w) (by omega) _
  · have e3 : u = 2 ^ w - 1 := by omega
    unfold fwK
    rw [e3, unt_all, i_si, if_pos ⟨rfl, rfl⟩]
    exact ⟨rfl, fun q => absurd q (Nat.lt_irrefl 0)⟩
theorem or_loop (js : JS σ) {f : Nat} (hf : f < 16) (hF : JF1' σ f w) (hw : w ≤ 6) (H : ∀ τ, FR (fun b _ => b = 165 ∨ b = 166 ∨ b = 167) σ τ → Φ (some (.int (Int32.ofNat (am (cost (nd (gB σ f w) w) w 0) (fac w - 1))))) τ) : ∀ m k, k + m = fac w → ∀ τ, FR (fun b _ => b = 165 ∨ b = 166 ∨ b = 167) σ τ → ∀ le at0 : Nat, le ≤ 1000 → (k = 0 → le = 1000) → (∀ c, k = c + 1 → le = cost (nd (gB σ f w) w) w 0 (am (cost (nd (gB σ f w) w) w 0) c) ∧ at0 = am (cost (nd (gB σ f w) w) w 0) c) → ∀ v5 : Value, Wp (d + 4) 153 33 [.ref 149, .int (Int32.ofNat f), .int (Int32.ofNat le), .int (Int32.ofNat at0), .int (Int32.ofNat k), v5] [] τ Φ
  | 0, k, e, τ, fr, le, at0, hle, h0, h1, v5 => by
    have js2 := fr.js js
    have f0 := fac_pos w
    have f7 := (fac_k w (by omega)).2
    have hF2 : JF1' τ f w := hF.fr fr (fun b i q => by omega) hf
    have ew := hF2.2.2.2.1
    have e2 : k = fac w := by omega
    have z := (h1 (fac w - 1) (by omega)).2
    rw [z]
    simp only [g_153_33, g_153_35, g_153_36, g_153_39, g_153_40, g_153_41, g_153_44, g_153_87, g_153_88, kv_w8_0, kv_w8_1, kv_w8_2, kv_w8_3, kv_w8_4, ari_aa, ari_al, ari_la, ari_mm, ari_ml, ari_lm, ari_ltl, ari_llt, ari_lt, ari_le, ari_lel, ari_lle, ari_0, ari_eq, ari_eql, ari_leq, ari_cl, Nat.not_lt_zero, Bool.false_eq_true, Option.toList_some, Option.toList_none, List.cons_append, List.nil_append, kv_rv, kc1_i, kc1_r, kc1_n, n10, n01, n1514, n1213, n1312, if_true, if_false, not_true_eq_false, not_false_eq_true, and_self, true_and, and_true, false_and, and_false, or_true, true_or, or_false, false_or, Nat.reduceLeDiff, Nat.reduceLT, Nat.reduceEqDiff, Nat.reduceAdd, ew, m_ways hw, s_149 js2, s_150 js2, r_149_2 js2, (show f < 16 by omega), (show f < 2147483648 by omega), (show k < 721 by omega), (show k < 2147483648 by omega), (show fac w < 721 by omega), (show fac w < 2147483648 by omega), (show fac w ≤ k by omega)]
    exact H τ fr
  | m + 1, k, e, τ, fr, le, at0, hle, h0, h1, v5 => by
    have js2 := fr.js js
    have f0 := fac_pos w
    have f7 := (fac_k w (by omega)).2
    have hF2 : JF1' τ f w := hF.fr fr (fun b i q => by omega) hf
    have ew := hF2.2.2.2.1
    simp only [g_153_33, g_153_35, g_153_36, g_153_39, g_153_40, g_153_41, g_153_44, kv_w8_0, kv_w8_1, kv_w8_2, kv_w8_3, kv_w8_4, ari_aa, ari_al, ari_la, ari_mm, ari_ml, ari_lm, ari_ltl, ari_llt, ari_lt, ari_le, ari_lel, ari_lle, ari_0, ari_eq, ari_eql, ari_leq, ari_cl, Nat.not_lt_zero, Bool.false_eq_true, Option.toList_some, Option.toList_none, List.cons_append, List.nil_append, kv_rv, kc1_i, kc1_r, kc1_n, n10, n01, n1514, n1213, n1312, if_true, if_false, not_true_eq_false, not_false_eq_true, and_self, true_and, and_true, false_and, and_false, or_true, true_or, or_false, false_or, Nat.reduceLeDiff, Nat.reduceLT, Nat.reduceEqDiff, Nat.reduceAdd, ew, m_ways hw, s_149 js2, s_150 js2, r_149_2 js2, (show f < 16 by omega), (show f < 2147483648 by omega), (show k < 721 by omega), (show k < 2147483648 by omega), (show fac w < 721 by omega), (show fac w < 2147483648 by omega), (show ¬ fac w ≤ k by omega)]
    simp only [g_153_47, g_153_48, g_153_49, g_153_52, g_153_53, g_153_54, g_153_56, kv_w8_0, kv_w8_1, kv_w8_2, kv_w8_3, kv_w8_4, ari_aa, ari_al, ari_la, ari_mm, ari_ml, ari_lm, ari_ltl, ari_llt, ari_lt, ari_le, ari_lel, ari_lle, ari_0, ari_eq, ari_eql, ari_leq, ari_cl, Nat.not_lt_zero, Bool.false_eq_true, Option.toList_some, Option.toList_none, List.cons_append, List.nil_append, kv_rv, kc1_i, kc1_r, kc1_n, n10, n01, n1514, n1213, n1312, if_true, if_false, not_true_eq_false, not_false_eq_true, and_self, true_and, and_true, false_and, and_false, or_true, true_or, or_false, false_or, Nat.reduceLeDiff, Nat.reduceLT, Nat.reduceEqDiff, Nat.reduceAdd, ew, s_149 js2, s_150 js2, r_149_2 js2, (show f < 16 by omega), (show f < 2147483648 by omega)]
    refine m_layOrder js2 hw (show k < fac w by omega) (fun υ fr2 hO => ?_)
    have fr3 : FR (fun b _ => b = 165 ∨ b = 166 ∨ b = 167) σ υ := fr.tr (fr2.mono (fun b i q => by omega))
    have js3 := fr3.js js
    have hF3 : JF1' υ f w := hF.fr fr3 (fun b i q => by omega) hf
    simp only [g_153_59, g_153_60, g_153_61, kv_w8_0, kv_w8_1, kv_w8_2, kv_w8_3, kv_w8_4, Nat.not_lt_zero, Bool.false_eq_true, Option.toList_some, Option.toList_none, List.cons_append, List.nil_append, kv_rv, kc1_i, kc1_r, kc1_n, n10, n01, n1514, n1213, n1312, if_true, if_false, not_true_eq_false, not_false_eq_true, and_self, true_and, and_true, false_and, and_false, or_true, true_or, or_false, false_or, Nat.reduceLeDiff, Nat.reduceLT, Nat.reduceEqDiff, Nat.reduceAdd, s_149 js3]
    refine m_nodes js3 hf hF3 hw (ol_PO hw (show k < fac w by omega)) hO (fun ρ fr4 => ?_)
    have fr5 : FR (fun b _ => b = 165 ∨ b = 166 ∨ b = 167) σ ρ := fr3.tr (fr4.mono (fun b i q => by omega))
    have eB : gB υ f w = gB σ f w := by funext r; unfold gB; rw [hld_fr fr3 (fun b j q => by omega)]
    rw [eB, ← cost_sm]
    have hcl := cost_le (nd_le (gB σ f w) hw) w 0 k
    by_cases c : cost (nd (gB σ f w) w) w 0 k < le
    · simp only [g_153_64, g_153_66, g_153_68, g_153_69, g_153_75, g_153_77, g_153_78, g_153_80, g_153_81, g_153_84, ari_aa, ari_al, ari_la, ari_mm, ari_ml, ari_lm, ari_ltl, ari_llt, ari_lt, ari_le, ari_lel, ari_lle, ari_0, ari_eq, ari_eql, ari_leq, ari_cl, Nat.not_lt_zero, Bool.false_eq_true, Option.toList_some, Option.toList_none, List.cons_append, List.nil_append, kv_rv, kc1_i, kc1_r, kc1_n, n10, n01, n1514, n1213, n1312, if_true, if_false, not_true_eq_false, not_false_eq_true, and_self, true_and, and_true, false_and, and_false, or_true, true_or, or_false, false_or, Nat.reduceLeDiff, Nat.reduceLT, Nat.reduceEqDiff, Nat.reduceAdd, c, (show cost (nd (gB σ f w) w) w 0 k < 1000 by omega), (show cost (nd (gB σ f w) w) w 0 k < 2147483648 by omega), (show le < 1001 by omega), (show le < 2147483648 by omega)]
      refine or_loop js hf hF hw H m (k + 1) (by omega) ρ fr5 _ _ (by omega) (fun q => absurd q (Nat.succ_ne_zero _)) (fun c' q => ?_) _
      have q : k = c' := Nat.succ.inj q
      have ea : am (cost (nd (gB σ f w) w) w 0) c' = k := by
        rw [← q]
        cases k with
        | zero => rfl
        | succ k =>
          have z := (h1 k rfl).1
          show (if _ then _ else _) = _
          rw [if_pos (by rw [← z]; exact c)]
      rw [ea]
      exact ⟨rfl, rfl⟩
    · simp only [g_153_64, g_153_66, g_153_68, g_153_69, g_153_72, g_153_81, g_153_84, ari_aa, ari_al, ari_la, ari_mm, ari_ml, ari_lm, ari_ltl, ari_llt, ari_lt, ari_le, ari_lel, ari_lle, ari_0, ari_eq, ari_eql, ari_leq, ari_cl, Nat.not_lt_zero, Bool.false_eq_true, Option.toList_some, Option.toList_none, List.cons_append, List.nil_append, kv_rv, kc1_i, kc1_r, kc1_n, n10, n01, n1514, n1213, n1312, if_true, if_false, not_true_eq_false, not_false_eq_true, and_self, true_and, and_true, false_and, and_false, or_true, true_or, or_false, false_or, Nat.reduceLeDiff, Nat.reduceLT, Nat.reduceEqDiff, Nat.reduceAdd, c, (show cost (nd (gB σ f w) w) w 0 k < 1000 by omega), (show cost (nd (gB σ f w) w) w 0 k < 2147483648 by omega), (show le < 1001 by omega), (show le < 2147483648 by omega)]
      refine or_loop js hf hF hw H m (k + 1) (by omega) ρ fr5 _ _ hle (fun q => absurd q (Nat.succ_ne_zero _)) (fun c' q => ?_) _
      have q : k = c' := Nat.succ.inj q
      rw [← q]
      cases k with
      | zero =>
        have := h0 rfl
        omega
      | succ k =>
        obtain ⟨z1, z2⟩ := h1 k rfl
        have ea : am (cost (nd (gB σ f w) w) w 0) (k + 1) = am (cost (nd (gB σ f w) w) w 0) k := by
          show (if _ then _ else _) = _
          rw [if_neg (by rw [← z1]; exact c)]
        rw [ea]
        exact ⟨z1, z2⟩
end GP
theorem o_13 (d : Nat) : ob_13 JJ (d + 4) := by
  intro σ h p
  have h' := h
  obtain ⟨a1, a2, a3, ⟨F, hF, f1, f2, f3⟩, a5, a6, a7⟩ := h'
  by_cases hp : ¬ p < 0 ∧ p < Int32.ofNat F
  · obtain ⟨f, hf, rfl, ec⟩ := i32_nat (by omega) hp.1 hp.2
    obtain ⟨w, hj⟩ := f3 f hf
    have hj : JF1' σ f w := hj
    have hf16 : f < 16 := by omega
    have ew := hj.2.2.1
    have ew2 := hj.2.2.2.1
    have hw8 := hj.2.1
    by_cases hw : w ≤ 6
    · simp only [c_73, g_73_0, g_73_1, g_73_2, g_73_5, g_73_8, g_73_9, g_73_10, g_73_11, g_73_14, g_73_15, g_73_16, g_73_19, g_73_21, g_73_24, g_73_26, g_73_27, g_73_28, g_73_31, g_73_32, g_73_35, g_73_36, g_73_37, g_73_40, g_73_41, g_73_44, g_73_45, g_73_46, g_73_49, kv_w8_0, kv_w8_1, kv_w8_2, kv_w8_3, kv_w8_4, ari_aa, ari_al, ari_la, ari_mm, ari_ml, ari_lm, ari_ltl, ari_llt, ari_lt, ari_le, ari_lel, ari_lle, ari_0, ari_eq, ari_eql, ari_leq, ari_cl, Nat.not_lt_zero, Bool.false_eq_true, Option.toList_some, Option.toList_none, List.cons_append, List.nil_append, kv_rv, kc1_i, kc1_r, kc1_n, n10, n01, n1514, n1213, n1312, if_true, if_false, not_true_eq_false, not_false_eq_true, and_self, true_and, and_true, false_and, and_false, or_true, true_or, or_false, false_or, Nat.reduceLeDiff, Nat.reduceLT, Nat.reduceEqDiff, Nat.reduceAdd, m_isFunction_c a1, f1, sT a1 hf16, rT a1 hf16, ew, hw, m_firstOnes a1 hf16 hj hw, s_8 a1, s_9 a1, r_8_0 a1, s_22 a1, r_8_4 a1, (show f < 16 by omega), (show f < 2147483648 by omega), (show f < F by omega), (show f < 2147483648 by omega), (show F < 17 by omega), (show F < 2147483648 by omega), (show w < 7 by omega), (show w < 2147483648 by omega)]
      refine m_smallest a1 a2 (fun r hr => gB_big hr) hw hj.1 (fun τ fr => ?_)
      have js := fr.js a1
      have h2 := JJ.fr (fr.sc (fun b i q => by unfold SC kv_ess; omega)) h
      have hj2 : JF1' τ f w := hj.fr fr (fun b i q => by omega) hf16
      have ew3 := hj2.2.2.2.1
      have g1 : kv_i τ 149 1 = Int32.ofNat F := by rw [fr.i (by omega)]; exact f2
      have eB : gB τ f w = gB σ f w := by funext r; unfold gB; rw [hld_fr fr (fun b j q => by omega)]
      simp only [g_73_52, Nat.not_lt_zero, Bool.false_eq_true, Option.toList_some, Option.toList_none, List.cons_append, List.nil_append, kv_rv, kc1_i, kc1_r, kc1_n, n10, n01, n1514, n1213, n1312, if_true, if_false, not_true_eq_false, not_false_eq_true, and_self, true_and, and_true, false_and, and_false, or_true, true_or, or_false, false_or, Nat.reduceLeDiff, Nat.reduceLT, Nat.reduceEqDiff, Nat.reduceAdd]
      refine ⟨_, rfl, ?_⟩
      simp only [c_153, g_153_0, g_153_1, g_153_2, g_153_5, g_153_8, g_153_9, g_153_10, g_153_11, g_153_14, g_153_15, g_153_16, g_153_18, g_153_21, g_153_23, g_153_24, g_153_27, g_153_28, g_153_29, g_153_30, g_153_31, kv_w8_0, kv_w8_1, kv_w8_2, kv_w8_3, kv_w8_4, ari_aa, ari_al, ari_la, ari_mm, ari_ml, ari_lm, ari_ltl, ari_llt, ari_lt, ari_le, ari_lel, ari_lle, ari_0, ari_eq, ari_eql, ari_leq, ari_cl, Nat.not_lt_zero, Bool.false_eq_true, Option.toList_some, Option.toList_none, List.cons_append, List.nil_append, kv_rv, kc1_i, kc1_r, kc1_n, n10, n01, n1514, n1213, n1312, if_true, if_false, not_true_eq_false, not_false_eq_true, and_self, true_and, and_true, false_and, and_false, or_true, true_or, or_false, false_or, Nat.reduceLeDiff, Nat.reduceLT, Nat.reduceEqDiff, Nat.reduceAdd, m_isFunction_m js, g1, ew3, hw, s_149 js, s_150 js, r_149_2 js, (show f < 16 by omega), (show f < 2147483648 by omega), (show f < F by omega), (show f < 2147483648 by omega), (show F < 17 by omega), (show F < 2147483648 by omega), (show w < 7 by omega), (show w < 2147483648 by omega)]
      refine or_loop (d := d) js hf16 hj2 hw (fun υ fr2 => ?_) (fac w) 0 (by omega) τ (FR.rf _ τ) 1000 0 (Nat.le_refl _) (fun _ => rfl) (fun c q => absurd q.symm (Nat.succ_ne_zero _)) _
      rw [eB, bo_am]
      exact ⟨rfl, JJ.fr (fr2.sc (fun b i q => by unfold SC kv_ess; omega)) h2⟩
    · simp only [c_73, g_73_0, g_73_1, g_73_2, g_73_5, g_73_8, g_73_9, g_73_10, g_73_11, g_73_14, g_73_15, g_73_16, g_73_19, g_73_21, g_73_24, g_73_26, kv_w8_0, kv_w8_1, kv_w8_2, kv_w8_3, kv_w8_4, ari_aa, ari_al, ari_la, ari_mm, ari_ml, ari_lm, ari_ltl, ari_llt, ari_lt, ari_le, ari_lel, ari_lle, ari_0, ari_eq, ari_eql, ari_leq, ari_cl, Nat.not_lt_zero, Bool.false_eq_true, Option.toList_some, Option.toList_none, List.cons_append, List.nil_append, kv_rv, kc1_i, kc1_r, kc1_n, n10, n01, n1514, n1213, n1312, if_true, if_false, not_true_eq_false, not_false_eq_true, and_self, true_and, and_true, false_and, and_false, or_true, true_or, or_false, false_or, Nat.reduceLeDiff, Nat.reduceLT, Nat.reduceEqDiff, Nat.reduceAdd, m_isFunction_c a1, f1, sT a1 hf16, rT a1 hf16, ew, hw, s_8 a1, s_9 a1, r_8_0 a1, (show f < 16 by omega), (show f < 2147483648 by omega), (show f < F by omega), (show f < 2147483648 by omega), (show F < 17 by omega), (show F < 2147483648 by omega), (show w < 9 by omega), (show w < 2147483648 by omega)]
      refine ⟨_, rfl, ?_⟩
      simp only [c_153, g_153_0, g_153_1, g_153_2, g_153_5, g_153_8, g_153_9, g_153_10, g_153_11, g_153_14, g_153_15, g_153_16, g_153_18, g_153_21, g_153_23, kv_w8_0, kv_w8_1, kv_w8_2, kv_w8_3, kv_w8_4, ari_aa, ari_al, ari_la, ari_mm, ari_ml, ari_lm, ari_ltl, ari_llt, ari_lt, ari_le, ari_lel, ari_lle, ari_0, ari_eq, ari_eql, ari_leq, ari_cl, Nat.not_lt_zero, Bool.false_eq_true, Option.toList_some, Option.toList_none, List.cons_append, List.nil_append, kv_rv, kc1_i, kc1_r, kc1_n, n10, n01, n1514, n1213, n1312, if_true, if_false, not_true_eq_false, not_false_eq_true, and_self, true_and, and_true, false_and, and_false, or_true, true_or, or_false, false_or, Nat.reduceLeDiff, Nat.reduceLT, Nat.reduceEqDiff, Nat.reduceAdd, m_isFunction_m a1, f2, ew2, hw, s_149 a1, s_150 a1, r_149_2 a1, (show f < 16 by omega), (show f < 2147483648 by omega), (show f < F by omega), (show f < 2147483648 by omega), (show F < 17 by omega), (show F < 2147483648 by omega), (show w < 9 by omega), (show w < 2147483648 by omega)]
      exact h
  · simp only [c_73, g_73_0, g_73_1, g_73_2, g_73_5, g_73_8, g_73_9, kv_w8_0, kv_w8_1, kv_w8_2, kv_w8_3, kv_w8_4, Nat.not_lt_zero, Bool.false_eq_true, Option.toList_some, Option.toList_none, List.cons_append, List.nil_append, kv_rv, kc1_i, kc1_r, kc1_n, n10, n01, n1514, n1213, n1312, if_true, if_false, not_true_eq_false, not_false_eq_true, and_self, true_and, and_true, false_and, and_false, or_true, true_or, or_false, false_or, Nat.reduceLeDiff, Nat.reduceLT, Nat.reduceEqDiff, Nat.reduceAdd, m_isFunction_c a1, f1, hp, s_8 a1]
    refine ⟨_, rfl, ?_⟩
    simp only [c_153, g_153_0, g_153_1, g_153_2, g_153_5, g_153_8, g_153_9, kv_w8_0, kv_w8_1, kv_w8_2, kv_w8_3, kv_w8_4, Nat.not_lt_zero, Bool.false_eq_true, Option.toList_some, Option.toList_none, List.cons_append, List.nil_append, kv_rv, kc1_i, kc1_r, kc1_n, n10, n01, n1514, n1213, n1312, if_true, if_false, not_true_eq_false, not_false_eq_true, and_self, true_and, and_true, false_and, and_false, or_true, true_or, or_false, false_or, Nat.reduceLeDiff, Nat.reduceLT, Nat.reduceEqDiff, Nat.reduceAdd, m_isFunction_m a1, f2, hp, s_149 a1]
    exact h

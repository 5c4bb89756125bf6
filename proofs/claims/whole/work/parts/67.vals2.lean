section VC
variable {d : Nat} {Φ : Option Value → kv_S → Prop}
theorem vo_gate {σ : kv_S} {k w G g t row : Nat} (hn : JN1' σ k w G) (hg : g < G) : vo σ k G t row (Int32.ofNat (8 + g)) = ((tbN σ k g).testBit (nvb (vo σ k G t row (kv_i σ (103 + 6 * k) g)) (vo σ k G t row (kv_i σ (104 + 6 * k) g))) != decide (t = g)) := by
  have hG := hn.2.2.1
  have v := hn.xy g hg
  unfold vo
  rw [nvo_g _ _ (by omega)]
  exact nv_g hn.2.1 hG hg v.1 v.2
theorem wo_gate {σ0 : kv_S} (h : JS σ0) {k w G V j : Nat} (hk : k < 8) (hv : VV V) (hn : JN1' σ0 k w G) (hj : j < nwc w) (H : ∀ τ, woI σ0 k w G V j τ w G → Wp (d + 1) 36 172 [.ref V, .ref (101 + 6 * k), .int (Int32.ofNat j), .int (Int32.ofNat G)] [] τ Φ) : ∀ m g, g + m = G → ∀ τ, woI σ0 k w G V j τ w g → Wp (d + 1) 36 113 [.ref V, .ref (101 + 6 * k), .int (Int32.ofNat j), .int (Int32.ofNat g)] [] τ Φ
  | 0, g, e, τ, hI => by
    have e2 : g = G := by omega
    subst e2
    have hv2 : V = 26 ∨ V = 28 := hv
    have w2 := hn.2.2.1
    have e6 : kv_i τ (101 + 6 * k) 6 = Int32.ofNat g := by rw [hI.1.i (by omega)]; exact hn.2.2.2.2.2.1
    simp only [g_36_113, g_36_114, g_36_115, g_36_118, ari_aa, ari_al, ari_la, ari_mm, ari_ml, ari_lm, ari_ltl, ari_llt, ari_lt, ari_le, ari_lel, ari_lle, ari_0, ari_eq, ari_eql, ari_leq, ari_cl, Nat.not_lt_zero, Bool.false_eq_true, Option.toList_some, Option.toList_none, List.cons_append, List.nil_append, kv_rv, kc1_i, kc1_r, kc1_n, n10, n01, n1514, n1213, n1312, if_true, if_false, not_true_eq_false, not_false_eq_true, and_self, true_and, and_true, false_and, and_false, or_true, true_or, or_false, false_or, Nat.reduceLeDiff, Nat.reduceLT, Nat.reduceEqDiff, Nat.reduceAdd, nN (hI.1.js h) hk, e6, (show g < 41 by omega), (show g < 2147483648 by omega), (show g ≤ g by omega)]
    exact H τ hI
  | m + 1, g, e, τ, hI => by
    have hv2 : V = 26 ∨ V = 28 := hv
    have hG := hn.2.2.1
    have hj4 := (nw_4 w hn.2.1).1
    have js := hI.1.js h
    have e6 : kv_i τ (101 + 6 * k) 6 = Int32.ofNat G := by rw [hI.1.i (by omega)]; exact hn.2.2.2.2.2.1
    obtain ⟨⟨t, t1, t2, t3⟩, t4, t5, t6, t7, t8, t9⟩ := hn.2.2.2.2.2.2.2.1 g (by omega)
    have et : kv_i τ (102 + 6 * k) g = Int32.ofNat t := by rw [hI.1.i (by omega)]; exact t2
    have ex : kv_i τ (103 + 6 * k) g = kv_i σ0 (103 + 6 * k) g := hI.1.i (by omega)
    have ey : kv_i τ (104 + 6 * k) g = kv_i σ0 (104 + 6 * k) g := hI.1.i (by omega)
    have vx := t5.onn hn.2.1 (by omega)
    have vy := t7.onn hn.2.1 (by omega)
    have eo := onn_nat (8 + g)
    rw [show 8 + g + 2 = 10 + g by omega] at eo
    have etb : tbN σ0 k g = t := by unfold tbN; rw [t2, ari_cl (by omega)]
    simp only [g_36_113, g_36_114, g_36_115, g_36_118, ari_aa, ari_al, ari_la, ari_mm, ari_ml, ari_lm, ari_ltl, ari_llt, ari_lt, ari_le, ari_lel, ari_lle, ari_0, ari_eq, ari_eql, ari_leq, ari_cl, Nat.not_lt_zero, Bool.false_eq_true, Option.toList_some, Option.toList_none, List.cons_append, List.nil_append, kv_rv, kc1_i, kc1_r, kc1_n, n10, n01, n1514, n1213, n1312, if_true, if_false, not_true_eq_false, not_false_eq_true, and_self, true_and, and_true, false_and, and_false, or_true, true_or, or_false, false_or, Nat.reduceLeDiff, Nat.reduceLT, Nat.reduceEqDiff, Nat.reduceAdd, nN js hk, e6, (show g < 41 by omega), (show g < 2147483648 by omega), (show G < 41 by omega), (show G < 2147483648 by omega), (show ¬ G ≤ g by omega)]
    simp only [g_36_121, g_36_122, g_36_125, g_36_127, g_36_128, g_36_129, g_36_132, g_36_133, g_36_134, g_36_135, g_36_138, g_36_139, g_36_140, g_36_141, g_36_142, g_36_145, g_36_146, g_36_147, g_36_148, g_36_151, g_36_152, g_36_153, g_36_156, g_36_157, g_36_158, g_36_159, g_36_162, kv_w8_0, kv_w8_1, kv_w8_2, kv_w8_3, kv_w8_4, ari_aa, ari_al, ari_la, ari_mm, ari_ml, ari_lm, ari_ltl, ari_llt, ari_lt, ari_le, ari_lel, ari_lle, ari_0, ari_eq, ari_eql, ari_leq, ari_cl, Nat.not_lt_zero, Bool.false_eq_true, Option.toList_some, Option.toList_none, List.cons_append, List.nil_append, kv_rv, kc1_i, kc1_r, kc1_n, n10, n01, n1514, n1213, n1312, if_true, if_false, not_true_eq_false, not_false_eq_true, and_self, true_and, and_true, false_and, and_false, or_true, true_or, or_false, false_or, Nat.reduceLeDiff, Nat.reduceLT, Nat.reduceEqDiff, Nat.reduceAdd, sV js hv, rV js hv, nN js hk, nT js hk, qT js hk, nX js hk, qX js hk, nY js hk, qY js hk, m_start _ eo, m_word js hv vx.1 vx.2 (show j < 4 by omega), m_word js hv vy.1 vy.2 (show j < 4 by omega), et, ex, ey, (show g < 40 by omega), (show g < 2147483648 by omega)]
    refine m_gateWord t1 _ _ (fun z hz => ?_)
    simp only [g_36_165, g_36_166, g_36_169, kv_w8_0, kv_w8_1, kv_w8_2, kv_w8_3, kv_w8_4, ari_aa, ari_al, ari_la, ari_mm, ari_ml, ari_lm, ari_ltl, ari_llt, ari_lt, ari_le, ari_lel, ari_lle, ari_0, ari_eq, ari_eql, ari_leq, ari_cl, Nat.not_lt_zero, Bool.false_eq_true, Option.toList_some, Option.toList_none, List.cons_append, List.nil_append, kv_rv, kc1_i, kc1_r, kc1_n, n10, n01, n1514, n1213, n1312, if_true, if_false, not_true_eq_false, not_false_eq_true, and_self, true_and, and_true, false_and, and_false, or_true, true_or, or_false, false_or, Nat.reduceLeDiff, Nat.reduceLT, Nat.reduceEqDiff, Nat.reduceAdd, sW js hv, (show (10 + g) * 4 + j < 200 by omega), (show (10 + g) * 4 + j < 2147483648 by omega), (show 8 ≤ V + 1 by omega)]
    refine wo_gate h hk hv hn hj H m (g + 1) (by omega) _ ⟨hI.1.sl (Or.inl rfl), hI.2.1, fun x hx j' hj' => (hI.2.2.1 x hx j' hj').ne (by omega) (by omega) (by omega), fun x hx => ?_⟩
    by_cases e : x = Int32.ofNat (8 + g)
    · subst e
      refine okv.eq (onn_of eo (by omega)) (fun r hr => ?_)
      rw [hz r hr, vo_gate hn (by omega), etb, hI.2.2.2 _ t5 r hr, hI.2.2.2 _ t7 r hr, decide_eq_false (show ¬ 1000 = g by omega)]
      cases t.testBit _ <;> rfl
    · refine (hI.2.2.2 x ?_).ne (by omega) (by omega) ?_
      · rcases hx with q | q | q | ⟨i, hi, q⟩
        · exact Or.inl q
        · exact Or.inr (Or.inl q)
        · exact Or.inr (Or.inr (Or.inl q))
        · refine Or.inr (Or.inr (Or.inr ⟨i, ?_, q⟩))
          have : i ≠ g := fun e2 => e (by rw [q, e2])
          omega
      · intro q
        have hx2 := (hx.onn hn.2.1 (by omega)).1
        rw [q.1] at hx2
        exact e (onn_inj hx2 eo)
/-- all words of the first j are right -/
def woJ (σ0 : kv_S) (k w G V j : Nat) (τ : kv_S) : Prop := FR (fun b i => b = V + 1 ∨ b = V ∧ i = 1) σ0 τ ∧ kv_i τ V 1 = Int32.ofNat (nwc w) ∧ ∀ x, vO w G x → ∀ j', j' < j → okv σ0 k G V τ j' x
theorem wo_out {σ0 : kv_S} (h : JS σ0) (hK : JK σ0) {k w G V : Nat} (hk : k < 8) (hv : VV V) (hn : JN1' σ0 k w G) (H : ∀ τ, woJ σ0 k w G V (nwc w) τ → Φ none τ) : ∀ m j, j + m = nwc w → ∀ τ, woJ σ0 k w G V j τ → ∀ v3 : Value, Wp (d + 1) 36 21 [.ref V, .ref (101 + 6 * k), .int (Int32.ofNat j), v3] [] τ Φ
  | 0, j, e, τ, hI, v3 => by
    have e2 : j = nwc w := by omega
    have hj4 := (nw_4 w hn.2.1).1
    have js := hI.1.js h
    simp only [g_36_21, g_36_22, g_36_23, g_36_26, g_36_178, ari_aa, ari_al, ari_la, ari_mm, ari_ml, ari_lm, ari_ltl, ari_llt, ari_lt, ari_le, ari_lel, ari_lle, ari_0, ari_eq, ari_eql, ari_leq, ari_cl, Nat.not_lt_zero, Bool.false_eq_true, Option.toList_some, Option.toList_none, List.cons_append, List.nil_append, kv_rv, kc1_i, kc1_r, kc1_n, n10, n01, n1514, n1213, n1312, if_true, if_false, not_true_eq_false, not_false_eq_true, and_self, true_and, and_true, false_and, and_false, or_true, true_or, or_false, false_or, Nat.reduceLeDiff, Nat.reduceLT, Nat.reduceEqDiff, Nat.reduceAdd, sV js hv, hI.2.1, (show j < 5 by omega), (show j < 2147483648 by omega), (show nwc w < 5 by omega), (show nwc w < 2147483648 by omega), (show nwc w ≤ j by omega)]
    rw [e2] at hI
    exact H τ hI
  | m + 1, j, e, τ, hI, v3 => by
    have hv2 : V = 26 ∨ V = 28 := hv
    have hj4 := (nw_4 w hn.2.1).1
    have js := hI.1.js h
    simp only [g_36_21, g_36_22, g_36_23, g_36_26, ari_aa, ari_al, ari_la, ari_mm, ari_ml, ari_lm, ari_ltl, ari_llt, ari_lt, ari_le, ari_lel, ari_lle, ari_0, ari_eq, ari_eql, ari_leq, ari_cl, Nat.not_lt_zero, Bool.false_eq_true, Option.toList_some, Option.toList_none, List.cons_append, List.nil_append, kv_rv, kc1_i, kc1_r, kc1_n, n10, n01, n1514, n1213, n1312, if_true, if_false, not_true_eq_false, not_false_eq_true, and_self, true_and, and_true, false_and, and_false, or_true, true_or, or_false, false_or, Nat.reduceLeDiff, Nat.reduceLT, Nat.reduceEqDiff, Nat.reduceAdd, sV js hv, hI.2.1, (show j < 5 by omega), (show j < 2147483648 by omega), (show nwc w < 5 by omega), (show nwc w < 2147483648 by omega), (show ¬ nwc w ≤ j by omega)]
    simp only [g_36_29, g_36_30, g_36_33, g_36_34, g_36_37, g_36_38, g_36_39, g_36_40, g_36_41, g_36_42, g_36_45, g_36_47, g_36_50, g_36_51, g_36_52, g_36_55, g_36_56, g_36_57, kv_w8_0, kv_w8_1, kv_w8_2, kv_w8_3, kv_w8_4, n_si, n_sl, n_sr, n_mk, sh_si, sh_sl, sh_sr, sh_mk, i_si, i_sl, i_sr, i_mk, l_si, l_sl, l_sr, l_mk, r_si, r_sl, r_sr, r_mk, ari_aa, ari_al, ari_la, ari_mm, ari_ml, ari_lm, ari_ltl, ari_llt, ari_lt, ari_le, ari_lel, ari_lle, ari_0, ari_eq, ari_eql, ari_leq, ari_cl, Nat.not_lt_zero, Bool.false_eq_true, Option.toList_some, Option.toList_none, List.cons_append, List.nil_append, kv_rv, kc1_i, kc1_r, kc1_n, n10, n01, n1514, n1213, n1312, if_true, if_false, not_true_eq_false, not_false_eq_true, and_self, true_and, and_true, false_and, and_false, or_true, true_or, or_false, false_or, Nat.reduceLeDiff, Nat.reduceLT, Nat.reduceEqDiff, Nat.reduceAdd, sV js hv, sW js hv, rV js hv, m_start (-1) (n := 1) (by decide), m_start (-2) (n := 0) (by decide), (show 1 * 4 + j < 200 by omega), (show 1 * 4 + j < 2147483648 by omega), (show 0 * 4 + j < 200 by omega), (show 0 * 4 + j < 2147483648 by omega), (show 8 ≤ V + 1 by omega)]
    refine wo_let h hK hk hv hn (by omega) (fun υ hu => ?_) w 0 (by omega) _ ⟨(hI.1.sl (Or.inl rfl)).sl (Or.inl rfl), hI.2.1, fun x hx j' hj' => ((hI.2.2 x hx j' hj').ne (by omega) (by omega) (by omega)).ne (by omega) (by omega) (by omega), fun x hx => ?_⟩
    · simp only [g_36_111, g_36_112, Nat.not_lt_zero, Bool.false_eq_true, Option.toList_some, Option.toList_none, List.cons_append, List.nil_append, kv_rv, kc1_i, kc1_r, kc1_n, n10, n01, n1514, n1213, n1312, if_true, if_false, not_true_eq_false, not_false_eq_true, and_self, true_and, and_true, false_and, and_false, or_true, true_or, or_false, false_or, Nat.reduceLeDiff, Nat.reduceLT, Nat.reduceEqDiff, Nat.reduceAdd]
      refine wo_gate h hk hv hn (by omega) (fun ζ hz => ?_) G 0 (by omega) υ hu
      simp only [g_36_172, g_36_175, ari_aa, ari_al, ari_la, ari_mm, ari_ml, ari_lm, ari_ltl, ari_llt, ari_lt, ari_le, ari_lel, ari_lle, ari_0, ari_eq, ari_eql, ari_leq, ari_cl, Nat.not_lt_zero, Bool.false_eq_true, Option.toList_some, Option.toList_none, List.cons_append, List.nil_append, kv_rv, kc1_i, kc1_r, kc1_n, n10, n01, n1514, n1213, n1312, if_true, if_false, not_true_eq_false, not_false_eq_true, and_self, true_and, and_true, false_and, and_false, or_true, true_or, or_false, false_or, Nat.reduceLeDiff, Nat.reduceLT, Nat.reduceEqDiff, Nat.reduceAdd]
      refine wo_out h hK hk hv hn H m (j + 1) (by omega) ζ ⟨hz.1, hz.2.1, fun x hx j' hj' => ?_⟩ _
      by_cases e : j' = j
      · subst e; exact hz.2.2.2 x hx
      · exact hz.2.2.1 x hx j' (by omega)
    · rcases hx with rfl | rfl | ⟨i, hi, q⟩ | ⟨i, hi, q⟩
      · refine okv.ne (by omega) (by omega) (by rw [show onn (-1) = 1 by decide]; omega) (okv.eq (by decide) (fun r hr => ?_))
        unfold vo; rw [nvo_0, lb_0]
      · refine okv.eq (by decide) (fun r hr => ?_)
        unfold vo; rw [nvo_1, lb_m1 hr]
      · omega
      · omega
theorem m_workOut {σ : kv_S} (h : JS σ) (hK : JK σ) {k w G V : Nat} (hk : k < 8) (hv : VV V) (hn : JN1' σ k w G) (H : ∀ τ, woJ σ k w G V (nwc w) τ → Φ none τ) : Wc (d + 1) 36 [.ref V, .ref (101 + 6 * k)] σ Φ := by
  have hv2 : V = 26 ∨ V = 28 := hv
  simp only [c_36, g_36_0, g_36_1, g_36_2, g_36_3, g_36_4, g_36_7, g_36_10, g_36_11, g_36_12, g_36_15, g_36_16, g_36_19, g_36_20, kv_w8_0, kv_w8_1, kv_w8_2, kv_w8_3, kv_w8_4, Nat.not_lt_zero, Bool.false_eq_true, Option.toList_some, Option.toList_none, List.cons_append, List.nil_append, kv_rv, kc1_i, kc1_r, kc1_n, n10, n01, n1514, n1213, n1312, if_true, if_false, not_true_eq_false, not_false_eq_true, and_self, true_and, and_true, false_and, and_false, or_true, true_or, or_false, false_or, Nat.reduceLeDiff, Nat.reduceLT, Nat.reduceEqDiff, Nat.reduceAdd, sV h hv, hK.1, nN h hk, hn.2.2.2.1, (show 8 ≤ V by omega)]
  rw [show Int32.ofNat 6 = (6 : Int32) from rfl, nw_w w hn.2.1]
  exact wo_out h hK hk hv hn H (nwc w) 0 (by omega) _ ⟨(FR.rf _ σ).si (Or.inr ⟨rfl, rfl⟩), eq_ess ⟨rfl, rfl⟩, fun x hx j' hj' => absurd hj' (by omega)⟩ _
end VC

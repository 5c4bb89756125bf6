section SD
variable {d : Nat} {Φ : Option Value → kv_S → Prop}
theorem vld.fr {σ τ : kv_S} {k w G : Nat} (hk : k < 8) (h : FR (fun b i => b = 31 ∨ b = 30 ∧ i = 1) σ τ) (hv : vld σ k w G) : vld τ k w G := by
  refine ⟨by rw [h.i (by omega)]; exact hv.1, fun x hx j hj r hr => ?_⟩
  rw [h.l (by omega), vo_fr h hk (fun b i q => by unfold cN; omega)]
  exact hv.2 x hx j hj r hr
theorem rule_at {τ : kv_S} (js : JS τ) (hK : JK τ) {k g t c r : Nat} (hk : k < 8) (hg : g < 40) (et : kv_i τ (102 + 6 * k) g = Int32.ofNat t) (hr : r < 4) : Wp d 106 30 [.ref 8, .ref (101 + 6 * k), .int (Int32.ofNat g), .int (Int32.ofNat c), .int (Int32.ofNat r)] [] τ Φ = if (Int32.ofNat t ^^^ (kv_ki 5).getD r 0) &&& Int32.ofNat c = 0 then Φ (some (.int (Int32.ofNat r))) τ else Wp d 106 30 [.ref 8, .ref (101 + 6 * k), .int (Int32.ofNat g), .int (Int32.ofNat c), .int (Int32.ofNat (r + 1))] [] τ Φ := by
  have e5 : kv_i τ 5 r = (kv_ki 5).getD r 0 := hK.2.2.2.2.2.2.2 5 r (by decide) (by decide)
  have s5 : kv_sh τ 5 = (10, 4) := hK.2.2.2.2.2.1
  conv => lhs; simp only [g_106_30, g_106_32, g_106_35, g_106_36, ari_aa, ari_al, ari_la, ari_mm, ari_ml, ari_lm, ari_ltl, ari_llt, ari_lt, ari_le, ari_lel, ari_lle, ari_0, ari_eq, ari_eql, ari_leq, ari_cl, Nat.not_lt_zero, Bool.false_eq_true, Option.toList_some, Option.toList_none, List.cons_append, List.nil_append, kv_rv, kc1_i, kc1_r, kc1_n, n10, n01, n1514, n1213, n1312, if_true, if_false, not_true_eq_false, not_false_eq_true, and_self, true_and, and_true, false_and, and_false, or_true, true_or, or_false, false_or, Nat.reduceLeDiff, Nat.reduceLT, Nat.reduceEqDiff, Nat.reduceAdd, s5, (show r < 4 by omega), (show r < 2147483648 by omega), (show ¬ 4 ≤ r by omega)]
  by_cases cc : (Int32.ofNat t ^^^ (kv_ki 5).getD r 0) &&& Int32.ofNat c = 0
  · simp only [g_106_39, g_106_40, g_106_43, g_106_44, g_106_45, g_106_48, g_106_50, g_106_51, g_106_52, g_106_53, g_106_54, g_106_57, g_106_59, g_106_60, g_106_63, ari_aa, ari_al, ari_la, ari_mm, ari_ml, ari_lm, ari_ltl, ari_llt, ari_lt, ari_le, ari_lel, ari_lle, ari_0, ari_eq, ari_eql, ari_leq, ari_cl, Nat.not_lt_zero, Bool.false_eq_true, Option.toList_some, Option.toList_none, List.cons_append, List.nil_append, kv_rv, kc1_i, kc1_r, kc1_n, n10, n01, n1514, n1213, n1312, if_true, if_false, not_true_eq_false, not_false_eq_true, and_self, true_and, and_true, false_and, and_false, or_true, true_or, or_false, false_or, Nat.reduceLeDiff, Nat.reduceLT, Nat.reduceEqDiff, Nat.reduceAdd, s5, nN js hk, nT js hk, qT js hk, et, e5, cc, (show g < 40 by omega), (show g < 2147483648 by omega), (show r < 4 by omega), (show r < 2147483648 by omega)]
  · simp only [g_106_39, g_106_40, g_106_43, g_106_44, g_106_45, g_106_48, g_106_50, g_106_51, g_106_52, g_106_53, g_106_54, g_106_57, g_106_59, g_106_60, g_106_63, ari_aa, ari_al, ari_la, ari_mm, ari_ml, ari_lm, ari_ltl, ari_llt, ari_lt, ari_le, ari_lel, ari_lle, ari_0, ari_eq, ari_eql, ari_leq, ari_cl, Nat.not_lt_zero, Bool.false_eq_true, Option.toList_some, Option.toList_none, List.cons_append, List.nil_append, kv_rv, kc1_i, kc1_r, kc1_n, n10, n01, n1514, n1213, n1312, if_true, if_false, not_true_eq_false, not_false_eq_true, and_self, true_and, and_true, false_and, and_false, or_true, true_or, or_false, false_or, Nat.reduceLeDiff, Nat.reduceLT, Nat.reduceEqDiff, Nat.reduceAdd, s5, nN js hk, nT js hk, qT js hk, et, e5, cc, (show g < 40 by omega), (show g < 2147483648 by omega), (show r < 4 by omega), (show r < 2147483648 by omega)]
theorem m_ruleFor {τ : kv_S} (js : JS τ) (hK : JK τ) {k w G g : Nat} (hk : k < 8) (hn : JNc τ k w G) (hv : vld τ k w G) (hg : g < G) (H : ∀ υ, FR (fun b i => b = 31 ∨ b = 30 ∧ i = 1) τ υ → Φ (some (.int (if aR (tbN τ k) w G (cNet τ k) g < 5 then Int32.ofNat (aR (tbN τ k) w G (cNet τ k) g) else -1))) υ) : Wc (d + 4) 106 [.ref 8, .ref (101 + 6 * k), .int (Int32.ofNat g)] τ Φ := by
  have hG := hn.2.2.1
  simp only [c_106, g_106_0, g_106_1, g_106_4, g_106_5, g_106_6, g_106_9, g_106_10, kv_w8_0, kv_w8_1, kv_w8_2, kv_w8_3, kv_w8_4, Nat.not_lt_zero, Bool.false_eq_true, Option.toList_some, Option.toList_none, List.cons_append, List.nil_append, kv_rv, kc1_i, kc1_r, kc1_n, n10, n01, n1514, n1213, n1312, if_true, if_false, not_true_eq_false, not_false_eq_true, and_self, true_and, and_true, false_and, and_false, or_true, true_or, or_false, false_or, Nat.reduceLeDiff, Nat.reduceLT, Nat.reduceEqDiff, Nat.reduceAdd, s_8 js, s_26 js, r_8_5 js, s_30 js, r_8_7 js]
  refine m_turn_q js hk hn hv hg (fun υ hI => ?_)
  have js2 := hI.1.js js
  simp only [g_106_13, g_106_14, g_106_17, g_106_18, g_106_19, g_106_22, g_106_23, kv_w8_0, kv_w8_1, kv_w8_2, kv_w8_3, kv_w8_4, Nat.not_lt_zero, Bool.false_eq_true, Option.toList_some, Option.toList_none, List.cons_append, List.nil_append, kv_rv, kc1_i, kc1_r, kc1_n, n10, n01, n1514, n1213, n1312, if_true, if_false, not_true_eq_false, not_false_eq_true, and_self, true_and, and_true, false_and, and_false, or_true, true_or, or_false, false_or, Nat.reduceLeDiff, Nat.reduceLT, Nat.reduceEqDiff, Nat.reduceAdd, s_8 js2, s_26 js2, r_8_5 js2, s_30 js2, r_8_7 js2]
  refine m_caredFor_q js hk hg hn hv hI ?_
  have fr := hI.1
  have hK2 : JK υ := hK.fr fr (fun b i q => by omega)
  obtain ⟨⟨t, t1, t2, -⟩, -⟩ := hn.2.2.2.2.2.2.2.1 g hg
  have et : kv_i υ (102 + 6 * k) g = Int32.ofNat t := by rw [fr.i (by omega)]; exact t2
  have etb : tbN τ k g = t := by unfold tbN; rw [t2, ari_cl (by omega)]
  have ec : crd τ k G g w = aC (tbN τ k) (cNet τ k).1 (cNet τ k).2.1 (cNet τ k).2.2 G g w := rfl
  have hc16 : aC (tbN τ k) (cNet τ k).1 (cNet τ k).2.1 (cNet τ k).2.2 G g w < 16 := q4_lt _
  obtain ⟨r0, r1, r2, r3⟩ := kR
  simp only [g_106_26, g_106_27, g_106_28, Nat.not_lt_zero, Bool.false_eq_true, Option.toList_some, Option.toList_none, List.cons_append, List.nil_append, kv_rv, kc1_i, kc1_r, kc1_n, n10, n01, n1514, n1213, n1312, if_true, if_false, not_true_eq_false, not_false_eq_true, and_self, true_and, and_true, false_and, and_false, or_true, true_or, or_false, false_or, Nat.reduceLeDiff, Nat.reduceLT, Nat.reduceEqDiff, Nat.reduceAdd, ec]
  have HH := H υ fr
  unfold aR rl at HH
  rw [etb] at HH
  have b0 := rule_at (d := d + 4) (Φ := Φ) (c := aC (tbN τ k) (cNet τ k).1 (cNet τ k).2.1 (cNet τ k).2.2 G g w) js2 hK2 hk (show g < 40 by omega) et (show 0 < 4 by decide)
  have b1 := rule_at (d := d + 4) (Φ := Φ) (c := aC (tbN τ k) (cNet τ k).1 (cNet τ k).2.1 (cNet τ k).2.2 G g w) js2 hK2 hk (show g < 40 by omega) et (show 1 < 4 by decide)
  have b2 := rule_at (d := d + 4) (Φ := Φ) (c := aC (tbN τ k) (cNet τ k).1 (cNet τ k).2.1 (cNet τ k).2.2 G g w) js2 hK2 hk (show g < 40 by omega) et (show 2 < 4 by decide)
  have b3 := rule_at (d := d + 4) (Φ := Φ) (c := aC (tbN τ k) (cNet τ k).1 (cNet τ k).2.1 (cNet τ k).2.2 G g w) js2 hK2 hk (show g < 40 by omega) et (show 3 < 4 by decide)
  rw [r0] at b0
  rw [r1] at b1
  rw [r2] at b2
  rw [r3] at b3
  have i0 := rt0 t t1 _ hc16
  have i1 := rt1 t t1 _ hc16
  have i2 := rt2 t t1 _ hc16
  have i3 := rt3 t t1 _ hc16
  refine Eq.mpr b0 ?_
  by_cases c0 : t &&& aC (tbN τ k) (cNet τ k).1 (cNet τ k).2.1 (cNet τ k).2.2 G g w = 0
  · rw [if_pos (i0.mpr c0)]
    simp only [c0, if_true, Nat.reduceLT] at HH
    exact HH
  · rw [if_neg (mt i0.mp c0)]
    rw [if_neg c0] at HH
    refine Eq.mpr b1 ?_
    by_cases c1 : (t ^^^ 15) &&& aC (tbN τ k) (cNet τ k).1 (cNet τ k).2.1 (cNet τ k).2.2 G g w = 0
    · rw [if_pos (i1.mpr c1)]
      simp only [c1, if_true, Nat.reduceLT] at HH
      exact HH
    · rw [if_neg (mt i1.mp c1)]
      rw [if_neg c1] at HH
      refine Eq.mpr b2 ?_
      by_cases c2 : (t ^^^ 10) &&& aC (tbN τ k) (cNet τ k).1 (cNet τ k).2.1 (cNet τ k).2.2 G g w = 0
      · rw [if_pos (i2.mpr c2)]
        simp only [c2, if_true, Nat.reduceLT] at HH
        exact HH
      · rw [if_neg (mt i2.mp c2)]
        rw [if_neg c2] at HH
        refine Eq.mpr b3 ?_
        by_cases c3 : (t ^^^ 12) &&& aC (tbN τ k) (cNet τ k).1 (cNet τ k).2.1 (cNet τ k).2.2 G g w = 0
        · rw [if_pos (i3.mpr c3)]
          simp only [c3, if_true, Nat.reduceLT] at HH
          exact HH
        · rw [if_neg (mt i3.mp c3)]
          simp only [c3, if_false, Nat.reduceLT] at HH
          have s5 : kv_sh υ 5 = (10, 4) := hK2.2.2.2.2.2.1
          simp only [g_106_30, g_106_32, g_106_35, g_106_36, g_106_66, g_106_67, g_106_70, g_106_71, kv_w8_0, kv_w8_1, kv_w8_2, kv_w8_3, kv_w8_4, ari_aa, ari_al, ari_la, ari_mm, ari_ml, ari_lm, ari_ltl, ari_llt, ari_lt, ari_le, ari_lel, ari_lle, ari_0, ari_eq, ari_eql, ari_leq, ari_cl, Nat.not_lt_zero, Bool.false_eq_true, Option.toList_some, Option.toList_none, List.cons_append, List.nil_append, kv_rv, kc1_i, kc1_r, kc1_n, n10, n01, n1514, n1213, n1312, if_true, if_false, not_true_eq_false, not_false_eq_true, and_self, true_and, and_true, false_and, and_false, or_true, true_or, or_false, false_or, Nat.reduceLeDiff, Nat.reduceLT, Nat.reduceEqDiff, Nat.reduceAdd, s5, s_8 js2, s_26 js2, r_8_5 js2]
          have hv2 := hv.fr hk fr
          have hn2 : JNc υ k w G := hn.fr fr hk (fun b i q => by omega)
          have ef : fst1 (aTw (tbN υ k) (kv_i υ (103 + 6 * k)) (kv_i υ (104 + 6 * k)) G w g) g 0 = fst1 (aTw (tbN τ k) (cNet τ k).1 (cNet τ k).2.1 G w g) g 0 := by
            rw [show tbN υ k = tbN τ k by funext i; unfold tbN; rw [fr.i (by omega)], show kv_i υ (103 + 6 * k) = kv_i τ (103 + 6 * k) by funext i; exact fr.i (by omega), show kv_i υ (104 + 6 * k) = kv_i τ (104 + 6 * k) by funext i; exact fr.i (by omega)]
            rfl
          refine m_firstTwin js2 hn2 hv2 hg ?_
          rw [ef]
          have hle := fst1_le (aTw (tbN τ k) (cNet τ k).1 (cNet τ k).2.1 G w g) g 0
          by_cases c4 : fst1 (aTw (tbN τ k) (cNet τ k).1 (cNet τ k).2.1 G w g) g 0 < g
          · rw [if_pos c4, if_pos (by decide)] at HH
            simp only [g_106_74, g_106_75, g_106_78, g_106_79, g_106_82, g_106_83, ari_aa, ari_al, ari_la, ari_mm, ari_ml, ari_lm, ari_ltl, ari_llt, ari_lt, ari_le, ari_lel, ari_lle, ari_0, ari_eq, ari_eql, ari_leq, ari_cl, Nat.not_lt_zero, Bool.false_eq_true, Option.toList_some, Option.toList_none, List.cons_append, List.nil_append, kv_rv, kc1_i, kc1_r, kc1_n, n10, n01, n1514, n1213, n1312, if_true, if_false, not_true_eq_false, not_false_eq_true, and_self, true_and, and_true, false_and, and_false, or_true, true_or, or_false, false_or, Nat.reduceLeDiff, Nat.reduceLT, Nat.reduceEqDiff, Nat.reduceAdd, (show fst1 (aTw (tbN τ k) (cNet τ k).1 (cNet τ k).2.1 G w g) g 0 < 41 by omega), (show fst1 (aTw (tbN τ k) (cNet τ k).1 (cNet τ k).2.1 G w g) g 0 < 2147483648 by omega), (show g < 41 by omega), (show g < 2147483648 by omega), (show ¬ g ≤ fst1 (aTw (tbN τ k) (cNet τ k).1 (cNet τ k).2.1 G w g) g 0 by omega)]
            exact HH
          · rw [if_neg c4, if_neg (by decide)] at HH
            simp only [g_106_74, g_106_75, g_106_78, g_106_79, g_106_82, g_106_83, ari_aa, ari_al, ari_la, ari_mm, ari_ml, ari_lm, ari_ltl, ari_llt, ari_lt, ari_le, ari_lel, ari_lle, ari_0, ari_eq, ari_eql, ari_leq, ari_cl, Nat.not_lt_zero, Bool.false_eq_true, Option.toList_some, Option.toList_none, List.cons_append, List.nil_append, kv_rv, kc1_i, kc1_r, kc1_n, n10, n01, n1514, n1213, n1312, if_true, if_false, not_true_eq_false, not_false_eq_true, and_self, true_and, and_true, false_and, and_false, or_true, true_or, or_false, false_or, Nat.reduceLeDiff, Nat.reduceLT, Nat.reduceEqDiff, Nat.reduceAdd, (show fst1 (aTw (tbN τ k) (cNet τ k).1 (cNet τ k).2.1 G w g) g 0 < 81 by omega), (show fst1 (aTw (tbN τ k) (cNet τ k).1 (cNet τ k).2.1 G w g) g 0 < 2147483648 by omega), (show g < 41 by omega), (show g < 2147483648 by omega), (show g ≤ fst1 (aTw (tbN τ k) (cNet τ k).1 (cNet τ k).2.1 G w g) g 0 by omega)]
            exact HH
theorem m_instead {τ : kv_S} (js : JS τ) {k w G g : Nat} (hk : k < 8) (hn : JNc τ k w G) (hv : vld τ k w G) (hg : g < G) (hr : aR (tbN τ k) w G (cNet τ k) g < 5) (H : Φ (some (.int (aI (tbN τ k) w G (cNet τ k) g))) τ) : Wc (d + 3) 109 [.ref 8, .ref (101 + 6 * k), .int (Int32.ofNat g), .int (Int32.ofNat (aR (tbN τ k) w G (cNet τ k) g))] τ Φ := by
  have hG := hn.2.2.1
  unfold aI at H
  obtain ⟨r, hr'⟩ : ∃ r, r = aR (tbN τ k) w G (cNet τ k) g := ⟨_, rfl⟩
  rw [← hr'] at H hr ⊢
  have h5 : r = 0 ∨ r = 1 ∨ r = 2 ∨ r = 3 ∨ r = 4 := by omega
  rcases h5 with e | e | e | e | e <;> rw [e] at H ⊢
  · rw [show Int32.ofNat 0 = (0 : Int32) from rfl]
    simp only [c_109, g_109_0, g_109_1_0, g_109_1_1, g_109_1_2, g_109_1_3, g_109_32, g_109_33, g_109_34, g_109_36, g_109_37, g_109_38, g_109_41, g_109_42, g_109_43, g_109_44, g_109_45, g_109_48, g_109_49, g_109_50, g_109_51, g_109_53, g_109_54, g_109_57, g_109_58, g_109_61, g_109_62, Nat.not_lt_zero, Bool.false_eq_true, Option.toList_some, Option.toList_none, List.cons_append, List.nil_append, kv_rv, kc1_i, kc1_r, kc1_n, n10, n01, n1514, n1213, n1312, if_true, if_false, not_true_eq_false, not_false_eq_true, and_self, true_and, and_true, false_and, and_false, or_true, true_or, or_false, false_or, Nat.reduceLeDiff, Nat.reduceLT, Nat.reduceEqDiff, Nat.reduceAdd]
    exact H
  · rw [show Int32.ofNat 1 = (1 : Int32) from rfl]
    simp only [c_109, g_109_0, g_109_1_0, g_109_1_1, g_109_1_2, g_109_1_3, g_109_32, g_109_33, g_109_34, g_109_36, g_109_37, g_109_38, g_109_41, g_109_42, g_109_43, g_109_44, g_109_45, g_109_48, g_109_49, g_109_50, g_109_51, g_109_53, g_109_54, g_109_57, g_109_58, g_109_61, g_109_62, Nat.not_lt_zero, Bool.false_eq_true, Option.toList_some, Option.toList_none, List.cons_append, List.nil_append, kv_rv, kc1_i, kc1_r, kc1_n, n10, n01, n1514, n1213, n1312, if_true, if_false, not_true_eq_false, not_false_eq_true, and_self, true_and, and_true, false_and, and_false, or_true, true_or, or_false, false_or, Nat.reduceLeDiff, Nat.reduceLT, Nat.reduceEqDiff, Nat.reduceAdd]
    exact H
  · rw [show Int32.ofNat 2 = (2 : Int32) from rfl]
    simp only [c_109, g_109_0, g_109_1_0, g_109_1_1, g_109_1_2, g_109_1_3, g_109_32, g_109_33, g_109_34, g_109_36, g_109_37, g_109_38, g_109_41, g_109_42, g_109_43, g_109_44, g_109_45, g_109_48, g_109_49, g_109_50, g_109_51, g_109_53, g_109_54, g_109_57, g_109_58, g_109_61, g_109_62, ari_aa, ari_al, ari_la, ari_mm, ari_ml, ari_lm, ari_ltl, ari_llt, ari_lt, ari_le, ari_lel, ari_lle, ari_0, ari_eq, ari_eql, ari_leq, ari_cl, Nat.not_lt_zero, Bool.false_eq_true, Option.toList_some, Option.toList_none, List.cons_append, List.nil_append, kv_rv, kc1_i, kc1_r, kc1_n, n10, n01, n1514, n1213, n1312, if_true, if_false, not_true_eq_false, not_false_eq_true, and_self, true_and, and_true, false_and, and_false, or_true, true_or, or_false, false_or, Nat.reduceLeDiff, Nat.reduceLT, Nat.reduceEqDiff, Nat.reduceAdd, nN js hk, nX js hk, qX js hk, (show g < 40 by omega), (show g < 2147483648 by omega)]
    exact H
  · rw [show Int32.ofNat 3 = (3 : Int32) from rfl]
    simp only [c_109, g_109_0, g_109_1_0, g_109_1_1, g_109_1_2, g_109_1_3, g_109_32, g_109_33, g_109_34, g_109_36, g_109_37, g_109_38, g_109_41, g_109_42, g_109_43, g_109_44, g_109_45, g_109_48, g_109_49, g_109_50, g_109_51, g_109_53, g_109_54, g_109_57, g_109_58, g_109_61, g_109_62, ari_aa, ari_al, ari_la, ari_mm, ari_ml, ari_lm, ari_ltl, ari_llt, ari_lt, ari_le, ari_lel, ari_lle, ari_0, ari_eq, ari_eql, ari_leq, ari_cl, Nat.not_lt_zero, Bool.false_eq_true, Option.toList_some, Option.toList_none, List.cons_append, List.nil_append, kv_rv, kc1_i, kc1_r, kc1_n, n10, n01, n1514, n1213, n1312, if_true, if_false, not_true_eq_false, not_false_eq_true, and_self, true_and, and_true, false_and, and_false, or_true, true_or, or_false, false_or, Nat.reduceLeDiff, Nat.reduceLT, Nat.reduceEqDiff, Nat.reduceAdd, nN js hk, nY js hk, qY js hk, (show g < 40 by omega), (show g < 2147483648 by omega)]
    exact H
  · simp only [c_109, g_109_0, Nat.not_lt_zero, Bool.false_eq_true, Option.toList_some, Option.toList_none, List.cons_append, List.nil_append, kv_rv, kc1_i, kc1_r, kc1_n, n10, n01, n1514, n1213, n1312, if_true, if_false, not_true_eq_false, not_false_eq_true, and_self, true_and, and_true, false_and, and_false, or_true, true_or, or_false, false_or, Nat.reduceLeDiff, Nat.reduceLT, Nat.reduceEqDiff, Nat.reduceAdd]
    rw [g_109_1_x (by decide)]
    simp only [g_109_51, g_109_53, g_109_54, g_109_57, g_109_58, kv_w8_0, kv_w8_1, kv_w8_2, kv_w8_3, kv_w8_4, Nat.not_lt_zero, Bool.false_eq_true, Option.toList_some, Option.toList_none, List.cons_append, List.nil_append, kv_rv, kc1_i, kc1_r, kc1_n, n10, n01, n1514, n1213, n1312, if_true, if_false, not_true_eq_false, not_false_eq_true, and_self, true_and, and_true, false_and, and_false, or_true, true_or, or_false, false_or, Nat.reduceLeDiff, Nat.reduceLT, Nat.reduceEqDiff, Nat.reduceAdd, s_8 js, s_26 js, r_8_5 js]
    refine m_firstTwin js hn hv hg ?_
    simp only [g_109_61, g_109_62, ari_aa, ari_al, ari_la, ari_mm, ari_ml, ari_lm, ari_ltl, ari_llt, ari_lt, ari_le, ari_lel, ari_lle, ari_0, ari_eq, ari_eql, ari_leq, ari_cl, Nat.not_lt_zero, Bool.false_eq_true, Option.toList_some, Option.toList_none, List.cons_append, List.nil_append, kv_rv, kc1_i, kc1_r, kc1_n, n10, n01, n1514, n1213, n1312, if_true, if_false, not_true_eq_false, not_false_eq_true, and_self, true_and, and_true, false_and, and_false, or_true, true_or, or_false, false_or, Nat.reduceLeDiff, Nat.reduceLT, Nat.reduceEqDiff, Nat.reduceAdd]
    exact H
theorem note_i : ∀ x, x < 50 → ∀ r, r < 5 → ∀ g, g < 40 → (Int32.ofNat x <<< ((9 : Int32) &&& 31)) ||| (Int32.ofNat r <<< ((6 : Int32) &&& 31)) ||| Int32.ofNat g = Int32.ofNat (512 * x + 64 * r + g) := by decide +kernel
theorem m_note {τ : kv_S} (js : JS τ) {S x r g : Nat} {y : Int32} (hS : S < 1800) (e4 : kv_i τ 32 4 = Int32.ofNat S) (hx : x < 50) (hr : r < 5) (hg : g < 40) (hy : y - -2 = Int32.ofNat x) : Wc d 110 [.ref 32, .int (Int32.ofNat g), .int (Int32.ofNat r), .int y] τ Φ = Φ none (kv_si (kv_si τ 33 S (Int32.ofNat (512 * x + 64 * r + g))) 32 4 (Int32.ofNat (S + 1))) := by
  simp only [c_110, g_110_0, g_110_1, g_110_4, g_110_7, g_110_10, g_110_11, g_110_14, g_110_15, g_110_18, g_110_19, g_110_21, g_110_22, g_110_24, g_110_25, g_110_26, g_110_28, g_110_29, g_110_30, g_110_31, g_110_32, g_110_33, g_110_34, g_110_34r, g_110_35, g_110_38, g_110_39, g_110_40, g_110_43, n_si, n_sl, n_sr, n_mk, sh_si, sh_sl, sh_sr, sh_mk, i_si, i_sl, i_sr, i_mk, l_si, l_sl, l_sr, l_mk, r_si, r_sl, r_sr, r_mk, ari_aa, ari_al, ari_la, ari_mm, ari_ml, ari_lm, ari_ltl, ari_llt, ari_lt, ari_le, ari_lel, ari_lle, ari_0, ari_eq, ari_eql, ari_leq, ari_cl, Nat.not_lt_zero, Bool.false_eq_true, Option.toList_some, Option.toList_none, List.cons_append, List.nil_append, kv_rv, kc1_i, kc1_r, kc1_n, n10, n01, n1514, n1213, n1312, if_true, if_false, not_true_eq_false, not_false_eq_true, and_self, true_and, and_true, false_and, and_false, or_true, true_or, or_false, false_or, Nat.reduceLeDiff, Nat.reduceLT, Nat.reduceEqDiff, Nat.reduceAdd, s_32 js, r_8_8 js, s_33 js, r_32_0 js, e4, hy, note_i x hx r hr g hg, (show ¬ (32 = 33) by decide), (show S < 1800 by omega), (show S < 2147483648 by omega), (show ¬ 1800 ≤ S by omega)]
theorem rdI_l1 {τ0 : kv_S} (js0 : JS τ0) {k G : Nat} {o x : Int32} (hk : k < 8) (hG : G ≤ 40) (e6 : kv_i τ0 (101 + 6 * k) 6 = Int32.ofNat G) (H : ∀ τ, FR (fun b _ => b = 103 + 6 * k ∨ b = 104 + 6 * k) τ0 τ → (∀ j, kv_i τ (103 + 6 * k) j = if j < G ∧ kv_i τ0 (103 + 6 * k) j = o then x else kv_i τ0 (103 + 6 * k) j) → (∀ j, kv_i τ (104 + 6 * k) j = if j < G ∧ kv_i τ0 (104 + 6 * k) j = o then x else kv_i τ0 (104 + 6 * k) j) → Wp d 111 50 [.ref (101 + 6 * k), .int o, .int x, .int (Int32.ofNat G)] [] τ Φ) : ∀ m g, g + m = G → ∀ τ, FR (fun b _ => b = 103 + 6 * k ∨ b = 104 + 6 * k) τ0 τ → (∀ j, kv_i τ (103 + 6 * k) j = if j < g ∧ kv_i τ0 (103 + 6 * k) j = o then x else kv_i τ0 (103 + 6 * k) j) → (∀ j, kv_i τ (104 + 6 * k) j = if j < g ∧ kv_i τ0 (104 + 6 * k) j = o then x else kv_i τ0 (104 + 6 * k) j) → Wp d 111 2 [.ref (101 + 6 * k), .int o, .int x, .int (Int32.ofNat g)] [] τ Φ
  | 0, g, e, τ, fr, h1, h2 => by
    have e2 : g = G := by omega
    subst e2
    have js := fr.js js0
    have e6' : kv_i τ (101 + 6 * k) 6 = Int32.ofNat g := by rw [fr.i (by omega)]; exact e6
    simp only [g_111_2, g_111_3, g_111_4, g_111_7, ari_aa, ari_al, ari_la, ari_mm, ari_ml, ari_lm, ari_ltl, ari_llt, ari_lt, ari_le, ari_lel, ari_lle, ari_0, ari_eq, ari_eql, ari_leq, ari_cl, Nat.not_lt_zero, Bool.false_eq_true, Option.toList_some, Option.toList_none, List.cons_append, List.nil_append, kv_rv, kc1_i, kc1_r, kc1_n, n10, n01, n1514, n1213, n1312, if_true, if_false, not_true_eq_false, not_false_eq_true, and_self, true_and, and_true, false_and, and_false, or_true, true_or, or_false, false_or, Nat.reduceLeDiff, Nat.reduceLT, Nat.reduceEqDiff, Nat.reduceAdd, nN js hk, e6', (show g < 41 by omega), (show g < 2147483648 by omega), (show g ≤ g by omega)]
    exact H τ fr h1 h2
  | m + 1, g, e, τ, fr, h1, h2 => by
    have js := fr.js js0
    have e6' : kv_i τ (101 + 6 * k) 6 = Int32.ofNat G := by rw [fr.i (by omega)]; exact e6
    have x1 : kv_i τ (103 + 6 * k) g = kv_i τ0 (103 + 6 * k) g := by rw [h1 g, if_neg (by omega)]
    have y1 : kv_i τ (104 + 6 * k) g = kv_i τ0 (104 + 6 * k) g := by rw [h2 g, if_neg (by omega)]
    simp only [g_111_2, g_111_3, g_111_4, g_111_7, ari_aa, ari_al, ari_la, ari_mm, ari_ml, ari_lm, ari_ltl, ari_llt, ari_lt, ari_le, ari_lel, ari_lle, ari_0, ari_eq, ari_eql, ari_leq, ari_cl, Nat.not_lt_zero, Bool.false_eq_true, Option.toList_some, Option.toList_none, List.cons_append, List.nil_append, kv_rv, kc1_i, kc1_r, kc1_n, n10, n01, n1514, n1213, n1312, if_true, if_false, not_true_eq_false, not_false_eq_true, and_self, true_and, and_true, false_and, and_false, or_true, true_or, or_false, false_or, Nat.reduceLeDiff, Nat.reduceLT, Nat.reduceEqDiff, Nat.reduceAdd, nN js hk, e6', (show g < 41 by omega), (show g < 2147483648 by omega), (show G < 41 by omega), (show G < 2147483648 by omega), (show ¬ G ≤ g by omega)]
    have fin : ∀ τ', FR (fun b _ => b = 103 + 6 * k ∨ b = 104 + 6 * k) τ τ' → (∀ j, ¬ j = g → kv_i τ' (103 + 6 * k) j = kv_i τ (103 + 6 * k) j ∧ kv_i τ' (104 + 6 * k) j = kv_i τ (104 + 6 * k) j) → kv_i τ' (103 + 6 * k) g = (if kv_i τ0 (103 + 6 * k) g = o then x else kv_i τ0 (103 + 6 * k) g) → kv_i τ' (104 + 6 * k) g = (if kv_i τ0 (104 + 6 * k) g = o then x else kv_i τ0 (104 + 6 * k) g) → Wp d 111 2 [.ref (101 + 6 * k), .int o, .int x, .int (Int32.ofNat (g + 1))] [] τ' Φ := by
      intro τ' fr' hne e1 e2
      refine rdI_l1 js0 hk hG e6 H m (g + 1) (by omega) τ' (fr.tr fr') (fun j => ?_) (fun j => ?_)
      · by_cases c : j = g
        · subst c; rw [e1]
          by_cases c2 : kv_i τ0 (103 + 6 * k) j = o
          · rw [if_pos c2, if_pos ⟨by omega, c2⟩]
          · rw [if_neg c2, if_neg (fun q => c2 q.2)]
        · rw [(hne j c).1, h1 j]
          by_cases c2 : j < g ∧ kv_i τ0 (103 + 6 * k) j = o
          · rw [if_pos c2, if_pos ⟨by omega, c2.2⟩]
          · rw [if_neg c2, if_neg (fun q => c2 ⟨by omega, q.2⟩)]
      · by_cases c : j = g
        · subst c; rw [e2]
          by_cases c2 : kv_i τ0 (104 + 6 * k) j = o
          · rw [if_pos c2, if_pos ⟨by omega, c2⟩]
          · rw [if_neg c2, if_neg (fun q => c2 q.2)]
        · rw [(hne j c).2, h2 j]
          by_cases c2 : j < g ∧ kv_i τ0 (104 + 6 * k) j = o
          · rw [if_pos c2, if_pos ⟨by omega, c2.2⟩]
          · rw [if_neg c2, if_neg (fun q => c2 ⟨by omega, q.2⟩)]
    by_cases c1 : kv_i τ0 (103 + 6 * k) g = o
    · by_cases c2 : kv_i τ0 (104 + 6 * k) g = o
      · simp only [g_111_10, g_111_11, g_111_14, g_111_15, g_111_16, g_111_17, g_111_20, g_111_21, g_111_24, g_111_25, g_111_26, g_111_27, g_111_28, g_111_31, g_111_32, g_111_33, g_111_34, g_111_37, g_111_38, g_111_41, g_111_42, g_111_43, g_111_44, g_111_47, n_si, n_sl, n_sr, n_mk, sh_si, sh_sl, sh_sr, sh_mk, i_si, i_sl, i_sr, i_mk, l_si, l_sl, l_sr, l_mk, r_si, r_sl, r_sr, r_mk, ari_aa, ari_al, ari_la, ari_mm, ari_ml, ari_lm, ari_ltl, ari_llt, ari_lt, ari_le, ari_lel, ari_lle, ari_0, ari_eq, ari_eql, ari_leq, ari_cl, Nat.not_lt_zero, Bool.false_eq_true, Option.toList_some, Option.toList_none, List.cons_append, List.nil_append, kv_rv, kc1_i, kc1_r, kc1_n, n10, n01, n1514, n1213, n1312, if_true, if_false, not_true_eq_false, not_false_eq_true, and_self, true_and, and_true, false_and, and_false, or_true, true_or, or_false, false_or, Nat.reduceLeDiff, Nat.reduceLT, Nat.reduceEqDiff, Nat.reduceAdd, nN js hk, nX js hk, qX js hk, nY js hk, qY js hk, x1, y1, c1, c2, (show g < 40 by omega), (show g < 2147483648 by omega), (show 8 ≤ 103 + 6 * k by omega), (show 8 ≤ 104 + 6 * k by omega), (show ¬ (104 + 6 * k = 103 + 6 * k) by omega)]
        exact fin _ (((FR.rf _ τ).si (Or.inl rfl)).si (Or.inr rfl)) (fun j hj => ⟨by rw [ne_ess (by omega), ne_ess (by omega)], by rw [ne_ess (by omega), ne_ess (by omega)]⟩) (by rw [ne_ess (by omega), eq_ess ⟨rfl, rfl⟩, if_pos c1]) (by rw [eq_ess ⟨rfl, rfl⟩, if_pos c2])
      · simp only [g_111_10, g_111_11, g_111_14, g_111_15, g_111_16, g_111_17, g_111_20, g_111_21, g_111_24, g_111_25, g_111_26, g_111_27, g_111_28, g_111_31, g_111_32, g_111_33, g_111_34, g_111_37, g_111_38, g_111_41, g_111_42, g_111_43, g_111_44, g_111_47, n_si, n_sl, n_sr, n_mk, sh_si, sh_sl, sh_sr, sh_mk, i_si, i_sl, i_sr, i_mk, l_si, l_sl, l_sr, l_mk, r_si, r_sl, r_sr, r_mk, ari_aa, ari_al, ari_la, ari_mm, ari_ml, ari_lm, ari_ltl, ari_llt, ari_lt, ari_le, ari_lel, ari_lle, ari_0, ari_eq, ari_eql, ari_leq, ari_cl, Nat.not_lt_zero, Bool.false_eq_true, Option.toList_some, Option.toList_none, List.cons_append, List.nil_append, kv_rv, kc1_i, kc1_r, kc1_n, n10, n01, n1514, n1213, n1312, if_true, if_false, not_true_eq_false, not_false_eq_true, and_self, true_and, and_true, false_and, and_false, or_true, true_or, or_false, false_or, Nat.reduceLeDiff, Nat.reduceLT, Nat.reduceEqDiff, Nat.reduceAdd, nN js hk, nX js hk, qX js hk, nY js hk, qY js hk, x1, y1, c1, c2, (show g < 40 by omega), (show g < 2147483648 by omega), (show 8 ≤ 103 + 6 * k by omega), (show 8 ≤ 104 + 6 * k by omega), (show ¬ (104 + 6 * k = 103 + 6 * k) by omega)]
        exact fin _ ((FR.rf _ τ).si (Or.inl rfl)) (fun j hj => ⟨by rw [ne_ess (by omega)], by rw [ne_ess (by omega)]⟩) (by rw [eq_ess ⟨rfl, rfl⟩, if_pos c1]) (by rw [ne_ess (by omega), if_neg c2]; exact y1)
    · by_cases c2 : kv_i τ0 (104 + 6 * k) g = o
      · simp only [g_111_10, g_111_11, g_111_14, g_111_15, g_111_16, g_111_17, g_111_20, g_111_21, g_111_24, g_111_25, g_111_26, g_111_27, g_111_28, g_111_31, g_111_32, g_111_33, g_111_34, g_111_37, g_111_38, g_111_41, g_111_42, g_111_43, g_111_44, g_111_47, n_si, n_sl, n_sr, n_mk, sh_si, sh_sl, sh_sr, sh_mk, i_si, i_sl, i_sr, i_mk, l_si, l_sl, l_sr, l_mk, r_si, r_sl, r_sr, r_mk, ari_aa, ari_al, ari_la, ari_mm, ari_ml, ari_lm, ari_ltl, ari_llt, ari_lt, ari_le, ari_lel, ari_lle, ari_0, ari_eq, ari_eql, ari_leq, ari_cl, Nat.not_lt_zero, Bool.false_eq_true, Option.toList_some, Option.toList_none, List.cons_append, List.nil_append, kv_rv, kc1_i, kc1_r, kc1_n, n10, n01, n1514, n1213, n1312, if_true, if_false, not_true_eq_false, not_false_eq_true, and_self, true_and, and_true, false_and, and_false, or_true, true_or, or_false, false_or, Nat.reduceLeDiff, Nat.reduceLT, Nat.reduceEqDiff, Nat.reduceAdd, nN js hk, nX js hk, qX js hk, nY js hk, qY js hk, x1, y1, c1, c2, (show g < 40 by omega), (show g < 2147483648 by omega), (show 8 ≤ 103 + 6 * k by omega), (show 8 ≤ 104 + 6 * k by omega), (show ¬ (104 + 6 * k = 103 + 6 * k) by omega)]
        exact fin _ ((FR.rf _ τ).si (Or.inr rfl)) (fun j hj => ⟨by rw [ne_ess (by omega)], by rw [ne_ess (by omega)]⟩) (by rw [ne_ess (by omega), if_neg c1]; exact x1) (by rw [eq_ess ⟨rfl, rfl⟩, if_pos c2])
      · simp only [g_111_10, g_111_11, g_111_14, g_111_15, g_111_16, g_111_17, g_111_20, g_111_21, g_111_24, g_111_25, g_111_26, g_111_27, g_111_28, g_111_31, g_111_32, g_111_33, g_111_34, g_111_37, g_111_38, g_111_41, g_111_42, g_111_43, g_111_44, g_111_47, n_si, n_sl, n_sr, n_mk, sh_si, sh_sl, sh_sr, sh_mk, i_si, i_sl, i_sr, i_mk, l_si, l_sl, l_sr, l_mk, r_si, r_sl, r_sr, r_mk, ari_aa, ari_al, ari_la, ari_mm, ari_ml, ari_lm, ari_ltl, ari_llt, ari_lt, ari_le, ari_lel, ari_lle, ari_0, ari_eq, ari_eql, ari_leq, ari_cl, Nat.not_lt_zero, Bool.false_eq_true, Option.toList_some, Option.toList_none, List.cons_append, List.nil_append, kv_rv, kc1_i, kc1_r, kc1_n, n10, n01, n1514, n1213, n1312, if_true, if_false, not_true_eq_false, not_false_eq_true, and_self, true_and, and_true, false_and, and_false, or_true, true_or, or_false, false_or, Nat.reduceLeDiff, Nat.reduceLT, Nat.reduceEqDiff, Nat.reduceAdd, nN js hk, nX js hk, qX js hk, nY js hk, qY js hk, x1, y1, c1, c2, (show g < 40 by omega), (show g < 2147483648 by omega), (show 8 ≤ 103 + 6 * k by omega), (show 8 ≤ 104 + 6 * k by omega), (show ¬ (104 + 6 * k = 103 + 6 * k) by omega)]
        exact fin _ (FR.rf _ τ) (fun j hj => ⟨rfl, rfl⟩) (by rw [if_neg c1]; exact x1) (by rw [if_neg c2]; exact y1)
theorem rdI_l2 {τ0 : kv_S} (js0 : JS τ0) {k : Nat} {o x : Int32} (hk : k < 8) (H : ∀ τ, FR (fun b _ => b = 106 + 6 * k) τ0 τ → (∀ j, kv_i τ (106 + 6 * k) j = if j < 6 ∧ kv_i τ0 (106 + 6 * k) j = o then x else kv_i τ0 (106 + 6 * k) j) → Φ none τ) : ∀ m g, g + m = 6 → ∀ τ, FR (fun b _ => b = 106 + 6 * k) τ0 τ → (∀ j, kv_i τ (106 + 6 * k) j = if j < g ∧ kv_i τ0 (106 + 6 * k) j = o then x else kv_i τ0 (106 + 6 * k) j) → Wp d 111 52 [.ref (101 + 6 * k), .int o, .int x, .int (Int32.ofNat g)] [] τ Φ
  | 0, g, e, τ, fr, h1 => by
    have e2 : g = 6 := by omega
    subst e2
    simp only [g_111_52, g_111_53, g_111_55, g_111_81, ari_aa, ari_al, ari_la, ari_mm, ari_ml, ari_lm, ari_ltl, ari_llt, ari_lt, ari_le, ari_lel, ari_lle, ari_0, ari_eq, ari_eql, ari_leq, ari_cl, Nat.not_lt_zero, Bool.false_eq_true, Option.toList_some, Option.toList_none, List.cons_append, List.nil_append, kv_rv, kc1_i, kc1_r, kc1_n, n10, n01, n1514, n1213, n1312, if_true, if_false, not_true_eq_false, not_false_eq_true, and_self, true_and, and_true, false_and, and_false, or_true, true_or, or_false, false_or, Nat.reduceLeDiff, Nat.reduceLT, Nat.reduceEqDiff, Nat.reduceAdd]
    exact H τ fr h1
  | m + 1, g, e, τ, fr, h1 => by
    have js := fr.js js0
    have x1 : kv_i τ (106 + 6 * k) g = kv_i τ0 (106 + 6 * k) g := by rw [h1 g, if_neg (by omega)]
    simp only [g_111_52, g_111_53, g_111_55, ari_aa, ari_al, ari_la, ari_mm, ari_ml, ari_lm, ari_ltl, ari_llt, ari_lt, ari_le, ari_lel, ari_lle, ari_0, ari_eq, ari_eql, ari_leq, ari_cl, Nat.not_lt_zero, Bool.false_eq_true, Option.toList_some, Option.toList_none, List.cons_append, List.nil_append, kv_rv, kc1_i, kc1_r, kc1_n, n10, n01, n1514, n1213, n1312, if_true, if_false, not_true_eq_false, not_false_eq_true, and_self, true_and, and_true, false_and, and_false, or_true, true_or, or_false, false_or, Nat.reduceLeDiff, Nat.reduceLT, Nat.reduceEqDiff, Nat.reduceAdd, (show g < 6 by omega), (show g < 2147483648 by omega), (show ¬ 6 ≤ g by omega)]
    by_cases c1 : kv_i τ0 (106 + 6 * k) g = o
    · simp only [g_111_58, g_111_59, g_111_62, g_111_63, g_111_64, g_111_65, g_111_68, g_111_69, g_111_72, g_111_73, g_111_74, g_111_75, g_111_78, n_si, n_sl, n_sr, n_mk, sh_si, sh_sl, sh_sr, sh_mk, i_si, i_sl, i_sr, i_mk, l_si, l_sl, l_sr, l_mk, r_si, r_sl, r_sr, r_mk, ari_aa, ari_al, ari_la, ari_mm, ari_ml, ari_lm, ari_ltl, ari_llt, ari_lt, ari_le, ari_lel, ari_lle, ari_0, ari_eq, ari_eql, ari_leq, ari_cl, Nat.not_lt_zero, Bool.false_eq_true, Option.toList_some, Option.toList_none, List.cons_append, List.nil_append, kv_rv, kc1_i, kc1_r, kc1_n, n10, n01, n1514, n1213, n1312, if_true, if_false, not_true_eq_false, not_false_eq_true, and_self, true_and, and_true, false_and, and_false, or_true, true_or, or_false, false_or, Nat.reduceLeDiff, Nat.reduceLT, Nat.reduceEqDiff, Nat.reduceAdd, nN js hk, nO js hk, qO js hk, x1, c1, (show g < 6 by omega), (show g < 2147483648 by omega), (show 8 ≤ 106 + 6 * k by omega)]
      refine rdI_l2 js0 hk H m (g + 1) (by omega) _ (fr.si rfl) (fun j => ?_)
      by_cases c : j = g
      · subst c; rw [eq_ess ⟨rfl, rfl⟩, if_pos ⟨by omega, c1⟩]
      · rw [ne_ess (by omega), h1 j]
        by_cases c2 : j < g ∧ kv_i τ0 (106 + 6 * k) j = o
        · rw [if_pos c2, if_pos ⟨by omega, c2.2⟩]
        · rw [if_neg c2, if_neg (fun q => c2 ⟨by omega, q.2⟩)]
    · simp only [g_111_58, g_111_59, g_111_62, g_111_63, g_111_64, g_111_65, g_111_68, g_111_69, g_111_72, g_111_73, g_111_74, g_111_75, g_111_78, n_si, n_sl, n_sr, n_mk, sh_si, sh_sl, sh_sr, sh_mk, i_si, i_sl, i_sr, i_mk, l_si, l_sl, l_sr, l_mk, r_si, r_sl, r_sr, r_mk, ari_aa, ari_al, ari_la, ari_mm, ari_ml, ari_lm, ari_ltl, ari_llt, ari_lt, ari_le, ari_lel, ari_lle, ari_0, ari_eq, ari_eql, ari_leq, ari_cl, Nat.not_lt_zero, Bool.false_eq_true, Option.toList_some, Option.toList_none, List.cons_append, List.nil_append, kv_rv, kc1_i, kc1_r, kc1_n, n10, n01, n1514, n1213, n1312, if_true, if_false, not_true_eq_false, not_false_eq_true, and_self, true_and, and_true, false_and, and_false, or_true, true_or, or_false, false_or, Nat.reduceLeDiff, Nat.reduceLT, Nat.reduceEqDiff, Nat.reduceAdd, nN js hk, nO js hk, qO js hk, x1, c1, (show g < 6 by omega), (show g < 2147483648 by omega), (show 8 ≤ 106 + 6 * k by omega)]
      refine rdI_l2 js0 hk H m (g + 1) (by omega) _ fr (fun j => ?_)
      rw [h1 j]
      by_cases c2 : j < g ∧ kv_i τ0 (106 + 6 * k) j = o
      · rw [if_pos c2, if_pos ⟨by omega, c2.2⟩]
      · rw [if_neg c2, if_neg (fun q => c2 ⟨by have : j ≠ g := fun e => c1 (by rw [← e]; exact q.2); omega, q.2⟩)]
theorem m_readI {τ0 : kv_S} (js0 : JS τ0) {k G g : Nat} {x : Int32} (hk : k < 8) (hG : G ≤ 40) (e6 : kv_i τ0 (101 + 6 * k) 6 = Int32.ofNat G) (H : ∀ τ, FR (fun b _ => b = 103 + 6 * k ∨ b = 104 + 6 * k ∨ b = 106 + 6 * k) τ0 τ → cNet τ k = aS G (cNet τ0 k) g x → Φ none τ) : Wc d 111 [.ref (101 + 6 * k), .int (Int32.ofNat (8 + g)), .int x] τ0 Φ := by
  simp only [c_111, g_111_0, g_111_1, Nat.not_lt_zero, Bool.false_eq_true, Option.toList_some, Option.toList_none, List.cons_append, List.nil_append, kv_rv, kc1_i, kc1_r, kc1_n, n10, n01, n1514, n1213, n1312, if_true, if_false, not_true_eq_false, not_false_eq_true, and_self, true_and, and_true, false_and, and_false, or_true, true_or, or_false, false_or, Nat.reduceLeDiff, Nat.reduceLT, Nat.reduceEqDiff, Nat.reduceAdd]
  refine rdI_l1 js0 hk hG e6 (fun τ fr h1 h2 => ?_) G 0 (by omega) τ0 (FR.rf _ τ0) (fun j => by rw [if_neg (by omega)]) (fun j => by rw [if_neg (by omega)])
  simp only [g_111_50, g_111_51, Nat.not_lt_zero, Bool.false_eq_true, Option.toList_some, Option.toList_none, List.cons_append, List.nil_append, kv_rv, kc1_i, kc1_r, kc1_n, n10, n01, n1514, n1213, n1312, if_true, if_false, not_true_eq_false, not_false_eq_true, and_self, true_and, and_true, false_and, and_false, or_true, true_or, or_false, false_or, Nat.reduceLeDiff, Nat.reduceLT, Nat.reduceEqDiff, Nat.reduceAdd]
  refine rdI_l2 (fr.js js0) hk (fun υ fr2 h3 => ?_) 6 0 (by omega) τ (FR.rf _ τ) (fun j => by rw [if_neg (by omega)])
  refine H υ ((fr.mono (fun b j q => by omega)).tr (fr2.mono (fun b j q => by omega))) ?_
  have e1 : kv_i υ (103 + 6 * k) = fun j => if j < G ∧ kv_i τ0 (103 + 6 * k) j = Int32.ofNat (8 + g) then x else kv_i τ0 (103 + 6 * k) j := by funext j; rw [fr2.i (by omega)]; exact h1 j
  have e2 : kv_i υ (104 + 6 * k) = fun j => if j < G ∧ kv_i τ0 (104 + 6 * k) j = Int32.ofNat (8 + g) then x else kv_i τ0 (104 + 6 * k) j := by funext j; rw [fr2.i (by omega)]; exact h2 j
  have e3 : kv_i υ (106 + 6 * k) = fun j => if j < 6 ∧ kv_i τ0 (106 + 6 * k) j = Int32.ofNat (8 + g) then x else kv_i τ0 (106 + 6 * k) j := by funext j; rw [h3 j, fr.i (by omega)]
  show (kv_i υ (103 + 6 * k), kv_i υ (104 + 6 * k), kv_i υ (106 + 6 * k)) = _
  rw [e1, e2, e3]
  rfl
end SD

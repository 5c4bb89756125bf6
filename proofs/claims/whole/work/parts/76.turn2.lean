section TV
variable {d : Nat} {Φ : Option Value → kv_S → Prop}
theorem turn_l1 {σ0 : kv_S} (hj0 : JS σ0) {k w G g : Nat} (hn : JN1' σ0 k w G) (hv : vld σ0 k w G) (hg : g < G) (H : ∀ τ, FR (fun b _ => b = 31) σ0 τ → (∀ j, j < nwc w → ∀ r, r < 64 → lb (kv_l τ 31 ((10 + g) * 4 + j)) r = !vo σ0 k G 1000 (64 * j + r) (Int32.ofNat (8 + g))) → Wp (d + 1) 99 51 [.ref 30, .ref (101 + 6 * k), .ref 26, .int (Int32.ofNat g), .int (Int32.ofNat ((10 + g) * 4)), .int (Int32.ofNat (nwc w))] [] τ Φ) : ∀ m j, j + m = nwc w → ∀ τ, FR (fun b _ => b = 31) σ0 τ → (∀ j', j' < j → ∀ r, r < 64 → lb (kv_l τ 31 ((10 + g) * 4 + j')) r = !vo σ0 k G 1000 (64 * j' + r) (Int32.ofNat (8 + g))) → Wp (d + 1) 99 12 [.ref 30, .ref (101 + 6 * k), .ref 26, .int (Int32.ofNat g), .int (Int32.ofNat ((10 + g) * 4)), .int (Int32.ofNat j)] [] τ Φ
  | 0, j, e, τ, fr, hs => by
    have h4 := (nw_4 w hn.2.1).1
    have e2 : j = nwc w := by omega
    have js := fr.js hj0
    have ew : kv_i τ 26 1 = Int32.ofNat (nwc w) := by rw [fr.i (by omega)]; exact hv.1
    simp only [g_99_12, g_99_14, g_99_15, g_99_18, ari_aa, ari_al, ari_la, ari_mm, ari_ml, ari_lm, ari_ltl, ari_llt, ari_lt, ari_le, ari_lel, ari_lle, ari_0, ari_eq, ari_eql, ari_leq, ari_cl, Nat.not_lt_zero, Bool.false_eq_true, Option.toList_some, Option.toList_none, List.cons_append, List.nil_append, kv_rv, kc1_i, kc1_r, kc1_n, n10, n01, n1514, n1213, n1312, if_true, if_false, not_true_eq_false, not_false_eq_true, and_self, true_and, and_true, false_and, and_false, or_true, true_or, or_false, false_or, Nat.reduceLeDiff, Nat.reduceLT, Nat.reduceEqDiff, Nat.reduceAdd, s_26 js, ew, (show j < 5 by omega), (show j < 2147483648 by omega), (show nwc w < 5 by omega), (show nwc w < 2147483648 by omega), (show nwc w ≤ j by omega)]
    rw [e2] at hs ⊢
    exact H τ fr hs
  | m + 1, j, e, τ, fr, hs => by
    have h4 := (nw_4 w hn.2.1).1
    have hG := hn.2.2.1
    have js := fr.js hj0
    have ew : kv_i τ 26 1 = Int32.ofNat (nwc w) := by rw [fr.i (by omega)]; exact hv.1
    have eo := onn_nat (8 + g)
    rw [show 8 + g + 2 = 10 + g by omega] at eo
    simp only [g_99_12, g_99_14, g_99_15, g_99_18, ari_aa, ari_al, ari_la, ari_mm, ari_ml, ari_lm, ari_ltl, ari_llt, ari_lt, ari_le, ari_lel, ari_lle, ari_0, ari_eq, ari_eql, ari_leq, ari_cl, Nat.not_lt_zero, Bool.false_eq_true, Option.toList_some, Option.toList_none, List.cons_append, List.nil_append, kv_rv, kc1_i, kc1_r, kc1_n, n10, n01, n1514, n1213, n1312, if_true, if_false, not_true_eq_false, not_false_eq_true, and_self, true_and, and_true, false_and, and_false, or_true, true_or, or_false, false_or, Nat.reduceLeDiff, Nat.reduceLT, Nat.reduceEqDiff, Nat.reduceAdd, s_26 js, ew, (show j < 5 by omega), (show j < 2147483648 by omega), (show nwc w < 5 by omega), (show nwc w < 2147483648 by omega), (show ¬ nwc w ≤ j by omega)]
    simp only [g_99_21, g_99_22, g_99_25, g_99_27, g_99_29, g_99_30, g_99_31, g_99_33, g_99_34, g_99_35, g_99_37, g_99_40, g_99_43, g_99_44, g_99_45, g_99_48, kv_w8_0, kv_w8_1, kv_w8_2, kv_w8_3, kv_w8_4, ari_aa, ari_al, ari_la, ari_mm, ari_ml, ari_lm, ari_ltl, ari_llt, ari_lt, ari_le, ari_lel, ari_lle, ari_0, ari_eq, ari_eql, ari_leq, ari_cl, Nat.not_lt_zero, Bool.false_eq_true, Option.toList_some, Option.toList_none, List.cons_append, List.nil_append, kv_rv, kc1_i, kc1_r, kc1_n, n10, n01, n1514, n1213, n1312, if_true, if_false, not_true_eq_false, not_false_eq_true, and_self, true_and, and_true, false_and, and_false, or_true, true_or, or_false, false_or, Nat.reduceLeDiff, Nat.reduceLT, Nat.reduceEqDiff, Nat.reduceAdd, s_30 js, r_8_7 js, s_31 js, r_30_0 js, s_26 js, r_8_5 js, m_word js (show VV 26 from Or.inl rfl) eo (show 10 + g < 50 by omega) (show j < 4 by omega), (show (10 + g) * 4 + j < 200 by omega), (show (10 + g) * 4 + j < 2147483648 by omega)]
    refine turn_l1 hj0 hn hv hg H m (j + 1) (by omega) _ (fr.sl rfl) (fun j' hj' r hr => ?_)
    by_cases c : j' = j
    · subst c
      rw [eq_l ⟨rfl, rfl⟩, lb_not _ hr]
      have e1 := hv.2 (Int32.ofNat (8 + g)) (Or.inr (Or.inr (Or.inr ⟨g, hg, rfl⟩))) j' (by omega) r hr
      rw [onn_of eo (by omega)] at e1
      rw [fr.l (by omega), e1]
    · rw [ne_l (by omega)]; exact hs j' (by omega) r hr
theorem turn_l2 {σ0 : kv_S} (hj0 : JS σ0) {k w G g0 : Nat} {v4 : Int32} (hk : k < 8) (hn : JN1' σ0 k w G) (hv : vld σ0 k w G) (H : ∀ τ, tnI σ0 k w G g0 τ G → Φ none τ) : ∀ m h, h + m = G → g0 < h → ∀ τ, tnI σ0 k w G g0 τ h → Wp (d + 3) 99 67 [.ref 30, .ref (101 + 6 * k), .ref 26, .int (Int32.ofNat g0), .int v4, .int (Int32.ofNat h)] [] τ Φ
  | 0, h, e, hg, τ, hI => by
    have hG := hn.2.2.1
    have e2 : h = G := by omega
    subst e2
    have js := hI.1.js hj0
    have e6 : kv_i τ (101 + 6 * k) 6 = Int32.ofNat h := by rw [hI.1.i (by omega)]; exact hn.2.2.2.2.2.1
    simp only [g_99_67, g_99_69, g_99_70, g_99_73, g_99_124, ari_aa, ari_al, ari_la, ari_mm, ari_ml, ari_lm, ari_ltl, ari_llt, ari_lt, ari_le, ari_lel, ari_lle, ari_0, ari_eq, ari_eql, ari_leq, ari_cl, Nat.not_lt_zero, Bool.false_eq_true, Option.toList_some, Option.toList_none, List.cons_append, List.nil_append, kv_rv, kc1_i, kc1_r, kc1_n, n10, n01, n1514, n1213, n1312, if_true, if_false, not_true_eq_false, not_false_eq_true, and_self, true_and, and_true, false_and, and_false, or_true, true_or, or_false, false_or, Nat.reduceLeDiff, Nat.reduceLT, Nat.reduceEqDiff, Nat.reduceAdd, nN js hk, e6, (show h < 41 by omega), (show h < 2147483648 by omega), (show h ≤ h by omega)]
    exact H τ hI
  | m + 1, h, e, hg, τ, hI => by
    have hG := hn.2.2.1
    have js := hI.1.js hj0
    have e6 : kv_i τ (101 + 6 * k) 6 = Int32.ofNat G := by rw [hI.1.i (by omega)]; exact hn.2.2.2.2.2.1
    have v := hn.xy h (by omega)
    have vx := v.1.onn hn.2.1 (show h ≤ 40 by omega)
    have vy := v.2.onn hn.2.1 (show h ≤ 40 by omega)
    have ex : kv_i τ (103 + 6 * k) h = kv_i σ0 (103 + 6 * k) h := hI.1.i (by omega)
    have ey : kv_i τ (104 + 6 * k) h = kv_i σ0 (104 + 6 * k) h := hI.1.i (by omega)
    simp only [g_99_67, g_99_69, g_99_70, g_99_73, ari_aa, ari_al, ari_la, ari_mm, ari_ml, ari_lm, ari_ltl, ari_llt, ari_lt, ari_le, ari_lel, ari_lle, ari_0, ari_eq, ari_eql, ari_leq, ari_cl, Nat.not_lt_zero, Bool.false_eq_true, Option.toList_some, Option.toList_none, List.cons_append, List.nil_append, kv_rv, kc1_i, kc1_r, kc1_n, n10, n01, n1514, n1213, n1312, if_true, if_false, not_true_eq_false, not_false_eq_true, and_self, true_and, and_true, false_and, and_false, or_true, true_or, or_false, false_or, Nat.reduceLeDiff, Nat.reduceLT, Nat.reduceEqDiff, Nat.reduceAdd, nN js hk, e6, (show h < 41 by omega), (show h < 2147483648 by omega), (show G < 41 by omega), (show G < 2147483648 by omega), (show ¬ G ≤ h by omega)]
    have again : Wp (d + 3) 99 110 [.ref 30, .ref (101 + 6 * k), .ref 26, .int (Int32.ofNat g0), .int v4, .int (Int32.ofNat h)] [] τ Φ := by
      simp only [g_99_110, g_99_111, g_99_112, g_99_113, g_99_115, kv_w8_0, kv_w8_1, kv_w8_2, kv_w8_3, kv_w8_4, Nat.not_lt_zero, Bool.false_eq_true, Option.toList_some, Option.toList_none, List.cons_append, List.nil_append, kv_rv, kc1_i, kc1_r, kc1_n, n10, n01, n1514, n1213, n1312, if_true, if_false, not_true_eq_false, not_false_eq_true, and_self, true_and, and_true, false_and, and_false, or_true, true_or, or_false, false_or, Nat.reduceLeDiff, Nat.reduceLT, Nat.reduceEqDiff, Nat.reduceAdd, s_30 js, r_8_7 js]
      refine m_workAnew hj0 hk hn hv (by omega) hg hI (fun τ2 hI2 => ?_)
      simp only [g_99_118, g_99_121, ari_aa, ari_al, ari_la, ari_mm, ari_ml, ari_lm, ari_ltl, ari_llt, ari_lt, ari_le, ari_lel, ari_lle, ari_0, ari_eq, ari_eql, ari_leq, ari_cl, Nat.not_lt_zero, Bool.false_eq_true, Option.toList_some, Option.toList_none, List.cons_append, List.nil_append, kv_rv, kc1_i, kc1_r, kc1_n, n10, n01, n1514, n1213, n1312, if_true, if_false, not_true_eq_false, not_false_eq_true, and_self, true_and, and_true, false_and, and_false, or_true, true_or, or_false, false_or, Nat.reduceLeDiff, Nat.reduceLT, Nat.reduceEqDiff, Nat.reduceAdd]
      exact turn_l2 hj0 hk hn hv H m (h + 1) (by omega) (by omega) τ2 hI2
    by_cases c1 : lb (kv_l τ 30 1) (onn (kv_i σ0 (103 + 6 * k) h)) = true
    · simp only [g_99_76, g_99_77, g_99_80, g_99_81, g_99_84, g_99_86, g_99_87, g_99_90, g_99_93, g_99_94, g_99_97, g_99_98, g_99_101, g_99_103, g_99_104, g_99_107, kv_w8_0, kv_w8_1, kv_w8_2, kv_w8_3, kv_w8_4, ari_aa, ari_al, ari_la, ari_mm, ari_ml, ari_lm, ari_ltl, ari_llt, ari_lt, ari_le, ari_lel, ari_lle, ari_0, ari_eq, ari_eql, ari_leq, ari_cl, Nat.not_lt_zero, Bool.false_eq_true, Option.toList_some, Option.toList_none, List.cons_append, List.nil_append, kv_rv, kc1_i, kc1_r, kc1_n, n10, n01, n1514, n1213, n1312, if_true, if_false, not_true_eq_false, not_false_eq_true, and_self, true_and, and_true, false_and, and_false, or_true, true_or, or_false, false_or, Nat.reduceLeDiff, Nat.reduceLT, Nat.reduceEqDiff, Nat.reduceAdd, s_30 js, r_8_7 js, nN js hk, nX js hk, qX js hk, ex, m_has _ vx.1 (show _ < 64 by omega), c1, (show h < 40 by omega), (show h < 2147483648 by omega)]
      exact again
    · by_cases c2 : lb (kv_l τ 30 1) (onn (kv_i σ0 (104 + 6 * k) h)) = true
      · simp only [g_99_76, g_99_77, g_99_80, g_99_81, g_99_84, g_99_86, g_99_87, g_99_90, g_99_93, g_99_94, g_99_97, g_99_98, g_99_101, g_99_103, g_99_104, g_99_107, kv_w8_0, kv_w8_1, kv_w8_2, kv_w8_3, kv_w8_4, ari_aa, ari_al, ari_la, ari_mm, ari_ml, ari_lm, ari_ltl, ari_llt, ari_lt, ari_le, ari_lel, ari_lle, ari_0, ari_eq, ari_eql, ari_leq, ari_cl, Nat.not_lt_zero, Bool.false_eq_true, Option.toList_some, Option.toList_none, List.cons_append, List.nil_append, kv_rv, kc1_i, kc1_r, kc1_n, n10, n01, n1514, n1213, n1312, if_true, if_false, not_true_eq_false, not_false_eq_true, and_self, true_and, and_true, false_and, and_false, or_true, true_or, or_false, false_or, Nat.reduceLeDiff, Nat.reduceLT, Nat.reduceEqDiff, Nat.reduceAdd, s_30 js, r_8_7 js, nN js hk, nX js hk, qX js hk, nY js hk, qY js hk, ex, ey, m_has _ vx.1 (show onn (kv_i σ0 (103 + 6 * k) h) < 64 by omega), m_has _ vy.1 (show onn (kv_i σ0 (104 + 6 * k) h) < 64 by omega), c1, c2, (show h < 40 by omega), (show h < 2147483648 by omega)]
        exact again
      · simp only [g_99_76, g_99_77, g_99_80, g_99_81, g_99_84, g_99_86, g_99_87, g_99_90, g_99_93, g_99_94, g_99_97, g_99_98, g_99_101, g_99_103, g_99_104, g_99_107, g_99_118, g_99_121, kv_w8_0, kv_w8_1, kv_w8_2, kv_w8_3, kv_w8_4, ari_aa, ari_al, ari_la, ari_mm, ari_ml, ari_lm, ari_ltl, ari_llt, ari_lt, ari_le, ari_lel, ari_lle, ari_0, ari_eq, ari_eql, ari_leq, ari_cl, Nat.not_lt_zero, Bool.false_eq_true, Option.toList_some, Option.toList_none, List.cons_append, List.nil_append, kv_rv, kc1_i, kc1_r, kc1_n, n10, n01, n1514, n1213, n1312, if_true, if_false, not_true_eq_false, not_false_eq_true, and_self, true_and, and_true, false_and, and_false, or_true, true_or, or_false, false_or, Nat.reduceLeDiff, Nat.reduceLT, Nat.reduceEqDiff, Nat.reduceAdd, s_30 js, r_8_7 js, nN js hk, nX js hk, qX js hk, nY js hk, qY js hk, ex, ey, m_has _ vx.1 (show onn (kv_i σ0 (103 + 6 * k) h) < 64 by omega), m_has _ vy.1 (show onn (kv_i σ0 (104 + 6 * k) h) < 64 by omega), c1, c2, (show h < 40 by omega), (show h < 2147483648 by omega)]
        refine turn_l2 hj0 hk hn hv H m (h + 1) (by omega) (by omega) τ ⟨hI.1, fun x hx j hj r hr => ?_, fun n hn1 q => ?_⟩
        · have eo := onn_nat (8 + h)
          rw [show 8 + h + 2 = 10 + h by omega] at eo
          have oh : onn (Int32.ofNat (8 + h)) = 10 + h := onn_of eo (by omega)
          rcases hx with q | q | q | ⟨i, hi, q⟩
          · exact hI.2.1 x (Or.inl q) j hj r hr
          · exact hI.2.1 x (Or.inr (Or.inl q)) j hj r hr
          · exact hI.2.1 x (Or.inr (Or.inr (Or.inl q))) j hj r hr
          · by_cases c : i = h
            · subst c
              rw [q]
              have hnot : ¬ lb (kv_l τ 30 1) (10 + i) = true := fun q => by have := (hI.2.2 (10 + i) (by omega) q).2; omega
              have e1 := hv.2 (Int32.ofNat (8 + i)) (Or.inr (Or.inr (Or.inr ⟨i, by omega, rfl⟩))) j hj r hr
              have f1 := hI.2.1 _ v.1 j hj r hr
              have f2 := hI.2.1 _ v.2 j hj r hr
              have g1 := hv.2 _ (v.1.mono (show i ≤ G by omega)) j hj r hr
              have g2 := hv.2 _ (v.2.mono (show i ≤ G by omega)) j hj r hr
              unfold tw at f1 f2 ⊢
              rw [if_neg c1, hI.1.l (by omega), g1] at f1
              rw [if_neg c2, hI.1.l (by omega), g2] at f2
              rw [oh] at e1 ⊢
              rw [if_neg hnot, hI.1.l (by omega), e1, vo_gate hn (show i < G by omega), vo_gate hn (show i < G by omega), f1, f2, decide_eq_false (show ¬ g0 = i by omega), decide_eq_false (show ¬ 1000 = i by omega)]
            · exact hI.2.1 x (Or.inr (Or.inr (Or.inr ⟨i, by omega, q⟩))) j hj r hr
        · have := hI.2.2 n hn1 q; omega
/-- operands ahead of the turned gate -/
theorem vo_ahead {σ : kv_S} {k w G g row : Nat} (hn : JN1' σ k w G) (hg : g < G) {x : Int32} (hx : vO w g x) : vo σ k G g row x = vo σ k G 1000 row x := by
  have hG := hn.2.2.1
  unfold vo vl
  refine nvo_cong hn.2.1 (show g ≤ 40 by omega) (fun i hi => ?_) (fun _ _ => rfl) hx
  rw [nv_le hi (by omega), nv_le (G := G) hi (by omega)]
  exact nv_lo g (Nat.le_refl _) (by omega) i
theorem m_turn {σ0 : kv_S} (hj0 : JS σ0) {k w G g : Nat} (hk : k < 8) (hn : JN1' σ0 k w G) (hv : vld σ0 k w G) (hg : g < G) (H : ∀ τ, tnI σ0 k w G g τ G → Φ none τ) : Wc (d + 3) 99 [.ref 30, .ref (101 + 6 * k), .ref 26, .int (Int32.ofNat g)] σ0 Φ := by
  have hG := hn.2.2.1
  have eo := onn_nat (8 + g)
  rw [show 8 + g + 2 = 10 + g by omega] at eo
  have oh : onn (Int32.ofNat (8 + g)) = 10 + g := onn_of eo (by omega)
  simp only [c_99, g_99_0, g_99_2, g_99_3, g_99_4, g_99_7, g_99_9, g_99_10, kv_w8_0, kv_w8_1, kv_w8_2, kv_w8_3, kv_w8_4, ari_aa, ari_al, ari_la, ari_mm, ari_ml, ari_lm, ari_ltl, ari_llt, ari_lt, ari_le, ari_lel, ari_lle, ari_0, ari_eq, ari_eql, ari_leq, ari_cl, Nat.not_lt_zero, Bool.false_eq_true, Option.toList_some, Option.toList_none, List.cons_append, List.nil_append, kv_rv, kc1_i, kc1_r, kc1_n, n10, n01, n1514, n1213, n1312, if_true, if_false, not_true_eq_false, not_false_eq_true, and_self, true_and, and_true, false_and, and_false, or_true, true_or, or_false, false_or, Nat.reduceLeDiff, Nat.reduceLT, Nat.reduceEqDiff, Nat.reduceAdd, m_start _ eo]
  refine turn_l1 hj0 hn hv hg (fun τ fr hs => ?_) (nwc w) 0 (by omega) σ0 (FR.rf _ σ0) (fun j' hj' => absurd hj' (by omega))
  have js := fr.js hj0
  simp only [g_99_51, g_99_52, g_99_54, g_99_55, g_99_56, g_99_59, g_99_62, g_99_63, g_99_64, g_99_65, kv_w8_0, kv_w8_1, kv_w8_2, kv_w8_3, kv_w8_4, ari_aa, ari_al, ari_la, ari_mm, ari_ml, ari_lm, ari_ltl, ari_llt, ari_lt, ari_le, ari_lel, ari_lle, ari_0, ari_eq, ari_eql, ari_leq, ari_cl, Nat.not_lt_zero, Bool.false_eq_true, Option.toList_some, Option.toList_none, List.cons_append, List.nil_append, kv_rv, kc1_i, kc1_r, kc1_n, n10, n01, n1514, n1213, n1312, if_true, if_false, not_true_eq_false, not_false_eq_true, and_self, true_and, and_true, false_and, and_false, or_true, true_or, or_false, false_or, Nat.reduceLeDiff, Nat.reduceLT, Nat.reduceEqDiff, Nat.reduceAdd, s_30 js, r_8_7 js, m_bitOf]
  have lbb : ∀ n, n < 64 → lb (lbo (Int32.ofNat (8 + g))) n = decide (n = 10 + g) := fun n hn1 => lb_lbo eo (by omega) hn1
  refine turn_l2 hj0 hk hn hv H (G - (g + 1)) (g + 1) (by omega) (by omega) _ ⟨(fr.mono (fun b i q => Or.inl q)).sl (Or.inr ⟨rfl, rfl⟩), fun x hx j hj r hr => ?_, fun n hn1 q => ?_⟩
  · unfold tw
    rw [eq_l ⟨rfl, rfl⟩, ne_l (by omega), ne_l (by omega)]
    have o := hx.onn hn.2.1 (by omega)
    rw [lbb _ (by omega)]
    by_cases c : x = Int32.ofNat (8 + g)
    · subst c
      rw [oh, decide_eq_true rfl, if_pos rfl, hs j hj r hr, vo_gate hn hg, vo_gate hn hg, vo_ahead hn hg (hn.xy g hg).1, vo_ahead hn hg (hn.xy g hg).2, decide_eq_true rfl, decide_eq_false (show ¬ 1000 = g by omega)]
      cases (tbN σ0 k g).testBit _ <;> rfl
    · have hne : ¬ onn x = 10 + g := fun q => by rw [q] at o; exact c (onn_inj o.1 eo)
      rw [decide_eq_false hne, if_neg (by decide)]
      have hx2 : vO w g x := by
        rcases hx with q | q | q | ⟨i, hi, q⟩
        · exact Or.inl q
        · exact Or.inr (Or.inl q)
        · exact Or.inr (Or.inr (Or.inl q))
        · refine Or.inr (Or.inr (Or.inr ⟨i, ?_, q⟩))
          have : i ≠ g := fun e => c (by rw [q, e])
          omega
      have e1 := hv.2 x (hx2.mono (by omega)) j hj r hr
      rw [fr.l (by omega), e1, vo_ahead hn hg hx2]
  · rw [eq_l ⟨rfl, rfl⟩, lbb n hn1, decide_eq_true_eq] at q
    omega
end TV

/-! ===== shaping: the class's pieces ===== -/
theorem rt0 : ∀ t, t < 16 → ∀ c, c < 16 → ((Int32.ofNat t ^^^ 0) &&& Int32.ofNat c = 0 ↔ t &&& c = 0) := by decide +kernel
theorem rt1 : ∀ t, t < 16 → ∀ c, c < 16 → ((Int32.ofNat t ^^^ 15) &&& Int32.ofNat c = 0 ↔ (t ^^^ 15) &&& c = 0) := by decide +kernel
theorem rt2 : ∀ t, t < 16 → ∀ c, c < 16 → ((Int32.ofNat t ^^^ 10) &&& Int32.ofNat c = 0 ↔ (t ^^^ 10) &&& c = 0) := by decide +kernel
theorem rt3 : ∀ t, t < 16 → ∀ c, c < 16 → ((Int32.ofNat t ^^^ 12) &&& Int32.ofNat c = 0 ↔ (t ^^^ 12) &&& c = 0) := by decide +kernel
theorem kR : (kv_ki 5).getD 0 0 = 0 ∧ (kv_ki 5).getD 1 0 = 15 ∧ (kv_ki 5).getD 2 0 = 10 ∧ (kv_ki 5).getD 3 0 = 12 := by decide
/-- the net that the class holds -/
def cNet (σ : kv_S) (k : Nat) : aN := (kv_i σ (103 + 6 * k), kv_i σ (104 + 6 * k), kv_i σ (106 + 6 * k))
section SC2
variable {d : Nat} {Φ : Option Value → kv_S → Prop}
theorem isTwin_loop {τ : kv_S} (js : JS τ) {k w G g h : Nat} (hn : JNc τ k w G) (hv : vld τ k w G) (hg : g < G) (hh : h < G) (H1 : (∀ j, j < nwc w → kv_l τ 27 ((10 + h) * 4 + j) = kv_l τ 27 ((10 + g) * 4 + j)) → Φ (some (.int 1)) τ) (H0 : ¬ (∀ j, j < nwc w → kv_l τ 27 ((10 + h) * 4 + j) = kv_l τ 27 ((10 + g) * 4 + j)) → Φ (some (.int 0)) τ) : ∀ m j, j + m = nwc w → (∀ i, i < j → kv_l τ 27 ((10 + h) * 4 + i) = kv_l τ 27 ((10 + g) * 4 + i)) → Wp (d + 1) 108 2 [.ref 26, .int (Int32.ofNat (8 + h)), .int (Int32.ofNat (8 + g)), .int (Int32.ofNat j)] [] τ Φ
  | 0, j, e, hs => by
    have h4 := (nw_4 w hn.2.1).1
    have e2 : j = nwc w := by omega
    simp only [g_108_2, g_108_3, g_108_4, g_108_7, g_108_34, g_108_35, ari_aa, ari_al, ari_la, ari_mm, ari_ml, ari_lm, ari_ltl, ari_llt, ari_lt, ari_le, ari_lel, ari_lle, ari_0, ari_eq, ari_eql, ari_leq, ari_cl, Nat.not_lt_zero, Bool.false_eq_true, Option.toList_some, Option.toList_none, List.cons_append, List.nil_append, kv_rv, kc1_i, kc1_r, kc1_n, n10, n01, n1514, n1213, n1312, if_true, if_false, not_true_eq_false, not_false_eq_true, and_self, true_and, and_true, false_and, and_false, or_true, true_or, or_false, false_or, Nat.reduceLeDiff, Nat.reduceLT, Nat.reduceEqDiff, Nat.reduceAdd, s_26 js, hv.1, (show j < 5 by omega), (show j < 2147483648 by omega), (show nwc w < 5 by omega), (show nwc w < 2147483648 by omega), (show nwc w ≤ j by omega)]
    rw [e2] at hs
    exact H1 hs
  | m + 1, j, e, hs => by
    have h4 := (nw_4 w hn.2.1).1
    have hG := hn.2.2.1
    have eg := onn_nat (8 + g)
    rw [show 8 + g + 2 = 10 + g by omega] at eg
    have eh := onn_nat (8 + h)
    rw [show 8 + h + 2 = 10 + h by omega] at eh
    simp only [g_108_2, g_108_3, g_108_4, g_108_7, ari_aa, ari_al, ari_la, ari_mm, ari_ml, ari_lm, ari_ltl, ari_llt, ari_lt, ari_le, ari_lel, ari_lle, ari_0, ari_eq, ari_eql, ari_leq, ari_cl, Nat.not_lt_zero, Bool.false_eq_true, Option.toList_some, Option.toList_none, List.cons_append, List.nil_append, kv_rv, kc1_i, kc1_r, kc1_n, n10, n01, n1514, n1213, n1312, if_true, if_false, not_true_eq_false, not_false_eq_true, and_self, true_and, and_true, false_and, and_false, or_true, true_or, or_false, false_or, Nat.reduceLeDiff, Nat.reduceLT, Nat.reduceEqDiff, Nat.reduceAdd, s_26 js, hv.1, (show j < 5 by omega), (show j < 2147483648 by omega), (show nwc w < 5 by omega), (show nwc w < 2147483648 by omega), (show ¬ nwc w ≤ j by omega)]
    by_cases c : kv_l τ 27 ((10 + h) * 4 + j) = kv_l τ 27 ((10 + g) * 4 + j)
    · simp only [g_108_10, g_108_11, g_108_12, g_108_13, g_108_16, g_108_17, g_108_18, g_108_19, g_108_22, g_108_23, g_108_26, g_108_27, g_108_28, g_108_31, kv_w8_0, kv_w8_1, kv_w8_2, kv_w8_3, kv_w8_4, ari_aa, ari_al, ari_la, ari_mm, ari_ml, ari_lm, ari_ltl, ari_llt, ari_lt, ari_le, ari_lel, ari_lle, ari_0, ari_eq, ari_eql, ari_leq, ari_cl, Nat.not_lt_zero, Bool.false_eq_true, Option.toList_some, Option.toList_none, List.cons_append, List.nil_append, kv_rv, kc1_i, kc1_r, kc1_n, n10, n01, n1514, n1213, n1312, if_true, if_false, not_true_eq_false, not_false_eq_true, and_self, true_and, and_true, false_and, and_false, or_true, true_or, or_false, false_or, Nat.reduceLeDiff, Nat.reduceLT, Nat.reduceEqDiff, Nat.reduceAdd, s_26 js, m_word js (show VV 26 from Or.inl rfl) eh (show 10 + h < 50 by omega) (show j < 4 by omega), m_word js (show VV 26 from Or.inl rfl) eg (show 10 + g < 50 by omega) (show j < 4 by omega), Nat.reduceAdd, lg_cmp_eq, c]
      refine isTwin_loop js hn hv hg hh H1 H0 m (j + 1) (by omega) (fun i hi => ?_)
      by_cases c2 : i = j
      · rw [c2]; exact c
      · exact hs i (by omega)
    · simp only [g_108_10, g_108_11, g_108_12, g_108_13, g_108_16, g_108_17, g_108_18, g_108_19, g_108_22, g_108_23, g_108_26, g_108_27, g_108_28, g_108_31, kv_w8_0, kv_w8_1, kv_w8_2, kv_w8_3, kv_w8_4, ari_aa, ari_al, ari_la, ari_mm, ari_ml, ari_lm, ari_ltl, ari_llt, ari_lt, ari_le, ari_lel, ari_lle, ari_0, ari_eq, ari_eql, ari_leq, ari_cl, Nat.not_lt_zero, Bool.false_eq_true, Option.toList_some, Option.toList_none, List.cons_append, List.nil_append, kv_rv, kc1_i, kc1_r, kc1_n, n10, n01, n1514, n1213, n1312, if_true, if_false, not_true_eq_false, not_false_eq_true, and_self, true_and, and_true, false_and, and_false, or_true, true_or, or_false, false_or, Nat.reduceLeDiff, Nat.reduceLT, Nat.reduceEqDiff, Nat.reduceAdd, s_26 js, m_word js (show VV 26 from Or.inl rfl) eh (show 10 + h < 50 by omega) (show j < 4 by omega), m_word js (show VV 26 from Or.inl rfl) eg (show 10 + g < 50 by omega) (show j < 4 by omega), Nat.reduceAdd, lg_cmp_eq, c]
      exact H0 (fun q => c (q j (by omega)))
theorem twin_iff {τ : kv_S} {k w G g h : Nat} (hn : JNc τ k w G) (hv : vld τ k w G) (hg : g < G) (hh : h < G) : (∀ j, j < nwc w → kv_l τ 27 ((10 + h) * 4 + j) = kv_l τ 27 ((10 + g) * 4 + j)) ↔ aTw (tbN τ k) (kv_i τ (103 + 6 * k)) (kv_i τ (104 + 6 * k)) G w g h = true := by
  have hG := hn.2.2.1
  have og : onn (Int32.ofNat (8 + g)) = 10 + g := onn_of (by rw [onn_nat]; congr 1; omega) (by omega)
  have oh : onn (Int32.ofNat (8 + h)) = 10 + h := onn_of (by rw [onn_nat]; congr 1; omega) (by omega)
  have vg : vO w G (Int32.ofNat (8 + g)) := Or.inr (Or.inr (Or.inr ⟨g, hg, rfl⟩))
  have vh : vO w G (Int32.ofNat (8 + h)) := Or.inr (Or.inr (Or.inr ⟨h, hh, rfl⟩))
  have bg : ∀ j, j < nwc w → ∀ r, r < 64 → lb (kv_l τ 27 ((10 + g) * 4 + j)) r = vo τ k G 1000 (64 * j + r) (Int32.ofNat (8 + g)) := fun j hj r hr => by have := hv.2 _ vg j hj r hr; rw [og] at this; exact this
  have bh : ∀ j, j < nwc w → ∀ r, r < 64 → lb (kv_l τ 27 ((10 + h) * 4 + j)) r = vo τ k G 1000 (64 * j + r) (Int32.ofNat (8 + h)) := fun j hj r hr => by have := hv.2 _ vh j hj r hr; rw [oh] at this; exact this
  have per := per_any (f := fun row => vo τ k G 1000 row (Int32.ofNat (8 + g)) ^^ vo τ k G 1000 row (Int32.ofNat (8 + h))) hn.2.1 (fun row => by rw [vo_mod_q hn vg row, vo_mod_q hn vh row])
  have e : aTw (tbN τ k) (kv_i τ (103 + 6 * k)) (kv_i τ (104 + 6 * k)) G w g h = !anyN (fun row => vo τ k G 1000 row (Int32.ofNat (8 + g)) ^^ vo τ k G 1000 row (Int32.ofNat (8 + h))) (2 ^ w) := by
    unfold aTw
    congr 1
    refine anyN_congr _ (fun row hr => ?_)
    unfold vo
    rw [nvo_g _ _ (by omega), nvo_g _ _ (by omega)]
    rfl
  rw [e, ← per, Bool.not_eq_true', Bool.eq_false_iff, ne_eq, anyN_iff]
  constructor
  · rintro q ⟨j, hj, q2⟩
    obtain ⟨r, hr, q3⟩ := (anyN_iff 64).mp q2
    rw [← bg j hj r hr, ← bh j hj r hr, q j hj] at q3
    simp at q3
  · intro q j hj
    refine lb_ext (fun r hr => ?_)
    rw [bg j hj r hr, bh j hj r hr]
    refine Classical.byContradiction fun hc => q ⟨j, hj, (anyN_iff 64).mpr ⟨r, hr, ?_⟩⟩
    revert hc
    cases vo τ k G 1000 (64 * j + r) (Int32.ofNat (8 + g)) <;> cases vo τ k G 1000 (64 * j + r) (Int32.ofNat (8 + h)) <;> simp
theorem ftwin_loop {τ : kv_S} (js : JS τ) {k w G g : Nat} (hn : JNc τ k w G) (hv : vld τ k w G) (hg : g < G) (H : Φ (some (.int (Int32.ofNat (fst1 (aTw (tbN τ k) (kv_i τ (103 + 6 * k)) (kv_i τ (104 + 6 * k)) G w g) g 0)))) τ) : ∀ m h, h + m = g → fst1 (aTw (tbN τ k) (kv_i τ (103 + 6 * k)) (kv_i τ (104 + 6 * k)) G w g) g 0 = fst1 (aTw (tbN τ k) (kv_i τ (103 + 6 * k)) (kv_i τ (104 + 6 * k)) G w g) m h → Wp (d + 2) 107 2 [.ref 26, .int (Int32.ofNat g), .int (Int32.ofNat h)] [] τ Φ
  | 0, h, e, hs => by
    have hG := hn.2.2.1
    have e2 : h = g := by omega
    subst e2
    simp only [g_107_2, g_107_3, g_107_4, g_107_30, g_107_31, ari_aa, ari_al, ari_la, ari_mm, ari_ml, ari_lm, ari_ltl, ari_llt, ari_lt, ari_le, ari_lel, ari_lle, ari_0, ari_eq, ari_eql, ari_leq, ari_cl, Nat.not_lt_zero, Bool.false_eq_true, Option.toList_some, Option.toList_none, List.cons_append, List.nil_append, kv_rv, kc1_i, kc1_r, kc1_n, n10, n01, n1514, n1213, n1312, if_true, if_false, not_true_eq_false, not_false_eq_true, and_self, true_and, and_true, false_and, and_false, or_true, true_or, or_false, false_or, Nat.reduceLeDiff, Nat.reduceLT, Nat.reduceEqDiff, Nat.reduceAdd, (show h < 41 by omega), (show h < 2147483648 by omega), (show h ≤ h by omega)]
    rw [hs] at H
    exact H
  | m + 1, h, e, hs => by
    have hG := hn.2.2.1
    have hs : _ = if aTw (tbN τ k) (kv_i τ (103 + 6 * k)) (kv_i τ (104 + 6 * k)) G w g h = true then h else fst1 (aTw (tbN τ k) (kv_i τ (103 + 6 * k)) (kv_i τ (104 + 6 * k)) G w g) m (h + 1) := hs
    simp only [g_107_2, g_107_3, g_107_4, ari_aa, ari_al, ari_la, ari_mm, ari_ml, ari_lm, ari_ltl, ari_llt, ari_lt, ari_le, ari_lel, ari_lle, ari_0, ari_eq, ari_eql, ari_leq, ari_cl, Nat.not_lt_zero, Bool.false_eq_true, Option.toList_some, Option.toList_none, List.cons_append, List.nil_append, kv_rv, kc1_i, kc1_r, kc1_n, n10, n01, n1514, n1213, n1312, if_true, if_false, not_true_eq_false, not_false_eq_true, and_self, true_and, and_true, false_and, and_false, or_true, true_or, or_false, false_or, Nat.reduceLeDiff, Nat.reduceLT, Nat.reduceEqDiff, Nat.reduceAdd, (show h < 41 by omega), (show h < 2147483648 by omega), (show g < 41 by omega), (show g < 2147483648 by omega), (show ¬ g ≤ h by omega)]
    simp only [g_107_7, g_107_8, g_107_10, g_107_11, g_107_12, g_107_14, g_107_15, g_107_16, kv_w8_0, kv_w8_1, kv_w8_2, kv_w8_3, kv_w8_4, ari_aa, ari_al, ari_la, ari_mm, ari_ml, ari_lm, ari_ltl, ari_llt, ari_lt, ari_le, ari_lel, ari_lle, ari_0, ari_eq, ari_eql, ari_leq, ari_cl, Nat.not_lt_zero, Bool.false_eq_true, Option.toList_some, Option.toList_none, List.cons_append, List.nil_append, kv_rv, kc1_i, kc1_r, kc1_n, n10, n01, n1514, n1213, n1312, if_true, if_false, not_true_eq_false, not_false_eq_true, and_self, true_and, and_true, false_and, and_false, or_true, true_or, or_false, false_or, Nat.reduceLeDiff, Nat.reduceLT, Nat.reduceEqDiff, Nat.reduceAdd, s_26 js]
    simp only [c_108, g_108_0, g_108_1, Nat.not_lt_zero, Bool.false_eq_true, Option.toList_some, Option.toList_none, List.cons_append, List.nil_append, kv_rv, kc1_i, kc1_r, kc1_n, n10, n01, n1514, n1213, n1312, if_true, if_false, not_true_eq_false, not_false_eq_true, and_self, true_and, and_true, false_and, and_false, or_true, true_or, or_false, false_or, Nat.reduceLeDiff, Nat.reduceLT, Nat.reduceEqDiff, Nat.reduceAdd]
    refine isTwin_loop js hn hv hg (by omega) (fun q => ?_) (fun q => ?_) (nwc w) 0 (by omega) (fun i hi => absurd hi (by omega))
    · have q2 := (twin_iff hn hv hg (show h < G by omega)).mp q
      rw [if_pos q2] at hs
      simp only [g_107_19, g_107_22, g_107_23, Nat.not_lt_zero, Bool.false_eq_true, Option.toList_some, Option.toList_none, List.cons_append, List.nil_append, kv_rv, kc1_i, kc1_r, kc1_n, n10, n01, n1514, n1213, n1312, if_true, if_false, not_true_eq_false, not_false_eq_true, and_self, true_and, and_true, false_and, and_false, or_true, true_or, or_false, false_or, Nat.reduceLeDiff, Nat.reduceLT, Nat.reduceEqDiff, Nat.reduceAdd]
      rw [hs] at H
      exact H
    · have q2 := mt (twin_iff hn hv hg (show h < G by omega)).mpr q
      rw [if_neg q2] at hs
      simp only [g_107_19, g_107_22, g_107_23, g_107_24, g_107_27, ari_aa, ari_al, ari_la, ari_mm, ari_ml, ari_lm, ari_ltl, ari_llt, ari_lt, ari_le, ari_lel, ari_lle, ari_0, ari_eq, ari_eql, ari_leq, ari_cl, Nat.not_lt_zero, Bool.false_eq_true, Option.toList_some, Option.toList_none, List.cons_append, List.nil_append, kv_rv, kc1_i, kc1_r, kc1_n, n10, n01, n1514, n1213, n1312, if_true, if_false, not_true_eq_false, not_false_eq_true, and_self, true_and, and_true, false_and, and_false, or_true, true_or, or_false, false_or, Nat.reduceLeDiff, Nat.reduceLT, Nat.reduceEqDiff, Nat.reduceAdd]
      exact ftwin_loop js hn hv hg H m (h + 1) (by omega) hs
theorem m_firstTwin {τ : kv_S} (js : JS τ) {k w G g : Nat} (hn : JNc τ k w G) (hv : vld τ k w G) (hg : g < G) (H : Φ (some (.int (Int32.ofNat (fst1 (aTw (tbN τ k) (kv_i τ (103 + 6 * k)) (kv_i τ (104 + 6 * k)) G w g) g 0)))) τ) : Wc (d + 2) 107 [.ref 26, .int (Int32.ofNat g)] τ Φ := by
  simp only [c_107, g_107_0, g_107_1, Nat.not_lt_zero, Bool.false_eq_true, Option.toList_some, Option.toList_none, List.cons_append, List.nil_append, kv_rv, kc1_i, kc1_r, kc1_n, n10, n01, n1514, n1213, n1312, if_true, if_false, not_true_eq_false, not_false_eq_true, and_self, true_and, and_true, false_and, and_false, or_true, true_or, or_false, false_or, Nat.reduceLeDiff, Nat.reduceLT, Nat.reduceEqDiff, Nat.reduceAdd]
  exact ftwin_loop js hn hv hg H g 0 (by omega) rfl
end SC2

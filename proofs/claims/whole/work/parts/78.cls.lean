/-! ===== the class's side of a net alone ===== -/
def JN2c (σ : kv_S) (k w g : Nat) : Prop := (∃ t : Nat, t < 16 ∧ kv_i σ (102 + 6 * k) g = Int32.ofNat t ∧ True) ∧ True ∧ vO w g (kv_i σ (103 + 6 * k) g) ∧ True ∧ vO w g (kv_i σ (104 + 6 * k) g) ∧ True ∧ (kv_i σ (105 + 6 * k) g = 0 ∨ kv_i σ (105 + 6 * k) g = 1)
def JNc (σ : kv_S) (k w G : Nat) : Prop := 1 ≤ w ∧ w ≤ 8 ∧ G ≤ 40 ∧ kv_i σ (101 + 6 * k) 5 = Int32.ofNat w ∧ True ∧ kv_i σ (101 + 6 * k) 6 = Int32.ofNat G ∧ True ∧ (∀ g, g < G → JN2c σ k w g) ∧ ∀ i, i < 6 → True ∧ (kv_i σ (106 + 6 * k) i = -3 ∨ vO w G (kv_i σ (106 + 6 * k) i))
theorem JNc.xy {σ : kv_S} {k w G : Nat} (h : JNc σ k w G) : ∀ g, g < G → vO w g (kv_i σ (103 + 6 * k) g) ∧ vO w g (kv_i σ (104 + 6 * k) g) := fun g hg => by
  obtain ⟨-, -, t5, -, t7, -⟩ := h.2.2.2.2.2.2.2.1 g hg
  exact ⟨t5, t7⟩
theorem JNc.o {σ : kv_S} {k w G : Nat} (h : JNc σ k w G) : ∀ i, i < 6 → kv_i σ (106 + 6 * k) i = -3 ∨ vO w G (kv_i σ (106 + 6 * k) i) := fun i hi => (h.2.2.2.2.2.2.2.2 i hi).2
theorem JN1'.c {σ : kv_S} {k w G : Nat} (h : JN1' σ k w G) : JNc σ k w G := by
  obtain ⟨w1, w2, w3, w4, w5, w6, w7, w8, w9⟩ := h
  refine ⟨w1, w2, w3, w4, trivial, w6, trivial, fun g hg => ?_, fun i hi => ⟨trivial, (w9 i hi).2⟩⟩
  obtain ⟨⟨t, t1, t2, t3⟩, t4, t5, t6, t7, t8, t9⟩ := w8 g hg
  exact ⟨⟨t, t1, t2, trivial⟩, trivial, t5, trivial, t7, trivial, t9⟩
theorem JNc.fr {P : Nat → Nat → Prop} {σ τ : kv_S} (h : FR P σ τ) {k w G : Nat} (hk : k < 8) (hp : ∀ b j, P b j → ¬ (101 ≤ b ∧ b < 149)) (hn : JNc σ k w G) : JNc τ k w G := by
  have c : ∀ b j, (101 ≤ b ∧ b < 149) → kv_i τ b j = kv_i σ b j := fun b j q => h.i (fun q2 => hp b j q2 q)
  unfold JNc JN2c at *
  rw [c (101 + 6 * k) 5 (by omega), c (101 + 6 * k) 6 (by omega)]
  obtain ⟨w1, w2, w3, w4, w5, w6, w7, w8, w9⟩ := hn
  refine ⟨w1, w2, w3, w4, w5, w6, w7, fun g hg => ?_, fun i hi => ?_⟩
  · rw [c (102 + 6 * k) g (by omega), c (103 + 6 * k) g (by omega), c (104 + 6 * k) g (by omega), c (105 + 6 * k) g (by omega)]
    exact w8 g hg
  · rw [c (106 + 6 * k) i (by omega)]; exact w9 i hi
section CQ
variable {d : Nat} {Φ : Option Value → kv_S → Prop}
theorem vo_gate_q {σ : kv_S} {k w G g t row : Nat} (hn : JNc σ k w G) (hg : g < G) : vo σ k G t row (Int32.ofNat (8 + g)) = ((tbN σ k g).testBit (nvb (vo σ k G t row (kv_i σ (103 + 6 * k) g)) (vo σ k G t row (kv_i σ (104 + 6 * k) g))) != decide (t = g)) := by
  have hG := hn.2.2.1
  have v := hn.xy g hg
  unfold vo
  rw [nvo_g _ _ (by omega)]
  exact nv_g hn.2.1 hG hg v.1 v.2
theorem wo_let_q {σ0 : kv_S} (h : JS σ0) (hK : JK σ0) {k w G V j : Nat} (hk : k < 8) (hv : VV V) (hn : JNc σ0 k w G) (hj : j < nwc w) (H : ∀ τ, woI σ0 k w G V j τ w 0 → Wp (d + 1) 36 111 [.ref V, .ref (101 + 6 * k), .int (Int32.ofNat j), .int (Int32.ofNat w)] [] τ Φ) : ∀ m c, c + m = w → ∀ τ, woI σ0 k w G V j τ c 0 → Wp (d + 1) 36 58 [.ref V, .ref (101 + 6 * k), .int (Int32.ofNat j), .int (Int32.ofNat c)] [] τ Φ
  | 0, c, e, τ, hI => by
    have e2 : c = w := by omega
    subst e2
    have hv2 : V = 26 ∨ V = 28 := hv
    have w2 := hn.2.1
    have e5 : kv_i τ (101 + 6 * k) 5 = Int32.ofNat c := by rw [hI.1.i (by omega)]; exact hn.2.2.2.1
    simp only [g_36_58, g_36_59, g_36_60, g_36_63, ari_aa, ari_al, ari_la, ari_mm, ari_ml, ari_lm, ari_ltl, ari_llt, ari_lt, ari_le, ari_lel, ari_lle, ari_0, ari_eq, ari_eql, ari_leq, ari_cl, Nat.not_lt_zero, Bool.false_eq_true, Option.toList_some, Option.toList_none, List.cons_append, List.nil_append, kv_rv, kc1_i, kc1_r, kc1_n, n10, n01, n1514, n1213, n1312, if_true, if_false, not_true_eq_false, not_false_eq_true, and_self, true_and, and_true, false_and, and_false, or_true, true_or, or_false, false_or, Nat.reduceLeDiff, Nat.reduceLT, Nat.reduceEqDiff, Nat.reduceAdd, nN (hI.1.js h) hk, e5, (show c < 9 by omega), (show c < 2147483648 by omega), (show c ≤ c by omega)]
    exact H τ hI
  | m + 1, c, e, τ, hI => by
    have hv2 : V = 26 ∨ V = 28 := hv
    have w2 := hn.2.1
    have hj4 := (nw_4 w w2).1
    have js := hI.1.js h
    have e5 : kv_i τ (101 + 6 * k) 5 = Int32.ofNat w := by rw [hI.1.i (by omega)]; exact hn.2.2.2.1
    have sh0 : kv_sh τ 0 = (11, 6) := by unfold kv_sh; rw [hI.1.1]; exact hK.1
    have l0 : kv_l τ 0 c = kv_kL.getD c 0 := by rw [hI.1.l (by omega)]; exact hK.2.2.2.2.2.2.1 c
    have eo := onn_nat c
    have step : ∀ y, (∀ r, r < 64 → lb y r = vo σ0 k G 1000 (64 * j + r) (Int32.ofNat c)) → woI σ0 k w G V j (kv_sl τ (V + 1) ((c + 2) * 4 + j) y) (c + 1) 0 := by
      intro y hy
      refine ⟨hI.1.sl (Or.inl rfl), hI.2.1, fun x hx j' hj' => (hI.2.2.1 x hx j' hj').ne (by omega) (by omega) (by omega), fun x hx => ?_⟩
      by_cases e : x = Int32.ofNat c
      · subst e
        exact okv.eq (onn_of eo (by omega)) hy
      · refine (hI.2.2.2 x ?_).ne (by omega) (by omega) ?_
        · rcases hx with q | q | ⟨i, hi, q⟩ | ⟨i, hi, q⟩
          · exact Or.inl q
          · exact Or.inr (Or.inl q)
          · refine Or.inr (Or.inr (Or.inl ⟨i, ?_, q⟩))
            have : i ≠ c := fun e2 => e (by rw [q, e2])
            omega
          · omega
        · intro q
          have hx2 := (hx.onn (by omega) (by decide)).1
          rw [q.1] at hx2
          exact e (onn_inj hx2 eo)
    simp only [g_36_58, g_36_59, g_36_60, g_36_63, ari_aa, ari_al, ari_la, ari_mm, ari_ml, ari_lm, ari_ltl, ari_llt, ari_lt, ari_le, ari_lel, ari_lle, ari_0, ari_eq, ari_eql, ari_leq, ari_cl, Nat.not_lt_zero, Bool.false_eq_true, Option.toList_some, Option.toList_none, List.cons_append, List.nil_append, kv_rv, kc1_i, kc1_r, kc1_n, n10, n01, n1514, n1213, n1312, if_true, if_false, not_true_eq_false, not_false_eq_true, and_self, true_and, and_true, false_and, and_false, or_true, true_or, or_false, false_or, Nat.reduceLeDiff, Nat.reduceLT, Nat.reduceEqDiff, Nat.reduceAdd, nN js hk, e5, (show c < 9 by omega), (show c < 2147483648 by omega), (show w < 9 by omega), (show w < 2147483648 by omega), (show ¬ w ≤ c by omega)]
    by_cases c6 : c < 6
    · simp only [g_36_66, g_36_67, g_36_70, g_36_71, g_36_74, g_36_75, g_36_76, g_36_77, g_36_80, g_36_81, g_36_84, g_36_87, g_36_88, g_36_89, g_36_92, g_36_93, g_36_94, g_36_97, g_36_98, g_36_99, g_36_100, g_36_101, g_36_102, g_36_103, g_36_104, g_36_105, g_36_108, kv_w8_0, kv_w8_1, kv_w8_2, kv_w8_3, kv_w8_4, ari_aa, ari_al, ari_la, ari_mm, ari_ml, ari_lm, ari_ltl, ari_llt, ari_lt, ari_le, ari_lel, ari_lle, ari_0, ari_eq, ari_eql, ari_leq, ari_cl, Nat.not_lt_zero, Bool.false_eq_true, Option.toList_some, Option.toList_none, List.cons_append, List.nil_append, kv_rv, kc1_i, kc1_r, kc1_n, n10, n01, n1514, n1213, n1312, if_true, if_false, not_true_eq_false, not_false_eq_true, and_self, true_and, and_true, false_and, and_false, or_true, true_or, or_false, false_or, Nat.reduceLeDiff, Nat.reduceLT, Nat.reduceEqDiff, Nat.reduceAdd, sV js hv, sW js hv, rV js hv, m_start _ eo, sh0, l0, (show c < 6 by omega), (show c < 2147483648 by omega), (show ¬ 6 ≤ c by omega), (show (c + 2) * 4 + j < 200 by omega), (show (c + 2) * 4 + j < 2147483648 by omega), (show 8 ≤ V + 1 by omega)]
      refine wo_let_q h hK hk hv hn hj H m (c + 1) (by omega) _ (step _ (fun r hr => ?_))
      rw [lt_kL c c6 r hr]
      unfold vo
      rw [nvo_l _ _ (by omega), row_lo hr c6]
    · have bh := bit_hi j (by omega) c (by omega) (by omega)
      simp only [g_36_66, g_36_67, g_36_70, g_36_71, g_36_74, g_36_75, g_36_76, g_36_77, g_36_80, g_36_81, g_36_84, g_36_87, g_36_88, g_36_89, g_36_92, g_36_93, g_36_94, g_36_97, g_36_98, g_36_99, g_36_100, g_36_101, g_36_102, g_36_103, g_36_104, g_36_105, g_36_108, kv_w8_0, kv_w8_1, kv_w8_2, kv_w8_3, kv_w8_4, ari_aa, ari_al, ari_la, ari_mm, ari_ml, ari_lm, ari_ltl, ari_llt, ari_lt, ari_le, ari_lel, ari_lle, ari_0, ari_eq, ari_eql, ari_leq, ari_cl, Nat.not_lt_zero, Bool.false_eq_true, Option.toList_some, Option.toList_none, List.cons_append, List.nil_append, kv_rv, kc1_i, kc1_r, kc1_n, n10, n01, n1514, n1213, n1312, if_true, if_false, not_true_eq_false, not_false_eq_true, and_self, true_and, and_true, false_and, and_false, or_true, true_or, or_false, false_or, Nat.reduceLeDiff, Nat.reduceLT, Nat.reduceEqDiff, Nat.reduceAdd, ari_ss, sV js hv, sW js hv, rV js hv, m_start _ eo, sh0, bh, (show c < 8 by omega), (show c < 2147483648 by omega), (show 6 ≤ c by omega), (show (c + 2) * 4 + j < 200 by omega), (show (c + 2) * 4 + j < 2147483648 by omega), (show 8 ≤ V + 1 by omega)]
      refine wo_let_q h hK hk hv hn hj H m (c + 1) (by omega) _ (step _ (fun r hr => ?_))
      rw [lb_if _ hr]
      unfold vo
      rw [nvo_l _ _ (by omega), row_hi hr (by omega)]
theorem wo_gate_q {σ0 : kv_S} (h : JS σ0) {k w G V j : Nat} (hk : k < 8) (hv : VV V) (hn : JNc σ0 k w G) (hj : j < nwc w) (H : ∀ τ, woI σ0 k w G V j τ w G → Wp (d + 1) 36 172 [.ref V, .ref (101 + 6 * k), .int (Int32.ofNat j), .int (Int32.ofNat G)] [] τ Φ) : ∀ m g, g + m = G → ∀ τ, woI σ0 k w G V j τ w g → Wp (d + 1) 36 113 [.ref V, .ref (101 + 6 * k), .int (Int32.ofNat j), .int (Int32.ofNat g)] [] τ Φ
  | 0, g, e, τ, hI => by
    have e2 : g = G := by omega
    subst e2
    have hv2 : V = 26 ∨ V = 28 := hv
    have w2 := hn.2.2.1
    have e6 : kv_i τ (101 + 6 * k) 6 = Int32.ofNat g := by rw [hI.1.i (by omega)]; exact hn.2.2.2.2.2.1
    simp only [g_36_113, g_36_114, g_36_115, g_36_118, ari_aa, ari_al, ari_la, ari_mm, ari_ml, ari_lm, ari_ltl, ari_llt, ari_lt, ari_le, ari_lel, ari_lle, ari_0, ari_eq, ari_eql, ari_leq, ari_cl, Nat.not_lt_zero, Bool.false_eq_true, Option.toList_some, Option.toList_none, List.cons_append, List.nil_append, kv_rv, kc1_i, kc1_r, kc1_n, n10, n01, n1514, n1213, n1312, if_true, if_false, not_true_eq_false, not_false_eq_true, and_self, true_and, and_true, false_and, and_false, or_true, true_or, or_false, false_or, Nat.reduceLeDiff, Nat.reduceLT, Nat.reduceEqDiff, Nat.reduceAdd, nN (hI.1.js h) hk, e6, (show g < 41 by omega), (show g < 2147483648 by omega), (show g ≤ g by omega)]
    exact H τ hI
  | m + 1, g, e, τ, hI => by
    have hv2 : V = 26 ∨ V = 28 := hv
    have hG := hn.2.2.1
    have hj4 := (nw_4 w hn.2.1).1
    have js := hI.1.js h
    have e6 : kv_i τ (101 + 6 * k) 6 = Int32.ofNat G := by rw [hI.1.i (by omega)]; exact hn.2.2.2.2.2.1
    obtain ⟨⟨t, t1, t2, t3⟩, t4, t5, t6, t7, t8, t9⟩ := hn.2.2.2.2.2.2.2.1 g (by omega)
    have et : kv_i τ (102 + 6 * k) g = Int32.ofNat t := by rw [hI.1.i (by omega)]; exact t2
    have ex : kv_i τ (103 + 6 * k) g = kv_i σ0 (103 + 6 * k) g := hI.1.i (by omega)
    have ey : kv_i τ (104 + 6 * k) g = kv_i σ0 (104 + 6 * k) g := hI.1.i (by omega)
    have vx := t5.onn hn.2.1 (by omega)
    have vy := t7.onn hn.2.1 (by omega)
    have eo := onn_nat (8 + g)
    rw [show 8 + g + 2 = 10 + g by omega] at eo
    have etb : tbN σ0 k g = t := by unfold tbN; rw [t2, ari_cl (by omega)]
    simp only [g_36_113, g_36_114, g_36_115, g_36_118, ari_aa, ari_al, ari_la, ari_mm, ari_ml, ari_lm, ari_ltl, ari_llt, ari_lt, ari_le, ari_lel, ari_lle, ari_0, ari_eq, ari_eql, ari_leq, ari_cl, Nat.not_lt_zero, Bool.false_eq_true, Option.toList_some, Option.toList_none, List.cons_append, List.nil_append, kv_rv, kc1_i, kc1_r, kc1_n, n10, n01, n1514, n1213, n1312, if_true, if_false, not_true_eq_false, not_false_eq_true, and_self, true_and, and_true, false_and, and_false, or_true, true_or, or_false, false_or, Nat.reduceLeDiff, Nat.reduceLT, Nat.reduceEqDiff, Nat.reduceAdd, nN js hk, e6, (show g < 41 by omega), (show g < 2147483648 by omega), (show G < 41 by omega), (show G < 2147483648 by omega), (show ¬ G ≤ g by omega)]
    simp only [g_36_121, g_36_122, g_36_125, g_36_127, g_36_128, g_36_129, g_36_132, g_36_133, g_36_134, g_36_135, g_36_138, g_36_139, g_36_140, g_36_141, g_36_142, g_36_145, g_36_146, g_36_147, g_36_148, g_36_151, g_36_152, g_36_153, g_36_156, g_36_157, g_36_158, g_36_159, g_36_162, kv_w8_0, kv_w8_1, kv_w8_2, kv_w8_3, kv_w8_4, ari_aa, ari_al, ari_la, ari_mm, ari_ml, ari_lm, ari_ltl, ari_llt, ari_lt, ari_le, ari_lel, ari_lle, ari_0, ari_eq, ari_eql, ari_leq, ari_cl, Nat.not_lt_zero, Bool.false_eq_true, Option.toList_some, Option.toList_none, List.cons_append, List.nil_append, kv_rv, kc1_i, kc1_r, kc1_n, n10, n01, n1514, n1213, n1312, if_true, if_false, not_true_eq_false, not_false_eq_true, and_self, true_and, and_true, false_and, and_false, or_true, true_or, or_false, false_or, Nat.reduceLeDiff, Nat.reduceLT, Nat.reduceEqDiff, Nat.reduceAdd, sV js hv, rV js hv, nN js hk, nT js hk, qT js hk, nX js hk, qX js hk, nY js hk, qY js hk, m_start _ eo, m_word js hv vx.1 vx.2 (show j < 4 by omega), m_word js hv vy.1 vy.2 (show j < 4 by omega), et, ex, ey, (show g < 40 by omega), (show g < 2147483648 by omega)]
    refine m_gateWord t1 _ _ (fun z hz => ?_)
    simp only [g_36_165, g_36_166, g_36_169, kv_w8_0, kv_w8_1, kv_w8_2, kv_w8_3, kv_w8_4, ari_aa, ari_al, ari_la, ari_mm, ari_ml, ari_lm, ari_ltl, ari_llt, ari_lt, ari_le, ari_lel, ari_lle, ari_0, ari_eq, ari_eql, ari_leq, ari_cl, Nat.not_lt_zero, Bool.false_eq_true, Option.toList_some, Option.toList_none, List.cons_append, List.nil_append, kv_rv, kc1_i, kc1_r, kc1_n, n10, n01, n1514, n1213, n1312, if_true, if_false, not_true_eq_false, not_false_eq_true, and_self, true_and, and_true, false_and, and_false, or_true, true_or, or_false, false_or, Nat.reduceLeDiff, Nat.reduceLT, Nat.reduceEqDiff, Nat.reduceAdd, sW js hv, (show (10 + g) * 4 + j < 200 by omega), (show (10 + g) * 4 + j < 2147483648 by omega), (show 8 ≤ V + 1 by omega)]
    refine wo_gate_q h hk hv hn hj H m (g + 1) (by omega) _ ⟨hI.1.sl (Or.inl rfl), hI.2.1, fun x hx j' hj' => (hI.2.2.1 x hx j' hj').ne (by omega) (by omega) (by omega), fun x hx => ?_⟩
    by_cases e : x = Int32.ofNat (8 + g)
    · subst e
      refine okv.eq (onn_of eo (by omega)) (fun r hr => ?_)
      rw [hz r hr, vo_gate_q hn (by omega), etb, hI.2.2.2 _ t5 r hr, hI.2.2.2 _ t7 r hr, decide_eq_false (show ¬ 1000 = g by omega)]
      cases t.testBit _ <;> rfl
    · refine (hI.2.2.2 x ?_).ne (by omega) (by omega) ?_
      · rcases hx with q | q | q | ⟨i, hi, q⟩
        · exact Or.inl q
        · exact Or.inr (Or.inl q)
        · exact Or.inr (Or.inr (Or.inl q))
        · refine Or.inr (Or.inr (Or.inr ⟨i, ?_, q⟩))
          have : i ≠ g := fun e2 => e (by rw [q, e2])
          omega
      · intro q
        have hx2 := (hx.onn hn.2.1 (by omega)).1
        rw [q.1] at hx2
        exact e (onn_inj hx2 eo)
theorem wo_out_q {σ0 : kv_S} (h : JS σ0) (hK : JK σ0) {k w G V : Nat} (hk : k < 8) (hv : VV V) (hn : JNc σ0 k w G) (H : ∀ τ, woJ σ0 k w G V (nwc w) τ → Φ none τ) : ∀ m j, j + m = nwc w → ∀ τ, woJ σ0 k w G V j τ → ∀ v3 : Value, Wp (d + 1) 36 21 [.ref V, .ref (101 + 6 * k), .int (Int32.ofNat j), v3] [] τ Φ
  | 0, j, e, τ, hI, v3 => by
    have e2 : j = nwc w := by omega
    have hj4 := (nw_4 w hn.2.1).1
    have js := hI.1.js h
    simp only [g_36_21, g_36_22, g_36_23, g_36_26, g_36_178, ari_aa, ari_al, ari_la, ari_mm, ari_ml, ari_lm, ari_ltl, ari_llt, ari_lt, ari_le, ari_lel, ari_lle, ari_0, ari_eq, ari_eql, ari_leq, ari_cl, Nat.not_lt_zero, Bool.false_eq_true, Option.toList_some, Option.toList_none, List.cons_append, List.nil_append, kv_rv, kc1_i, kc1_r, kc1_n, n10, n01, n1514, n1213, n1312, if_true, if_false, not_true_eq_false, not_false_eq_true, and_self, true_and, and_true, false_and, and_false, or_true, true_or, or_false, false_or, Nat.reduceLeDiff, Nat.reduceLT, Nat.reduceEqDiff, Nat.reduceAdd, sV js hv, hI.2.1, (show j < 5 by omega), (show j < 2147483648 by omega), (show nwc w < 5 by omega), (show nwc w < 2147483648 by omega), (show nwc w ≤ j by omega)]
    rw [e2] at hI
    exact H τ hI
  | m + 1, j, e, τ, hI, v3 => by
    have hv2 : V = 26 ∨ V = 28 := hv
    have hj4 := (nw_4 w hn.2.1).1
    have js := hI.1.js h
    simp only [g_36_21, g_36_22, g_36_23, g_36_26, ari_aa, ari_al, ari_la, ari_mm, ari_ml, ari_lm, ari_ltl, ari_llt, ari_lt, ari_le, ari_lel, ari_lle, ari_0, ari_eq, ari_eql, ari_leq, ari_cl, Nat.not_lt_zero, Bool.false_eq_true, Option.toList_some, Option.toList_none, List.cons_append, List.nil_append, kv_rv, kc1_i, kc1_r, kc1_n, n10, n01, n1514, n1213, n1312, if_true, if_false, not_true_eq_false, not_false_eq_true, and_self, true_and, and_true, false_and, and_false, or_true, true_or, or_false, false_or, Nat.reduceLeDiff, Nat.reduceLT, Nat.reduceEqDiff, Nat.reduceAdd, sV js hv, hI.2.1, (show j < 5 by omega), (show j < 2147483648 by omega), (show nwc w < 5 by omega), (show nwc w < 2147483648 by omega), (show ¬ nwc w ≤ j by omega)]
    simp only [g_36_29, g_36_30, g_36_33, g_36_34, g_36_37, g_36_38, g_36_39, g_36_40, g_36_41, g_36_42, g_36_45, g_36_47, g_36_50, g_36_51, g_36_52, g_36_55, g_36_56, g_36_57, kv_w8_0, kv_w8_1, kv_w8_2, kv_w8_3, kv_w8_4, n_si, n_sl, n_sr, n_mk, sh_si, sh_sl, sh_sr, sh_mk, i_si, i_sl, i_sr, i_mk, l_si, l_sl, l_sr, l_mk, r_si, r_sl, r_sr, r_mk, ari_aa, ari_al, ari_la, ari_mm, ari_ml, ari_lm, ari_ltl, ari_llt, ari_lt, ari_le, ari_lel, ari_lle, ari_0, ari_eq, ari_eql, ari_leq, ari_cl, Nat.not_lt_zero, Bool.false_eq_true, Option.toList_some, Option.toList_none, List.cons_append, List.nil_append, kv_rv, kc1_i, kc1_r, kc1_n, n10, n01, n1514, n1213, n1312, if_true, if_false, not_true_eq_false, not_false_eq_true, and_self, true_and, and_true, false_and, and_false, or_true, true_or, or_false, false_or, Nat.reduceLeDiff, Nat.reduceLT, Nat.reduceEqDiff, Nat.reduceAdd, sV js hv, sW js hv, rV js hv, m_start (-1) (n := 1) (by decide), m_start (-2) (n := 0) (by decide), (show 1 * 4 + j < 200 by omega), (show 1 * 4 + j < 2147483648 by omega), (show 0 * 4 + j < 200 by omega), (show 0 * 4 + j < 2147483648 by omega), (show 8 ≤ V + 1 by omega)]
    refine wo_let_q h hK hk hv hn (by omega) (fun υ hu => ?_) w 0 (by omega) _ ⟨(hI.1.sl (Or.inl rfl)).sl (Or.inl rfl), hI.2.1, fun x hx j' hj' => ((hI.2.2 x hx j' hj').ne (by omega) (by omega) (by omega)).ne (by omega) (by omega) (by omega), fun x hx => ?_⟩
    · simp only [g_36_111, g_36_112, Nat.not_lt_zero, Bool.false_eq_true, Option.toList_some, Option.toList_none, List.cons_append, List.nil_append, kv_rv, kc1_i, kc1_r, kc1_n, n10, n01, n1514, n1213, n1312, if_true, if_false, not_true_eq_false, not_false_eq_true, and_self, true_and, and_true, false_and, and_false, or_true, true_or, or_false, false_or, Nat.reduceLeDiff, Nat.reduceLT, Nat.reduceEqDiff, Nat.reduceAdd]
      refine wo_gate_q h hk hv hn (by omega) (fun ζ hz => ?_) G 0 (by omega) υ hu
      simp only [g_36_172, g_36_175, ari_aa, ari_al, ari_la, ari_mm, ari_ml, ari_lm, ari_ltl, ari_llt, ari_lt, ari_le, ari_lel, ari_lle, ari_0, ari_eq, ari_eql, ari_leq, ari_cl, Nat.not_lt_zero, Bool.false_eq_true, Option.toList_some, Option.toList_none, List.cons_append, List.nil_append, kv_rv, kc1_i, kc1_r, kc1_n, n10, n01, n1514, n1213, n1312, if_true, if_false, not_true_eq_false, not_false_eq_true, and_self, true_and, and_true, false_and, and_false, or_true, true_or, or_false, false_or, Nat.reduceLeDiff, Nat.reduceLT, Nat.reduceEqDiff, Nat.reduceAdd]
      refine wo_out_q h hK hk hv hn H m (j + 1) (by omega) ζ ⟨hz.1, hz.2.1, fun x hx j' hj' => ?_⟩ _
      by_cases e : j' = j
      · subst e; exact hz.2.2.2 x hx
      · exact hz.2.2.1 x hx j' (by omega)
    · rcases hx with rfl | rfl | ⟨i, hi, q⟩ | ⟨i, hi, q⟩
      · refine okv.ne (by omega) (by omega) (by rw [show onn (-1) = 1 by decide]; omega) (okv.eq (by decide) (fun r hr => ?_))
        unfold vo; rw [nvo_0, lb_0]
      · refine okv.eq (by decide) (fun r hr => ?_)
        unfold vo; rw [nvo_1, lb_m1 hr]
      · omega
      · omega
theorem m_workOut_q {σ : kv_S} (h : JS σ) (hK : JK σ) {k w G V : Nat} (hk : k < 8) (hv : VV V) (hn : JNc σ k w G) (H : ∀ τ, woJ σ k w G V (nwc w) τ → Φ none τ) : Wc (d + 1) 36 [.ref V, .ref (101 + 6 * k)] σ Φ := by
  have hv2 : V = 26 ∨ V = 28 := hv
  simp only [c_36, g_36_0, g_36_1, g_36_2, g_36_3, g_36_4, g_36_7, g_36_10, g_36_11, g_36_12, g_36_15, g_36_16, g_36_19, g_36_20, kv_w8_0, kv_w8_1, kv_w8_2, kv_w8_3, kv_w8_4, Nat.not_lt_zero, Bool.false_eq_true, Option.toList_some, Option.toList_none, List.cons_append, List.nil_append, kv_rv, kc1_i, kc1_r, kc1_n, n10, n01, n1514, n1213, n1312, if_true, if_false, not_true_eq_false, not_false_eq_true, and_self, true_and, and_true, false_and, and_false, or_true, true_or, or_false, false_or, Nat.reduceLeDiff, Nat.reduceLT, Nat.reduceEqDiff, Nat.reduceAdd, sV h hv, hK.1, nN h hk, hn.2.2.2.1, (show 8 ≤ V by omega)]
  rw [show Int32.ofNat 6 = (6 : Int32) from rfl, nw_w w hn.2.1]
  exact wo_out_q h hK hk hv hn H (nwc w) 0 (by omega) _ ⟨(FR.rf _ σ).si (Or.inr ⟨rfl, rfl⟩), eq_ess ⟨rfl, rfl⟩, fun x hx j' hj' => absurd hj' (by omega)⟩ _
theorem vo_mod_q {σ : kv_S} {k w G t : Nat} (hn : JNc σ k w G) {x : Int32} (hx : vO w G x) (row : Nat) : vo σ k G t row x = vo σ k G t (row % 2 ^ w) x := by
  have hG := hn.2.2.1
  unfold vo vl
  exact nvo_cong hn.2.1 hG (fun g hg => nv_row hn.2.1 hG (fun g hg => (hn.xy g hg).1) (fun g hg => (hn.xy g hg).2) (testBit_mod w row) G (Nat.le_refl _) g) (testBit_mod w row) hx
theorem wa_loop_q {σ0 : kv_S} (hj0 : JS σ0) {k w G g0 : Nat} (hk : k < 8) (hn : JNc σ0 k w G) (hv : vld σ0 k w G) {τ0 : kv_S} {h : Nat} (hh : h < G) (hg : g0 < h) (hI : tnI σ0 k w G g0 τ0 h) (H : ∀ z τ, waI σ0 k G g0 τ0 h (nwc w) z τ → ∀ v9 v10 v11 v12 : Value, Wp (d + 2) 100 111 [.ref 30, .ref (101 + 6 * k), .ref 26, .int (Int32.ofNat h), .int (Int32.ofNat (8 + h)), .int (Int32.ofNat ((10 + h) * 4)), .long z, .null, .int (Int32.ofNat (nwc w)), v9, v10, v11, v12] [] τ Φ) : ∀ m j, j + m = nwc w → ∀ z τ, waI σ0 k G g0 τ0 h j z τ → ∀ v9 v10 v11 v12 : Value, Wp (d + 2) 100 19 [.ref 30, .ref (101 + 6 * k), .ref 26, .int (Int32.ofNat h), .int (Int32.ofNat (8 + h)), .int (Int32.ofNat ((10 + h) * 4)), .long z, .null, .int (Int32.ofNat j), v9, v10, v11, v12] [] τ Φ
  | 0, j, e, z, τ, hz, v9, v10, v11, v12 => by
    have h4 := (nw_4 w hn.2.1).1
    have e2 : j = nwc w := by omega
    have js := hz.1.js (hI.1.js hj0)
    have ew : kv_i τ 26 1 = Int32.ofNat (nwc w) := by rw [hz.1.i (by omega), hI.1.i (by omega)]; exact hv.1
    simp only [g_100_19, g_100_21, g_100_22, g_100_25, ari_aa, ari_al, ari_la, ari_mm, ari_ml, ari_lm, ari_ltl, ari_llt, ari_lt, ari_le, ari_lel, ari_lle, ari_0, ari_eq, ari_eql, ari_leq, ari_cl, Nat.not_lt_zero, Bool.false_eq_true, Option.toList_some, Option.toList_none, List.cons_append, List.nil_append, kv_rv, kc1_i, kc1_r, kc1_n, n10, n01, n1514, n1213, n1312, if_true, if_false, not_true_eq_false, not_false_eq_true, and_self, true_and, and_true, false_and, and_false, or_true, true_or, or_false, false_or, Nat.reduceLeDiff, Nat.reduceLT, Nat.reduceEqDiff, Nat.reduceAdd, s_26 js, ew, (show j < 5 by omega), (show j < 2147483648 by omega), (show nwc w < 5 by omega), (show nwc w < 2147483648 by omega), (show nwc w ≤ j by omega)]
    rw [e2] at hz ⊢
    exact H z τ hz _ _ _ _
  | m + 1, j, e, z, τ, hz, v9, v10, v11, v12 => by
    have h4 := (nw_4 w hn.2.1).1
    have hG := hn.2.2.1
    have js := hz.1.js (hI.1.js hj0)
    have ew : kv_i τ 26 1 = Int32.ofNat (nwc w) := by rw [hz.1.i (by omega), hI.1.i (by omega)]; exact hv.1
    simp only [g_100_19, g_100_21, g_100_22, g_100_25, ari_aa, ari_al, ari_la, ari_mm, ari_ml, ari_lm, ari_ltl, ari_llt, ari_lt, ari_le, ari_lel, ari_lle, ari_0, ari_eq, ari_eql, ari_leq, ari_cl, Nat.not_lt_zero, Bool.false_eq_true, Option.toList_some, Option.toList_none, List.cons_append, List.nil_append, kv_rv, kc1_i, kc1_r, kc1_n, n10, n01, n1514, n1213, n1312, if_true, if_false, not_true_eq_false, not_false_eq_true, and_self, true_and, and_true, false_and, and_false, or_true, true_or, or_false, false_or, Nat.reduceLeDiff, Nat.reduceLT, Nat.reduceEqDiff, Nat.reduceAdd, s_26 js, ew, (show j < 5 by omega), (show j < 2147483648 by omega), (show nwc w < 5 by omega), (show nwc w < 2147483648 by omega), (show ¬ nwc w ≤ j by omega)]
    obtain ⟨⟨t, t1, t2, t3⟩, t4, t5, t6, t7, t8, t9⟩ := hn.2.2.2.2.2.2.2.1 h hh
    have et : kv_i τ (102 + 6 * k) h = Int32.ofNat t := by rw [hz.1.i (by omega), hI.1.i (by omega)]; exact t2
    have ex : kv_i τ (103 + 6 * k) h = kv_i σ0 (103 + 6 * k) h := by rw [hz.1.i (by omega), hI.1.i (by omega)]
    have ey : kv_i τ (104 + 6 * k) h = kv_i σ0 (104 + 6 * k) h := by rw [hz.1.i (by omega), hI.1.i (by omega)]
    have vx := t5.onn hn.2.1 (by omega)
    have vy := t7.onn hn.2.1 (by omega)
    have etb : tbN σ0 k h = t := by unfold tbN; rw [t2, ari_cl (by omega)]
    have eo := onn_nat (8 + h)
    rw [show 8 + h + 2 = 10 + h by omega] at eo
    have tweq : ∀ x, vO w h x → tw τ x j = tw τ0 x j := by
      intro x hx
      have o := hx.onn hn.2.1 (by omega)
      have hne : ¬ onn x = 10 + h := by
        intro q
        rw [q] at o
        have e2 := onn_inj o.1 eo
        rcases hx with q | q | ⟨i, hi, q⟩ | ⟨i, hi, q⟩ <;> rw [q] at e2
        · rw [eq_comm, ari_neg (by omega) (by decide) (by decide)] at e2; exact e2
        · rw [eq_comm, ari_neg (by omega) (by decide) (by decide)] at e2; exact e2
        · have := hn.2.1; rw [ari_eq (by omega) (by omega)] at e2; omega
        · rw [ari_eq (by omega) (by omega)] at e2; omega
      unfold tw
      rw [hz.1.l (by omega), hz.1.l (b := 27) (by omega), hz.2.1 _ (by omega)]
    have wv : ∀ {τ' : kv_S} {d : Nat} {Ψ : Option Value → kv_S → Prop}, JS τ' → Wc d 38 [.ref 26, .int (Int32.ofNat (8 + h)), .int (Int32.ofNat j)] τ' Ψ = Ψ (some (.long (kv_l τ' 27 ((10 + h) * 4 + j)))) τ' := by
      intro τ' d Ψ q; exact m_word q (show VV 26 from Or.inl rfl) eo (by omega) (by omega)
    simp only [g_100_28, g_100_29, g_100_30, g_100_31, g_100_34, g_100_35, g_100_36, g_100_38, g_100_41, g_100_43, g_100_44, g_100_45, g_100_46, g_100_49, g_100_50, g_100_51, g_100_53, g_100_56, g_100_58, g_100_59, g_100_62, g_100_64, g_100_66, g_100_67, g_100_68, g_100_71, g_100_72, g_100_73, g_100_75, g_100_77, kv_w8_0, kv_w8_1, kv_w8_2, kv_w8_3, kv_w8_4, ari_aa, ari_al, ari_la, ari_mm, ari_ml, ari_lm, ari_ltl, ari_llt, ari_lt, ari_le, ari_lel, ari_lle, ari_0, ari_eq, ari_eql, ari_leq, ari_cl, Nat.not_lt_zero, Bool.false_eq_true, Option.toList_some, Option.toList_none, List.cons_append, List.nil_append, kv_rv, kc1_i, kc1_r, kc1_n, n10, n01, n1514, n1213, n1312, if_true, if_false, not_true_eq_false, not_false_eq_true, and_self, true_and, and_true, false_and, and_false, or_true, true_or, or_false, false_or, Nat.reduceLeDiff, Nat.reduceLT, Nat.reduceEqDiff, Nat.reduceAdd, s_30 js, r_8_7 js, s_31 js, r_30_0 js, s_26 js, r_8_5 js, nN js hk, nT js hk, qT js hk, nX js hk, qX js hk, nY js hk, qY js hk, ex, ey, et, m_tword js vx.1 vx.2 (show j < 4 by omega), m_tword js vy.1 vy.2 (show j < 4 by omega), (show h < 40 by omega), (show h < 2147483648 by omega)]
    refine m_gateWord t1 _ _ (fun y hy => ?_)
    have hy2 : ∀ r, r < 64 → lb y r = vo σ0 k G g0 (64 * j + r) (Int32.ofNat (8 + h)) := by
      intro r hr
      rw [hy r hr, tweq _ t5, tweq _ t7, hI.2.1 _ t5 j (by omega) r hr, hI.2.1 _ t7 j (by omega) r hr, vo_gate_q hn hh, etb, decide_eq_false (show ¬ g0 = h by omega)]
      cases t.testBit _ <;> rfl
    have js2 : JS (kv_sl τ 31 ((10 + h) * 4 + j) y) := js.sl _ _ _
    simp only [g_100_80, g_100_81, g_100_83, g_100_84, g_100_87, g_100_89, g_100_91, g_100_92, g_100_93, g_100_94, g_100_96, g_100_98, g_100_101, g_100_102, g_100_103, g_100_105, g_100_108, kv_w8_0, kv_w8_1, kv_w8_2, kv_w8_3, kv_w8_4, n_si, n_sl, n_sr, n_mk, sh_si, sh_sl, sh_sr, sh_mk, i_si, i_sl, i_sr, i_mk, l_si, l_sl, l_sr, l_mk, r_si, r_sl, r_sr, r_mk, ari_aa, ari_al, ari_la, ari_mm, ari_ml, ari_lm, ari_ltl, ari_llt, ari_lt, ari_le, ari_lel, ari_lle, ari_0, ari_eq, ari_eql, ari_leq, ari_cl, Nat.not_lt_zero, Bool.false_eq_true, Option.toList_some, Option.toList_none, List.cons_append, List.nil_append, kv_rv, kc1_i, kc1_r, kc1_n, n10, n01, n1514, n1213, n1312, if_true, if_false, not_true_eq_false, not_false_eq_true, and_self, true_and, and_true, false_and, and_false, or_true, true_or, or_false, false_or, Nat.reduceLeDiff, Nat.reduceLT, Nat.reduceEqDiff, Nat.reduceAdd, s_30 js, r_8_7 js, s_31 js, r_30_0 js, s_26 js, r_8_5 js, wv js2, (show ¬ (27 = 31) by decide), (show (10 + h) * 4 + j < 200 by omega), (show (10 + h) * 4 + j < 2147483648 by omega)]
    refine wa_loop_q hj0 hk hn hv hh hg hI H m (j + 1) (by omega) _ _ ⟨hz.1.sl rfl, fun i hi => ?_, fun j' hj' r hr => ?_, fun r hr => ?_⟩ _ _ _ _
    · rw [ne_l (by omega)]; exact hz.2.1 i hi
    · by_cases c : j' = j
      · subst c; rw [eq_l ⟨rfl, rfl⟩]; exact hy2 r hr
      · rw [ne_l (by omega)]; exact hz.2.2.1 j' (by omega) r hr
    · have e27 : lb (kv_l τ 27 ((10 + h) * 4 + j)) r = vo σ0 k G 1000 (64 * j + r) (Int32.ofNat (8 + h)) := by
        have := hv.2 (Int32.ofNat (8 + h)) (Or.inr (Or.inr (Or.inr ⟨h, hh, rfl⟩))) j (by omega) r hr
        rw [onn_of eo (by omega)] at this
        rw [hz.1.l (by omega), hI.1.l (by omega)]
        exact this
      rw [lb_or, lb_xor, hz.2.2.2 r hr, hy2 r hr, e27]
      rfl
theorem m_workAnew_q {σ0 : kv_S} (hj0 : JS σ0) {k w G g0 : Nat} (hk : k < 8) (hn : JNc σ0 k w G) (hv : vld σ0 k w G) {τ0 : kv_S} {h : Nat} (hh : h < G) (hg : g0 < h) (hI : tnI σ0 k w G g0 τ0 h) (H : ∀ τ, tnI σ0 k w G g0 τ (h + 1) → Φ none τ) : Wc (d + 2) 100 [.ref 30, .ref (101 + 6 * k), .ref 26, .int (Int32.ofNat h)] τ0 Φ := by
  have hG := hn.2.2.1
  have eo := onn_nat (8 + h)
  rw [show 8 + h + 2 = 10 + h by omega] at eo
  simp only [c_100, g_100_0, g_100_2, g_100_3, g_100_4, g_100_6, g_100_8, g_100_11, g_100_13, g_100_14, g_100_16, g_100_17, kv_w8_0, kv_w8_1, kv_w8_2, kv_w8_3, kv_w8_4, ari_aa, ari_al, ari_la, ari_mm, ari_ml, ari_lm, ari_ltl, ari_llt, ari_lt, ari_le, ari_lel, ari_lle, ari_0, ari_eq, ari_eql, ari_leq, ari_cl, Nat.not_lt_zero, Bool.false_eq_true, Option.toList_some, Option.toList_none, List.cons_append, List.nil_append, kv_rv, kc1_i, kc1_r, kc1_n, n10, n01, n1514, n1213, n1312, if_true, if_false, not_true_eq_false, not_false_eq_true, and_self, true_and, and_true, false_and, and_false, or_true, true_or, or_false, false_or, Nat.reduceLeDiff, Nat.reduceLT, Nat.reduceEqDiff, Nat.reduceAdd, m_start _ eo]
  refine wa_loop_q hj0 hk hn hv hh hg hI (fun z τ hz v9 v10 v11 v12 => ?_) (nwc w) 0 (by omega) 0 τ0 ⟨FR.rf _ τ0, fun i hi => rfl, fun j' hj' => absurd hj' (by omega), fun r hr => by rw [lb_0]; rfl⟩ _ _ _ _
  have js := hz.1.js (hI.1.js hj0)
  have e30 : kv_l τ 30 1 = kv_l τ0 30 1 := hz.1.l (by omega)
  have hnot : ¬ lb (kv_l τ0 30 1) (10 + h) = true := fun q => by have := (hI.2.2 (10 + h) (by omega) q).2; omega
  -- operands ahead of gate h keep their words
  have ahead : ∀ x, vO w h x → onn x ≠ 10 + h := by
    intro x hx q
    have o := hx.onn hn.2.1 (by omega)
    rw [q] at o
    have e2 := onn_inj o.1 eo
    rcases hx with q | q | ⟨i, hi, q⟩ | ⟨i, hi, q⟩ <;> rw [q] at e2
    · rw [eq_comm, ari_neg (by omega) (by decide) (by decide)] at e2; exact e2
    · rw [eq_comm, ari_neg (by omega) (by decide) (by decide)] at e2; exact e2
    · have := hn.2.1; rw [ari_eq (by omega) (by omega)] at e2; omega
    · rw [ari_eq (by omega) (by omega)] at e2; omega
  have split : ∀ x, vO w (h + 1) x → vO w h x ∨ x = Int32.ofNat (8 + h) := by
    rintro x (q | q | q | ⟨i, hi, q⟩)
    · exact Or.inl (Or.inl q)
    · exact Or.inl (Or.inr (Or.inl q))
    · exact Or.inl (Or.inr (Or.inr (Or.inl q)))
    · by_cases c : i = h
      · exact Or.inr (by rw [q, c])
      · exact Or.inl (Or.inr (Or.inr (Or.inr ⟨i, by omega, q⟩)))
  have oh : onn (Int32.ofNat (8 + h)) = 10 + h := onn_of eo (by omega)
  by_cases c : z = 0
  · simp only [g_100_111, g_100_113, g_100_114, g_100_115, g_100_132, lg_cmp_eq, c, Nat.not_lt_zero, Bool.false_eq_true, Option.toList_some, Option.toList_none, List.cons_append, List.nil_append, kv_rv, kc1_i, kc1_r, kc1_n, n10, n01, n1514, n1213, n1312, if_true, if_false, not_true_eq_false, not_false_eq_true, and_self, true_and, and_true, false_and, and_false, or_true, true_or, or_false, false_or, Nat.reduceLeDiff, Nat.reduceLT, Nat.reduceEqDiff, Nat.reduceAdd]
    refine H τ ⟨hI.1.tr (hz.1.mono (fun b i q => Or.inl q)), fun x hx j hj r hr => ?_, fun n hn1 q => ?_⟩
    · rcases split x hx with hx | rfl
      · have : tw τ x j = tw τ0 x j := by
          unfold tw
          rw [e30, hz.1.l (b := 27) (by omega), hz.2.1 _ (by have := ahead x hx; have := (nw_4 w hn.2.1).1; omega)]
        rw [this]; exact hI.2.1 x hx j hj r hr
      · unfold tw
        rw [e30, oh, if_neg hnot]
        have e1 := hv.2 (Int32.ofNat (8 + h)) (Or.inr (Or.inr (Or.inr ⟨h, hh, rfl⟩))) j hj r hr
        rw [oh] at e1
        rw [hz.1.l (by omega), hI.1.l (by omega), e1]
        have e2 := hz.2.2.2 r hr
        rw [c, lb_0] at e2
        have e3 : (vo σ0 k G g0 (64 * j + r) (Int32.ofNat (8 + h)) ^^ vo σ0 k G 1000 (64 * j + r) (Int32.ofNat (8 + h))) = false := by
          cases q : (vo σ0 k G g0 (64 * j + r) (Int32.ofNat (8 + h)) ^^ vo σ0 k G 1000 (64 * j + r) (Int32.ofNat (8 + h))) with
          | false => rfl
          | true => rw [(anyN_iff (nwc w)).mpr ⟨j, hj, q⟩] at e2; cases e2
        revert e3
        cases vo σ0 k G g0 (64 * j + r) (Int32.ofNat (8 + h)) <;> cases vo σ0 k G 1000 (64 * j + r) (Int32.ofNat (8 + h)) <;> simp
    · rw [e30] at q
      have := hI.2.2 n hn1 q
      omega
  · simp only [g_100_111, g_100_113, g_100_114, g_100_115, g_100_118, g_100_119, g_100_119r, g_100_120, g_100_123, g_100_125, g_100_128, g_100_129, g_100_132, kv_w8_0, kv_w8_1, kv_w8_2, kv_w8_3, kv_w8_4, lg_cmp_eq, c, m_bitOf, s_30 js, r_8_7 js, Nat.not_lt_zero, Bool.false_eq_true, Option.toList_some, Option.toList_none, List.cons_append, List.nil_append, kv_rv, kc1_i, kc1_r, kc1_n, n10, n01, n1514, n1213, n1312, if_true, if_false, not_true_eq_false, not_false_eq_true, and_self, true_and, and_true, false_and, and_false, or_true, true_or, or_false, false_or, Nat.reduceLeDiff, Nat.reduceLT, Nat.reduceEqDiff, Nat.reduceAdd]
    have lbb : ∀ n, n < 64 → lb (kv_l τ 30 1 ||| lbo (Int32.ofNat (8 + h))) n = (lb (kv_l τ0 30 1) n || decide (n = 10 + h)) := fun n hn1 => by rw [lb_or, lb_lbo eo (by omega) hn1, e30]
    refine H _ ⟨(hI.1.tr (hz.1.mono (fun b i q => Or.inl q))).sl (Or.inr ⟨rfl, rfl⟩), fun x hx j hj r hr => ?_, fun n hn1 q => ?_⟩
    · unfold tw
      rw [eq_l ⟨rfl, rfl⟩, ne_l (by omega), ne_l (by omega)]
      rcases split x hx with hx | rfl
      · have o := hx.onn hn.2.1 (by omega)
        rw [lbb _ (by omega), decide_eq_false (ahead x hx), Bool.or_false, hz.1.l (b := 27) (by omega), hz.2.1 _ (by have := ahead x hx; have := (nw_4 w hn.2.1).1; omega)]
        exact hI.2.1 x hx j hj r hr
      · rw [oh, lbb _ (by omega), decide_eq_true rfl, Bool.or_true, if_pos rfl]
        exact hz.2.2.1 j hj r hr
    · rw [eq_l ⟨rfl, rfl⟩, lbb n hn1, Bool.or_eq_true, decide_eq_true_eq] at q
      rcases q with q | q
      · have := hI.2.2 n hn1 q; omega
      · omega
theorem turn_l1_q {σ0 : kv_S} (hj0 : JS σ0) {k w G g : Nat} (hn : JNc σ0 k w G) (hv : vld σ0 k w G) (hg : g < G) (H : ∀ τ, FR (fun b _ => b = 31) σ0 τ → (∀ j, j < nwc w → ∀ r, r < 64 → lb (kv_l τ 31 ((10 + g) * 4 + j)) r = !vo σ0 k G 1000 (64 * j + r) (Int32.ofNat (8 + g))) → Wp (d + 1) 99 51 [.ref 30, .ref (101 + 6 * k), .ref 26, .int (Int32.ofNat g), .int (Int32.ofNat ((10 + g) * 4)), .int (Int32.ofNat (nwc w))] [] τ Φ) : ∀ m j, j + m = nwc w → ∀ τ, FR (fun b _ => b = 31) σ0 τ → (∀ j', j' < j → ∀ r, r < 64 → lb (kv_l τ 31 ((10 + g) * 4 + j')) r = !vo σ0 k G 1000 (64 * j' + r) (Int32.ofNat (8 + g))) → Wp (d + 1) 99 12 [.ref 30, .ref (101 + 6 * k), .ref 26, .int (Int32.ofNat g), .int (Int32.ofNat ((10 + g) * 4)), .int (Int32.ofNat j)] [] τ Φ
  | 0, j, e, τ, fr, hs => by
    have h4 := (nw_4 w hn.2.1).1
    have e2 : j = nwc w := by omega
    have js := fr.js hj0
    have ew : kv_i τ 26 1 = Int32.ofNat (nwc w) := by rw [fr.i (by omega)]; exact hv.1
    simp only [g_99_12, g_99_14, g_99_15, g_99_18, ari_aa, ari_al, ari_la, ari_mm, ari_ml, ari_lm, ari_ltl, ari_llt, ari_lt, ari_le, ari_lel, ari_lle, ari_0, ari_eq, ari_eql, ari_leq, ari_cl, Nat.not_lt_zero, Bool.false_eq_true, Option.toList_some, Option.toList_none, List.cons_append, List.nil_append, kv_rv, kc1_i, kc1_r, kc1_n, n10, n01, n1514, n1213, n1312, if_true, if_false, not_true_eq_false, not_false_eq_true, and_self, true_and, and_true, false_and, and_false, or_true, true_or, or_false, false_or, Nat.reduceLeDiff, Nat.reduceLT, Nat.reduceEqDiff, Nat.reduceAdd, s_26 js, ew, (show j < 5 by omega), (show j < 2147483648 by omega), (show nwc w < 5 by omega), (show nwc w < 2147483648 by omega), (show nwc w ≤ j by omega)]
    rw [e2] at hs ⊢
    exact H τ fr hs
  | m + 1, j, e, τ, fr, hs => by
    have h4 := (nw_4 w hn.2.1).1
    have hG := hn.2.2.1
    have js := fr.js hj0
    have ew : kv_i τ 26 1 = Int32.ofNat (nwc w) := by rw [fr.i (by omega)]; exact hv.1
    have eo := onn_nat (8 + g)
    rw [show 8 + g + 2 = 10 + g by omega] at eo
    simp only [g_99_12, g_99_14, g_99_15, g_99_18, ari_aa, ari_al, ari_la, ari_mm, ari_ml, ari_lm, ari_ltl, ari_llt, ari_lt, ari_le, ari_lel, ari_lle, ari_0, ari_eq, ari_eql, ari_leq, ari_cl, Nat.not_lt_zero, Bool.false_eq_true, Option.toList_some, Option.toList_none, List.cons_append, List.nil_append, kv_rv, kc1_i, kc1_r, kc1_n, n10, n01, n1514, n1213, n1312, if_true, if_false, not_true_eq_false, not_false_eq_true, and_self, true_and, and_true, false_and, and_false, or_true, true_or, or_false, false_or, Nat.reduceLeDiff, Nat.reduceLT, Nat.reduceEqDiff, Nat.reduceAdd, s_26 js, ew, (show j < 5 by omega), (show j < 2147483648 by omega), (show nwc w < 5 by omega), (show nwc w < 2147483648 by omega), (show ¬ nwc w ≤ j by omega)]
    simp only [g_99_21, g_99_22, g_99_25, g_99_27, g_99_29, g_99_30, g_99_31, g_99_33, g_99_34, g_99_35, g_99_37, g_99_40, g_99_43, g_99_44, g_99_45, g_99_48, kv_w8_0, kv_w8_1, kv_w8_2, kv_w8_3, kv_w8_4, ari_aa, ari_al, ari_la, ari_mm, ari_ml, ari_lm, ari_ltl, ari_llt, ari_lt, ari_le, ari_lel, ari_lle, ari_0, ari_eq, ari_eql, ari_leq, ari_cl, Nat.not_lt_zero, Bool.false_eq_true, Option.toList_some, Option.toList_none, List.cons_append, List.nil_append, kv_rv, kc1_i, kc1_r, kc1_n, n10, n01, n1514, n1213, n1312, if_true, if_false, not_true_eq_false, not_false_eq_true, and_self, true_and, and_true, false_and, and_false, or_true, true_or, or_false, false_or, Nat.reduceLeDiff, Nat.reduceLT, Nat.reduceEqDiff, Nat.reduceAdd, s_30 js, r_8_7 js, s_31 js, r_30_0 js, s_26 js, r_8_5 js, m_word js (show VV 26 from Or.inl rfl) eo (show 10 + g < 50 by omega) (show j < 4 by omega), (show (10 + g) * 4 + j < 200 by omega), (show (10 + g) * 4 + j < 2147483648 by omega)]
    refine turn_l1_q hj0 hn hv hg H m (j + 1) (by omega) _ (fr.sl rfl) (fun j' hj' r hr => ?_)
    by_cases c : j' = j
    · subst c
      rw [eq_l ⟨rfl, rfl⟩, lb_not _ hr]
      have e1 := hv.2 (Int32.ofNat (8 + g)) (Or.inr (Or.inr (Or.inr ⟨g, hg, rfl⟩))) j' (by omega) r hr
      rw [onn_of eo (by omega)] at e1
      rw [fr.l (by omega), e1]
    · rw [ne_l (by omega)]; exact hs j' (by omega) r hr
theorem turn_l2_q {σ0 : kv_S} (hj0 : JS σ0) {k w G g0 : Nat} {v4 : Int32} (hk : k < 8) (hn : JNc σ0 k w G) (hv : vld σ0 k w G) (H : ∀ τ, tnI σ0 k w G g0 τ G → Φ none τ) : ∀ m h, h + m = G → g0 < h → ∀ τ, tnI σ0 k w G g0 τ h → Wp (d + 3) 99 67 [.ref 30, .ref (101 + 6 * k), .ref 26, .int (Int32.ofNat g0), .int v4, .int (Int32.ofNat h)] [] τ Φ
  | 0, h, e, hg, τ, hI => by
    have hG := hn.2.2.1
    have e2 : h = G := by omega
    subst e2
    have js := hI.1.js hj0
    have e6 : kv_i τ (101 + 6 * k) 6 = Int32.ofNat h := by rw [hI.1.i (by omega)]; exact hn.2.2.2.2.2.1
    simp only [g_99_67, g_99_69, g_99_70, g_99_73, g_99_124, ari_aa, ari_al, ari_la, ari_mm, ari_ml, ari_lm, ari_ltl, ari_llt, ari_lt, ari_le, ari_lel, ari_lle, ari_0, ari_eq, ari_eql, ari_leq, ari_cl, Nat.not_lt_zero, Bool.false_eq_true, Option.toList_some, Option.toList_none, List.cons_append, List.nil_append, kv_rv, kc1_i, kc1_r, kc1_n, n10, n01, n1514, n1213, n1312, if_true, if_false, not_true_eq_false, not_false_eq_true, and_self, true_and, and_true, false_and, and_false, or_true, true_or, or_false, false_or, Nat.reduceLeDiff, Nat.reduceLT, Nat.reduceEqDiff, Nat.reduceAdd, nN js hk, e6, (show h < 41 by omega), (show h < 2147483648 by omega), (show h ≤ h by omega)]
    exact H τ hI
  | m + 1, h, e, hg, τ, hI => by
    have hG := hn.2.2.1
    have js := hI.1.js hj0
    have e6 : kv_i τ (101 + 6 * k) 6 = Int32.ofNat G := by rw [hI.1.i (by omega)]; exact hn.2.2.2.2.2.1
    have v := hn.xy h (by omega)
    have vx := v.1.onn hn.2.1 (show h ≤ 40 by omega)
    have vy := v.2.onn hn.2.1 (show h ≤ 40 by omega)
    have ex : kv_i τ (103 + 6 * k) h = kv_i σ0 (103 + 6 * k) h := hI.1.i (by omega)
    have ey : kv_i τ (104 + 6 * k) h = kv_i σ0 (104 + 6 * k) h := hI.1.i (by omega)
    simp only [g_99_67, g_99_69, g_99_70, g_99_73, ari_aa, ari_al, ari_la, ari_mm, ari_ml, ari_lm, ari_ltl, ari_llt, ari_lt, ari_le, ari_lel, ari_lle, ari_0, ari_eq, ari_eql, ari_leq, ari_cl, Nat.not_lt_zero, Bool.false_eq_true, Option.toList_some, Option.toList_none, List.cons_append, List.nil_append, kv_rv, kc1_i, kc1_r, kc1_n, n10, n01, n1514, n1213, n1312, if_true, if_false, not_true_eq_false, not_false_eq_true, and_self, true_and, and_true, false_and, and_false, or_true, true_or, or_false, false_or, Nat.reduceLeDiff, Nat.reduceLT, Nat.reduceEqDiff, Nat.reduceAdd, nN js hk, e6, (show h < 41 by omega), (show h < 2147483648 by omega), (show G < 41 by omega), (show G < 2147483648 by omega), (show ¬ G ≤ h by omega)]
    have again : Wp (d + 3) 99 110 [.ref 30, .ref (101 + 6 * k), .ref 26, .int (Int32.ofNat g0), .int v4, .int (Int32.ofNat h)] [] τ Φ := by
      simp only [g_99_110, g_99_111, g_99_112, g_99_113, g_99_115, kv_w8_0, kv_w8_1, kv_w8_2, kv_w8_3, kv_w8_4, Nat.not_lt_zero, Bool.false_eq_true, Option.toList_some, Option.toList_none, List.cons_append, List.nil_append, kv_rv, kc1_i, kc1_r, kc1_n, n10, n01, n1514, n1213, n1312, if_true, if_false, not_true_eq_false, not_false_eq_true, and_self, true_and, and_true, false_and, and_false, or_true, true_or, or_false, false_or, Nat.reduceLeDiff, Nat.reduceLT, Nat.reduceEqDiff, Nat.reduceAdd, s_30 js, r_8_7 js]
      refine m_workAnew_q hj0 hk hn hv (by omega) hg hI (fun τ2 hI2 => ?_)
      simp only [g_99_118, g_99_121, ari_aa, ari_al, ari_la, ari_mm, ari_ml, ari_lm, ari_ltl, ari_llt, ari_lt, ari_le, ari_lel, ari_lle, ari_0, ari_eq, ari_eql, ari_leq, ari_cl, Nat.not_lt_zero, Bool.false_eq_true, Option.toList_some, Option.toList_none, List.cons_append, List.nil_append, kv_rv, kc1_i, kc1_r, kc1_n, n10, n01, n1514, n1213, n1312, if_true, if_false, not_true_eq_false, not_false_eq_true, and_self, true_and, and_true, false_and, and_false, or_true, true_or, or_false, false_or, Nat.reduceLeDiff, Nat.reduceLT, Nat.reduceEqDiff, Nat.reduceAdd]
      exact turn_l2_q hj0 hk hn hv H m (h + 1) (by omega) (by omega) τ2 hI2
    by_cases c1 : lb (kv_l τ 30 1) (onn (kv_i σ0 (103 + 6 * k) h)) = true
    · simp only [g_99_76, g_99_77, g_99_80, g_99_81, g_99_84, g_99_86, g_99_87, g_99_90, g_99_93, g_99_94, g_99_97, g_99_98, g_99_101, g_99_103, g_99_104, g_99_107, kv_w8_0, kv_w8_1, kv_w8_2, kv_w8_3, kv_w8_4, ari_aa, ari_al, ari_la, ari_mm, ari_ml, ari_lm, ari_ltl, ari_llt, ari_lt, ari_le, ari_lel, ari_lle, ari_0, ari_eq, ari_eql, ari_leq, ari_cl, Nat.not_lt_zero, Bool.false_eq_true, Option.toList_some, Option.toList_none, List.cons_append, List.nil_append, kv_rv, kc1_i, kc1_r, kc1_n, n10, n01, n1514, n1213, n1312, if_true, if_false, not_true_eq_false, not_false_eq_true, and_self, true_and, and_true, false_and, and_false, or_true, true_or, or_false, false_or, Nat.reduceLeDiff, Nat.reduceLT, Nat.reduceEqDiff, Nat.reduceAdd, s_30 js, r_8_7 js, nN js hk, nX js hk, qX js hk, ex, m_has _ vx.1 (show _ < 64 by omega), c1, (show h < 40 by omega), (show h < 2147483648 by omega)]
      exact again
    · by_cases c2 : lb (kv_l τ 30 1) (onn (kv_i σ0 (104 + 6 * k) h)) = true
      · simp only [g_99_76, g_99_77, g_99_80, g_99_81, g_99_84, g_99_86, g_99_87, g_99_90, g_99_93, g_99_94, g_99_97, g_99_98, g_99_101, g_99_103, g_99_104, g_99_107, kv_w8_0, kv_w8_1, kv_w8_2, kv_w8_3, kv_w8_4, ari_aa, ari_al, ari_la, ari_mm, ari_ml, ari_lm, ari_ltl, ari_llt, ari_lt, ari_le, ari_lel, ari_lle, ari_0, ari_eq, ari_eql, ari_leq, ari_cl, Nat.not_lt_zero, Bool.false_eq_true, Option.toList_some, Option.toList_none, List.cons_append, List.nil_append, kv_rv, kc1_i, kc1_r, kc1_n, n10, n01, n1514, n1213, n1312, if_true, if_false, not_true_eq_false, not_false_eq_true, and_self, true_and, and_true, false_and, and_false, or_true, true_or, or_false, false_or, Nat.reduceLeDiff, Nat.reduceLT, Nat.reduceEqDiff, Nat.reduceAdd, s_30 js, r_8_7 js, nN js hk, nX js hk, qX js hk, nY js hk, qY js hk, ex, ey, m_has _ vx.1 (show onn (kv_i σ0 (103 + 6 * k) h) < 64 by omega), m_has _ vy.1 (show onn (kv_i σ0 (104 + 6 * k) h) < 64 by omega), c1, c2, (show h < 40 by omega), (show h < 2147483648 by omega)]
        exact again
      · simp only [g_99_76, g_99_77, g_99_80, g_99_81, g_99_84, g_99_86, g_99_87, g_99_90, g_99_93, g_99_94, g_99_97, g_99_98, g_99_101, g_99_103, g_99_104, g_99_107, g_99_118, g_99_121, kv_w8_0, kv_w8_1, kv_w8_2, kv_w8_3, kv_w8_4, ari_aa, ari_al, ari_la, ari_mm, ari_ml, ari_lm, ari_ltl, ari_llt, ari_lt, ari_le, ari_lel, ari_lle, ari_0, ari_eq, ari_eql, ari_leq, ari_cl, Nat.not_lt_zero, Bool.false_eq_true, Option.toList_some, Option.toList_none, List.cons_append, List.nil_append, kv_rv, kc1_i, kc1_r, kc1_n, n10, n01, n1514, n1213, n1312, if_true, if_false, not_true_eq_false, not_false_eq_true, and_self, true_and, and_true, false_and, and_false, or_true, true_or, or_false, false_or, Nat.reduceLeDiff, Nat.reduceLT, Nat.reduceEqDiff, Nat.reduceAdd, s_30 js, r_8_7 js, nN js hk, nX js hk, qX js hk, nY js hk, qY js hk, ex, ey, m_has _ vx.1 (show onn (kv_i σ0 (103 + 6 * k) h) < 64 by omega), m_has _ vy.1 (show onn (kv_i σ0 (104 + 6 * k) h) < 64 by omega), c1, c2, (show h < 40 by omega), (show h < 2147483648 by omega)]
        refine turn_l2_q hj0 hk hn hv H m (h + 1) (by omega) (by omega) τ ⟨hI.1, fun x hx j hj r hr => ?_, fun n hn1 q => ?_⟩
        · have eo := onn_nat (8 + h)
          rw [show 8 + h + 2 = 10 + h by omega] at eo
          have oh : onn (Int32.ofNat (8 + h)) = 10 + h := onn_of eo (by omega)
          rcases hx with q | q | q | ⟨i, hi, q⟩
          · exact hI.2.1 x (Or.inl q) j hj r hr
          · exact hI.2.1 x (Or.inr (Or.inl q)) j hj r hr
          · exact hI.2.1 x (Or.inr (Or.inr (Or.inl q))) j hj r hr
          · by_cases c : i = h
            · subst c
              rw [q]
              have hnot : ¬ lb (kv_l τ 30 1) (10 + i) = true := fun q => by have := (hI.2.2 (10 + i) (by omega) q).2; omega
              have e1 := hv.2 (Int32.ofNat (8 + i)) (Or.inr (Or.inr (Or.inr ⟨i, by omega, rfl⟩))) j hj r hr
              have f1 := hI.2.1 _ v.1 j hj r hr
              have f2 := hI.2.1 _ v.2 j hj r hr
              have g1 := hv.2 _ (v.1.mono (show i ≤ G by omega)) j hj r hr
              have g2 := hv.2 _ (v.2.mono (show i ≤ G by omega)) j hj r hr
              unfold tw at f1 f2 ⊢
              rw [if_neg c1, hI.1.l (by omega), g1] at f1
              rw [if_neg c2, hI.1.l (by omega), g2] at f2
              rw [oh] at e1 ⊢
              rw [if_neg hnot, hI.1.l (by omega), e1, vo_gate_q hn (show i < G by omega), vo_gate_q hn (show i < G by omega), f1, f2, decide_eq_false (show ¬ g0 = i by omega), decide_eq_false (show ¬ 1000 = i by omega)]
            · exact hI.2.1 x (Or.inr (Or.inr (Or.inr ⟨i, by omega, q⟩))) j hj r hr
        · have := hI.2.2 n hn1 q; omega
theorem vo_ahead_q {σ : kv_S} {k w G g row : Nat} (hn : JNc σ k w G) (hg : g < G) {x : Int32} (hx : vO w g x) : vo σ k G g row x = vo σ k G 1000 row x := by
  have hG := hn.2.2.1
  unfold vo vl
  refine nvo_cong hn.2.1 (show g ≤ 40 by omega) (fun i hi => ?_) (fun _ _ => rfl) hx
  rw [nv_le hi (by omega), nv_le (G := G) hi (by omega)]
  exact nv_lo g (Nat.le_refl _) (by omega) i
theorem m_turn_q {σ0 : kv_S} (hj0 : JS σ0) {k w G g : Nat} (hk : k < 8) (hn : JNc σ0 k w G) (hv : vld σ0 k w G) (hg : g < G) (H : ∀ τ, tnI σ0 k w G g τ G → Φ none τ) : Wc (d + 3) 99 [.ref 30, .ref (101 + 6 * k), .ref 26, .int (Int32.ofNat g)] σ0 Φ := by
  have hG := hn.2.2.1
  have eo := onn_nat (8 + g)
  rw [show 8 + g + 2 = 10 + g by omega] at eo
  have oh : onn (Int32.ofNat (8 + g)) = 10 + g := onn_of eo (by omega)
  simp only [c_99, g_99_0, g_99_2, g_99_3, g_99_4, g_99_7, g_99_9, g_99_10, kv_w8_0, kv_w8_1, kv_w8_2, kv_w8_3, kv_w8_4, ari_aa, ari_al, ari_la, ari_mm, ari_ml, ari_lm, ari_ltl, ari_llt, ari_lt, ari_le, ari_lel, ari_lle, ari_0, ari_eq, ari_eql, ari_leq, ari_cl, Nat.not_lt_zero, Bool.false_eq_true, Option.toList_some, Option.toList_none, List.cons_append, List.nil_append, kv_rv, kc1_i, kc1_r, kc1_n, n10, n01, n1514, n1213, n1312, if_true, if_false, not_true_eq_false, not_false_eq_true, and_self, true_and, and_true, false_and, and_false, or_true, true_or, or_false, false_or, Nat.reduceLeDiff, Nat.reduceLT, Nat.reduceEqDiff, Nat.reduceAdd, m_start _ eo]
  refine turn_l1_q hj0 hn hv hg (fun τ fr hs => ?_) (nwc w) 0 (by omega) σ0 (FR.rf _ σ0) (fun j' hj' => absurd hj' (by omega))
  have js := fr.js hj0
  simp only [g_99_51, g_99_52, g_99_54, g_99_55, g_99_56, g_99_59, g_99_62, g_99_63, g_99_64, g_99_65, kv_w8_0, kv_w8_1, kv_w8_2, kv_w8_3, kv_w8_4, ari_aa, ari_al, ari_la, ari_mm, ari_ml, ari_lm, ari_ltl, ari_llt, ari_lt, ari_le, ari_lel, ari_lle, ari_0, ari_eq, ari_eql, ari_leq, ari_cl, Nat.not_lt_zero, Bool.false_eq_true, Option.toList_some, Option.toList_none, List.cons_append, List.nil_append, kv_rv, kc1_i, kc1_r, kc1_n, n10, n01, n1514, n1213, n1312, if_true, if_false, not_true_eq_false, not_false_eq_true, and_self, true_and, and_true, false_and, and_false, or_true, true_or, or_false, false_or, Nat.reduceLeDiff, Nat.reduceLT, Nat.reduceEqDiff, Nat.reduceAdd, s_30 js, r_8_7 js, m_bitOf]
  have lbb : ∀ n, n < 64 → lb (lbo (Int32.ofNat (8 + g))) n = decide (n = 10 + g) := fun n hn1 => lb_lbo eo (by omega) hn1
  refine turn_l2_q hj0 hk hn hv H (G - (g + 1)) (g + 1) (by omega) (by omega) _ ⟨(fr.mono (fun b i q => Or.inl q)).sl (Or.inr ⟨rfl, rfl⟩), fun x hx j hj r hr => ?_, fun n hn1 q => ?_⟩
  · unfold tw
    rw [eq_l ⟨rfl, rfl⟩, ne_l (by omega), ne_l (by omega)]
    have o := hx.onn hn.2.1 (by omega)
    rw [lbb _ (by omega)]
    by_cases c : x = Int32.ofNat (8 + g)
    · subst c
      rw [oh, decide_eq_true rfl, if_pos rfl, hs j hj r hr, vo_gate_q hn hg, vo_gate_q hn hg, vo_ahead_q hn hg (hn.xy g hg).1, vo_ahead_q hn hg (hn.xy g hg).2, decide_eq_true rfl, decide_eq_false (show ¬ 1000 = g by omega)]
      cases (tbN σ0 k g).testBit _ <;> rfl
    · have hne : ¬ onn x = 10 + g := fun q => by rw [q] at o; exact c (onn_inj o.1 eo)
      rw [decide_eq_false hne, if_neg (by decide)]
      have hx2 : vO w g x := by
        rcases hx with q | q | q | ⟨i, hi, q⟩
        · exact Or.inl q
        · exact Or.inr (Or.inl q)
        · exact Or.inr (Or.inr (Or.inl q))
        · refine Or.inr (Or.inr (Or.inr ⟨i, ?_, q⟩))
          have : i ≠ g := fun e => c (by rw [q, e])
          omega
      have e1 := hv.2 x (hx2.mono (by omega)) j hj r hr
      rw [fr.l (by omega), e1, vo_ahead_q hn hg hx2]
  · rw [eq_l ⟨rfl, rfl⟩, lbb n hn1, decide_eq_true_eq] at q
    omega
theorem cared_in_q {σ0 : kv_S} (hj0 : JS σ0) {k w G g j : Nat} (hk : k < 8) (hn : JNc σ0 k w G) (hv : vld σ0 k w G) {τ : kv_S} (hI : tnI σ0 k w G g τ G) (hj : j < nwc w) {c : Int32} (H : ∀ z, (∀ r, r < 64 → lb z r = CP σ0 k G g 6 (64 * j + r)) → ∀ v9 : Value, Wp (d + 2) 102 73 [.ref 30, .ref (101 + 6 * k), .ref 26, .int (Int32.ofNat g), .int c, .int (Int32.ofNat j), .long z, .null, .int (Int32.ofNat 6), v9] [] τ Φ) : ∀ m i, i + m = 6 → ∀ z, (∀ r, r < 64 → lb z r = CP σ0 k G g i (64 * j + r)) → ∀ v9 : Value, Wp (d + 2) 102 21 [.ref 30, .ref (101 + 6 * k), .ref 26, .int (Int32.ofNat g), .int c, .int (Int32.ofNat j), .long z, .null, .int (Int32.ofNat i), v9] [] τ Φ
  | 0, i, e, z, hz, v9 => by
    have e2 : i = 6 := by omega
    subst e2
    simp only [g_102_21, g_102_23, g_102_25, ari_aa, ari_al, ari_la, ari_mm, ari_ml, ari_lm, ari_ltl, ari_llt, ari_lt, ari_le, ari_lel, ari_lle, ari_0, ari_eq, ari_eql, ari_leq, ari_cl, Nat.not_lt_zero, Bool.false_eq_true, Option.toList_some, Option.toList_none, List.cons_append, List.nil_append, kv_rv, kc1_i, kc1_r, kc1_n, n10, n01, n1514, n1213, n1312, if_true, if_false, not_true_eq_false, not_false_eq_true, and_self, true_and, and_true, false_and, and_false, or_true, true_or, or_false, false_or, Nat.reduceLeDiff, Nat.reduceLT, Nat.reduceEqDiff, Nat.reduceAdd]
    exact H z hz v9
  | m + 1, i, e, z, hz, v9 => by
    have h4 := (nw_4 w hn.2.1).1
    have js := hI.1.js hj0
    have eo : kv_i τ (106 + 6 * k) i = kv_i σ0 (106 + 6 * k) i := hI.1.i (by omega)
    simp only [g_102_21, g_102_23, g_102_25, ari_aa, ari_al, ari_la, ari_mm, ari_ml, ari_lm, ari_ltl, ari_llt, ari_lt, ari_le, ari_lel, ari_lle, ari_0, ari_eq, ari_eql, ari_leq, ari_cl, Nat.not_lt_zero, Bool.false_eq_true, Option.toList_some, Option.toList_none, List.cons_append, List.nil_append, kv_rv, kc1_i, kc1_r, kc1_n, n10, n01, n1514, n1213, n1312, if_true, if_false, not_true_eq_false, not_false_eq_true, and_self, true_and, and_true, false_and, and_false, or_true, true_or, or_false, false_or, Nat.reduceLeDiff, Nat.reduceLT, Nat.reduceEqDiff, Nat.reduceAdd, (show i < 6 by omega), (show i < 2147483648 by omega), (show ¬ 6 ≤ i by omega)]
    by_cases c1 : kv_i σ0 (106 + 6 * k) i = -3
    · simp only [g_102_28, g_102_29, g_102_32, g_102_34, g_102_35, g_102_37, g_102_39, g_102_41, g_102_67, g_102_70, ari_aa, ari_al, ari_la, ari_mm, ari_ml, ari_lm, ari_ltl, ari_llt, ari_lt, ari_le, ari_lel, ari_lle, ari_0, ari_eq, ari_eql, ari_leq, ari_cl, Nat.not_lt_zero, Bool.false_eq_true, Option.toList_some, Option.toList_none, List.cons_append, List.nil_append, kv_rv, kc1_i, kc1_r, kc1_n, n10, n01, n1514, n1213, n1312, if_true, if_false, not_true_eq_false, not_false_eq_true, and_self, true_and, and_true, false_and, and_false, or_true, true_or, or_false, false_or, Nat.reduceLeDiff, Nat.reduceLT, Nat.reduceEqDiff, Nat.reduceAdd, nN js hk, nO js hk, qO js hk, eo, c1, (show i < 6 by omega), (show i < 2147483648 by omega)]
      refine cared_in_q hj0 hk hn hv hI hj H m (i + 1) (by omega) z (fun r hr => ?_) _
      rw [hz r hr]
      show _ = (CP σ0 k G g i (64 * j + r) || (!(kv_i σ0 (106 + 6 * k) i == -3) && _))
      rw [c1]; simp
    · have vx := (hn.o i (by omega)).resolve_left c1
      have ox := vx.onn hn.2.1 hn.2.2.1
      simp only [g_102_28, g_102_29, g_102_32, g_102_34, g_102_35, g_102_37, g_102_39, g_102_41, g_102_44, g_102_46, g_102_47, g_102_48, g_102_50, g_102_52, g_102_55, g_102_56, g_102_58, g_102_60, g_102_63, g_102_64, g_102_65, g_102_67, g_102_70, kv_w8_0, kv_w8_1, kv_w8_2, kv_w8_3, kv_w8_4, ari_aa, ari_al, ari_la, ari_mm, ari_ml, ari_lm, ari_ltl, ari_llt, ari_lt, ari_le, ari_lel, ari_lle, ari_0, ari_eq, ari_eql, ari_leq, ari_cl, Nat.not_lt_zero, Bool.false_eq_true, Option.toList_some, Option.toList_none, List.cons_append, List.nil_append, kv_rv, kc1_i, kc1_r, kc1_n, n10, n01, n1514, n1213, n1312, if_true, if_false, not_true_eq_false, not_false_eq_true, and_self, true_and, and_true, false_and, and_false, or_true, true_or, or_false, false_or, Nat.reduceLeDiff, Nat.reduceLT, Nat.reduceEqDiff, Nat.reduceAdd, nN js hk, nO js hk, qO js hk, eo, c1, m_tword js ox.1 ox.2 (show j < 4 by omega), m_word js (show VV 26 from Or.inl rfl) ox.1 ox.2 (show j < 4 by omega), s_30 js, r_8_7 js, s_26 js, r_8_5 js, (show i < 6 by omega), (show i < 2147483648 by omega)]
      refine cared_in_q hj0 hk hn hv hI hj H m (i + 1) (by omega) _ (fun r hr => ?_) _
      have e1 := hv.2 _ vx j hj r hr
      rw [lb_or, lb_xor, hz r hr, hI.2.1 _ vx j hj r hr, hI.1.l (by omega), e1]
      show _ = (CP σ0 k G g i (64 * j + r) || (!(kv_i σ0 (106 + 6 * k) i == -3) && _))
      rw [beq_eq_false_iff_ne.mpr c1]
      rfl
theorem cared_out_q {σ0 : kv_S} (hj0 : JS σ0) {k w G g : Nat} (hk : k < 8) (hg : g < G) (hn : JNc σ0 k w G) (hv : vld σ0 k w G) {τ : kv_S} (hI : tnI σ0 k w G g τ G) (H : Φ (some (.int (Int32.ofNat (q4 (fun b => anyN (fun j => anyN (fun r => CP σ0 k G g 6 (64 * j + r) && nvb (vo σ0 k G 1000 (64 * j + r) (kv_i σ0 (103 + 6 * k) g)) (vo σ0 k G 1000 (64 * j + r) (kv_i σ0 (104 + 6 * k) g)) == b) 64) (nwc w)))))) τ) : ∀ m j, j + m = nwc w → ∀ v6 v7 v8 v9 : Value, Wp (d + 2) 102 6 [.ref 30, .ref (101 + 6 * k), .ref 26, .int (Int32.ofNat g), .int (Int32.ofNat (q4 (fun b => anyN (fun j => anyN (fun r => CP σ0 k G g 6 (64 * j + r) && nvb (vo σ0 k G 1000 (64 * j + r) (kv_i σ0 (103 + 6 * k) g)) (vo σ0 k G 1000 (64 * j + r) (kv_i σ0 (104 + 6 * k) g)) == b) 64) j))), .int (Int32.ofNat j), v6, v7, v8, v9] [] τ Φ
  | 0, j, e, v6, v7, v8, v9 => by
    have h4 := (nw_4 w hn.2.1).1
    have e2 : j = nwc w := by omega
    have js := hI.1.js hj0
    have ew : kv_i τ 26 1 = Int32.ofNat (nwc w) := by rw [hI.1.i (by omega)]; exact hv.1
    simp only [g_102_6, g_102_8, g_102_9, g_102_12, g_102_94, g_102_96, ari_aa, ari_al, ari_la, ari_mm, ari_ml, ari_lm, ari_ltl, ari_llt, ari_lt, ari_le, ari_lel, ari_lle, ari_0, ari_eq, ari_eql, ari_leq, ari_cl, Nat.not_lt_zero, Bool.false_eq_true, Option.toList_some, Option.toList_none, List.cons_append, List.nil_append, kv_rv, kc1_i, kc1_r, kc1_n, n10, n01, n1514, n1213, n1312, if_true, if_false, not_true_eq_false, not_false_eq_true, and_self, true_and, and_true, false_and, and_false, or_true, true_or, or_false, false_or, Nat.reduceLeDiff, Nat.reduceLT, Nat.reduceEqDiff, Nat.reduceAdd, s_26 js, ew, (show j < 5 by omega), (show j < 2147483648 by omega), (show nwc w < 5 by omega), (show nwc w < 2147483648 by omega), (show nwc w ≤ j by omega)]
    rw [e2]
    exact H
  | m + 1, j, e, v6, v7, v8, v9 => by
    have h4 := (nw_4 w hn.2.1).1
    have hG := hn.2.2.1
    have js := hI.1.js hj0
    have ew : kv_i τ 26 1 = Int32.ofNat (nwc w) := by rw [hI.1.i (by omega)]; exact hv.1
    simp only [g_102_6, g_102_8, g_102_9, g_102_12, ari_aa, ari_al, ari_la, ari_mm, ari_ml, ari_lm, ari_ltl, ari_llt, ari_lt, ari_le, ari_lel, ari_lle, ari_0, ari_eq, ari_eql, ari_leq, ari_cl, Nat.not_lt_zero, Bool.false_eq_true, Option.toList_some, Option.toList_none, List.cons_append, List.nil_append, kv_rv, kc1_i, kc1_r, kc1_n, n10, n01, n1514, n1213, n1312, if_true, if_false, not_true_eq_false, not_false_eq_true, and_self, true_and, and_true, false_and, and_false, or_true, true_or, or_false, false_or, Nat.reduceLeDiff, Nat.reduceLT, Nat.reduceEqDiff, Nat.reduceAdd, s_26 js, ew, (show j < 5 by omega), (show j < 2147483648 by omega), (show nwc w < 5 by omega), (show nwc w < 2147483648 by omega), (show ¬ nwc w ≤ j by omega)]
    simp only [g_102_15, g_102_16, g_102_18, g_102_19, Nat.not_lt_zero, Bool.false_eq_true, Option.toList_some, Option.toList_none, List.cons_append, List.nil_append, kv_rv, kc1_i, kc1_r, kc1_n, n10, n01, n1514, n1213, n1312, if_true, if_false, not_true_eq_false, not_false_eq_true, and_self, true_and, and_true, false_and, and_false, or_true, true_or, or_false, false_or, Nat.reduceLeDiff, Nat.reduceLT, Nat.reduceEqDiff, Nat.reduceAdd]
    refine cared_in_q hj0 hk hn hv hI (by omega) (fun z hz v9 => ?_) 6 0 (by omega) 0 (fun r hr => by rw [lb_0]; rfl) _
    have v := hn.xy g hg
    have vx := v.1.onn hn.2.1 (by omega)
    have vy := v.2.onn hn.2.1 (by omega)
    have ex : kv_i τ (103 + 6 * k) g - -2 = Int32.ofNat (onn (kv_i σ0 (103 + 6 * k) g)) := by rw [hI.1.i (by omega)]; exact vx.1
    have ey : kv_i τ (104 + 6 * k) g - -2 = Int32.ofNat (onn (kv_i σ0 (104 + 6 * k) g)) := by rw [hI.1.i (by omega)]; exact vy.1
    simp only [g_102_73, g_102_75, g_102_76, g_102_77, g_102_78, g_102_80, g_102_82, g_102_85, g_102_86, g_102_88, g_102_91, kv_w8_0, kv_w8_1, kv_w8_2, kv_w8_3, kv_w8_4, ari_aa, ari_al, ari_la, ari_mm, ari_ml, ari_lm, ari_ltl, ari_llt, ari_lt, ari_le, ari_lel, ari_lle, ari_0, ari_eq, ari_eql, ari_leq, ari_cl, Nat.not_lt_zero, Bool.false_eq_true, Option.toList_some, Option.toList_none, List.cons_append, List.nil_append, kv_rv, kc1_i, kc1_r, kc1_n, n10, n01, n1514, n1213, n1312, if_true, if_false, not_true_eq_false, not_false_eq_true, and_self, true_and, and_true, false_and, and_false, or_true, true_or, or_false, false_or, Nat.reduceLeDiff, Nat.reduceLT, Nat.reduceEqDiff, Nat.reduceAdd, s_26 js, m_comingAt js (show VV 26 from Or.inl rfl) hk (show g < 40 by omega) (show j < 4 by omega) ex vx.2 ey vy.2, q4_or]
    have := cared_out_q hj0 hk hg hn hv hI H m (j + 1) (by omega) (.long z) .null (.int 6) v9
    have e7 : (q4 fun b => anyN (fun j => anyN (fun r => CP σ0 k G g 6 (64 * j + r) && nvb (vo σ0 k G 1000 (64 * j + r) (kv_i σ0 (103 + 6 * k) g)) (vo σ0 k G 1000 (64 * j + r) (kv_i σ0 (104 + 6 * k) g)) == b) 64) (j + 1)) = (q4 fun b => anyN (fun j => anyN (fun r => CP σ0 k G g 6 (64 * j + r) && nvb (vo σ0 k G 1000 (64 * j + r) (kv_i σ0 (103 + 6 * k) g)) (vo σ0 k G 1000 (64 * j + r) (kv_i σ0 (104 + 6 * k) g)) == b) 64) j || anyN (fun r => lb z r && nvb (lb (kv_l τ (26 + 1) (onn (kv_i σ0 (103 + 6 * k) g) * 4 + j)) r) (lb (kv_l τ (26 + 1) (onn (kv_i σ0 (104 + 6 * k) g) * 4 + j)) r) == b) 64) := by
      refine q4_congr (fun b hb => ?_)
      show (anyN _ j || anyN _ 64) = (anyN _ j || anyN _ 64)
      congr 1
      refine anyN_congr 64 (fun r hr => ?_)
      have g1 := hv.2 _ (v.1.mono (show g ≤ G by omega)) j (by omega) r hr
      have g2 := hv.2 _ (v.2.mono (show g ≤ G by omega)) j (by omega) r hr
      rw [hz r hr, hI.1.l (b := 26 + 1) (by omega), hI.1.l (b := 26 + 1) (by omega), g1, g2]
    rw [e7] at this
    exact this
theorem CP_mod_q {σ : kv_S} {k w G g n : Nat} (hn : JNc σ k w G) (hn6 : n ≤ 6) (row : Nat) : CP σ k G g n row = CP σ k G g n (row % 2 ^ w) := by
  unfold CP
  refine anyN_congr n (fun i hi => ?_)
  by_cases c1 : kv_i σ (106 + 6 * k) i = -3
  · rw [c1]; rfl
  · have vx := (hn.o i (by omega)).resolve_left c1
    rw [vo_mod_q hn vx row, vo_mod_q (t := 1000) hn vx row]
theorem m_caredFor_q {σ0 : kv_S} (hj0 : JS σ0) {k w G g : Nat} (hk : k < 8) (hg : g < G) (hn : JNc σ0 k w G) (hv : vld σ0 k w G) {τ : kv_S} (hI : tnI σ0 k w G g τ G) (H : Φ (some (.int (Int32.ofNat (crd σ0 k G g w)))) τ) : Wc (d + 2) 102 [.ref 30, .ref (101 + 6 * k), .ref 26, .int (Int32.ofNat g)] τ Φ := by
  simp only [c_102, g_102_0, g_102_1, g_102_3, g_102_4, Nat.not_lt_zero, Bool.false_eq_true, Option.toList_some, Option.toList_none, List.cons_append, List.nil_append, kv_rv, kc1_i, kc1_r, kc1_n, n10, n01, n1514, n1213, n1312, if_true, if_false, not_true_eq_false, not_false_eq_true, and_self, true_and, and_true, false_and, and_false, or_true, true_or, or_false, false_or, Nat.reduceLeDiff, Nat.reduceLT, Nat.reduceEqDiff, Nat.reduceAdd]
  refine cared_out_q hj0 hk hg hn hv hI ?_ (nwc w) 0 (by omega) _ _ _ _
  have e : (q4 fun b => anyN (fun j => anyN (fun r => CP σ0 k G g 6 (64 * j + r) && nvb (vo σ0 k G 1000 (64 * j + r) (kv_i σ0 (103 + 6 * k) g)) (vo σ0 k G 1000 (64 * j + r) (kv_i σ0 (104 + 6 * k) g)) == b) 64) (nwc w)) = crd σ0 k G g w := by
    unfold crd
    refine q4_congr (fun b hb => ?_)
    have v := hn.xy g hg
    exact per_any (f := fun row => CP σ0 k G g 6 row && nvb (vo σ0 k G 1000 row (kv_i σ0 (103 + 6 * k) g)) (vo σ0 k G 1000 row (kv_i σ0 (104 + 6 * k) g)) == b) hn.2.1 (fun row => by rw [CP_mod_q hn (by decide) row, vo_mod_q hn (v.1.mono (Nat.le_of_lt hg)) row, vo_mod_q hn (v.2.mono (Nat.le_of_lt hg)) row])
  rw [e]; exact H
end CQ

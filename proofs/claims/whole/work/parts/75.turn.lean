/-! ===== turning a gate ===== -/
/-- an operand's word, a gate being turned -/
def tw (τ : kv_S) (x : Int32) (j : Nat) : Int64 := if lb (kv_l τ 30 1) (onn x) = true then kv_l τ 31 (onn x * 4 + j) else kv_l τ 27 (onn x * 4 + j)
section TU
variable {d : Nat} {Φ : Option Value → kv_S → Prop}
theorem m_tword {τ : kv_S} (h : JS τ) {x : Int32} {j : Nat} (vx : x - -2 = Int32.ofNat (onn x)) (hx : onn x < 50) (hj : j < 4) : Wc (d + 1) 101 [.ref 30, .ref 26, .int x, .int (Int32.ofNat j)] τ Φ = Φ (some (.long (tw τ x j))) τ := by
  unfold tw
  by_cases c : lb (kv_l τ 30 1) (onn x) = true
  · simp only [c_101, g_101_0, g_101_1, g_101_4, g_101_5, g_101_8, g_101_11, g_101_12, g_101_15, g_101_16, g_101_19, g_101_20, g_101_21, g_101_22, g_101_25, g_101_26, g_101_27, g_101_28, g_101_31, kv_w8_0, kv_w8_1, kv_w8_2, kv_w8_3, kv_w8_4, ari_aa, ari_al, ari_la, ari_mm, ari_ml, ari_lm, ari_ltl, ari_llt, ari_lt, ari_le, ari_lel, ari_lle, ari_0, ari_eq, ari_eql, ari_leq, ari_cl, Nat.not_lt_zero, Bool.false_eq_true, Option.toList_some, Option.toList_none, List.cons_append, List.nil_append, kv_rv, kc1_i, kc1_r, kc1_n, n10, n01, n1514, n1213, n1312, if_true, if_false, not_true_eq_false, not_false_eq_true, and_self, true_and, and_true, false_and, and_false, or_true, true_or, or_false, false_or, Nat.reduceLeDiff, Nat.reduceLT, Nat.reduceEqDiff, Nat.reduceAdd, s_30 h, r_8_7 h, s_31 h, r_30_0 h, m_has _ vx (show onn x < 64 by omega), c, m_start _ vx, (show onn x * 4 + j < 200 by omega), (show onn x * 4 + j < 2147483648 by omega)]
  · simp only [c_101, g_101_0, g_101_1, g_101_4, g_101_5, g_101_8, g_101_11, g_101_12, g_101_15, g_101_16, g_101_19, g_101_20, g_101_21, g_101_22, g_101_25, g_101_26, g_101_27, g_101_28, g_101_31, kv_w8_0, kv_w8_1, kv_w8_2, kv_w8_3, kv_w8_4, ari_aa, ari_al, ari_la, ari_mm, ari_ml, ari_lm, ari_ltl, ari_llt, ari_lt, ari_le, ari_lel, ari_lle, ari_0, ari_eq, ari_eql, ari_leq, ari_cl, Nat.not_lt_zero, Bool.false_eq_true, Option.toList_some, Option.toList_none, List.cons_append, List.nil_append, kv_rv, kc1_i, kc1_r, kc1_n, n10, n01, n1514, n1213, n1312, if_true, if_false, not_true_eq_false, not_false_eq_true, and_self, true_and, and_true, false_and, and_false, or_true, true_or, or_false, false_or, Nat.reduceLeDiff, Nat.reduceLT, Nat.reduceEqDiff, Nat.reduceAdd, s_30 h, r_8_7 h, s_26 h, r_8_5 h, m_has _ vx (show onn x < 64 by omega), c, m_word h (show VV 26 from Or.inl rfl) vx hx hj]
/-- the values are worked out -/
def vld (σ0 : kv_S) (k w G : Nat) : Prop := kv_i σ0 26 1 = Int32.ofNat (nwc w) ∧ ∀ x, vO w G x → ∀ j, j < nwc w → okv σ0 k G 26 σ0 j x
/-- gate g0 is turned, gates below h are gone through -/
def tnI (σ0 : kv_S) (k w G g0 : Nat) (τ : kv_S) (h : Nat) : Prop := FR (fun b i => b = 31 ∨ b = 30 ∧ i = 1) σ0 τ ∧ (∀ x, vO w h x → ∀ j, j < nwc w → ∀ r, r < 64 → lb (tw τ x j) r = vo σ0 k G g0 (64 * j + r) x) ∧ ∀ n, n < 64 → lb (kv_l τ 30 1) n = true → 10 + g0 ≤ n ∧ n < 10 + h
/-- within the working anew of gate h -/
def waI (σ0 : kv_S) (k G g0 : Nat) (τ0 : kv_S) (h j : Nat) (z : Int64) (τ : kv_S) : Prop := FR (fun b _ => b = 31) τ0 τ ∧ (∀ i, ¬ i / 4 = 10 + h → kv_l τ 31 i = kv_l τ0 31 i) ∧ (∀ j', j' < j → ∀ r, r < 64 → lb (kv_l τ 31 ((10 + h) * 4 + j')) r = vo σ0 k G g0 (64 * j' + r) (Int32.ofNat (8 + h))) ∧ ∀ r, r < 64 → lb z r = anyN (fun j' => vo σ0 k G g0 (64 * j' + r) (Int32.ofNat (8 + h)) ^^ vo σ0 k G 1000 (64 * j' + r) (Int32.ofNat (8 + h))) j
theorem wa_loop {σ0 : kv_S} (hj0 : JS σ0) {k w G g0 : Nat} (hk : k < 8) (hn : JN1' σ0 k w G) (hv : vld σ0 k w G) {τ0 : kv_S} {h : Nat} (hh : h < G) (hg : g0 < h) (hI : tnI σ0 k w G g0 τ0 h) (H : ∀ z τ, waI σ0 k G g0 τ0 h (nwc w) z τ → ∀ v9 v10 v11 v12 : Value, Wp (d + 2) 100 111 [.ref 30, .ref (101 + 6 * k), .ref 26, .int (Int32.ofNat h), .int (Int32.ofNat (8 + h)), .int (Int32.ofNat ((10 + h) * 4)), .long z, .null, .int (Int32.ofNat (nwc w)), v9, v10, v11, v12] [] τ Φ) : ∀ m j, j + m = nwc w → ∀ z τ, waI σ0 k G g0 τ0 h j z τ → ∀ v9 v10 v11 v12 : Value, Wp (d + 2) 100 19 [.ref 30, .ref (101 + 6 * k), .ref 26, .int (Int32.ofNat h), .int (Int32.ofNat (8 + h)), .int (Int32.ofNat ((10 + h) * 4)), .long z, .null, .int (Int32.ofNat j), v9, v10, v11, v12] [] τ Φ
  | 0, j, e, z, τ, hz, v9, v10, v11, v12 => by
    have h4 := (nw_4 w hn.2.1).1
    have e2 : j = nwc w := by omega
    have js := hz.1.js (hI.1.js hj0)
    have ew : kv_i τ 26 1 = Int32.ofNat (nwc w) := by rw [hz.1.i (by omega), hI.1.i (by omega)]; exact hv.1
    simp only [g_100_19, g_100_21, g_100_22, g_100_25, ari_aa, ari_al, ari_la, ari_mm, ari_ml, ari_lm, ari_ltl, ari_llt, ari_lt, ari_le, ari_lel, ari_lle, ari_0, ari_eq, ari_eql, ari_leq, ari_cl, Nat.not_lt_zero, Bool.false_eq_true, Option.toList_some, Option.toList_none, List.cons_append, List.nil_append, kv_rv, kc1_i, kc1_r, kc1_n, n10, n01, n1514, n1213, n1312, if_true, if_false, not_true_eq_false, not_false_eq_true, and_self, true_and, and_true, false_and, and_false, or_true, true_or, or_false, false_or, Nat.reduceLeDiff, Nat.reduceLT, Nat.reduceEqDiff, Nat.reduceAdd, s_26 js, ew, (show j < 5 by omega), (show j < 2147483648 by omega), (show nwc w < 5 by omega), (show nwc w < 2147483648 by omega), (show nwc w ≤ j by omega)]
    rw [e2] at hz ⊢
    exact H z τ hz _ _ _ _
  | m + 1, j, e, z, τ, hz, v9, v10, v11, v12 => by
    have h4 := (nw_4 w hn.2.1).1
    have hG := hn.2.2.1
    have js := hz.1.js (hI.1.js hj0)
    have ew : kv_i τ 26 1 = Int32.ofNat (nwc w) := by rw [hz.1.i (by omega), hI.1.i (by omega)]; exact hv.1
    simp only [g_100_19, g_100_21, g_100_22, g_100_25, ari_aa, ari_al, ari_la, ari_mm, ari_ml, ari_lm, ari_ltl, ari_llt, ari_lt, ari_le, ari_lel, ari_lle, ari_0, ari_eq, ari_eql, ari_leq, ari_cl, Nat.not_lt_zero, Bool.false_eq_true, Option.toList_some, Option.toList_none, List.cons_append, List.nil_append, kv_rv, kc1_i, kc1_r, kc1_n, n10, n01, n1514, n1213, n1312, if_true, if_false, not_true_eq_false, not_false_eq_true, and_self, true_and, and_true, false_and, and_false, or_true, true_or, or_false, false_or, Nat.reduceLeDiff, Nat.reduceLT, Nat.reduceEqDiff, Nat.reduceAdd, s_26 js, ew, (show j < 5 by omega), (show j < 2147483648 by omega), (show nwc w < 5 by omega), (show nwc w < 2147483648 by omega), (show ¬ nwc w ≤ j by omega)]
    obtain ⟨⟨t, t1, t2, t3⟩, t4, t5, t6, t7, t8, t9⟩ := hn.2.2.2.2.2.2.2.1 h hh
    have et : kv_i τ (102 + 6 * k) h = Int32.ofNat t := by rw [hz.1.i (by omega), hI.1.i (by omega)]; exact t2
    have ex : kv_i τ (103 + 6 * k) h = kv_i σ0 (103 + 6 * k) h := by rw [hz.1.i (by omega), hI.1.i (by omega)]
    have ey : kv_i τ (104 + 6 * k) h = kv_i σ0 (104 + 6 * k) h := by rw [hz.1.i (by omega), hI.1.i (by omega)]
    have vx := t5.onn hn.2.1 (by omega)
    have vy := t7.onn hn.2.1 (by omega)
    have etb : tbN σ0 k h = t := by unfold tbN; rw [t2, ari_cl (by omega)]
    have eo := onn_nat (8 + h)
    rw [show 8 + h + 2 = 10 + h by omega] at eo
    have tweq : ∀ x, vO w h x → tw τ x j = tw τ0 x j := by
      intro x hx
      have o := hx.onn hn.2.1 (by omega)
      have hne : ¬ onn x = 10 + h := by
        intro q
        rw [q] at o
        have e2 := onn_inj o.1 eo
        rcases hx with q | q | ⟨i, hi, q⟩ | ⟨i, hi, q⟩ <;> rw [q] at e2
        · rw [eq_comm, ari_neg (by omega) (by decide) (by decide)] at e2; exact e2
        · rw [eq_comm, ari_neg (by omega) (by decide) (by decide)] at e2; exact e2
        · have := hn.2.1; rw [ari_eq (by omega) (by omega)] at e2; omega
        · rw [ari_eq (by omega) (by omega)] at e2; omega
      unfold tw
      rw [hz.1.l (by omega), hz.1.l (b := 27) (by omega), hz.2.1 _ (by omega)]
    have wv : ∀ {τ' : kv_S} {d : Nat} {Ψ : Option Value → kv_S → Prop}, JS τ' → Wc d 38 [.ref 26, .int (Int32.ofNat (8 + h)), .int (Int32.ofNat j)] τ' Ψ = Ψ (some (.long (kv_l τ' 27 ((10 + h) * 4 + j)))) τ' := by
      intro τ' d Ψ q; exact m_word q (show VV 26 from Or.inl rfl) eo (by omega) (by omega)
    simp only [g_100_28, g_100_29, g_100_30, g_100_31, g_100_34, g_100_35, g_100_36, g_100_38, g_100_41, g_100_43, g_100_44, g_100_45, g_100_46, g_100_49, g_100_50, g_100_51, g_100_53, g_100_56, g_100_58, g_100_59, g_100_62, g_100_64, g_100_66, g_100_67, g_100_68, g_100_71, g_100_72, g_100_73, g_100_75, g_100_77, kv_w8_0, kv_w8_1, kv_w8_2, kv_w8_3, kv_w8_4, ari_aa, ari_al, ari_la, ari_mm, ari_ml, ari_lm, ari_ltl, ari_llt, ari_lt, ari_le, ari_lel, ari_lle, ari_0, ari_eq, ari_eql, ari_leq, ari_cl, Nat.not_lt_zero, Bool.false_eq_true, Option.toList_some, Option.toList_none, List.cons_append, List.nil_append, kv_rv, kc1_i, kc1_r, kc1_n, n10, n01, n1514, n1213, n1312, if_true, if_false, not_true_eq_false, not_false_eq_true, and_self, true_and, and_true, false_and, and_false, or_true, true_or, or_false, false_or, Nat.reduceLeDiff, Nat.reduceLT, Nat.reduceEqDiff, Nat.reduceAdd, s_30 js, r_8_7 js, s_31 js, r_30_0 js, s_26 js, r_8_5 js, nN js hk, nT js hk, qT js hk, nX js hk, qX js hk, nY js hk, qY js hk, ex, ey, et, m_tword js vx.1 vx.2 (show j < 4 by omega), m_tword js vy.1 vy.2 (show j < 4 by omega), (show h < 40 by omega), (show h < 2147483648 by omega)]
    refine m_gateWord t1 _ _ (fun y hy => ?_)
    have hy2 : ∀ r, r < 64 → lb y r = vo σ0 k G g0 (64 * j + r) (Int32.ofNat (8 + h)) := by
      intro r hr
      rw [hy r hr, tweq _ t5, tweq _ t7, hI.2.1 _ t5 j (by omega) r hr, hI.2.1 _ t7 j (by omega) r hr, vo_gate hn hh, etb, decide_eq_false (show ¬ g0 = h by omega)]
      cases t.testBit _ <;> rfl
    have js2 : JS (kv_sl τ 31 ((10 + h) * 4 + j) y) := js.sl _ _ _
    simp only [g_100_80, g_100_81, g_100_83, g_100_84, g_100_87, g_100_89, g_100_91, g_100_92, g_100_93, g_100_94, g_100_96, g_100_98, g_100_101, g_100_102, g_100_103, g_100_105, g_100_108, kv_w8_0, kv_w8_1, kv_w8_2, kv_w8_3, kv_w8_4, n_si, n_sl, n_sr, n_mk, sh_si, sh_sl, sh_sr, sh_mk, i_si, i_sl, i_sr, i_mk, l_si, l_sl, l_sr, l_mk, r_si, r_sl, r_sr, r_mk, ari_aa, ari_al, ari_la, ari_mm, ari_ml, ari_lm, ari_ltl, ari_llt, ari_lt, ari_le, ari_lel, ari_lle, ari_0, ari_eq, ari_eql, ari_leq, ari_cl, Nat.not_lt_zero, Bool.false_eq_true, Option.toList_some, Option.toList_none, List.cons_append, List.nil_append, kv_rv, kc1_i, kc1_r, kc1_n, n10, n01, n1514, n1213, n1312, if_true, if_false, not_true_eq_false, not_false_eq_true, and_self, true_and, and_true, false_and, and_false, or_true, true_or, or_false, false_or, Nat.reduceLeDiff, Nat.reduceLT, Nat.reduceEqDiff, Nat.reduceAdd, s_30 js, r_8_7 js, s_31 js, r_30_0 js, s_26 js, r_8_5 js, wv js2, (show ¬ (27 = 31) by decide), (show (10 + h) * 4 + j < 200 by omega), (show (10 + h) * 4 + j < 2147483648 by omega)]
    refine wa_loop hj0 hk hn hv hh hg hI H m (j + 1) (by omega) _ _ ⟨hz.1.sl rfl, fun i hi => ?_, fun j' hj' r hr => ?_, fun r hr => ?_⟩ _ _ _ _
    · rw [ne_l (by omega)]; exact hz.2.1 i hi
    · by_cases c : j' = j
      · subst c; rw [eq_l ⟨rfl, rfl⟩]; exact hy2 r hr
      · rw [ne_l (by omega)]; exact hz.2.2.1 j' (by omega) r hr
    · have e27 : lb (kv_l τ 27 ((10 + h) * 4 + j)) r = vo σ0 k G 1000 (64 * j + r) (Int32.ofNat (8 + h)) := by
        have := hv.2 (Int32.ofNat (8 + h)) (Or.inr (Or.inr (Or.inr ⟨h, hh, rfl⟩))) j (by omega) r hr
        rw [onn_of eo (by omega)] at this
        rw [hz.1.l (by omega), hI.1.l (by omega)]
        exact this
      rw [lb_or, lb_xor, hz.2.2.2 r hr, hy2 r hr, e27]
      rfl
theorem m_workAnew {σ0 : kv_S} (hj0 : JS σ0) {k w G g0 : Nat} (hk : k < 8) (hn : JN1' σ0 k w G) (hv : vld σ0 k w G) {τ0 : kv_S} {h : Nat} (hh : h < G) (hg : g0 < h) (hI : tnI σ0 k w G g0 τ0 h) (H : ∀ τ, tnI σ0 k w G g0 τ (h + 1) → Φ none τ) : Wc (d + 2) 100 [.ref 30, .ref (101 + 6 * k), .ref 26, .int (Int32.ofNat h)] τ0 Φ := by
  have hG := hn.2.2.1
  have eo := onn_nat (8 + h)
  rw [show 8 + h + 2 = 10 + h by omega] at eo
  simp only [c_100, g_100_0, g_100_2, g_100_3, g_100_4, g_100_6, g_100_8, g_100_11, g_100_13, g_100_14, g_100_16, g_100_17, kv_w8_0, kv_w8_1, kv_w8_2, kv_w8_3, kv_w8_4, ari_aa, ari_al, ari_la, ari_mm, ari_ml, ari_lm, ari_ltl, ari_llt, ari_lt, ari_le, ari_lel, ari_lle, ari_0, ari_eq, ari_eql, ari_leq, ari_cl, Nat.not_lt_zero, Bool.false_eq_true, Option.toList_some, Option.toList_none, List.cons_append, List.nil_append, kv_rv, kc1_i, kc1_r, kc1_n, n10, n01, n1514, n1213, n1312, if_true, if_false, not_true_eq_false, not_false_eq_true, and_self, true_and, and_true, false_and, and_false, or_true, true_or, or_false, false_or, Nat.reduceLeDiff, Nat.reduceLT, Nat.reduceEqDiff, Nat.reduceAdd, m_start _ eo]
  refine wa_loop hj0 hk hn hv hh hg hI (fun z τ hz v9 v10 v11 v12 => ?_) (nwc w) 0 (by omega) 0 τ0 ⟨FR.rf _ τ0, fun i hi => rfl, fun j' hj' => absurd hj' (by omega), fun r hr => by rw [lb_0]; rfl⟩ _ _ _ _
  have js := hz.1.js (hI.1.js hj0)
  have e30 : kv_l τ 30 1 = kv_l τ0 30 1 := hz.1.l (by omega)
  have hnot : ¬ lb (kv_l τ0 30 1) (10 + h) = true := fun q => by have := (hI.2.2 (10 + h) (by omega) q).2; omega
  -- operands ahead of gate h keep their words
  have ahead : ∀ x, vO w h x → onn x ≠ 10 + h := by
    intro x hx q
    have o := hx.onn hn.2.1 (by omega)
    rw [q] at o
    have e2 := onn_inj o.1 eo
    rcases hx with q | q | ⟨i, hi, q⟩ | ⟨i, hi, q⟩ <;> rw [q] at e2
    · rw [eq_comm, ari_neg (by omega) (by decide) (by decide)] at e2; exact e2
    · rw [eq_comm, ari_neg (by omega) (by decide) (by decide)] at e2; exact e2
    · have := hn.2.1; rw [ari_eq (by omega) (by omega)] at e2; omega
    · rw [ari_eq (by omega) (by omega)] at e2; omega
  have split : ∀ x, vO w (h + 1) x → vO w h x ∨ x = Int32.ofNat (8 + h) := by
    rintro x (q | q | q | ⟨i, hi, q⟩)
    · exact Or.inl (Or.inl q)
    · exact Or.inl (Or.inr (Or.inl q))
    · exact Or.inl (Or.inr (Or.inr (Or.inl q)))
    · by_cases c : i = h
      · exact Or.inr (by rw [q, c])
      · exact Or.inl (Or.inr (Or.inr (Or.inr ⟨i, by omega, q⟩)))
  have oh : onn (Int32.ofNat (8 + h)) = 10 + h := onn_of eo (by omega)
  by_cases c : z = 0
  · simp only [g_100_111, g_100_113, g_100_114, g_100_115, g_100_132, lg_cmp_eq, c, Nat.not_lt_zero, Bool.false_eq_true, Option.toList_some, Option.toList_none, List.cons_append, List.nil_append, kv_rv, kc1_i, kc1_r, kc1_n, n10, n01, n1514, n1213, n1312, if_true, if_false, not_true_eq_false, not_false_eq_true, and_self, true_and, and_true, false_and, and_false, or_true, true_or, or_false, false_or, Nat.reduceLeDiff, Nat.reduceLT, Nat.reduceEqDiff, Nat.reduceAdd]
    refine H τ ⟨hI.1.tr (hz.1.mono (fun b i q => Or.inl q)), fun x hx j hj r hr => ?_, fun n hn1 q => ?_⟩
    · rcases split x hx with hx | rfl
      · have : tw τ x j = tw τ0 x j := by
          unfold tw
          rw [e30, hz.1.l (b := 27) (by omega), hz.2.1 _ (by have := ahead x hx; have := (nw_4 w hn.2.1).1; omega)]
        rw [this]; exact hI.2.1 x hx j hj r hr
      · unfold tw
        rw [e30, oh, if_neg hnot]
        have e1 := hv.2 (Int32.ofNat (8 + h)) (Or.inr (Or.inr (Or.inr ⟨h, hh, rfl⟩))) j hj r hr
        rw [oh] at e1
        rw [hz.1.l (by omega), hI.1.l (by omega), e1]
        have e2 := hz.2.2.2 r hr
        rw [c, lb_0] at e2
        have e3 : (vo σ0 k G g0 (64 * j + r) (Int32.ofNat (8 + h)) ^^ vo σ0 k G 1000 (64 * j + r) (Int32.ofNat (8 + h))) = false := by
          cases q : (vo σ0 k G g0 (64 * j + r) (Int32.ofNat (8 + h)) ^^ vo σ0 k G 1000 (64 * j + r) (Int32.ofNat (8 + h))) with
          | false => rfl
          | true => rw [(anyN_iff (nwc w)).mpr ⟨j, hj, q⟩] at e2; cases e2
        revert e3
        cases vo σ0 k G g0 (64 * j + r) (Int32.ofNat (8 + h)) <;> cases vo σ0 k G 1000 (64 * j + r) (Int32.ofNat (8 + h)) <;> simp
    · rw [e30] at q
      have := hI.2.2 n hn1 q
      omega
  · simp only [g_100_111, g_100_113, g_100_114, g_100_115, g_100_118, g_100_119, g_100_119r, g_100_120, g_100_123, g_100_125, g_100_128, g_100_129, g_100_132, kv_w8_0, kv_w8_1, kv_w8_2, kv_w8_3, kv_w8_4, lg_cmp_eq, c, m_bitOf, s_30 js, r_8_7 js, Nat.not_lt_zero, Bool.false_eq_true, Option.toList_some, Option.toList_none, List.cons_append, List.nil_append, kv_rv, kc1_i, kc1_r, kc1_n, n10, n01, n1514, n1213, n1312, if_true, if_false, not_true_eq_false, not_false_eq_true, and_self, true_and, and_true, false_and, and_false, or_true, true_or, or_false, false_or, Nat.reduceLeDiff, Nat.reduceLT, Nat.reduceEqDiff, Nat.reduceAdd]
    have lbb : ∀ n, n < 64 → lb (kv_l τ 30 1 ||| lbo (Int32.ofNat (8 + h))) n = (lb (kv_l τ0 30 1) n || decide (n = 10 + h)) := fun n hn1 => by rw [lb_or, lb_lbo eo (by omega) hn1, e30]
    refine H _ ⟨(hI.1.tr (hz.1.mono (fun b i q => Or.inl q))).sl (Or.inr ⟨rfl, rfl⟩), fun x hx j hj r hr => ?_, fun n hn1 q => ?_⟩
    · unfold tw
      rw [eq_l ⟨rfl, rfl⟩, ne_l (by omega), ne_l (by omega)]
      rcases split x hx with hx | rfl
      · have o := hx.onn hn.2.1 (by omega)
        rw [lbb _ (by omega), decide_eq_false (ahead x hx), Bool.or_false, hz.1.l (b := 27) (by omega), hz.2.1 _ (by have := ahead x hx; have := (nw_4 w hn.2.1).1; omega)]
        exact hI.2.1 x hx j hj r hr
      · rw [oh, lbb _ (by omega), decide_eq_true rfl, Bool.or_true, if_pos rfl]
        exact hz.2.2.1 j hj r hr
    · rw [eq_l ⟨rfl, rfl⟩, lbb n hn1, Bool.or_eq_true, decide_eq_true_eq] at q
      rcases q with q | q
      · have := hI.2.2 n hn1 q; omega
      · omega
end TU

/-! ===== the lowest bit ===== -/
theorem low_nat {x r : Nat} (hr : x.testBit r = true) (hl : ∀ i, i < r → x.testBit i = false) : ∃ y, x = 2 ^ (r + 1) * y + 2 ^ r := by
  have h0 : x % 2 ^ r = 0 := by
    apply Nat.eq_of_testBit_eq
    intro i
    rw [Nat.testBit_mod_two_pow, Nat.zero_testBit]
    by_cases h : i < r
    · rw [hl i h]; simp
    · simp [h]
  have h1 : x / 2 ^ r % 2 = 1 := by
    have := Nat.toNat_testBit x r
    rw [hr] at this
    exact this.symm
  refine ⟨x / 2 ^ r / 2, ?_⟩
  have e1 := Nat.div_add_mod x (2 ^ r)
  have e2 := Nat.div_add_mod (x / 2 ^ r) 2
  rw [h0, Nat.add_zero] at e1
  rw [h1] at e2
  rw [Nat.pow_succ, Nat.mul_assoc, ← Nat.mul_add_one, e2, e1]
theorem low_and {x r : Nat} (hx : x < 2 ^ 64) (hr : x.testBit r = true) (hl : ∀ i, i < r → x.testBit i = false) : x &&& (2 ^ 64 - x) = 2 ^ r := by
  obtain ⟨y, e⟩ := low_nat hr hl
  have hp : 0 < 2 ^ r := Nat.two_pow_pos r
  have hx1 : x = (2 ^ (r + 1) * y + (2 ^ r - 1)) + 1 := by omega
  apply Nat.eq_of_testBit_eq
  intro i
  have hb : (2 ^ (r + 1) * y + (2 ^ r - 1)).testBit i = if i < r + 1 then (2 ^ r - 1).testBit i else y.testBit (i - (r + 1)) := Nat.testBit_two_pow_mul_add y (by rw [Nat.pow_succ]; omega) i
  have hx2 : x.testBit i = if i < r + 1 then (2 ^ r).testBit i else y.testBit (i - (r + 1)) := by
    rw [e]; exact Nat.testBit_two_pow_mul_add y (by rw [Nat.pow_succ]; omega) i
  have hs : (2 ^ 64 - x).testBit i = (decide (i < 64) && !(2 ^ (r + 1) * y + (2 ^ r - 1)).testBit i) := by
    conv => lhs; rw [hx1]
    exact Nat.testBit_two_pow_sub_succ (by omega) i
  have hr64 : r < 64 := by
    refine Classical.byContradiction fun hc => ?_
    have : 2 ^ 64 ≤ 2 ^ r := Nat.pow_le_pow_right (by decide) (by omega)
    omega
  rw [Nat.testBit_and, hs, hb, hx2, Nat.testBit_two_pow_sub_one, Nat.testBit_two_pow]
  by_cases c1 : i < r
  · simp [c1, show ¬ r = i by omega, show i < r + 1 by omega]
  · by_cases c2 : i = r
    · subst c2; simp [hr64]
    · simp [show ¬ i < r + 1 by omega, show ¬ r = i by omega]
      exact fun h _ => h
theorem low_l {z : Int64} {r : Nat} (hr : lb z r = true) (hl : ∀ i, i < r → lb z i = false) : z &&& -z = Int64.ofNat (2 ^ r) := by
  rw [← Int64.toBitVec_inj]
  show z.toBitVec &&& -z.toBitVec = BitVec.ofNat 64 (2 ^ r)
  apply BitVec.eq_of_toNat_eq
  have hx : z.toBitVec.toNat < 2 ^ 64 := z.toBitVec.isLt
  have h0 : 0 < z.toBitVec.toNat := by
    refine Nat.pos_of_ne_zero fun h => ?_
    have : z.toBitVec.toNat.testBit r = true := hr
    rw [h, Nat.zero_testBit] at this; cases this
  have h1 := low_and hx hr hl
  rw [BitVec.toNat_and, BitVec.toNat_neg, Nat.mod_eq_of_lt (by omega), h1, BitVec.toNat_ofNat, Nat.mod_eq_of_lt]
  refine Nat.pow_lt_pow_right (by decide) ?_
  refine Classical.byContradiction fun hc => ?_
  have : lb z r = false := BitVec.getLsbD_of_ge _ _ (by omega)
  rw [this] at hr; cases hr
theorem low_cnt {r : Nat} (hr : r < 64) : cnt (lb (Int64.ofNat (2 ^ r) - 1)) 64 = r := by
  have h1 := pw1 r
  rw [show (1 : Int64) = Int64.ofNat 1 from rfl, lar_sub h1]
  have e : lb (Int64.ofNat (2 ^ r - 1)) = fun i => (2 ^ r - 1) % 2 ^ 64 |>.testBit i := rfl
  have hlt : 2 ^ r - 1 < 2 ^ 64 := by have : 2 ^ r ≤ 2 ^ 64 := Nat.pow_le_pow_right (by decide) (by omega); omega
  rw [e, Nat.mod_eq_of_lt hlt, cnt_congr 64 (Q := fun i => decide (i < r)) (fun i hi => by rw [Nat.testBit_two_pow_sub_one]), cnt_lt]
  omega
/-- the first of the first n that has it -/
theorem first_of {f : Nat → Bool} : ∀ n, anyN f n = true → ∃ i, i < n ∧ f i = true ∧ ∀ j, j < i → f j = false
  | 0, h => by cases h
  | n + 1, h => by
    by_cases c : anyN f n = true
    · obtain ⟨i, hi, h1, h2⟩ := first_of n c
      exact ⟨i, by omega, h1, h2⟩
    · have hf : f n = true := by
        have h : (anyN f n || f n) = true := h
        rw [Bool.eq_false_iff.mpr c, Bool.false_or] at h; exact h
      refine ⟨n, by omega, hf, fun j hj => ?_⟩
      cases e : f j with
      | false => rfl
      | true => exact absurd ((anyN_iff n).mpr ⟨j, hj, e⟩) c
/-! ===== where two nets differ ===== -/
def DF (σ : kv_S) (a b GA GB row i : Nat) : Bool := !(kv_i σ (106 + 6 * a) i == -3) && !(kv_i σ (106 + 6 * b) i == -3) && (vo σ a GA 1000 row (kv_i σ (106 + 6 * a) i) ^^ vo σ b GB 1000 row (kv_i σ (106 + 6 * b) i))
/-- the first difference -/
def FD (D : Nat → Nat → Bool) (n : Nat) (v : Int32) : Prop := (v = -5 ∧ ∀ row, row < n → ∀ i, i < 6 → D row i = false) ∨ ∃ row i, row < n ∧ i < 6 ∧ v = Int32.ofNat (8 * row + i) ∧ D row i = true ∧ (∀ r, r < row → ∀ j, j < 6 → D r j = false) ∧ ∀ j, j < i → D row j = false
theorem FD.uniq {D : Nat → Nat → Bool} {n : Nat} {v v' : Int32} (h : FD D n v) (h' : FD D n v') : v = v' := by
  rcases h with ⟨e, h⟩ | ⟨r, i, h1, h2, e, h3, h4, h5⟩ <;> rcases h' with ⟨e', h'⟩ | ⟨r', i', h1', h2', e', h3', h4', h5'⟩
  · rw [e, e']
  · rw [h r' h1' i' h2'] at h3'; cases h3'
  · rw [h' r h1 i h2] at h3; cases h3
  · have er : r = r' := by
      rcases Nat.lt_trichotomy r r' with q | q | q
      · rw [h4' r q i h2] at h3; cases h3
      · exact q
      · rw [h4 r' q i' h2'] at h3'; cases h3'
    subst er
    have ei : i = i' := by
      rcases Nat.lt_trichotomy i i' with q | q | q
      · rw [h5' i q] at h3; cases h3
      · exact q
      · rw [h5 i' q] at h3'; cases h3'
    rw [e, e', ei]
section DI
variable {d : Nat} {σ : kv_S} {Φ : Option Value → kv_S → Prop}
/-- both nets are worked out -/
def DC (σ : kv_S) (a b w GA GB : Nat) (υ : kv_S) : Prop := FR SC σ υ ∧ kv_i υ 26 1 = Int32.ofNat (nwc w) ∧ (∀ x, vO w GA x → ∀ j, j < nwc w → okv σ a GA 26 υ j x) ∧ ∀ x, vO w GB x → ∀ j, j < nwc w → okv σ b GB 28 υ j x
theorem m_diffAt {υ : kv_S} (h : JS σ) {a b w GA GB i j : Nat} (ha : a < 8) (hb : b < 8) (na : JN1' σ a w GA) (nb : JN1' σ b w GB) (hd : DC σ a b w GA GB υ) (hi : i < 6) (hj : j < nwc w) (HΦ : ∀ z, (∀ r, r < 64 → lb z r = DF σ a b GA GB (64 * j + r) i) → Φ (some (.long z)) υ) : Wc (d + 1) 93 [.ref 8, .ref (101 + 6 * a), .ref (101 + 6 * b), .int (Int32.ofNat i), .int (Int32.ofNat j)] υ Φ := by
  have js := hd.1.js h
  have h4 := (nw_4 w na.2.1).1
  have ea : kv_i υ (106 + 6 * a) i = kv_i σ (106 + 6 * a) i := hd.1.ess (by unfold kv_ess; omega)
  have eb : kv_i υ (106 + 6 * b) i = kv_i σ (106 + 6 * b) i := hd.1.ess (by unfold kv_ess; omega)
  by_cases c1 : kv_i σ (106 + 6 * a) i = -3
  · simp only [c_93, g_93_0, g_93_1, g_93_4, g_93_5, g_93_6, g_93_8, g_93_11, g_93_12, g_93_15, g_93_16, g_93_17, g_93_19, g_93_22, g_93_23, g_93_24, g_93_25, g_93_28, g_93_29, g_93_32, g_93_33, g_93_34, g_93_36, g_93_39, g_93_40, g_93_43, g_93_44, g_93_47, g_93_48, g_93_49, g_93_51, g_93_54, g_93_55, ari_aa, ari_al, ari_la, ari_mm, ari_ml, ari_lm, ari_ltl, ari_llt, ari_lt, ari_le, ari_lel, ari_lle, ari_0, ari_eq, ari_eql, ari_leq, ari_cl, Nat.not_lt_zero, Bool.false_eq_true, Option.toList_some, Option.toList_none, List.cons_append, List.nil_append, kv_rv, kc1_i, kc1_r, kc1_n, n10, n01, n1514, n1213, n1312, if_true, if_false, not_true_eq_false, not_false_eq_true, and_self, true_and, and_true, false_and, and_false, or_true, true_or, or_false, false_or, Nat.reduceLeDiff, Nat.reduceLT, Nat.reduceEqDiff, Nat.reduceAdd, nN js ha, nO js ha, qO js ha, ea, c1, (show i < 6 by omega), (show i < 2147483648 by omega)]
    refine HΦ 0 (fun r hr => ?_)
    rw [lb_0]; unfold DF; rw [c1]; rfl
  · by_cases c2 : kv_i σ (106 + 6 * b) i = -3
    · simp only [c_93, g_93_0, g_93_1, g_93_4, g_93_5, g_93_6, g_93_8, g_93_11, g_93_12, g_93_15, g_93_16, g_93_17, g_93_19, g_93_22, g_93_23, g_93_24, g_93_25, g_93_28, g_93_29, g_93_32, g_93_33, g_93_34, g_93_36, g_93_39, g_93_40, g_93_43, g_93_44, g_93_47, g_93_48, g_93_49, g_93_51, g_93_54, g_93_55, ari_aa, ari_al, ari_la, ari_mm, ari_ml, ari_lm, ari_ltl, ari_llt, ari_lt, ari_le, ari_lel, ari_lle, ari_0, ari_eq, ari_eql, ari_leq, ari_cl, Nat.not_lt_zero, Bool.false_eq_true, Option.toList_some, Option.toList_none, List.cons_append, List.nil_append, kv_rv, kc1_i, kc1_r, kc1_n, n10, n01, n1514, n1213, n1312, if_true, if_false, not_true_eq_false, not_false_eq_true, and_self, true_and, and_true, false_and, and_false, or_true, true_or, or_false, false_or, Nat.reduceLeDiff, Nat.reduceLT, Nat.reduceEqDiff, Nat.reduceAdd, nN js ha, nO js ha, qO js ha, nN js hb, nO js hb, qO js hb, ea, eb, c1, c2, (show i < 6 by omega), (show i < 2147483648 by omega)]
      refine HΦ 0 (fun r hr => ?_)
      rw [lb_0]; unfold DF; rw [c2]; simp
    · have va := (na.o i hi).resolve_left c1
      have vb := (nb.o i hi).resolve_left c2
      have oa := va.onn na.2.1 na.2.2.1
      have ob := vb.onn nb.2.1 nb.2.2.1
      simp only [c_93, g_93_0, g_93_1, g_93_4, g_93_5, g_93_6, g_93_8, g_93_11, g_93_12, g_93_15, g_93_16, g_93_17, g_93_19, g_93_22, g_93_23, g_93_24, g_93_25, g_93_28, g_93_29, g_93_32, g_93_33, g_93_34, g_93_36, g_93_39, g_93_40, g_93_43, g_93_44, g_93_47, g_93_48, g_93_49, g_93_51, g_93_54, g_93_55, kv_w8_0, kv_w8_1, kv_w8_2, kv_w8_3, kv_w8_4, ari_aa, ari_al, ari_la, ari_mm, ari_ml, ari_lm, ari_ltl, ari_llt, ari_lt, ari_le, ari_lel, ari_lle, ari_0, ari_eq, ari_eql, ari_leq, ari_cl, Nat.not_lt_zero, Bool.false_eq_true, Option.toList_some, Option.toList_none, List.cons_append, List.nil_append, kv_rv, kc1_i, kc1_r, kc1_n, n10, n01, n1514, n1213, n1312, if_true, if_false, not_true_eq_false, not_false_eq_true, and_self, true_and, and_true, false_and, and_false, or_true, true_or, or_false, false_or, Nat.reduceLeDiff, Nat.reduceLT, Nat.reduceEqDiff, Nat.reduceAdd, nN js ha, nO js ha, qO js ha, nN js hb, nO js hb, qO js hb, ea, eb, c1, c2, m_word js (show VV 26 from Or.inl rfl) oa.1 oa.2 (show j < 4 by omega), m_word js (show VV 28 from Or.inr rfl) ob.1 ob.2 (show j < 4 by omega), s_8 js, s_26 js, r_8_5 js, s_28 js, r_8_6 js, (show i < 6 by omega), (show i < 2147483648 by omega)]
      refine HΦ _ (fun r hr => ?_)
      rw [lb_xor, hd.2.2.1 _ va j hj r hr, hd.2.2.2 _ vb j hj r hr]
      unfold DF
      rw [beq_eq_false_iff_ne.mpr c1, beq_eq_false_iff_ne.mpr c2]
      simp
theorem diff_l1 {υ : kv_S} (h : JS σ) {a b w GA GB j : Nat} (ha : a < 8) (hb : b < 8) (na : JN1' σ a w GA) (nb : JN1' σ b w GB) (hd : DC σ a b w GA GB υ) (hj : j < nwc w) {v8 : Value} (H : ∀ z, (∀ r, r < 64 → lb z r = anyN (fun i => DF σ a b GA GB (64 * j + r) i) 6) → Wp (d + 2) 92 62 [.ref 8, .ref (101 + 6 * a), .ref (101 + 6 * b), .int (Int32.ofNat j), .long z, .null, .int (Int32.ofNat 6), .null, v8] [] υ Φ) : ∀ m i, i + m = 6 → ∀ z, (∀ r, r < 64 → lb z r = anyN (fun i => DF σ a b GA GB (64 * j + r) i) i) → Wp (d + 2) 92 35 [.ref 8, .ref (101 + 6 * a), .ref (101 + 6 * b), .int (Int32.ofNat j), .long z, .null, .int (Int32.ofNat i), .null, v8] [] υ Φ
  | 0, i, e, z, hz => by
    have e2 : i = 6 := by omega
    subst e2
    simp only [g_92_35, g_92_37, g_92_39, ari_aa, ari_al, ari_la, ari_mm, ari_ml, ari_lm, ari_ltl, ari_llt, ari_lt, ari_le, ari_lel, ari_lle, ari_0, ari_eq, ari_eql, ari_leq, ari_cl, Nat.not_lt_zero, Bool.false_eq_true, Option.toList_some, Option.toList_none, List.cons_append, List.nil_append, kv_rv, kc1_i, kc1_r, kc1_n, n10, n01, n1514, n1213, n1312, if_true, if_false, not_true_eq_false, not_false_eq_true, and_self, true_and, and_true, false_and, and_false, or_true, true_or, or_false, false_or, Nat.reduceLeDiff, Nat.reduceLT, Nat.reduceEqDiff, Nat.reduceAdd]
    exact H z hz
  | m + 1, i, e, z, hz => by
    have js := hd.1.js h
    simp only [g_92_35, g_92_37, g_92_39, ari_aa, ari_al, ari_la, ari_mm, ari_ml, ari_lm, ari_ltl, ari_llt, ari_lt, ari_le, ari_lel, ari_lle, ari_0, ari_eq, ari_eql, ari_leq, ari_cl, Nat.not_lt_zero, Bool.false_eq_true, Option.toList_some, Option.toList_none, List.cons_append, List.nil_append, kv_rv, kc1_i, kc1_r, kc1_n, n10, n01, n1514, n1213, n1312, if_true, if_false, not_true_eq_false, not_false_eq_true, and_self, true_and, and_true, false_and, and_false, or_true, true_or, or_false, false_or, Nat.reduceLeDiff, Nat.reduceLT, Nat.reduceEqDiff, Nat.reduceAdd, (show i < 6 by omega), (show i < 2147483648 by omega), (show ¬ 6 ≤ i by omega)]
    simp only [g_92_42, g_92_44, g_92_45, g_92_46, g_92_47, g_92_49, g_92_50, kv_w8_0, kv_w8_1, kv_w8_2, kv_w8_3, kv_w8_4, Nat.not_lt_zero, Bool.false_eq_true, Option.toList_some, Option.toList_none, List.cons_append, List.nil_append, kv_rv, kc1_i, kc1_r, kc1_n, n10, n01, n1514, n1213, n1312, if_true, if_false, not_true_eq_false, not_false_eq_true, and_self, true_and, and_true, false_and, and_false, or_true, true_or, or_false, false_or, Nat.reduceLeDiff, Nat.reduceLT, Nat.reduceEqDiff, Nat.reduceAdd, s_8 js]
    refine m_diffAt h ha hb na nb hd (by omega) hj (fun y hy => ?_)
    simp only [g_92_53, g_92_54, g_92_56, g_92_59, ari_aa, ari_al, ari_la, ari_mm, ari_ml, ari_lm, ari_ltl, ari_llt, ari_lt, ari_le, ari_lel, ari_lle, ari_0, ari_eq, ari_eql, ari_leq, ari_cl, Nat.not_lt_zero, Bool.false_eq_true, Option.toList_some, Option.toList_none, List.cons_append, List.nil_append, kv_rv, kc1_i, kc1_r, kc1_n, n10, n01, n1514, n1213, n1312, if_true, if_false, not_true_eq_false, not_false_eq_true, and_self, true_and, and_true, false_and, and_false, or_true, true_or, or_false, false_or, Nat.reduceLeDiff, Nat.reduceLT, Nat.reduceEqDiff, Nat.reduceAdd]
    refine diff_l1 h ha hb na nb hd hj H m (i + 1) (by omega) _ (fun r hr => ?_)
    rw [lb_or, hz r hr, hy r hr]
    rfl
theorem diff_l2 {υ : kv_S} (h : JS σ) {a b w GA GB j r0 : Nat} (ha : a < 8) (hb : b < 8) (na : JN1' σ a w GA) (nb : JN1' σ b w GB) (hd : DC σ a b w GA GB υ) (hj : j < nwc w) (hr0 : r0 < 64) {v4 : Int64} (hex : anyN (fun i => DF σ a b GA GB (64 * j + r0) i) 6 = true) (H : ∀ i, i < 6 → DF σ a b GA GB (64 * j + r0) i = true → (∀ i', i' < i → DF σ a b GA GB (64 * j + r0) i' = false) → Φ (some (.int (Int32.ofNat (8 * (64 * j + r0) + i)))) υ) : ∀ m i, i + m = 5 → (∀ i', i' < i → DF σ a b GA GB (64 * j + r0) i' = false) → Wp (d + 2) 92 80 [.ref 8, .ref (101 + 6 * a), .ref (101 + 6 * b), .int (Int32.ofNat j), .long v4, .null, .long (Int64.ofNat (2 ^ r0)), .null, .int (Int32.ofNat i)] [] υ Φ
  | 0, i, e, hs => by
    have e2 : i = 5 := by omega
    subst e2
    have h4 := (nw_4 w na.2.1).1
    have h5 : DF σ a b GA GB (64 * j + r0) 5 = true := by
      obtain ⟨i, hi, q⟩ := (anyN_iff 6).mp hex
      by_cases c : i = 5
      · subst c; exact q
      · rw [hs i (by omega)] at q; cases q
    simp only [g_92_80, g_92_82, g_92_83, g_92_109, g_92_111, g_92_113, g_92_114, g_92_115, g_92_117, g_92_118, g_92_119, g_92_122, g_92_123, g_92_124, g_92_126, g_92_127, kv_w8_0, kv_w8_1, kv_w8_2, kv_w8_3, kv_w8_4, ari_aa, ari_al, ari_la, ari_mm, ari_ml, ari_lm, ari_ltl, ari_llt, ari_lt, ari_le, ari_lel, ari_lle, ari_0, ari_eq, ari_eql, ari_leq, ari_cl, Nat.not_lt_zero, Bool.false_eq_true, Option.toList_some, Option.toList_none, List.cons_append, List.nil_append, kv_rv, kc1_i, kc1_r, kc1_n, n10, n01, n1514, n1213, n1312, if_true, if_false, not_true_eq_false, not_false_eq_true, and_self, true_and, and_true, false_and, and_false, or_true, true_or, or_false, false_or, Nat.reduceLeDiff, Nat.reduceLT, Nat.reduceEqDiff, Nat.reduceAdd, m_lbc, low_cnt hr0]
    exact H 5 (by decide) h5 hs
  | m + 1, i, e, hs => by
    have js := hd.1.js h
    simp only [g_92_80, g_92_82, g_92_83, ari_aa, ari_al, ari_la, ari_mm, ari_ml, ari_lm, ari_ltl, ari_llt, ari_lt, ari_le, ari_lel, ari_lle, ari_0, ari_eq, ari_eql, ari_leq, ari_cl, Nat.not_lt_zero, Bool.false_eq_true, Option.toList_some, Option.toList_none, List.cons_append, List.nil_append, kv_rv, kc1_i, kc1_r, kc1_n, n10, n01, n1514, n1213, n1312, if_true, if_false, not_true_eq_false, not_false_eq_true, and_self, true_and, and_true, false_and, and_false, or_true, true_or, or_false, false_or, Nat.reduceLeDiff, Nat.reduceLT, Nat.reduceEqDiff, Nat.reduceAdd, (show i < 5 by omega), (show i < 2147483648 by omega), (show ¬ 5 ≤ i by omega)]
    simp only [g_92_86, g_92_87, g_92_88, g_92_89, g_92_91, g_92_92, kv_w8_0, kv_w8_1, kv_w8_2, kv_w8_3, kv_w8_4, Nat.not_lt_zero, Bool.false_eq_true, Option.toList_some, Option.toList_none, List.cons_append, List.nil_append, kv_rv, kc1_i, kc1_r, kc1_n, n10, n01, n1514, n1213, n1312, if_true, if_false, not_true_eq_false, not_false_eq_true, and_self, true_and, and_true, false_and, and_false, or_true, true_or, or_false, false_or, Nat.reduceLeDiff, Nat.reduceLT, Nat.reduceEqDiff, Nat.reduceAdd, s_8 js]
    refine m_diffAt h ha hb na nb hd (by omega) hj (fun y hy => ?_)
    have hz : (y &&& Int64.ofNat (2 ^ r0) = 0) = (DF σ a b GA GB (64 * j + r0) i = false) := by
      apply propext
      have hb2 : ∀ r, r < 64 → lb (Int64.ofNat (2 ^ r0)) r = decide (r0 = r) := by
        intro r hr
        show ((2 ^ r0) % 2 ^ 64).testBit r = _
        have : 2 ^ r0 < 2 ^ 64 := Nat.pow_lt_pow_right (by decide) hr0
        rw [Nat.mod_eq_of_lt this, Nat.testBit_two_pow]
      constructor
      · intro q
        have : lb (y &&& Int64.ofNat (2 ^ r0)) r0 = false := by rw [q, lb_0]
        rw [lb_and, hb2 r0 hr0, decide_eq_true rfl, Bool.and_true, hy r0 hr0] at this
        exact this
      · intro q
        refine lb_ext (fun r hr => ?_)
        rw [lb_and, hb2 r hr, lb_0]
        by_cases c : r0 = r
        · subst c; rw [hy r0 hr0, q]; rfl
        · rw [decide_eq_false c, Bool.and_false]
    by_cases c : DF σ a b GA GB (64 * j + r0) i = true
    · simp only [g_92_95, g_92_97, g_92_98, g_92_99, g_92_100, g_92_103, g_92_106, lg_cmp_eq, hz, c, Nat.not_lt_zero, Bool.false_eq_true, Option.toList_some, Option.toList_none, List.cons_append, List.nil_append, kv_rv, kc1_i, kc1_r, kc1_n, n10, n01, n1514, n1213, n1312, if_true, if_false, not_true_eq_false, not_false_eq_true, and_self, true_and, and_true, false_and, and_false, or_true, true_or, or_false, false_or, Nat.reduceLeDiff, Nat.reduceLT, Nat.reduceEqDiff, Nat.reduceAdd, Bool.true_eq_false]
      simp only [g_92_109, g_92_111, g_92_113, g_92_114, g_92_115, g_92_117, g_92_118, g_92_119, g_92_122, g_92_123, g_92_124, g_92_126, g_92_127, kv_w8_0, kv_w8_1, kv_w8_2, kv_w8_3, kv_w8_4, ari_aa, ari_al, ari_la, ari_mm, ari_ml, ari_lm, ari_ltl, ari_llt, ari_lt, ari_le, ari_lel, ari_lle, ari_0, ari_eq, ari_eql, ari_leq, ari_cl, Nat.not_lt_zero, Bool.false_eq_true, Option.toList_some, Option.toList_none, List.cons_append, List.nil_append, kv_rv, kc1_i, kc1_r, kc1_n, n10, n01, n1514, n1213, n1312, if_true, if_false, not_true_eq_false, not_false_eq_true, and_self, true_and, and_true, false_and, and_false, or_true, true_or, or_false, false_or, Nat.reduceLeDiff, Nat.reduceLT, Nat.reduceEqDiff, Nat.reduceAdd, m_lbc, low_cnt hr0]
      exact H i (by omega) c hs
    · simp only [g_92_95, g_92_97, g_92_98, g_92_99, g_92_100, g_92_103, g_92_106, lg_cmp_eq, hz, Bool.eq_false_iff.mpr c, Nat.not_lt_zero, Bool.false_eq_true, Option.toList_some, Option.toList_none, List.cons_append, List.nil_append, kv_rv, kc1_i, kc1_r, kc1_n, n10, n01, n1514, n1213, n1312, if_true, if_false, not_true_eq_false, not_false_eq_true, and_self, true_and, and_true, false_and, and_false, or_true, true_or, or_false, false_or, Nat.reduceLeDiff, Nat.reduceLT, Nat.reduceEqDiff, Nat.reduceAdd, ari_aa, ari_al, ari_la, ari_mm, ari_ml, ari_lm, ari_ltl, ari_llt, ari_lt, ari_le, ari_lel, ari_lle, ari_0, ari_eq, ari_eql, ari_leq, ari_cl]
      refine diff_l2 h ha hb na nb hd hj hr0 hex H m (i + 1) (by omega) (fun i' hi' => ?_)
      by_cases c2 : i' = i
      · rw [c2]; exact Bool.eq_false_iff.mpr c
      · exact hs i' (by omega)
theorem DF_mod {a b w GA GB : Nat} (na : JN1' σ a w GA) (nb : JN1' σ b w GB) {i : Nat} (hi : i < 6) (row : Nat) : DF σ a b GA GB row i = DF σ a b GA GB (row % 2 ^ w) i := by
  unfold DF
  by_cases c1 : kv_i σ (106 + 6 * a) i = -3
  · rw [c1]; rfl
  · by_cases c2 : kv_i σ (106 + 6 * b) i = -3
    · rw [c2]; simp
    · rw [vo_mod na ((na.o i hi).resolve_left c1) row, vo_mod nb ((nb.o i hi).resolve_left c2) row]
theorem diff_out {υ : kv_S} (h : JS σ) {a b w GA GB : Nat} (ha : a < 8) (hb : b < 8) (na : JN1' σ a w GA) (nb : JN1' σ b w GB) (hd : DC σ a b w GA GB υ) (H : ∀ v, FD (DF σ a b GA GB) (2 ^ w) v → Φ (some (.int v)) υ) : ∀ m j, j + m = nwc w → (∀ row, row < 64 * j → ∀ i, i < 6 → DF σ a b GA GB row i = false) → ∀ v4 v5 v6 : Value, Wp (d + 2) 92 18 [.ref 8, .ref (101 + 6 * a), .ref (101 + 6 * b), .int (Int32.ofNat j), v4, v5, v6, .null, .null] [] υ Φ
  | 0, j, e, hs, v4, v5, v6 => by
    have js := hd.1.js h
    have h4 := (nw_4 w na.2.1).1
    simp only [g_92_18, g_92_19, g_92_20, g_92_23, g_92_26, g_92_134, g_92_136, ari_aa, ari_al, ari_la, ari_mm, ari_ml, ari_lm, ari_ltl, ari_llt, ari_lt, ari_le, ari_lel, ari_lle, ari_0, ari_eq, ari_eql, ari_leq, ari_cl, Nat.not_lt_zero, Bool.false_eq_true, Option.toList_some, Option.toList_none, List.cons_append, List.nil_append, kv_rv, kc1_i, kc1_r, kc1_n, n10, n01, n1514, n1213, n1312, if_true, if_false, not_true_eq_false, not_false_eq_true, and_self, true_and, and_true, false_and, and_false, or_true, true_or, or_false, false_or, Nat.reduceLeDiff, Nat.reduceLT, Nat.reduceEqDiff, Nat.reduceAdd, s_8 js, s_26 js, r_8_5 js, hd.2.1, (show j < 5 by omega), (show j < 2147483648 by omega), (show nwc w < 5 by omega), (show nwc w < 2147483648 by omega), (show nwc w ≤ j by omega)]
    refine H _ (Or.inl ⟨rfl, fun row hr i hi => hs row ?_ i hi⟩)
    have := nw_row w na.2.1 row hr
    omega
  | m + 1, j, e, hs, v4, v5, v6 => by
    have js := hd.1.js h
    have h4 := (nw_4 w na.2.1).1
    simp only [g_92_18, g_92_19, g_92_20, g_92_23, g_92_26, ari_aa, ari_al, ari_la, ari_mm, ari_ml, ari_lm, ari_ltl, ari_llt, ari_lt, ari_le, ari_lel, ari_lle, ari_0, ari_eq, ari_eql, ari_leq, ari_cl, Nat.not_lt_zero, Bool.false_eq_true, Option.toList_some, Option.toList_none, List.cons_append, List.nil_append, kv_rv, kc1_i, kc1_r, kc1_n, n10, n01, n1514, n1213, n1312, if_true, if_false, not_true_eq_false, not_false_eq_true, and_self, true_and, and_true, false_and, and_false, or_true, true_or, or_false, false_or, Nat.reduceLeDiff, Nat.reduceLT, Nat.reduceEqDiff, Nat.reduceAdd, s_8 js, s_26 js, r_8_5 js, hd.2.1, (show j < 5 by omega), (show j < 2147483648 by omega), (show nwc w < 5 by omega), (show nwc w < 2147483648 by omega), (show ¬ nwc w ≤ j by omega)]
    simp only [g_92_29, g_92_30, g_92_32, g_92_33, Nat.not_lt_zero, Bool.false_eq_true, Option.toList_some, Option.toList_none, List.cons_append, List.nil_append, kv_rv, kc1_i, kc1_r, kc1_n, n10, n01, n1514, n1213, n1312, if_true, if_false, not_true_eq_false, not_false_eq_true, and_self, true_and, and_true, false_and, and_false, or_true, true_or, or_false, false_or, Nat.reduceLeDiff, Nat.reduceLT, Nat.reduceEqDiff, Nat.reduceAdd]
    refine diff_l1 h ha hb na nb hd (by omega) (fun z hz => ?_) 6 0 (by omega) 0 (fun r hr => by rw [lb_0]; rfl)
    by_cases c : z = 0
    · simp only [g_92_62, g_92_64, g_92_65, g_92_66, g_92_128, g_92_131, lg_cmp_eq, c, ari_aa, ari_al, ari_la, ari_mm, ari_ml, ari_lm, ari_ltl, ari_llt, ari_lt, ari_le, ari_lel, ari_lle, ari_0, ari_eq, ari_eql, ari_leq, ari_cl, Nat.not_lt_zero, Bool.false_eq_true, Option.toList_some, Option.toList_none, List.cons_append, List.nil_append, kv_rv, kc1_i, kc1_r, kc1_n, n10, n01, n1514, n1213, n1312, if_true, if_false, not_true_eq_false, not_false_eq_true, and_self, true_and, and_true, false_and, and_false, or_true, true_or, or_false, false_or, Nat.reduceLeDiff, Nat.reduceLT, Nat.reduceEqDiff, Nat.reduceAdd]
      refine diff_out h ha hb na nb hd H m (j + 1) (by omega) (fun row hr i hi => ?_) _ _ _
      by_cases c2 : row < 64 * j
      · exact hs row c2 i hi
      · have := hz (row - 64 * j) (by omega)
        rw [c, lb_0, show 64 * j + (row - 64 * j) = row by omega] at this
        cases e2 : DF σ a b GA GB row i with
        | false => rfl
        | true => rw [(anyN_iff 6).mpr ⟨i, hi, e2⟩] at this; cases this
    · obtain ⟨r0, hr0, q1, q2⟩ := first_of 64 (lne.mp c)
      simp only [g_92_62, g_92_64, g_92_65, g_92_66, g_92_69, g_92_71, g_92_73, g_92_74, g_92_75, g_92_77, g_92_78, lg_cmp_eq, c, low_l q1 q2, ari_aa, ari_al, ari_la, ari_mm, ari_ml, ari_lm, ari_ltl, ari_llt, ari_lt, ari_le, ari_lel, ari_lle, ari_0, ari_eq, ari_eql, ari_leq, ari_cl, Nat.not_lt_zero, Bool.false_eq_true, Option.toList_some, Option.toList_none, List.cons_append, List.nil_append, kv_rv, kc1_i, kc1_r, kc1_n, n10, n01, n1514, n1213, n1312, if_true, if_false, not_true_eq_false, not_false_eq_true, and_self, true_and, and_true, false_and, and_false, or_true, true_or, or_false, false_or, Nat.reduceLeDiff, Nat.reduceLT, Nat.reduceEqDiff, Nat.reduceAdd]
      rw [hz r0 hr0] at q1
      refine diff_l2 h ha hb na nb hd (by omega) hr0 q1 (fun i hi p1 p2 => H _ (Or.inr ⟨64 * j + r0, i, ?_, hi, rfl, p1, fun r hr i' hi' => ?_, p2⟩)) 5 0 (by omega) (fun i' hi' => absurd hi' (by omega))
      · refine Classical.byContradiction fun hc => ?_
        have hW := pw1 w
        have hlt : (64 * j + r0) % 2 ^ w < 2 ^ w := Nat.mod_lt _ (by omega)
        have hd1 := DF_mod na nb hi (64 * j + r0)
        rw [p1] at hd1
        by_cases c2 : (64 * j + r0) % 2 ^ w < 64 * j
        · rw [hs _ c2 i hi] at hd1; cases hd1
        · have := q2 ((64 * j + r0) % 2 ^ w - 64 * j) (by omega)
          rw [hz _ (by omega), show 64 * j + ((64 * j + r0) % 2 ^ w - 64 * j) = (64 * j + r0) % 2 ^ w by omega, (anyN_iff 6).mpr ⟨i, hi, hd1.symm⟩] at this
          cases this
      · by_cases c2 : r < 64 * j
        · exact hs r c2 i' hi'
        · have := q2 (r - 64 * j) (by omega)
          rw [hz _ (by omega), show 64 * j + (r - 64 * j) = r by omega] at this
          cases e2 : DF σ a b GA GB r i' with
          | false => rfl
          | true => rw [(anyN_iff 6).mpr ⟨i', hi', e2⟩] at this; cases this
theorem m_firstDiff (h : JS σ) (hK : JK σ) {a b w GA GB : Nat} (ha : a < 8) (hb : b < 8) (na : JN1' σ a w GA) (nb : JN1' σ b w GB) (H : ∀ υ v, FR SC σ υ → FD (DF σ a b GA GB) (2 ^ w) v → Φ (some (.int v)) υ) : Wc (d + 2) 92 [.ref 8, .ref (101 + 6 * a), .ref (101 + 6 * b)] σ Φ := by
  simp only [c_92, g_92_0, g_92_1, g_92_4, g_92_5, kv_w8_0, kv_w8_1, kv_w8_2, kv_w8_3, kv_w8_4, Nat.not_lt_zero, Bool.false_eq_true, Option.toList_some, Option.toList_none, List.cons_append, List.nil_append, kv_rv, kc1_i, kc1_r, kc1_n, n10, n01, n1514, n1213, n1312, if_true, if_false, not_true_eq_false, not_false_eq_true, and_self, true_and, and_true, false_and, and_false, or_true, true_or, or_false, false_or, Nat.reduceLeDiff, Nat.reduceLT, Nat.reduceEqDiff, Nat.reduceAdd, s_8 h, s_26 h, r_8_5 h]
  refine m_workOut h hK ha (Or.inl rfl) na (fun τ hw => ?_)
  have js := hw.1.js h
  have fsc : FR SC σ τ := hw.1.sc (fun b j q => by unfold SC kv_ess; omega)
  have nb2 : JN1' τ b w GB := nb.fr fsc hb sc_cN
  simp only [g_92_8, g_92_9, g_92_12, g_92_13, kv_w8_0, kv_w8_1, kv_w8_2, kv_w8_3, kv_w8_4, Nat.not_lt_zero, Bool.false_eq_true, Option.toList_some, Option.toList_none, List.cons_append, List.nil_append, kv_rv, kc1_i, kc1_r, kc1_n, n10, n01, n1514, n1213, n1312, if_true, if_false, not_true_eq_false, not_false_eq_true, and_self, true_and, and_true, false_and, and_false, or_true, true_or, or_false, false_or, Nat.reduceLeDiff, Nat.reduceLT, Nat.reduceEqDiff, Nat.reduceAdd, s_8 js, s_28 js, r_8_6 js]
  refine m_workOut js (hK.fr fsc (fun _ _ q => q.1)) hb (Or.inr rfl) nb2 (fun υ hw2 => ?_)
  have fsc2 : FR SC τ υ := hw2.1.sc (fun b j q => by unfold SC kv_ess; omega)
  simp only [g_92_16, g_92_17, Nat.not_lt_zero, Bool.false_eq_true, Option.toList_some, Option.toList_none, List.cons_append, List.nil_append, kv_rv, kc1_i, kc1_r, kc1_n, n10, n01, n1514, n1213, n1312, if_true, if_false, not_true_eq_false, not_false_eq_true, and_self, true_and, and_true, false_and, and_false, or_true, true_or, or_false, false_or, Nat.reduceLeDiff, Nat.reduceLT, Nat.reduceEqDiff, Nat.reduceAdd]
  refine diff_out h ha hb na nb ⟨fsc.tr fsc2, ?_, fun x hx j hj r hr => ?_, fun x hx j hj r hr => ?_⟩ (fun v hv => H υ v (fsc.tr fsc2) hv) (nwc w) 0 (by omega) (fun row hr => absurd hr (by omega)) _ _ _
  · rw [hw2.1.i (by omega)]; exact hw.2.1
  · rw [hw2.1.l (by omega)]; exact hw.2.2 x hx j hj r hr
  · rw [← vo_fr fsc hb sc_cN GB 1000 (64 * j + r) x]; exact hw2.2.2 x hx j hj r hr
end DI

/-! ===== prime ===== -/
theorem low_clr {x r : Nat} (hr : x.testBit r = true) (hl : ∀ i, i < r → x.testBit i = false) (i : Nat) : (x &&& (x - 1)).testBit i = (decide (i ≠ r) && x.testBit i) := by
  obtain ⟨y, e⟩ := low_nat hr hl
  have hp : 0 < 2 ^ r := Nat.two_pow_pos r
  have e1 : x - 1 = 2 ^ (r + 1) * y + (2 ^ r - 1) := by omega
  have hb : (2 ^ (r + 1) * y + (2 ^ r - 1)).testBit i = if i < r + 1 then (2 ^ r - 1).testBit i else y.testBit (i - (r + 1)) := Nat.testBit_two_pow_mul_add y (by rw [Nat.pow_succ]; omega) i
  have hx2 : x.testBit i = if i < r + 1 then (2 ^ r).testBit i else y.testBit (i - (r + 1)) := by
    rw [e]; exact Nat.testBit_two_pow_mul_add y (by rw [Nat.pow_succ]; omega) i
  rw [Nat.testBit_and, e1, hb]
  by_cases c1 : i < r
  · rw [hl i c1]; simp
  · by_cases c2 : i = r
    · subst c2; simp
    · rw [hx2]; simp [show ¬ i < r + 1 by omega, c2]
theorem low_and32 {x r : Nat} (hx : x < 2 ^ 32) (hr : x.testBit r = true) (hl : ∀ i, i < r → x.testBit i = false) : x &&& (2 ^ 32 - x) = 2 ^ r := by
  obtain ⟨y, e⟩ := low_nat hr hl
  have hp : 0 < 2 ^ r := Nat.two_pow_pos r
  have hx1 : x = (2 ^ (r + 1) * y + (2 ^ r - 1)) + 1 := by omega
  apply Nat.eq_of_testBit_eq
  intro i
  have hb : (2 ^ (r + 1) * y + (2 ^ r - 1)).testBit i = if i < r + 1 then (2 ^ r - 1).testBit i else y.testBit (i - (r + 1)) := Nat.testBit_two_pow_mul_add y (by rw [Nat.pow_succ]; omega) i
  have hx2 : x.testBit i = if i < r + 1 then (2 ^ r).testBit i else y.testBit (i - (r + 1)) := by
    rw [e]; exact Nat.testBit_two_pow_mul_add y (by rw [Nat.pow_succ]; omega) i
  have hs : (2 ^ 32 - x).testBit i = (decide (i < 32) && !(2 ^ (r + 1) * y + (2 ^ r - 1)).testBit i) := by
    conv => lhs; rw [hx1]
    exact Nat.testBit_two_pow_sub_succ (by omega) i
  have hr32 : r < 32 := by
    refine Classical.byContradiction fun hc => ?_
    have : 2 ^ 32 ≤ 2 ^ r := Nat.pow_le_pow_right (by decide) (by omega)
    omega
  rw [Nat.testBit_and, hs, hb, hx2, Nat.testBit_two_pow_sub_one, Nat.testBit_two_pow]
  by_cases c1 : i < r
  · simp [c1, show ¬ r = i by omega, show i < r + 1 by omega]
  · by_cases c2 : i = r
    · subst c2; simp [hr32]
    · simp [show ¬ i < r + 1 by omega, show ¬ r = i by omega]
      exact fun h _ => h
theorem neg_and {x : Nat} (hx : x < 2 ^ 32) (h0 : 0 < x) : Int32.ofNat x &&& -Int32.ofNat x = Int32.ofNat (x &&& (2 ^ 32 - x)) := by
  rw [← Int32.toBitVec_inj]
  show BitVec.ofNat 32 x &&& -BitVec.ofNat 32 x = BitVec.ofNat 32 (x &&& (2 ^ 32 - x))
  apply BitVec.eq_of_toNat_eq
  rw [BitVec.toNat_and, BitVec.toNat_neg, BitVec.toNat_ofNat, BitVec.toNat_ofNat, Nat.mod_eq_of_lt hx, Nat.mod_eq_of_lt (show 2 ^ 32 - x < 2 ^ 32 by omega), Nat.mod_eq_of_lt]
  exact Nat.lt_of_le_of_lt Nat.and_le_left hx
/-- the bits of f from the i-th set one on -/
def rkf (f : Nat → Bool) (i r : Nat) : Bool := f r && decide (i ≤ cnt f r)
theorem cnt_mono (f : Nat → Bool) {a b : Nat} (h : a ≤ b) : cnt f a ≤ cnt f b := by
  have := cnt_add f a (b - a)
  rw [show a + (b - a) = b by omega] at this
  omega
/-- the i-th set bit -/
theorem nth_ex (f : Nat → Bool) : ∀ n i, i < cnt f n → ∃ r, r < n ∧ f r = true ∧ cnt f r = i
  | 0, i, h => absurd h (by show ¬ i < 0; omega)
  | n + 1, i, h => by
    by_cases c : i < cnt f n
    · obtain ⟨r, h1, h2, h3⟩ := nth_ex f n i c
      exact ⟨r, by omega, h2, h3⟩
    · have h : i < cnt f n + (f n).toNat := h
      have hb := Bool.toNat_le (f n)
      refine ⟨n, by omega, ?_, by omega⟩
      cases e : f n with
      | true => rfl
      | false => rw [e] at h; have : (false : Bool).toNat = 0 := rfl; omega
theorem cnt_lt_of {f : Nat → Bool} {a b : Nat} (h : a < b) (ha : f a = true) : cnt f a < cnt f b := by
  have e1 : cnt f (a + 1) = cnt f a + (f a).toNat := rfl
  rw [ha] at e1
  have := cnt_mono f (show a + 1 ≤ b from h)
  have : (true : Bool).toNat = 1 := rfl
  omega
theorem rkf_low {f : Nat → Bool} {i r0 : Nat} (h27 : r0 < 27) (hf : f r0 = true) (hc : cnt f r0 = i) : (wd (rkf f i) 27).testBit r0 = true ∧ (∀ r, r < r0 → (wd (rkf f i) 27).testBit r = false) := by
  refine ⟨?_, fun r hr => ?_⟩
  · rw [wd_tb, decide_eq_true h27]
    unfold rkf
    rw [hf, decide_eq_true (by omega)]; rfl
  · rw [wd_tb]
    unfold rkf
    cases e : f r with
    | false => simp
    | true =>
      have := cnt_lt_of hr e
      rw [decide_eq_false (show ¬ i ≤ cnt f r by omega)]; simp
section PI
variable {d : Nat} {τ : kv_S} {Φ : Option Value → kv_S → Prop}
theorem pob_loop {f : Nat → Bool} {s : Nat} (hs : s < cnt f 27) : ∀ m i, i + m = s → Wp (d + 1) 51 4 [.int (Int32.ofNat (wd f 27)), .int (Int32.ofNat s), .int (Int32.ofNat (wd (rkf f i) 27)), .int (Int32.ofNat i)] [] τ Φ = Wp (d + 1) 51 21 [.int (Int32.ofNat (wd f 27)), .int (Int32.ofNat s), .int (Int32.ofNat (wd (rkf f s) 27)), .int (Int32.ofNat s)] [] τ Φ
  | 0, i, e => by
    have h27 := cnt_le f 27
    have e2 : i = s := by omega
    subst e2
    simp only [g_51_4, g_51_5, g_51_6, ari_aa, ari_al, ari_la, ari_mm, ari_ml, ari_lm, ari_ltl, ari_llt, ari_lt, ari_le, ari_lel, ari_lle, ari_0, ari_eq, ari_eql, ari_leq, ari_cl, Nat.not_lt_zero, Bool.false_eq_true, Option.toList_some, Option.toList_none, List.cons_append, List.nil_append, kv_rv, kc1_i, kc1_r, kc1_n, n10, n01, n1514, n1213, n1312, if_true, if_false, not_true_eq_false, not_false_eq_true, and_self, true_and, and_true, false_and, and_false, or_true, true_or, or_false, false_or, Nat.reduceLeDiff, Nat.reduceLT, Nat.reduceEqDiff, Nat.reduceAdd, (show i < 30 by omega), (show i < 2147483648 by omega), (show i ≤ i by omega)]
  | m + 1, i, e => by
    have h27 := cnt_le f 27
    obtain ⟨r0, q1, q2, q3⟩ := nth_ex f 27 i (by omega)
    obtain ⟨l1, l2⟩ := rkf_low q1 q2 q3
    have hpos : 1 ≤ wd (rkf f i) 27 := by
      refine Nat.pos_of_ne_zero fun h => ?_
      rw [h, Nat.zero_testBit] at l1; cases l1
    have eand : Int32.ofNat (wd (rkf f i) 27) &&& (Int32.ofNat (wd (rkf f i) 27) - 1) = Int32.ofNat (wd (rkf f (i + 1)) 27) := by
      rw [ari_sl (n := 1) hpos, ari_and]
      refine congrArg Int32.ofNat (Nat.eq_of_testBit_eq fun r => ?_)
      rw [low_clr l1 l2, wd_tb, wd_tb]
      by_cases cr : r < 27
      · rw [decide_eq_true cr, Bool.true_and, Bool.true_and]
        unfold rkf
        by_cases c0 : r = r0
        · rw [c0, q2, q3]; simp
        · cases ef : f r with
          | false => simp
          | true =>
            have hne : cnt f r ≠ i := by
              intro q
              rcases Nat.lt_or_gt_of_ne c0 with z | z
              · have := cnt_lt_of z ef; omega
              · have := cnt_lt_of z q2; omega
            rw [decide_eq_true c0, Bool.true_and, Bool.true_and, Bool.true_and]
            by_cases c4 : i ≤ cnt f r
            · rw [decide_eq_true c4, decide_eq_true (by omega)]
            · rw [decide_eq_false c4, decide_eq_false (by omega)]
      · simp [cr]
    have hb := wd_lt (rkf f i) 27
    conv => lhs; simp only [g_51_4, g_51_5, g_51_6, ari_aa, ari_al, ari_la, ari_mm, ari_ml, ari_lm, ari_ltl, ari_llt, ari_lt, ari_le, ari_lel, ari_lle, ari_0, ari_eq, ari_eql, ari_leq, ari_cl, Nat.not_lt_zero, Bool.false_eq_true, Option.toList_some, Option.toList_none, List.cons_append, List.nil_append, kv_rv, kc1_i, kc1_r, kc1_n, n10, n01, n1514, n1213, n1312, if_true, if_false, not_true_eq_false, not_false_eq_true, and_self, true_and, and_true, false_and, and_false, or_true, true_or, or_false, false_or, Nat.reduceLeDiff, Nat.reduceLT, Nat.reduceEqDiff, Nat.reduceAdd, (show i < 30 by omega), (show i < 2147483648 by omega), (show s < 30 by omega), (show s < 2147483648 by omega), (show ¬ s ≤ i by omega)]
    simp only [g_51_9, g_51_10, g_51_11, g_51_12, g_51_13, g_51_14, g_51_15, g_51_18, eand, ari_aa, ari_al, ari_la, ari_mm, ari_ml, ari_lm, ari_ltl, ari_llt, ari_lt, ari_le, ari_lel, ari_lle, ari_0, ari_eq, ari_eql, ari_leq, ari_cl, Nat.not_lt_zero, Bool.false_eq_true, Option.toList_some, Option.toList_none, List.cons_append, List.nil_append, kv_rv, kc1_i, kc1_r, kc1_n, n10, n01, n1514, n1213, n1312, if_true, if_false, not_true_eq_false, not_false_eq_true, and_self, true_and, and_true, false_and, and_false, or_true, true_or, or_false, false_or, Nat.reduceLeDiff, Nat.reduceLT, Nat.reduceEqDiff, Nat.reduceAdd]
    exact pob_loop hs m (i + 1) (by omega)
theorem m_pob {f : Nat → Bool} {s : Nat} (hs : s < cnt f 27) (H : ∀ r, r < 27 → f r = true → cnt f r = s → Φ (some (.int (Int32.ofNat r))) τ) : Wc (d + 1) 51 [.int (Int32.ofNat (wd f 27)), .int (Int32.ofNat s)] τ Φ := by
  have e0 : wd f 27 = wd (rkf f 0) 27 := wd_ext (fun r hr => by unfold rkf; rw [decide_eq_true (Nat.zero_le _), Bool.and_true])
  obtain ⟨r0, q1, q2, q3⟩ := nth_ex f 27 s hs
  obtain ⟨l1, l2⟩ := rkf_low q1 q2 q3
  have hb := wd_lt (rkf f s) 27
  have hpos : 0 < wd (rkf f s) 27 := by
    refine Nat.pos_of_ne_zero fun h => ?_
    rw [h, Nat.zero_testBit] at l1; cases l1
  have l := pob_loop (d := d) (τ := τ) (Φ := Φ) hs s 0 (by omega)
  rw [← e0] at l
  simp only [c_51, g_51_0, g_51_1, g_51_2, g_51_3, Nat.not_lt_zero, Bool.false_eq_true, Option.toList_some, Option.toList_none, List.cons_append, List.nil_append, kv_rv, kc1_i, kc1_r, kc1_n, n10, n01, n1514, n1213, n1312, if_true, if_false, not_true_eq_false, not_false_eq_true, and_self, true_and, and_true, false_and, and_false, or_true, true_or, or_false, false_or, Nat.reduceLeDiff, Nat.reduceLT, Nat.reduceEqDiff, Nat.reduceAdd]
  refine Eq.mpr l ?_
  have hp := pw1 r0
  have hlt : 2 ^ r0 ≤ 2 ^ 27 := Nat.pow_le_pow_right (by decide) (by omega)
  have e5 : Int32.ofNat (2 ^ r0) - 1 = Int32.ofNat (2 ^ r0 - 1) := ari_sl (n := 1) hp
  have e6 : pcn 32 (2 ^ r0 - 1) = r0 := by
    rw [pcn_cnt, cnt_congr 32 (Q := fun i => decide (i < r0)) (fun i hi => by rw [Nat.testBit_two_pow_sub_one]), cnt_lt]; omega
  simp only [g_51_21, g_51_22, g_51_23, g_51_24, g_51_25, g_51_26, g_51_27, g_51_30, kv_w8_0, kv_w8_1, kv_w8_2, kv_w8_3, kv_w8_4, Nat.not_lt_zero, Bool.false_eq_true, Option.toList_some, Option.toList_none, List.cons_append, List.nil_append, kv_rv, kc1_i, kc1_r, kc1_n, n10, n01, n1514, n1213, n1312, if_true, if_false, not_true_eq_false, not_false_eq_true, and_self, true_and, and_true, false_and, and_false, or_true, true_or, or_false, false_or, Nat.reduceLeDiff, Nat.reduceLT, Nat.reduceEqDiff, Nat.reduceAdd, neg_and (show wd (rkf f s) 27 < 2 ^ 32 by omega) hpos, low_and32 (show wd (rkf f s) 27 < 2 ^ 32 by omega) l1 l2, e5, m_bitCount (show 2 ^ r0 - 1 < 4294967296 by omega), e6]
  exact H r0 q1 q2 q3
theorem pn_loop (js : JS τ) {B : Nat → Bool} {w k : Nat} {v1 : Int32} (hw1 : 1 ≤ w) (hw : w ≤ 8) (hk : k < 2147483648) (h : pW B w τ) (H1 : ∀ p, p < 3 ^ w → PRM B w p = true → cnt (PRM B w) p = k → Φ (some (.int (Int32.ofNat p))) τ) (H0 : cnt (PRM B w) (3 ^ w) ≤ k → Φ (some (.int (-1))) τ) : ∀ m q, q + m = 3 ^ (w - min w 3) → cnt (PP B w) (27 * q) ≤ k → ∀ v4 v5 : Value, Wp (d + 2) 50 10 [.ref 11, .int v1, .int (Int32.ofNat (k - cnt (PP B w) (27 * q))), .int (Int32.ofNat q), v4, v5] [] τ Φ
  | 0, q, e, hc, v4, v5 => by
    have h2 := pw5 hw
    have e2 : q = 3 ^ (w - min w 3) := by omega
    subst e2
    simp only [g_50_10, g_50_11, g_50_12, g_50_15, g_50_71, g_50_72, ari_aa, ari_al, ari_la, ari_mm, ari_ml, ari_lm, ari_ltl, ari_llt, ari_lt, ari_le, ari_lel, ari_lle, ari_0, ari_eq, ari_eql, ari_leq, ari_cl, Nat.not_lt_zero, Bool.false_eq_true, Option.toList_some, Option.toList_none, List.cons_append, List.nil_append, kv_rv, kc1_i, kc1_r, kc1_n, n10, n01, n1514, n1213, n1312, if_true, if_false, not_true_eq_false, not_false_eq_true, and_self, true_and, and_true, false_and, and_false, or_true, true_or, or_false, false_or, Nat.reduceLeDiff, Nat.reduceLT, Nat.reduceEqDiff, Nat.reduceAdd, s_11 js, r_8_2 js, h.1, (show 3 ^ (w - min w 3) < 300 by omega), (show 3 ^ (w - min w 3) < 2147483648 by omega), (show 3 ^ (w - min w 3) ≤ 3 ^ (w - min w 3) by omega)]
    rw [PP_all hw] at hc
    exact H0 hc
  | m + 1, q, e, hc, v4, v5 => by
    have h2 := pw5 hw
    have hwd := wd_lt (fun r => PP B w (27 * q + r)) 27
    have e7 : cnt (PP B w) (27 * (q + 1)) = cnt (PP B w) (27 * q) + cnt (fun r => PP B w (27 * q + r)) 27 := by rw [show 27 * (q + 1) = 27 * q + 27 by omega, cnt_add]
    have hle := cnt_le (fun r => PP B w (27 * q + r)) 27
    simp only [g_50_10, g_50_11, g_50_12, g_50_15, ari_aa, ari_al, ari_la, ari_mm, ari_ml, ari_lm, ari_ltl, ari_llt, ari_lt, ari_le, ari_lel, ari_lle, ari_0, ari_eq, ari_eql, ari_leq, ari_cl, Nat.not_lt_zero, Bool.false_eq_true, Option.toList_some, Option.toList_none, List.cons_append, List.nil_append, kv_rv, kc1_i, kc1_r, kc1_n, n10, n01, n1514, n1213, n1312, if_true, if_false, not_true_eq_false, not_false_eq_true, and_self, true_and, and_true, false_and, and_false, or_true, true_or, or_false, false_or, Nat.reduceLeDiff, Nat.reduceLT, Nat.reduceEqDiff, Nat.reduceAdd, s_11 js, r_8_2 js, h.1, (show q < 300 by omega), (show q < 2147483648 by omega), (show 3 ^ (w - min w 3) < 300 by omega), (show 3 ^ (w - min w 3) < 2147483648 by omega), (show ¬ 3 ^ (w - min w 3) ≤ q by omega)]
    by_cases c : k - cnt (PP B w) (27 * q) < cnt (fun r => PP B w (27 * q + r)) 27
    · simp only [g_50_18, g_50_19, g_50_22, g_50_23, g_50_24, g_50_25, g_50_28, g_50_29, g_50_30, g_50_31, g_50_32, g_50_33, g_50_35, g_50_37, g_50_40, g_50_42, g_50_43, g_50_45, g_50_48, g_50_50, g_50_51, g_50_52, g_50_54, g_50_55, kv_w8_0, kv_w8_1, kv_w8_2, kv_w8_3, kv_w8_4, ari_aa, ari_al, ari_la, ari_mm, ari_ml, ari_lm, ari_ltl, ari_llt, ari_lt, ari_le, ari_lel, ari_lle, ari_0, ari_eq, ari_eql, ari_leq, ari_cl, Nat.not_lt_zero, Bool.false_eq_true, Option.toList_some, Option.toList_none, List.cons_append, List.nil_append, kv_rv, kc1_i, kc1_r, kc1_n, n10, n01, n1514, n1213, n1312, if_true, if_false, not_true_eq_false, not_false_eq_true, and_self, true_and, and_true, false_and, and_false, or_true, true_or, or_false, false_or, Nat.reduceLeDiff, Nat.reduceLT, Nat.reduceEqDiff, Nat.reduceAdd, s_11 js, r_8_2 js, s_12 js, r_11_0 js, s_13 js, r_11_1 js, pw_word hw1 h (show q < 3 ^ (w - min w 3) by omega), m_bitCount (show wd (fun r => PP B w (27 * q + r)) 27 < 4294967296 by omega), wd_cnt, (show q < 243 by omega), (show q < 2147483648 by omega), (show k - cnt (PP B w) (27 * q) < 2147483648 by omega), (show cnt (fun r => PP B w (27 * q + r)) 27 < 28 by omega), (show cnt (fun r => PP B w (27 * q + r)) 27 < 2147483648 by omega), (show ¬ cnt (fun r => PP B w (27 * q + r)) 27 ≤ k - cnt (PP B w) (27 * q) by omega)]
      refine m_pob c (fun r q1 q2 q3 => ?_)
      simp only [g_50_58, g_50_59, ari_aa, ari_al, ari_la, ari_mm, ari_ml, ari_lm, ari_ltl, ari_llt, ari_lt, ari_le, ari_lel, ari_lle, ari_0, ari_eq, ari_eql, ari_leq, ari_cl, Nat.not_lt_zero, Bool.false_eq_true, Option.toList_some, Option.toList_none, List.cons_append, List.nil_append, kv_rv, kc1_i, kc1_r, kc1_n, n10, n01, n1514, n1213, n1312, if_true, if_false, not_true_eq_false, not_false_eq_true, and_self, true_and, and_true, false_and, and_false, or_true, true_or, or_false, false_or, Nat.reduceLeDiff, Nat.reduceLT, Nat.reduceEqDiff, Nat.reduceAdd]
      have hPP : PP B w (27 * q + r) = true := q2
      unfold PP at hPP
      rw [Bool.and_eq_true, decide_eq_true_eq] at hPP
      refine H1 _ hPP.1 hPP.2 ?_
      have e8 : cnt (PRM B w) (27 * q + r) = cnt (PP B w) (27 * q + r) := cnt_congr _ (fun i hi => by unfold PP; rw [decide_eq_true (by omega), Bool.true_and])
      rw [e8, cnt_add]; omega
    · simp only [g_50_18, g_50_19, g_50_22, g_50_23, g_50_24, g_50_25, g_50_28, g_50_29, g_50_30, g_50_31, g_50_32, g_50_33, g_50_35, g_50_37, g_50_40, g_50_42, g_50_43, g_50_45, g_50_48, g_50_50, g_50_51, g_50_52, g_50_54, g_50_55, g_50_58, g_50_59, g_50_60, g_50_61, g_50_63, g_50_64, g_50_65, g_50_68, kv_w8_0, kv_w8_1, kv_w8_2, kv_w8_3, kv_w8_4, ari_aa, ari_al, ari_la, ari_mm, ari_ml, ari_lm, ari_ltl, ari_llt, ari_lt, ari_le, ari_lel, ari_lle, ari_0, ari_eq, ari_eql, ari_leq, ari_cl, Nat.not_lt_zero, Bool.false_eq_true, Option.toList_some, Option.toList_none, List.cons_append, List.nil_append, kv_rv, kc1_i, kc1_r, kc1_n, n10, n01, n1514, n1213, n1312, if_true, if_false, not_true_eq_false, not_false_eq_true, and_self, true_and, and_true, false_and, and_false, or_true, true_or, or_false, false_or, Nat.reduceLeDiff, Nat.reduceLT, Nat.reduceEqDiff, Nat.reduceAdd, ari_ss, s_11 js, r_8_2 js, s_12 js, r_11_0 js, s_13 js, r_11_1 js, pw_word hw1 h (show q < 3 ^ (w - min w 3) by omega), m_bitCount (show wd (fun r => PP B w (27 * q + r)) 27 < 4294967296 by omega), wd_cnt, (show q < 243 by omega), (show q < 2147483648 by omega), (show k - cnt (PP B w) (27 * q) < 2147483648 by omega), (show cnt (fun r => PP B w (27 * q + r)) 27 < 28 by omega), (show cnt (fun r => PP B w (27 * q + r)) 27 < 2147483648 by omega), (show cnt (fun r => PP B w (27 * q + r)) 27 ≤ k - cnt (PP B w) (27 * q) by omega)]
      have nx := pn_loop (v1 := v1) js hw1 hw hk h H1 H0 m (q + 1) (by omega) (by omega)
      rw [e7, ← Nat.sub_sub] at nx
      exact nx _ _
theorem m_primeNum (js : JS τ) {B : Nat → Bool} {w k : Nat} (hw1 : 1 ≤ w) (hw : w ≤ 8) (hk : k < 2147483648) (h : pW B w τ) (H1 : ∀ p, p < 3 ^ w → PRM B w p = true → cnt (PRM B w) p = k → Φ (some (.int (Int32.ofNat p))) τ) (H0 : cnt (PRM B w) (3 ^ w) ≤ k → Φ (some (.int (-1))) τ) : Wc (d + 2) 50 [.ref 11, .int (Int32.ofNat k)] τ Φ := by
  have l := pn_loop (d := d) (v1 := Int32.ofNat k) js hw1 hw hk h H1 H0 (3 ^ (w - min w 3)) 0 (by omega) (Nat.zero_le _) .null .null
  rw [show k - cnt (PP B w) (27 * 0) = k from Nat.sub_zero k] at l
  simp only [c_50, g_50_0, g_50_1, g_50_4, g_50_5, g_50_6, g_50_7, g_50_8, g_50_9, ari_aa, ari_al, ari_la, ari_mm, ari_ml, ari_lm, ari_ltl, ari_llt, ari_lt, ari_le, ari_lel, ari_lle, ari_0, ari_eq, ari_eql, ari_leq, ari_cl, Nat.not_lt_zero, Bool.false_eq_true, Option.toList_some, Option.toList_none, List.cons_append, List.nil_append, kv_rv, kc1_i, kc1_r, kc1_n, n10, n01, n1514, n1213, n1312, if_true, if_false, not_true_eq_false, not_false_eq_true, and_self, true_and, and_true, false_and, and_false, or_true, true_or, or_false, false_or, Nat.reduceLeDiff, Nat.reduceLT, Nat.reduceEqDiff, Nat.reduceAdd, hk, (show (0 : Nat) ≤ k from Nat.zero_le k)]
  exact l
end PI
/-- promise 10: prime -/
theorem o_8 (d : Nat) : ob_8 JJ (d + 4) := by
  intro σ h p x
  have h' := h
  obtain ⟨a1, a2, a3, ⟨F, hF, f1, f2, f3⟩, a5, a6, a7⟩ := h'
  by_cases hp : ¬ p < 0 ∧ p < Int32.ofNat F
  · obtain ⟨f, hf, rfl, ec⟩ := i32_nat (by omega) hp.1 hp.2
    obtain ⟨w, hj⟩ := f3 f hf
    have hj : JF1' σ f w := hj
    have hf16 : f < 16 := by omega
    simp only [c_49, g_49_0, g_49_1, g_49_2, g_49_5, g_49_8, g_49_9, g_49_10, g_49_11, g_49_14, g_49_15, g_49_18, g_49_19, g_49_20, kv_w8_0, kv_w8_1, kv_w8_2, kv_w8_3, kv_w8_4, ari_aa, ari_al, ari_la, ari_mm, ari_ml, ari_lm, ari_ltl, ari_llt, ari_lt, ari_le, ari_lel, ari_lle, ari_0, ari_eq, ari_eql, ari_leq, ari_cl, Nat.not_lt_zero, Bool.false_eq_true, Option.toList_some, Option.toList_none, List.cons_append, List.nil_append, kv_rv, kc1_i, kc1_r, kc1_n, n10, n01, n1514, n1213, n1312, if_true, if_false, not_true_eq_false, not_false_eq_true, and_self, true_and, and_true, false_and, and_false, or_true, true_or, or_false, false_or, Nat.reduceLeDiff, Nat.reduceLT, Nat.reduceEqDiff, Nat.reduceAdd, m_isFunction_c a1, f1, sT a1 hf16, rT a1 hf16, s_8 a1, s_9 a1, r_8_0 a1, s_11 a1, r_8_2 a1, (show f < 16 by omega), (show f < 2147483648 by omega), (show f < F by omega), (show f < 2147483648 by omega), (show F < 17 by omega), (show F < 2147483648 by omega)]
    refine m_pworkOut a1 a2 hf16 hj (fun τ fr hpw => ?_)
    have js := fr.js a1
    have fsc : FR SC σ τ := fr.sc (fun b i q => by unfold SC kv_ess; omega)
    have h2 := JJ.fr fsc h
    have hj2 : JF1' τ f w := hj.fr fr (fun b i q => by omega) hf16
    have g1 : kv_i τ 149 1 = Int32.ofNat F := by rw [fr.i (by omega)]; exact f2
    have eB : mB τ f = mB σ f := by funext r; unfold mB; rw [hld_fr fr (fun b j q => by omega)]
    simp only [g_49_23, g_49_24, g_49_27, g_49_28, kv_w8_0, kv_w8_1, kv_w8_2, kv_w8_3, kv_w8_4, Nat.not_lt_zero, Bool.false_eq_true, Option.toList_some, Option.toList_none, List.cons_append, List.nil_append, kv_rv, kc1_i, kc1_r, kc1_n, n10, n01, n1514, n1213, n1312, if_true, if_false, not_true_eq_false, not_false_eq_true, and_self, true_and, and_true, false_and, and_false, or_true, true_or, or_false, false_or, Nat.reduceLeDiff, Nat.reduceLT, Nat.reduceEqDiff, Nat.reduceAdd, s_8 js, s_11 js, r_8_2 js]
    by_cases hx : x < 0
    · have hx2 : ¬ (0 : Int32) ≤ x := by rw [Int32.not_le]; exact hx
      simp only [c_50, g_50_0, g_50_1, g_50_4, g_50_5, g_49_31, Nat.not_lt_zero, Bool.false_eq_true, Option.toList_some, Option.toList_none, List.cons_append, List.nil_append, kv_rv, kc1_i, kc1_r, kc1_n, n10, n01, n1514, n1213, n1312, if_true, if_false, not_true_eq_false, not_false_eq_true, and_self, true_and, and_true, false_and, and_false, or_true, true_or, or_false, false_or, Nat.reduceLeDiff, Nat.reduceLT, Nat.reduceEqDiff, Nat.reduceAdd, hx, hx2]
      refine ⟨_, rfl, ?_⟩
      simp only [c_138, g_138_0, g_138_1, g_138_2, g_138_5, g_138_8, g_138_9, g_138_12, g_138_13, kv_w8_0, kv_w8_1, kv_w8_2, kv_w8_3, kv_w8_4, ari_aa, ari_al, ari_la, ari_mm, ari_ml, ari_lm, ari_ltl, ari_llt, ari_lt, ari_le, ari_lel, ari_lle, ari_0, ari_eq, ari_eql, ari_leq, ari_cl, Nat.not_lt_zero, Bool.false_eq_true, Option.toList_some, Option.toList_none, List.cons_append, List.nil_append, kv_rv, kc1_i, kc1_r, kc1_n, n10, n01, n1514, n1213, n1312, if_true, if_false, not_true_eq_false, not_false_eq_true, and_self, true_and, and_true, false_and, and_false, or_true, true_or, or_false, false_or, Nat.reduceLeDiff, Nat.reduceLT, Nat.reduceEqDiff, Nat.reduceAdd, m_isFunction_m js, g1, hx, hx2, s_149 js, (show f < F by omega), (show f < 2147483648 by omega), (show F < 17 by omega), (show F < 2147483648 by omega), (show f < 17 by omega), (show f < 2147483648 by omega)]
      exact h2
    · have hx0 : 0 ≤ x.toInt := by
        have := mt Int32.lt_iff_toInt_lt.mpr hx
        rw [show (0 : Int32).toInt = 0 by decide] at this
        omega
      have hx3 := x.toInt_lt
      obtain ⟨k, hk, rfl⟩ : ∃ k, k < 2147483648 ∧ x = Int32.ofNat k := ⟨x.toInt.toNat, by omega, by rw [i32_eq, oN_toInt (by omega)]; omega⟩
      have hc := cnt_le (PRM (mB σ f) w) (3 ^ w)
      have h3 := p3_8 w hj.2.1
      refine m_primeNum js hj.1 hj.2.1 hk hpw (fun p hp1 hp2 hp3 => ?_) (fun hle => ?_)
      · simp only [g_49_31, Nat.not_lt_zero, Bool.false_eq_true, Option.toList_some, Option.toList_none, List.cons_append, List.nil_append, kv_rv, kc1_i, kc1_r, kc1_n, n10, n01, n1514, n1213, n1312, if_true, if_false, not_true_eq_false, not_false_eq_true, and_self, true_and, and_true, false_and, and_false, or_true, true_or, or_false, false_or, Nat.reduceLeDiff, Nat.reduceLT, Nat.reduceEqDiff, Nat.reduceAdd]
        refine ⟨_, rfl, ?_⟩
        simp only [c_138, g_138_0, g_138_1, g_138_2, g_138_5, g_138_8, g_138_9, g_138_12, g_138_13, g_138_14, g_138_15, g_138_16, kv_w8_0, kv_w8_1, kv_w8_2, kv_w8_3, kv_w8_4, ari_aa, ari_al, ari_la, ari_mm, ari_ml, ari_lm, ari_ltl, ari_llt, ari_lt, ari_le, ari_lel, ari_lle, ari_0, ari_eq, ari_eql, ari_leq, ari_cl, Nat.not_lt_zero, Bool.false_eq_true, Option.toList_some, Option.toList_none, List.cons_append, List.nil_append, kv_rv, kc1_i, kc1_r, kc1_n, n10, n01, n1514, n1213, n1312, if_true, if_false, not_true_eq_false, not_false_eq_true, and_self, true_and, and_true, false_and, and_false, or_true, true_or, or_false, false_or, Nat.reduceLeDiff, Nat.reduceLT, Nat.reduceEqDiff, Nat.reduceAdd, m_isFunction_m js, g1, hk, (show (0 : Nat) ≤ k from Nat.zero_le k), s_149 js, (show f < F by omega), (show f < 2147483648 by omega), (show F < 17 by omega), (show F < 2147483648 by omega), (show f < 17 by omega), (show f < 2147483648 by omega)]
        refine m_findPrimes js h2.2.2.1 hf16 hj2 (fun υ hm => ?_)
        have hm1 := hm.1
        have e7 := hm.2.1
        have e8 := hm.2.2
        rw [eB] at e7 e8
        have js2 := hm1.js js
        have hlt := cnt_lt_of hp1 hp2
        rw [hp3] at hlt
        have e9 := e8 p hp1 hp2
        rw [hp3] at e9
        simp only [g_138_19, g_138_20, g_138_21, g_138_24, g_138_27, g_138_28, g_138_31, g_138_32, g_138_33, g_138_36, g_138_37, ari_aa, ari_al, ari_la, ari_mm, ari_ml, ari_lm, ari_ltl, ari_llt, ari_lt, ari_le, ari_lel, ari_lle, ari_0, ari_eq, ari_eql, ari_leq, ari_cl, Nat.not_lt_zero, Bool.false_eq_true, Option.toList_some, Option.toList_none, List.cons_append, List.nil_append, kv_rv, kc1_i, kc1_r, kc1_n, n10, n01, n1514, n1213, n1312, if_true, if_false, not_true_eq_false, not_false_eq_true, and_self, true_and, and_true, false_and, and_false, or_true, true_or, or_false, false_or, Nat.reduceLeDiff, Nat.reduceLT, Nat.reduceEqDiff, Nat.reduceAdd, s_149 js2, s_155 js2, r_149_8 js2, e7, e9, hk, (show k < 6561 by omega), (show k < 2147483648 by omega), (show k < 6562 by omega), (show k < 2147483648 by omega), (show ¬ cnt (PRM (mB σ f) w) (3 ^ w) ≤ k by omega), (show cnt (PRM (mB σ f) w) (3 ^ w) < 6562 by omega), (show cnt (PRM (mB σ f) w) (3 ^ w) < 2147483648 by omega)]
        exact JJ.fr (hm1.sc (fun b i q => by unfold SC kv_ess; omega)) h2
      · simp only [g_49_31, Nat.not_lt_zero, Bool.false_eq_true, Option.toList_some, Option.toList_none, List.cons_append, List.nil_append, kv_rv, kc1_i, kc1_r, kc1_n, n10, n01, n1514, n1213, n1312, if_true, if_false, not_true_eq_false, not_false_eq_true, and_self, true_and, and_true, false_and, and_false, or_true, true_or, or_false, false_or, Nat.reduceLeDiff, Nat.reduceLT, Nat.reduceEqDiff, Nat.reduceAdd]
        refine ⟨_, rfl, ?_⟩
        simp only [c_138, g_138_0, g_138_1, g_138_2, g_138_5, g_138_8, g_138_9, g_138_12, g_138_13, g_138_14, g_138_15, g_138_16, kv_w8_0, kv_w8_1, kv_w8_2, kv_w8_3, kv_w8_4, ari_aa, ari_al, ari_la, ari_mm, ari_ml, ari_lm, ari_ltl, ari_llt, ari_lt, ari_le, ari_lel, ari_lle, ari_0, ari_eq, ari_eql, ari_leq, ari_cl, Nat.not_lt_zero, Bool.false_eq_true, Option.toList_some, Option.toList_none, List.cons_append, List.nil_append, kv_rv, kc1_i, kc1_r, kc1_n, n10, n01, n1514, n1213, n1312, if_true, if_false, not_true_eq_false, not_false_eq_true, and_self, true_and, and_true, false_and, and_false, or_true, true_or, or_false, false_or, Nat.reduceLeDiff, Nat.reduceLT, Nat.reduceEqDiff, Nat.reduceAdd, m_isFunction_m js, g1, hk, (show (0 : Nat) ≤ k from Nat.zero_le k), s_149 js, (show f < F by omega), (show f < 2147483648 by omega), (show F < 17 by omega), (show F < 2147483648 by omega), (show f < 17 by omega), (show f < 2147483648 by omega)]
        refine m_findPrimes js h2.2.2.1 hf16 hj2 (fun υ hm => ?_)
        have hm1 := hm.1
        have e7 := hm.2.1
        rw [eB] at e7
        have js2 := hm1.js js
        simp only [g_138_19, g_138_20, g_138_21, g_138_24, g_138_27, g_138_28, g_138_31, g_138_32, g_138_33, g_138_36, g_138_37, ari_aa, ari_al, ari_la, ari_mm, ari_ml, ari_lm, ari_ltl, ari_llt, ari_lt, ari_le, ari_lel, ari_lle, ari_0, ari_eq, ari_eql, ari_leq, ari_cl, Nat.not_lt_zero, Bool.false_eq_true, Option.toList_some, Option.toList_none, List.cons_append, List.nil_append, kv_rv, kc1_i, kc1_r, kc1_n, n10, n01, n1514, n1213, n1312, if_true, if_false, not_true_eq_false, not_false_eq_true, and_self, true_and, and_true, false_and, and_false, or_true, true_or, or_false, false_or, Nat.reduceLeDiff, Nat.reduceLT, Nat.reduceEqDiff, Nat.reduceAdd, s_149 js2, s_155 js2, r_149_8 js2, e7, hk, hle, (show cnt (PRM (mB σ f) w) (3 ^ w) < 6562 by omega), (show cnt (PRM (mB σ f) w) (3 ^ w) < 2147483648 by omega)]
        exact JJ.fr (hm1.sc (fun b i q => by unfold SC kv_ess; omega)) h2
  · simp only [c_49, g_49_0, g_49_1, g_49_2, g_49_5, g_49_8, g_49_9, kv_w8_0, kv_w8_1, kv_w8_2, kv_w8_3, kv_w8_4, Nat.not_lt_zero, Bool.false_eq_true, Option.toList_some, Option.toList_none, List.cons_append, List.nil_append, kv_rv, kc1_i, kc1_r, kc1_n, n10, n01, n1514, n1213, n1312, if_true, if_false, not_true_eq_false, not_false_eq_true, and_self, true_and, and_true, false_and, and_false, or_true, true_or, or_false, false_or, Nat.reduceLeDiff, Nat.reduceLT, Nat.reduceEqDiff, Nat.reduceAdd, m_isFunction_c a1, f1, hp, s_8 a1]
    refine ⟨_, rfl, ?_⟩
    simp only [c_138, g_138_0, g_138_1, g_138_2, g_138_5, g_138_8, g_138_9, g_138_12, g_138_13, kv_w8_0, kv_w8_1, kv_w8_2, kv_w8_3, kv_w8_4, Nat.not_lt_zero, Bool.false_eq_true, Option.toList_some, Option.toList_none, List.cons_append, List.nil_append, kv_rv, kc1_i, kc1_r, kc1_n, n10, n01, n1514, n1213, n1312, if_true, if_false, not_true_eq_false, not_false_eq_true, and_self, true_and, and_true, false_and, and_false, or_true, true_or, or_false, false_or, Nat.reduceLeDiff, Nat.reduceLT, Nat.reduceEqDiff, Nat.reduceAdd, m_isFunction_m a1, f2, hp, s_149 a1]
    exact h

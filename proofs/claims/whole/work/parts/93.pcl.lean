/-! ===== the class's products ===== -/
/-- a word of n bits -/
def wd (f : Nat → Bool) : Nat → Nat
  | 0 => 0
  | n + 1 => wd f n + (f n).toNat * 2 ^ n
theorem wd_lt (f : Nat → Bool) : ∀ n, wd f n < 2 ^ n
  | 0 => Nat.lt_succ_self 0
  | n + 1 => by
    have h1 := wd_lt f n
    have h2 := Bool.toNat_le (f n)
    show wd f n + (f n).toNat * 2 ^ n < 2 ^ (n + 1)
    rw [Nat.pow_succ]
    rcases (show (f n).toNat = 0 ∨ (f n).toNat = 1 by omega) with e | e <;> rw [e] <;> omega
theorem wd_tb (f : Nat → Bool) : ∀ n r, (wd f n).testBit r = (decide (r < n) && f r)
  | 0, r => by show Nat.testBit 0 r = _; rw [Nat.zero_testBit]; simp
  | n + 1, r => by
    have e : wd f (n + 1) = 2 ^ n * (f n).toNat + wd f n := by show wd f n + (f n).toNat * 2 ^ n = _; rw [Nat.mul_comm]; omega
    rw [e, Nat.testBit_two_pow_mul_add _ (wd_lt f n) r]
    by_cases c : r < n
    · rw [if_pos c, wd_tb f n r]; simp [c, show r < n + 1 by omega]
    · rw [if_neg c]
      by_cases c2 : r = n
      · subst c2; rw [Nat.sub_self]; cases f r <;> simp
      · have : ((f n).toNat).testBit (r - n) = false := by
          obtain ⟨i, e2⟩ : ∃ i, r - n = i + 1 := ⟨r - n - 1, by omega⟩
          rw [e2, Nat.testBit_succ]
          cases f n <;> simp
        rw [this]; simp [show ¬ r < n + 1 by omega]
theorem wd_ext {f g : Nat → Bool} {n : Nat} (h : ∀ r, r < n → f r = g r) : wd f n = wd g n := by
  apply Nat.eq_of_testBit_eq
  intro r
  rw [wd_tb, wd_tb]
  by_cases c : r < n
  · rw [h r c]
  · simp [c]
theorem wd_and (f g : Nat → Bool) (n : Nat) : Int32.ofNat (wd f n) &&& Int32.ofNat (wd g n) = Int32.ofNat (wd (fun r => f r && g r) n) := by
  rw [ari_and]; congr 1
  apply Nat.eq_of_testBit_eq
  intro r
  rw [Nat.testBit_and, wd_tb, wd_tb, wd_tb]
  cases decide (r < n) <;> simp
theorem wd_or (f g : Nat → Bool) (n : Nat) : Int32.ofNat (wd f n) ||| Int32.ofNat (wd g n) = Int32.ofNat (wd (fun r => f r || g r) n) := by
  rw [ari_or]; congr 1
  apply Nat.eq_of_testBit_eq
  intro r
  rw [Nat.testBit_or, wd_tb, wd_tb, wd_tb]
  cases decide (r < n) <;> simp
theorem kP : ∀ k, k < 6 → (kv_ki 1).getD k 0 = Int32.ofNat (3 ^ k) := by decide
def rnb (i : Nat) : Nat := [0, 1, 3, 4, 9, 10, 12, 13].getD i 0
theorem kRN : ∀ i, i < 8 → (kv_ki 2).getD i 0 = Int32.ofNat (rnb i) := by decide
def lot (k r : Nat) : Bool := dgf r k == 2
theorem kLO : ∀ k, k < 3 → (kv_ki 3).getD k 0 = Int32.ofNat (wd (lot k) 27) := by decide +kernel
/-- fitWithin, as the class computes it -/
def fw1 (p : Int32) : Nat → Int32
  | 0 => 0
  | i + 1 => fw1 p i ||| ((p >>> (Int32.ofNat i &&& 31)) &&& 1) <<< ((kv_ki 2).getD i 0 &&& 31)
def fw2 (x : Int32) : Nat → Int32
  | 0 => x
  | k + 1 => fw2 x k ||| ((fw2 x k <<< ((kv_ki 1).getD k 0 &&& 31)) &&& (fw2 x k <<< (2 * (kv_ki 1).getD k 0 &&& 31)) &&& (kv_ki 3).getD k 0)
theorem fw_ok3 : ∀ z, z < 256 → fw2 (fw1 (Int32.ofNat z) 8) 3 = Int32.ofNat (wd (fun r => fD (dgf r) z.testBit 3 0) 27) := by decide +kernel
theorem fw_ok2 : ∀ z, z < 16 → fw2 (fw1 (Int32.ofNat z) 8) 2 = Int32.ofNat (wd (fun r => decide (r < 9) && fD (dgf r) z.testBit 2 0) 27) := by decide +kernel
theorem fw_ok1 : ∀ z, z < 4 → fw2 (fw1 (Int32.ofNat z) 8) 1 = Int32.ofNat (wd (fun r => decide (r < 3) && fD (dgf r) z.testBit 1 0) 27) := by decide +kernel
section PC
variable {d : Nat} {Φ : Option Value → kv_S → Prop}
theorem fw_l1 {τ : kv_S} (hK : JK τ) {p l : Int32} : ∀ m i, i + m = 8 → Wp d 44 4 [.int p, .int l, .int (fw1 p i), .int (Int32.ofNat i)] [] τ Φ = Wp d 44 30 [.int p, .int l, .int (fw1 p 8), .int (Int32.ofNat 8)] [] τ Φ
  | 0, i, e => by
    have e2 : i = 8 := by omega
    subst e2
    simp only [g_44_4, g_44_5, g_44_7, ari_aa, ari_al, ari_la, ari_mm, ari_ml, ari_lm, ari_ltl, ari_llt, ari_lt, ari_le, ari_lel, ari_lle, ari_0, ari_eq, ari_eql, ari_leq, ari_cl, Nat.not_lt_zero, Bool.false_eq_true, Option.toList_some, Option.toList_none, List.cons_append, List.nil_append, kv_rv, kc1_i, kc1_r, kc1_n, n10, n01, n1514, n1213, n1312, if_true, if_false, not_true_eq_false, not_false_eq_true, and_self, true_and, and_true, false_and, and_false, or_true, true_or, or_false, false_or, Nat.reduceLeDiff, Nat.reduceLT, Nat.reduceEqDiff, Nat.reduceAdd]
  | m + 1, i, e => by
    have e5 : kv_i τ 2 i = (kv_ki 2).getD i 0 := hK.2.2.2.2.2.2.2 2 i (by decide) (by decide)
    have s2 : kv_sh τ 2 = (10, 8) := hK.2.2.1
    conv => lhs; simp only [g_44_4, g_44_5, g_44_7, ari_aa, ari_al, ari_la, ari_mm, ari_ml, ari_lm, ari_ltl, ari_llt, ari_lt, ari_le, ari_lel, ari_lle, ari_0, ari_eq, ari_eql, ari_leq, ari_cl, Nat.not_lt_zero, Bool.false_eq_true, Option.toList_some, Option.toList_none, List.cons_append, List.nil_append, kv_rv, kc1_i, kc1_r, kc1_n, n10, n01, n1514, n1213, n1312, if_true, if_false, not_true_eq_false, not_false_eq_true, and_self, true_and, and_true, false_and, and_false, or_true, true_or, or_false, false_or, Nat.reduceLeDiff, Nat.reduceLT, Nat.reduceEqDiff, Nat.reduceAdd, (show i < 8 by omega), (show i < 2147483648 by omega), (show ¬ 8 ≤ i by omega)]
    simp only [g_44_10, g_44_11, g_44_12, g_44_13, g_44_14, g_44_15, g_44_16, g_44_19, g_44_20, g_44_21, g_44_22, g_44_23, g_44_24, g_44_27, ari_aa, ari_al, ari_la, ari_mm, ari_ml, ari_lm, ari_ltl, ari_llt, ari_lt, ari_le, ari_lel, ari_lle, ari_0, ari_eq, ari_eql, ari_leq, ari_cl, Nat.not_lt_zero, Bool.false_eq_true, Option.toList_some, Option.toList_none, List.cons_append, List.nil_append, kv_rv, kc1_i, kc1_r, kc1_n, n10, n01, n1514, n1213, n1312, if_true, if_false, not_true_eq_false, not_false_eq_true, and_self, true_and, and_true, false_and, and_false, or_true, true_or, or_false, false_or, Nat.reduceLeDiff, Nat.reduceLT, Nat.reduceEqDiff, Nat.reduceAdd, s2, e5, (show i < 8 by omega), (show i < 2147483648 by omega)]
    exact fw_l1 hK m (i + 1) (by omega)
theorem fw_l2 {τ : kv_S} (hK : JK τ) {p x : Int32} {l : Nat} (hl : l ≤ 3) : ∀ m k, k + m = l → Wp d 44 32 [.int p, .int (Int32.ofNat l), .int (fw2 x k), .int (Int32.ofNat k)] [] τ Φ = Φ (some (.int (fw2 x l))) τ
  | 0, k, e => by
    have e2 : k = l := by omega
    subst e2
    simp only [g_44_32, g_44_33, g_44_34, g_44_69, g_44_70, ari_aa, ari_al, ari_la, ari_mm, ari_ml, ari_lm, ari_ltl, ari_llt, ari_lt, ari_le, ari_lel, ari_lle, ari_0, ari_eq, ari_eql, ari_leq, ari_cl, Nat.not_lt_zero, Bool.false_eq_true, Option.toList_some, Option.toList_none, List.cons_append, List.nil_append, kv_rv, kc1_i, kc1_r, kc1_n, n10, n01, n1514, n1213, n1312, if_true, if_false, not_true_eq_false, not_false_eq_true, and_self, true_and, and_true, false_and, and_false, or_true, true_or, or_false, false_or, Nat.reduceLeDiff, Nat.reduceLT, Nat.reduceEqDiff, Nat.reduceAdd, (show k < 4 by omega), (show k < 2147483648 by omega), (show k ≤ k by omega)]
  | m + 1, k, e => by
    have e1 : kv_i τ 1 k = (kv_ki 1).getD k 0 := hK.2.2.2.2.2.2.2 1 k (by decide) (by decide)
    have e3 : kv_i τ 3 k = (kv_ki 3).getD k 0 := hK.2.2.2.2.2.2.2 3 k (by decide) (by decide)
    have s1 : kv_sh τ 1 = (10, 6) := hK.2.1
    have s3 : kv_sh τ 3 = (10, 3) := hK.2.2.2.1
    simp only [g_44_32, g_44_33, g_44_34, ari_aa, ari_al, ari_la, ari_mm, ari_ml, ari_lm, ari_ltl, ari_llt, ari_lt, ari_le, ari_lel, ari_lle, ari_0, ari_eq, ari_eql, ari_leq, ari_cl, Nat.not_lt_zero, Bool.false_eq_true, Option.toList_some, Option.toList_none, List.cons_append, List.nil_append, kv_rv, kc1_i, kc1_r, kc1_n, n10, n01, n1514, n1213, n1312, if_true, if_false, not_true_eq_false, not_false_eq_true, and_self, true_and, and_true, false_and, and_false, or_true, true_or, or_false, false_or, Nat.reduceLeDiff, Nat.reduceLT, Nat.reduceEqDiff, Nat.reduceAdd, (show k < 4 by omega), (show k < 2147483648 by omega), (show l < 4 by omega), (show l < 2147483648 by omega), (show ¬ l ≤ k by omega)]
    simp only [g_44_37, g_44_38, g_44_39, g_44_42, g_44_43, g_44_44, g_44_45, g_44_46, g_44_47, g_44_50, g_44_51, g_44_52, g_44_53, g_44_54, g_44_55, g_44_58, g_44_59, g_44_60, g_44_61, g_44_62, g_44_63, g_44_66, ari_aa, ari_al, ari_la, ari_mm, ari_ml, ari_lm, ari_ltl, ari_llt, ari_lt, ari_le, ari_lel, ari_lle, ari_0, ari_eq, ari_eql, ari_leq, ari_cl, Nat.not_lt_zero, Bool.false_eq_true, Option.toList_some, Option.toList_none, List.cons_append, List.nil_append, kv_rv, kc1_i, kc1_r, kc1_n, n10, n01, n1514, n1213, n1312, if_true, if_false, not_true_eq_false, not_false_eq_true, and_self, true_and, and_true, false_and, and_false, or_true, true_or, or_false, false_or, Nat.reduceLeDiff, Nat.reduceLT, Nat.reduceEqDiff, Nat.reduceAdd, s1, s3, e1, e3, (show k < 3 by omega), (show k < 2147483648 by omega), (show k < 6 by omega), (show k < 2147483648 by omega)]
    exact fw_l2 hK hl m (k + 1) (by omega)
theorem m_fitW {τ : kv_S} (hK : JK τ) {p : Int32} {l : Nat} (hl : l ≤ 3) : Wc d 44 [.int p, .int (Int32.ofNat l)] τ Φ = Φ (some (.int (fw2 (fw1 p 8) l))) τ := by
  have h1 := fw_l1 (d := d) (Φ := Φ) (p := p) (l := Int32.ofNat l) hK 8 0 (by omega)
  have h2 := fw_l2 (d := d) (Φ := Φ) (p := p) (x := fw1 p 8) hK hl l 0 (by omega)
  simp only [c_44, g_44_0, g_44_1, g_44_2, g_44_3, Nat.not_lt_zero, Bool.false_eq_true, Option.toList_some, Option.toList_none, List.cons_append, List.nil_append, kv_rv, kc1_i, kc1_r, kc1_n, n10, n01, n1514, n1213, n1312, if_true, if_false, not_true_eq_false, not_false_eq_true, and_self, true_and, and_true, false_and, and_false, or_true, true_or, or_false, false_or, Nat.reduceLeDiff, Nat.reduceLT, Nat.reduceEqDiff, Nat.reduceAdd]
  refine h1.trans ?_
  simp only [g_44_30, g_44_31, Nat.not_lt_zero, Bool.false_eq_true, Option.toList_some, Option.toList_none, List.cons_append, List.nil_append, kv_rv, kc1_i, kc1_r, kc1_n, n10, n01, n1514, n1213, n1312, if_true, if_false, not_true_eq_false, not_false_eq_true, and_self, true_and, and_true, false_and, and_false, or_true, true_or, or_false, false_or, Nat.reduceLeDiff, Nat.reduceLT, Nat.reduceEqDiff, Nat.reduceAdd]
  exact h2
/-- the places of a sheet that are not 0 -/
theorem nz_i : ∀ c, c ≤ 8 → ∀ l, l ≤ c → Int32.ofNat (2 ^ c - 1) &&& (Int32.ofNat (2 ^ l - 1) ^^^ -1) = Int32.ofNat (2 ^ c - 2 ^ l) := by decide
theorem nz_tb : ∀ c, c ≤ 8 → ∀ l, l ≤ c → 2 ^ c - 2 ^ l < 256 ∧ ∀ p, p < 8 → (2 ^ c - 2 ^ l).testBit p = (decide (l ≤ p) && decide (p < c)) := by decide
theorem m_notZero {τ : kv_S} (js : JS τ) {f w s : Nat} (hf : f < 16) (hj : JF1' τ f w) (hs : s < 32) (h8 : 8 * s < 2 ^ w) (H : ∀ z, z < 2 ^ (min 8 (2 ^ w)) → (∀ p, p < min 8 (2 ^ w) → z.testBit p = mB τ f (8 * s + p)) → Φ (some (.int (Int32.ofNat z))) τ) : Wc (d + 2) 43 [.ref (37 + 4 * f), .int (Int32.ofNat s)] τ Φ := by
  obtain ⟨l, o, u, hl, hl2, ho, hu, el, el2, eo, eu, hp, hq⟩ := hj.2.2.2.2 s hs h8
  obtain ⟨c, hc⟩ : ∃ c, c = min 8 (2 ^ w) := ⟨_, rfl⟩
  rw [← hc] at H
  have hc8 : c ≤ 8 := by omega
  have hlc : l ≤ c := by omega
  have hss : ∀ {d : Nat} {Ψ : Option Value → kv_S → Prop}, Wc (d + 1) 13 [.ref (37 + 4 * f)] τ Ψ = Ψ (some (.int (Int32.ofNat c))) τ := by intro d Ψ; rw [m_sheetSize js hf hj.2.1 hj.2.2.1, ← hc]
  simp only [c_43, g_43_0, g_43_1, g_43_4, g_43_5, g_43_6, g_43_7, g_43_10, g_43_11, g_43_12, g_43_13, g_43_14, g_43_17, g_43_20, g_43_21, g_43_24, g_43_25, g_43_26, g_43_29, g_43_30, g_43_31, g_43_32, g_43_33, kv_w8_0, kv_w8_1, kv_w8_2, kv_w8_3, kv_w8_4, ari_aa, ari_al, ari_la, ari_mm, ari_ml, ari_lm, ari_ltl, ari_llt, ari_lt, ari_le, ari_lel, ari_lle, ari_0, ari_eq, ari_eql, ari_leq, ari_cl, Nat.not_lt_zero, Bool.false_eq_true, Option.toList_some, Option.toList_none, List.cons_append, List.nil_append, kv_rv, kc1_i, kc1_r, kc1_n, n10, n01, n1514, n1213, n1312, if_true, if_false, not_true_eq_false, not_false_eq_true, and_self, true_and, and_true, false_and, and_false, or_true, true_or, or_false, false_or, Nat.reduceLeDiff, Nat.reduceLT, Nat.reduceEqDiff, Nat.reduceAdd, ari_or, sT js hf, sO js hf, rO js hf, sF js hf, rF js hf, sL js hf, rL js hf, el, eo, eu, hss, m_allOf hc8, m_allOf hl, nz_i c hc8 l hlc, (show s < 32 by omega), (show s < 2147483648 by omega)]
  obtain ⟨n1, n2⟩ := nz_tb c hc8 l hlc
  have tb : ∀ p, (o ||| u ||| (2 ^ c - 2 ^ l)).testBit p = (decide (p < c) && mB τ f (8 * s + p)) := by
    intro p
    rw [Nat.testBit_or, Nat.testBit_or]
    by_cases h8p : p < 8
    · rw [n2 p h8p]
      have hB : mB τ f (8 * s + p) = if p < l then (o.testBit p || u.testBit p) else true := by
        unfold mB hld
        rw [show (8 * s + p) % 8 = p by omega, lft_of (row := 8 * s + p) hl (by rw [show (8 * s + p) / 8 = s by omega]; exact el2)]
        by_cases cl : p < l
        · rw [if_pos cl, if_pos cl]
          rcases hp p cl with ⟨q1, q2, q3⟩ | ⟨q1, q2, q3⟩ | ⟨q1, q2, q3⟩ <;> simp only [q1, q2, q3] <;> decide
        · rw [if_neg cl, if_neg cl]; decide
      rw [hB]
      by_cases cl : p < l
      · simp [cl, show ¬ l ≤ p by omega, show p < c by omega]
      · rw [(hq p (by omega)).1, (hq p (by omega)).2]; simp [cl, show l ≤ p by omega]
    · rw [tb8 ho (by omega), tb8 hu (by omega), tb8 n1 (by omega)]; simp [show ¬ p < c by omega]
  refine H _ ?_ (fun p hp => by rw [tb p]; simp [hp])
  exact Nat.lt_pow_two_of_testBit _ (fun i hi => by rw [tb i]; simp [show ¬ i < c by omega])
end PC

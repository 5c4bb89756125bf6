/-! ===== the model's primes ===== -/
theorem ari_divn {a n : Nat} (ha : a < 2147483648) (hn : n < 2147483648) : Int32.ofNat a / Int32.ofNat n = Int32.ofNat (a / n) := ari_div (n := n) ha hn
/-- the row that a product tells, if it tells all letters -/
def rwp (p : Nat) : Nat → Nat
  | 0 => 0
  | k + 1 => rwp p k + dgf p k * 2 ^ k
theorem rwp_lt {p : Nat} : ∀ n, (∀ k, k < n → dgf p k < 2) → rwp p n < 2 ^ n
  | 0, _ => Nat.lt_succ_self 0
  | n + 1, h => by
    have h1 := rwp_lt n (fun k hk => h k (by omega))
    have h2 := h n (by omega)
    show rwp p n + dgf p n * 2 ^ n < 2 ^ (n + 1)
    rw [Nat.pow_succ]
    rcases (show dgf p n = 0 ∨ dgf p n = 1 by omega) with e | e <;> rw [e] <;> omega
theorem rwp_bit {p : Nat} : ∀ n, (∀ k, k < n → dgf p k < 2) → ∀ j, j < n → dgf p j = rwp p n / 2 ^ j % 2
  | 0, _, j, hj => absurd hj (by omega)
  | n + 1, h, j, hj => by
    have h1 := rwp_lt n (fun k hk => h k (by omega))
    have h2 := h n (by omega)
    have e : rwp p (n + 1) = 2 ^ n * dgf p n + rwp p n := by show rwp p n + dgf p n * 2 ^ n = _; rw [Nat.mul_comm]; omega
    have ht := Nat.testBit_two_pow_mul_add (dgf p n) h1 j
    rw [← e] at ht
    rw [nat_bit, ht]
    by_cases c : j < n
    · rw [if_pos c, ← nat_bit]; exact rwp_bit n (fun k hk => h k (by omega)) j c
    · have : j = n := by omega
      subst this
      rw [if_neg c, Nat.sub_self]
      rcases (show dgf p j = 0 ∨ dgf p j = 1 by omega) with q | q <;> rw [q] <;> rfl
theorem rwp_or {p k : Nat} (h : ∀ j, j < k → dgf p j < 2) : rwp p k ||| dgf p k * 2 ^ k = rwp p (k + 1) := by
  have h1 := rwp_lt k h
  show _ = rwp p k + dgf p k * 2 ^ k
  rw [Nat.or_comm, Nat.mul_comm, ← Nat.two_pow_add_eq_or_of_lt h1]
  omega
theorem p3_8 : ∀ k, k ≤ 8 → 3 ^ k ≤ 6561 := by decide
section FP
variable {d : Nat} {Φ : Option Value → kv_S → Prop}
theorem m_digit {σ : kv_S} (h : JS σ) (h3 : J3 σ) {p k : Nat} (hp : p < 6561) (hk : k ≤ 8) : Wc d 137 [.ref 149, .int (Int32.ofNat p), .int (Int32.ofNat k)] σ Φ = Φ (some (.int (Int32.ofNat (dgf p k)))) σ := by
  have h8 := p3_8 k hk
  have h0 := pw3 k
  have hd : p / 3 ^ k ≤ p := Nat.div_le_self _ _
  unfold dgf
  simp only [c_137, g_137_0, g_137_1, g_137_2, g_137_5, g_137_6, g_137_7, g_137_8, g_137_9, g_137_10, ari_aa, ari_al, ari_la, ari_mm, ari_ml, ari_lm, ari_ltl, ari_llt, ari_lt, ari_le, ari_lel, ari_lle, ari_0, ari_eq, ari_eql, ari_leq, ari_cl, Nat.not_lt_zero, Bool.false_eq_true, Option.toList_some, Option.toList_none, List.cons_append, List.nil_append, kv_rv, kc1_i, kc1_r, kc1_n, n10, n01, n1514, n1213, n1312, if_true, if_false, not_true_eq_false, not_false_eq_true, and_self, true_and, and_true, false_and, and_false, or_true, true_or, or_false, false_or, Nat.reduceLeDiff, Nat.reduceLT, Nat.reduceEqDiff, Nat.reduceAdd, ari_divn, ari_div, ari_rem, s_149 h, s_153 h, r_149_5 h, h3 k (by omega), (show ¬ (3 : Int32) = 0 by decide), (show p < 6561 by omega), (show p < 2147483648 by omega), (show k < 9 by omega), (show k < 2147483648 by omega), (show 3 ^ k < 6562 by omega), (show 3 ^ k < 2147483648 by omega), (show ¬ 3 ^ k = 0 by omega), (show p / 3 ^ k < 6562 by omega), (show p / 3 ^ k < 2147483648 by omega)]
def mB (σ : kv_S) (f : Nat) : Nat → Bool := fun row => decide (hld σ f row ≠ 0)
/-- what is known in the first loop -/
def fpI (σ0 : kv_S) (f n p : Nat) (τ : kv_S) : Prop := FR (fun b _ => b = 154) σ0 τ ∧ ∀ q, q < p → kv_i τ 154 q = bI (FIT (mB σ0 f) n q)
theorem fp_out {τ : kv_S} (js : JS τ) (h3 : J3 τ) {f n p a : Nat} {v7 : Value} (hn : n ≤ 8) (hp : p < 6561) (H : ∀ x : Int32, Wp (d + 1) 136 66 [.ref 149, .int (Int32.ofNat f), .int (Int32.ofNat n), .int (Int32.ofNat a), .int (Int32.ofNat p), .int (if fst1 (fun k => dgf p k == 2) n 0 < n then Int32.ofNat (fst1 (fun k => dgf p k == 2) n 0) else -1), .int x, v7] [] τ Φ) : ∀ m k, k + m = n → fst1 (fun k => dgf p k == 2) n 0 = fst1 (fun k => dgf p k == 2) m k → Wp (d + 1) 136 29 [.ref 149, .int (Int32.ofNat f), .int (Int32.ofNat n), .int (Int32.ofNat a), .int (Int32.ofNat p), .int (-1), .int (Int32.ofNat k), v7] [] τ Φ
  | 0, k, e, hf => by
    have e2 : k = n := by omega
    subst e2
    have hf : fst1 (fun k => dgf p k == 2) k 0 = k := hf
    have := H (Int32.ofNat k)
    rw [hf, if_neg (by omega)] at this
    simp only [g_136_29, g_136_31, g_136_32, ari_aa, ari_al, ari_la, ari_mm, ari_ml, ari_lm, ari_ltl, ari_llt, ari_lt, ari_le, ari_lel, ari_lle, ari_0, ari_eq, ari_eql, ari_leq, ari_cl, Nat.not_lt_zero, Bool.false_eq_true, Option.toList_some, Option.toList_none, List.cons_append, List.nil_append, kv_rv, kc1_i, kc1_r, kc1_n, n10, n01, n1514, n1213, n1312, if_true, if_false, not_true_eq_false, not_false_eq_true, and_self, true_and, and_true, false_and, and_false, or_true, true_or, or_false, false_or, Nat.reduceLeDiff, Nat.reduceLT, Nat.reduceEqDiff, Nat.reduceAdd, (show k < 9 by omega), (show k < 2147483648 by omega), (show k ≤ k by omega)]
    exact this
  | m + 1, k, e, hf => by
    have hf : _ = if (dgf p k == 2) = true then k else fst1 (fun k => dgf p k == 2) m (k + 1) := hf
    have hd : dgf p k < 3 := Nat.mod_lt _ (by decide)
    simp only [g_136_29, g_136_31, g_136_32, g_136_35, g_136_37, ari_aa, ari_al, ari_la, ari_mm, ari_ml, ari_lm, ari_ltl, ari_llt, ari_lt, ari_le, ari_lel, ari_lle, ari_0, ari_eq, ari_eql, ari_leq, ari_cl, Nat.not_lt_zero, Bool.false_eq_true, Option.toList_some, Option.toList_none, List.cons_append, List.nil_append, kv_rv, kc1_i, kc1_r, kc1_n, n10, n01, n1514, n1213, n1312, if_true, if_false, not_true_eq_false, not_false_eq_true, and_self, true_and, and_true, false_and, and_false, or_true, true_or, or_false, false_or, Nat.reduceLeDiff, Nat.reduceLT, Nat.reduceEqDiff, Nat.reduceAdd, (show (-1 : Int32) < 0 by decide), (show ¬ (0 : Int32) ≤ -1 by decide), (show k < 9 by omega), (show k < 2147483648 by omega), (show n < 9 by omega), (show n < 2147483648 by omega), (show ¬ n ≤ k by omega)]
    by_cases c : dgf p k = 2
    · rw [if_pos (by rw [c]; rfl)] at hf
      simp only [g_136_40, g_136_41, g_136_43, g_136_45, g_136_48, g_136_49, g_136_52, g_136_54, g_136_57, g_136_58, g_136_60, g_136_63, kv_w8_0, kv_w8_1, kv_w8_2, kv_w8_3, kv_w8_4, ari_aa, ari_al, ari_la, ari_mm, ari_ml, ari_lm, ari_ltl, ari_llt, ari_lt, ari_le, ari_lel, ari_lle, ari_0, ari_eq, ari_eql, ari_leq, ari_cl, Nat.not_lt_zero, Bool.false_eq_true, Option.toList_some, Option.toList_none, List.cons_append, List.nil_append, kv_rv, kc1_i, kc1_r, kc1_n, n10, n01, n1514, n1213, n1312, if_true, if_false, not_true_eq_false, not_false_eq_true, and_self, true_and, and_true, false_and, and_false, or_true, true_or, or_false, false_or, Nat.reduceLeDiff, Nat.reduceLT, Nat.reduceEqDiff, Nat.reduceAdd, s_149 js, m_digit js h3 hp (show k ≤ 8 by omega), c]
      have := H (Int32.ofNat (k + 1))
      rw [hf, if_pos (by omega)] at this
      by_cases c2 : n ≤ k + 1
      · simp only [g_136_29, g_136_31, g_136_32, ari_aa, ari_al, ari_la, ari_mm, ari_ml, ari_lm, ari_ltl, ari_llt, ari_lt, ari_le, ari_lel, ari_lle, ari_0, ari_eq, ari_eql, ari_leq, ari_cl, Nat.not_lt_zero, Bool.false_eq_true, Option.toList_some, Option.toList_none, List.cons_append, List.nil_append, kv_rv, kc1_i, kc1_r, kc1_n, n10, n01, n1514, n1213, n1312, if_true, if_false, not_true_eq_false, not_false_eq_true, and_self, true_and, and_true, false_and, and_false, or_true, true_or, or_false, false_or, Nat.reduceLeDiff, Nat.reduceLT, Nat.reduceEqDiff, Nat.reduceAdd, c2, (show k + 1 < 10 by omega), (show k + 1 < 2147483648 by omega), (show n < 9 by omega), (show n < 2147483648 by omega)]
        exact this
      · simp only [g_136_29, g_136_31, g_136_32, g_136_35, g_136_37, ari_aa, ari_al, ari_la, ari_mm, ari_ml, ari_lm, ari_ltl, ari_llt, ari_lt, ari_le, ari_lel, ari_lle, ari_0, ari_eq, ari_eql, ari_leq, ari_cl, Nat.not_lt_zero, Bool.false_eq_true, Option.toList_some, Option.toList_none, List.cons_append, List.nil_append, kv_rv, kc1_i, kc1_r, kc1_n, n10, n01, n1514, n1213, n1312, if_true, if_false, not_true_eq_false, not_false_eq_true, and_self, true_and, and_true, false_and, and_false, or_true, true_or, or_false, false_or, Nat.reduceLeDiff, Nat.reduceLT, Nat.reduceEqDiff, Nat.reduceAdd, c2, (show k + 1 < 10 by omega), (show k + 1 < 2147483648 by omega), (show n < 9 by omega), (show n < 2147483648 by omega), (show k < 9 by omega), (show k < 2147483648 by omega)]
        exact this
    · rw [if_neg (by rw [beq_iff_eq]; exact c)] at hf
      simp only [g_136_40, g_136_41, g_136_43, g_136_45, g_136_48, g_136_49, g_136_52, g_136_54, g_136_57, g_136_58, g_136_60, g_136_63, kv_w8_0, kv_w8_1, kv_w8_2, kv_w8_3, kv_w8_4, ari_aa, ari_al, ari_la, ari_mm, ari_ml, ari_lm, ari_ltl, ari_llt, ari_lt, ari_le, ari_lel, ari_lle, ari_0, ari_eq, ari_eql, ari_leq, ari_cl, Nat.not_lt_zero, Bool.false_eq_true, Option.toList_some, Option.toList_none, List.cons_append, List.nil_append, kv_rv, kc1_i, kc1_r, kc1_n, n10, n01, n1514, n1213, n1312, if_true, if_false, not_true_eq_false, not_false_eq_true, and_self, true_and, and_true, false_and, and_false, or_true, true_or, or_false, false_or, Nat.reduceLeDiff, Nat.reduceLT, Nat.reduceEqDiff, Nat.reduceAdd, s_149 js, m_digit js h3 hp (show k ≤ 8 by omega), c, (show dgf p k < 3 by omega), (show dgf p k < 2147483648 by omega)]
      exact fp_out js h3 hn hp H m (k + 1) (by omega) hf
theorem fp_row {τ : kv_S} (js : JS τ) (h3 : J3 τ) {f n p a : Nat} {x : Int32} (hn : n ≤ 8) (hp : p < 6561) (hd : ∀ k, k < n → dgf p k < 2) (H : Wp (d + 1) 136 158 [.ref 149, .int (Int32.ofNat f), .int (Int32.ofNat n), .int (Int32.ofNat a), .int (Int32.ofNat p), .int x, .int (Int32.ofNat (rwp p n)), .int (Int32.ofNat n)] [] τ Φ) : ∀ m k, k + m = n → Wp (d + 1) 136 130 [.ref 149, .int (Int32.ofNat f), .int (Int32.ofNat n), .int (Int32.ofNat a), .int (Int32.ofNat p), .int x, .int (Int32.ofNat (rwp p k)), .int (Int32.ofNat k)] [] τ Φ
  | 0, k, e => by
    have e2 : k = n := by omega
    subst e2
    simp only [g_136_130, g_136_132, g_136_133, ari_aa, ari_al, ari_la, ari_mm, ari_ml, ari_lm, ari_ltl, ari_llt, ari_lt, ari_le, ari_lel, ari_lle, ari_0, ari_eq, ari_eql, ari_leq, ari_cl, Nat.not_lt_zero, Bool.false_eq_true, Option.toList_some, Option.toList_none, List.cons_append, List.nil_append, kv_rv, kc1_i, kc1_r, kc1_n, n10, n01, n1514, n1213, n1312, if_true, if_false, not_true_eq_false, not_false_eq_true, and_self, true_and, and_true, false_and, and_false, or_true, true_or, or_false, false_or, Nat.reduceLeDiff, Nat.reduceLT, Nat.reduceEqDiff, Nat.reduceAdd, (show k < 9 by omega), (show k < 2147483648 by omega), (show k ≤ k by omega)]
    exact H
  | m + 1, k, e => by
    simp only [g_136_130, g_136_132, g_136_133, ari_aa, ari_al, ari_la, ari_mm, ari_ml, ari_lm, ari_ltl, ari_llt, ari_lt, ari_le, ari_lel, ari_lle, ari_0, ari_eq, ari_eql, ari_leq, ari_cl, Nat.not_lt_zero, Bool.false_eq_true, Option.toList_some, Option.toList_none, List.cons_append, List.nil_append, kv_rv, kc1_i, kc1_r, kc1_n, n10, n01, n1514, n1213, n1312, if_true, if_false, not_true_eq_false, not_false_eq_true, and_self, true_and, and_true, false_and, and_false, or_true, true_or, or_false, false_or, Nat.reduceLeDiff, Nat.reduceLT, Nat.reduceEqDiff, Nat.reduceAdd, (show k < 9 by omega), (show k < 2147483648 by omega), (show n < 9 by omega), (show n < 2147483648 by omega), (show ¬ n ≤ k by omega)]
    simp only [g_136_136, g_136_138, g_136_139, g_136_141, g_136_143, g_136_146, g_136_148, g_136_149, g_136_150, g_136_152, g_136_155, kv_w8_0, kv_w8_1, kv_w8_2, kv_w8_3, kv_w8_4, ari_aa, ari_al, ari_la, ari_mm, ari_ml, ari_lm, ari_ltl, ari_llt, ari_lt, ari_le, ari_lel, ari_lle, ari_0, ari_eq, ari_eql, ari_leq, ari_cl, Nat.not_lt_zero, Bool.false_eq_true, Option.toList_some, Option.toList_none, List.cons_append, List.nil_append, kv_rv, kc1_i, kc1_r, kc1_n, n10, n01, n1514, n1213, n1312, if_true, if_false, not_true_eq_false, not_false_eq_true, and_self, true_and, and_true, false_and, and_false, or_true, true_or, or_false, false_or, Nat.reduceLeDiff, Nat.reduceLT, Nat.reduceEqDiff, Nat.reduceAdd, ari_31, ari_shl, ari_or, s_149 js, m_digit js h3 hp (show k ≤ 8 by omega), (show k < 32 by omega), (show k < 2147483648 by omega)]
    rw [rwp_or (fun j hj => hd j (by omega))]
    exact fp_row js h3 hn hp hd H m (k + 1) (by omega)
theorem FIT_row {B : Nat → Bool} {n p : Nat} (hd : ∀ k, k < n → dgf p k < 2) : FIT B n p = B (rwp p n) := by
  unfold FIT
  rw [fD_bits (s := rwp p n) n 0 (fun j hj => rwp_bit n hd j hj), Nat.zero_add, Nat.mod_eq_of_lt (rwp_lt n hd)]
theorem JF1'.fr {P : Nat → Nat → Prop} {σ τ : kv_S} (h : FR P σ τ) {f w : Nat} (hp : ∀ b j, P b j → ¬ (37 ≤ b ∧ b < 101 ∨ 150 ≤ b ∧ b ≤ 152)) (hf : f < 16) (H : JF1' σ f w) : JF1' τ f w := JF1'.fine h (fun b j q => by have := hp b j q; unfold cFf; omega) H
theorem hld_fr {P : Nat → Nat → Prop} {σ τ : kv_S} (h : FR P σ τ) {f : Nat} (hp : ∀ b j, P b j → ¬ (150 ≤ b ∧ b ≤ 152)) (row : Nat) : hld τ f row = hld σ f row := by
  unfold hld lft
  rw [h.i (fun q => hp _ _ q (by omega)), h.i (fun q => hp _ _ q (by omega))]
theorem fp_l1 {σ0 : kv_S} (js0 : JS σ0) (h3 : J3 σ0) {f n : Nat} (hf : f < 16) (hj : JF1' σ0 f n) (H : ∀ τ, fpI σ0 f n (3 ^ n) τ → ∀ v5 v6 v7, Wp (d + 2) 136 186 [.ref 149, .int (Int32.ofNat f), .int (Int32.ofNat n), .int (Int32.ofNat (3 ^ n)), .int (Int32.ofNat (3 ^ n)), v5, v6, v7] [] τ Φ) : ∀ m p, p + m = 3 ^ n → ∀ τ, fpI σ0 f n p τ → ∀ v5 v6 v7 : Value, Wp (d + 2) 136 17 [.ref 149, .int (Int32.ofNat f), .int (Int32.ofNat n), .int (Int32.ofNat (3 ^ n)), .int (Int32.ofNat p), v5, v6, v7] [] τ Φ
  | 0, p, e, τ, hI, v5, v6, v7 => by
    have h8 := p3_8 n hj.2.1
    have e2 : p = 3 ^ n := by omega
    subst e2
    simp only [g_136_17, g_136_19, g_136_20, ari_aa, ari_al, ari_la, ari_mm, ari_ml, ari_lm, ari_ltl, ari_llt, ari_lt, ari_le, ari_lel, ari_lle, ari_0, ari_eq, ari_eql, ari_leq, ari_cl, Nat.not_lt_zero, Bool.false_eq_true, Option.toList_some, Option.toList_none, List.cons_append, List.nil_append, kv_rv, kc1_i, kc1_r, kc1_n, n10, n01, n1514, n1213, n1312, if_true, if_false, not_true_eq_false, not_false_eq_true, and_self, true_and, and_true, false_and, and_false, or_true, true_or, or_false, false_or, Nat.reduceLeDiff, Nat.reduceLT, Nat.reduceEqDiff, Nat.reduceAdd, (show 3 ^ n < 6562 by omega), (show 3 ^ n < 2147483648 by omega), (show 3 ^ n ≤ 3 ^ n by omega)]
    exact H τ hI _ _ _
  | m + 1, p, e, τ, hI, v5, v6, v7 => by
    have h8 := p3_8 n hj.2.1
    have fr := hI.1
    have js := fr.js js0
    have h3' : J3 τ := h3.fr fr (fun b j q => by omega)
    have hn8 := hj.2.1
    simp only [g_136_17, g_136_19, g_136_20, ari_aa, ari_al, ari_la, ari_mm, ari_ml, ari_lm, ari_ltl, ari_llt, ari_lt, ari_le, ari_lel, ari_lle, ari_0, ari_eq, ari_eql, ari_leq, ari_cl, Nat.not_lt_zero, Bool.false_eq_true, Option.toList_some, Option.toList_none, List.cons_append, List.nil_append, kv_rv, kc1_i, kc1_r, kc1_n, n10, n01, n1514, n1213, n1312, if_true, if_false, not_true_eq_false, not_false_eq_true, and_self, true_and, and_true, false_and, and_false, or_true, true_or, or_false, false_or, Nat.reduceLeDiff, Nat.reduceLT, Nat.reduceEqDiff, Nat.reduceAdd, (show p < 6562 by omega), (show p < 2147483648 by omega), (show 3 ^ n < 6562 by omega), (show 3 ^ n < 2147483648 by omega), (show ¬ 3 ^ n ≤ p by omega)]
    simp only [g_136_23, g_136_24, g_136_26, g_136_27, Nat.not_lt_zero, Bool.false_eq_true, Option.toList_some, Option.toList_none, List.cons_append, List.nil_append, kv_rv, kc1_i, kc1_r, kc1_n, n10, n01, n1514, n1213, n1312, if_true, if_false, not_true_eq_false, not_false_eq_true, and_self, true_and, and_true, false_and, and_false, or_true, true_or, or_false, false_or, Nat.reduceLeDiff, Nat.reduceLT, Nat.reduceEqDiff, Nat.reduceAdd]
    have nxt : ∀ v6 v7 : Value, ∀ v5 : Value, Wp (d + 2) 136 180 [.ref 149, .int (Int32.ofNat f), .int (Int32.ofNat n), .int (Int32.ofNat (3 ^ n)), .int (Int32.ofNat p), v5, v6, v7] [] (kv_si τ 154 p (bI (FIT (mB σ0 f) n p))) Φ := by
      intro v6 v7 v5
      simp only [g_136_180, g_136_183, ari_aa, ari_al, ari_la, ari_mm, ari_ml, ari_lm, ari_ltl, ari_llt, ari_lt, ari_le, ari_lel, ari_lle, ari_0, ari_eq, ari_eql, ari_leq, ari_cl, Nat.not_lt_zero, Bool.false_eq_true, Option.toList_some, Option.toList_none, List.cons_append, List.nil_append, kv_rv, kc1_i, kc1_r, kc1_n, n10, n01, n1514, n1213, n1312, if_true, if_false, not_true_eq_false, not_false_eq_true, and_self, true_and, and_true, false_and, and_false, or_true, true_or, or_false, false_or, Nat.reduceLeDiff, Nat.reduceLT, Nat.reduceEqDiff, Nat.reduceAdd]
      refine fp_l1 js0 h3 hf hj H m (p + 1) (by omega) _ ⟨fr.si rfl, fun q hq => ?_⟩ _ _ _
      by_cases c : q = p
      · rw [c, eq_ess ⟨rfl, rfl⟩]
      · rw [ne_ess (by omega)]; exact hI.2 q (by omega)
    refine fp_out js h3' hn8 (by omega) (fun x => ?_) n 0 (by omega) rfl
    obtain ⟨k0, hk0⟩ : ∃ k0, k0 = fst1 (fun k => dgf p k == 2) n 0 := ⟨_, rfl⟩
    rw [← hk0]
    by_cases c : k0 < n
    · have hd2 : dgf p k0 = 2 := by
        have := fst1_lt (f := fun k => dgf p k == 2) n 0 (by rw [← hk0]; omega)
        rw [← hk0, beq_iff_eq] at this; exact this
      rw [if_pos c]
      have s2 := (dgf_sub (e := 0) hd2 (by decide)).1
      have hF := FIT_two (B := mB σ0 f) c hd2
      have p0 := pw3 k0
      have pk := p3_8 k0 (by omega)
      have m1 := hI.2 (p - 3 ^ k0) (by omega)
      have m2 := hI.2 (p - 2 * 3 ^ k0) (by omega)
      have t3 := h3' k0 (by omega)
      have nx := nxt (.int x) v7 (.int (Int32.ofNat k0))
      rw [hF] at nx
      cases f1 : FIT (mB σ0 f) n (p - 3 ^ k0) with
      | false =>
        rw [f1] at m1 nx
        simp only [g_136_66, g_136_68, g_136_71, g_136_72, g_136_75, g_136_77, g_136_78, g_136_81, g_136_83, g_136_84, g_136_87, g_136_89, g_136_90, g_136_91, g_136_92, g_136_95, g_136_96, g_136_99, g_136_101, g_136_102, g_136_103, g_136_106, g_136_108, g_136_109, g_136_110, g_136_111, g_136_112, g_136_115, g_136_116, g_136_119, g_136_120, g_136_121, ari_aa, ari_al, ari_la, ari_mm, ari_ml, ari_lm, ari_ltl, ari_llt, ari_lt, ari_le, ari_lel, ari_lle, ari_0, ari_eq, ari_eql, ari_leq, ari_cl, Nat.not_lt_zero, Bool.false_eq_true, Option.toList_some, Option.toList_none, List.cons_append, List.nil_append, kv_rv, kc1_i, kc1_r, kc1_n, n10, n01, n1514, n1213, n1312, if_true, if_false, not_true_eq_false, not_false_eq_true, and_self, true_and, and_true, false_and, and_false, or_true, true_or, or_false, false_or, Nat.reduceLeDiff, Nat.reduceLT, Nat.reduceEqDiff, Nat.reduceAdd, ari_ss, s_149 js, s_153 js, r_149_5 js, s_154 js, r_149_6 js, t3, m1, bI, nar01 (Or.inl rfl), (show k0 < 9 by omega), (show k0 < 2147483648 by omega), (show p - 3 ^ k0 < 6561 by omega), (show p - 3 ^ k0 < 2147483648 by omega), (show 3 ^ k0 ≤ p by omega), (show p < 6561 by omega), (show p < 2147483648 by omega)]
        exact nx
      | true =>
        cases f2 : FIT (mB σ0 f) n (p - 2 * 3 ^ k0) with
        | false =>
          rw [f1] at m1
          rw [f2] at m2
          rw [f1, f2] at nx
          simp only [g_136_66, g_136_68, g_136_71, g_136_72, g_136_75, g_136_77, g_136_78, g_136_81, g_136_83, g_136_84, g_136_87, g_136_89, g_136_90, g_136_91, g_136_92, g_136_95, g_136_96, g_136_99, g_136_101, g_136_102, g_136_103, g_136_106, g_136_108, g_136_109, g_136_110, g_136_111, g_136_112, g_136_115, g_136_116, g_136_119, g_136_120, g_136_121, ari_aa, ari_al, ari_la, ari_mm, ari_ml, ari_lm, ari_ltl, ari_llt, ari_lt, ari_le, ari_lel, ari_lle, ari_0, ari_eq, ari_eql, ari_leq, ari_cl, Nat.not_lt_zero, Bool.false_eq_true, Option.toList_some, Option.toList_none, List.cons_append, List.nil_append, kv_rv, kc1_i, kc1_r, kc1_n, n10, n01, n1514, n1213, n1312, if_true, if_false, not_true_eq_false, not_false_eq_true, and_self, true_and, and_true, false_and, and_false, or_true, true_or, or_false, false_or, Nat.reduceLeDiff, Nat.reduceLT, Nat.reduceEqDiff, Nat.reduceAdd, ari_ss, s_149 js, s_153 js, r_149_5 js, s_154 js, r_149_6 js, t3, m1, m2, bI, nar01 (Or.inl rfl), (show k0 < 9 by omega), (show k0 < 2147483648 by omega), (show p - 3 ^ k0 < 6561 by omega), (show p - 3 ^ k0 < 2147483648 by omega), (show p - 2 * 3 ^ k0 < 6561 by omega), (show p - 2 * 3 ^ k0 < 2147483648 by omega), (show 3 ^ k0 ≤ p by omega), (show 2 * 3 ^ k0 ≤ p by omega), (show p < 6561 by omega), (show p < 2147483648 by omega)]
          exact nx
        | true =>
          rw [f1] at m1
          rw [f2] at m2
          rw [f1, f2] at nx
          simp only [g_136_66, g_136_68, g_136_71, g_136_72, g_136_75, g_136_77, g_136_78, g_136_81, g_136_83, g_136_84, g_136_87, g_136_89, g_136_90, g_136_91, g_136_92, g_136_95, g_136_96, g_136_99, g_136_101, g_136_102, g_136_103, g_136_106, g_136_108, g_136_109, g_136_110, g_136_111, g_136_112, g_136_115, g_136_116, g_136_119, g_136_120, g_136_121, ari_aa, ari_al, ari_la, ari_mm, ari_ml, ari_lm, ari_ltl, ari_llt, ari_lt, ari_le, ari_lel, ari_lle, ari_0, ari_eq, ari_eql, ari_leq, ari_cl, Nat.not_lt_zero, Bool.false_eq_true, Option.toList_some, Option.toList_none, List.cons_append, List.nil_append, kv_rv, kc1_i, kc1_r, kc1_n, n10, n01, n1514, n1213, n1312, if_true, if_false, not_true_eq_false, not_false_eq_true, and_self, true_and, and_true, false_and, and_false, or_true, true_or, or_false, false_or, Nat.reduceLeDiff, Nat.reduceLT, Nat.reduceEqDiff, Nat.reduceAdd, ari_ss, s_149 js, s_153 js, r_149_5 js, s_154 js, r_149_6 js, t3, m1, m2, bI, nar01 (Or.inr rfl), (show k0 < 9 by omega), (show k0 < 2147483648 by omega), (show p - 3 ^ k0 < 6561 by omega), (show p - 3 ^ k0 < 2147483648 by omega), (show p - 2 * 3 ^ k0 < 6561 by omega), (show p - 2 * 3 ^ k0 < 2147483648 by omega), (show 3 ^ k0 ≤ p by omega), (show 2 * 3 ^ k0 ≤ p by omega), (show p < 6561 by omega), (show p < 2147483648 by omega)]
          exact nx
    · rw [if_neg c]
      have hd : ∀ k, k < n → dgf p k < 2 := by
        intro k hk
        have h3d : dgf p k < 3 := Nat.mod_lt _ (by decide)
        have : dgf p k ≠ 2 := by
          intro q
          have key : ∀ m j, j ≤ k → k < j + m → fst1 (fun k => dgf p k == 2) m j ≤ k := by
            intro m
            induction m with
            | zero => intro j h1 h2; omega
            | succ m ih =>
              intro j h1 h2
              show (if (dgf p j == 2) = true then j else fst1 (fun k => dgf p k == 2) m (j + 1)) ≤ k
              by_cases cj : (dgf p j == 2) = true
              · rw [if_pos cj]; exact h1
              · rw [if_neg cj]
                have : j ≠ k := fun e => cj (by rw [e, q]; rfl)
                exact ih (j + 1) (by omega) (by omega)
          have := key n 0 (by omega) (by omega)
          omega
        omega
      have hlt := rwp_lt n hd
      have hj2 : JF1' τ f n := hj.fr fr (fun b j q => by omega) hf
      have nx := nxt (.int (Int32.ofNat (rwp p n))) (.int (Int32.ofNat n)) (.int (-1))
      rw [FIT_row hd] at nx
      have hB : mB σ0 f (rwp p n) = decide (hld τ f (rwp p n) ≠ 0) := by unfold mB; rw [hld_fr fr (fun b j q => by omega)]
      rw [hB] at nx
      have hW := pw8 hn8
      simp only [g_136_66, g_136_68, g_136_124, g_136_125, g_136_127, g_136_128, Nat.not_lt_zero, Bool.false_eq_true, Option.toList_some, Option.toList_none, List.cons_append, List.nil_append, kv_rv, kc1_i, kc1_r, kc1_n, n10, n01, n1514, n1213, n1312, if_true, if_false, not_true_eq_false, not_false_eq_true, and_self, true_and, and_true, false_and, and_false, or_true, true_or, or_false, false_or, Nat.reduceLeDiff, Nat.reduceLT, Nat.reduceEqDiff, Nat.reduceAdd, (show (-1 : Int32) < 0 by decide)]
      refine fp_row js h3' hn8 (by omega) hd ?_ n 0 (by omega)
      have hb : hld τ f (rwp p n) < 2147483648 := by
        unfold hld
        split
        · have := (kv_i τ 151 (256 * f + rwp p n)).toInt_lt
          unfold Int32.toNatClampNeg; omega
        · decide
      by_cases c2 : hld τ f (rwp p n) = 0
      · rw [decide_eq_false (fun q => q c2)] at nx
        simp only [g_136_158, g_136_159, g_136_162, g_136_164, g_136_165, g_136_166, g_136_168, g_136_171, g_136_174, g_136_175, g_136_178, g_136_179, kv_w8_0, kv_w8_1, kv_w8_2, kv_w8_3, kv_w8_4, ari_aa, ari_al, ari_la, ari_mm, ari_ml, ari_lm, ari_ltl, ari_llt, ari_lt, ari_le, ari_lel, ari_lle, ari_0, ari_eq, ari_eql, ari_leq, ari_cl, Nat.not_lt_zero, Bool.false_eq_true, Option.toList_some, Option.toList_none, List.cons_append, List.nil_append, kv_rv, kc1_i, kc1_r, kc1_n, n10, n01, n1514, n1213, n1312, if_true, if_false, not_true_eq_false, not_false_eq_true, and_self, true_and, and_true, false_and, and_false, or_true, true_or, or_false, false_or, Nat.reduceLeDiff, Nat.reduceLT, Nat.reduceEqDiff, Nat.reduceAdd, s_149 js, s_154 js, r_149_6 js, m_held js hf hj2 hlt, c2, bI, nar01 (Or.inl rfl), (show p < 6561 by omega), (show p < 2147483648 by omega)]
        exact nx
      · rw [decide_eq_true c2] at nx
        simp only [g_136_158, g_136_159, g_136_162, g_136_164, g_136_165, g_136_166, g_136_168, g_136_171, g_136_174, g_136_175, g_136_178, g_136_179, kv_w8_0, kv_w8_1, kv_w8_2, kv_w8_3, kv_w8_4, ari_aa, ari_al, ari_la, ari_mm, ari_ml, ari_lm, ari_ltl, ari_llt, ari_lt, ari_le, ari_lel, ari_lle, ari_0, ari_eq, ari_eql, ari_leq, ari_cl, Nat.not_lt_zero, Bool.false_eq_true, Option.toList_some, Option.toList_none, List.cons_append, List.nil_append, kv_rv, kc1_i, kc1_r, kc1_n, n10, n01, n1514, n1213, n1312, if_true, if_false, not_true_eq_false, not_false_eq_true, and_self, true_and, and_true, false_and, and_false, or_true, true_or, or_false, false_or, Nat.reduceLeDiff, Nat.reduceLT, Nat.reduceEqDiff, Nat.reduceAdd, s_149 js, s_154 js, r_149_6 js, m_held js hf hj2 hlt, c2, bI, nar01 (Or.inr rfl), hb, (show p < 6561 by omega), (show p < 2147483648 by omega)]
        exact nx
end FP

/-! ===== the class's products, worked out ===== -/
theorem wb_two {B : Nat → Bool} {m q k r : Nat} (hq : q < 3 ^ m) (hk : k < m) (hr : r < 27) (h : dgf q k = 2) : wb B (3 + m) q r = (wb B (3 + m) (q - 3 ^ k) r && wb B (3 + m) (q - 2 * 3 ^ k) r) := by
  have s0 := (dgf_sub (e := 0) h (by decide)).1
  have h0 := pw3 k
  have e3 : 3 ^ (3 + m) = 27 * 3 ^ m := by rw [Nat.pow_add]
  have ek : 3 ^ (3 + k) = 27 * 3 ^ k := by rw [Nat.pow_add]
  unfold wb
  rw [decide_eq_true (show 27 * q + r < 3 ^ (3 + m) by omega), decide_eq_true (show 27 * (q - 3 ^ k) + r < 3 ^ (3 + m) by omega), decide_eq_true (show 27 * (q - 2 * 3 ^ k) + r < 3 ^ (3 + m) by omega), Bool.true_and, Bool.true_and, Bool.true_and]
  rw [FIT_two (k := 3 + k) (by omega) (by rw [dgf_27 hr, if_neg (by omega), show 3 + k - 3 = k by omega]; exact h), ek, show 27 * q + r - 27 * 3 ^ k = 27 * (q - 3 ^ k) + r by omega, show 27 * q + r - 2 * (27 * 3 ^ k) = 27 * (q - 2 * 3 ^ k) + r by omega]
/-- a product of the pieces q, r can be left a letter out: low letters, the first k high ones -/
def wid (B : Nat → Bool) (w q k r : Nat) : Bool := wwb (wb B w q) (min w 3) r || anyN (fun j => !(dgf q j == 2) && wb B w (q + (2 - dgf q j) * 3 ^ j) r) k
section PG
variable {d : Nat} {Φ : Option Value → kv_S → Prop}
theorem wp_l2 {σ0 : kv_S} (js0 : JS σ0) (hK0 : JK σ0) {B : Nat → Bool} {f w m : Nat} (hm : m = w - min w 3) (hw : w ≤ 8) (ew : kv_i σ0 11 2 = Int32.ofNat (3 ^ m)) (H : ∀ τ, FR (fun b _ => b = 12) σ0 τ → (∀ q, q < 3 ^ m → kv_i τ 12 q = Int32.ofNat (wd (wb B w q) 27)) → ∀ v5, Wp (d + 1) 42 104 [.ref 11, .ref (37 + 4 * f), .int (Int32.ofNat (min w 3)), .int (Int32.ofNat m), .int (Int32.ofNat m), v5] [] τ Φ) : ∀ mm k, k + mm = m → ∀ τ, FR (fun b _ => b = 12) σ0 τ → (∀ q, q < 3 ^ m → (∀ j, k ≤ j → j < m → dgf q j ≠ 2) → kv_i τ 12 q = Int32.ofNat (wd (wb B w q) 27)) → ∀ v5 : Value, Wp (d + 1) 42 86 [.ref 11, .ref (37 + 4 * f), .int (Int32.ofNat (min w 3)), .int (Int32.ofNat m), .int (Int32.ofNat k), v5] [] τ Φ
  | 0, k, e, τ, fr, hs, v5 => by
    have e2 : k = m := by omega
    subst e2
    simp only [g_42_86, g_42_88, g_42_89, ari_aa, ari_al, ari_la, ari_mm, ari_ml, ari_lm, ari_ltl, ari_llt, ari_lt, ari_le, ari_lel, ari_lle, ari_0, ari_eq, ari_eql, ari_leq, ari_cl, Nat.not_lt_zero, Bool.false_eq_true, Option.toList_some, Option.toList_none, List.cons_append, List.nil_append, kv_rv, kc1_i, kc1_r, kc1_n, n10, n01, n1514, n1213, n1312, if_true, if_false, not_true_eq_false, not_false_eq_true, and_self, true_and, and_true, false_and, and_false, or_true, true_or, or_false, false_or, Nat.reduceLeDiff, Nat.reduceLT, Nat.reduceEqDiff, Nat.reduceAdd, (show k < 9 by omega), (show k < 2147483648 by omega), (show k ≤ k by omega)]
    exact H τ fr (fun q hq => hs q hq (fun j h1 h2 => absurd h2 (by omega))) _
  | mm + 1, k, e, τ, fr, hs, v5 => by
    have js := fr.js js0
    have hK : JK τ := hK0.fr fr (fun b j q => by omega)
    have ew' : kv_i τ 11 2 = Int32.ofNat (3 ^ m) := by rw [fr.i (by omega)]; exact ew
    simp only [g_42_86, g_42_88, g_42_89, ari_aa, ari_al, ari_la, ari_mm, ari_ml, ari_lm, ari_ltl, ari_llt, ari_lt, ari_le, ari_lel, ari_lle, ari_0, ari_eq, ari_eql, ari_leq, ari_cl, Nat.not_lt_zero, Bool.false_eq_true, Option.toList_some, Option.toList_none, List.cons_append, List.nil_append, kv_rv, kc1_i, kc1_r, kc1_n, n10, n01, n1514, n1213, n1312, if_true, if_false, not_true_eq_false, not_false_eq_true, and_self, true_and, and_true, false_and, and_false, or_true, true_or, or_false, false_or, Nat.reduceLeDiff, Nat.reduceLT, Nat.reduceEqDiff, Nat.reduceAdd, (show k < 9 by omega), (show k < 2147483648 by omega), (show m < 9 by omega), (show m < 2147483648 by omega), (show ¬ m ≤ k by omega)]
    simp only [g_42_92, g_42_93, g_42_95, kv_w8_0, kv_w8_1, kv_w8_2, kv_w8_3, kv_w8_4, Nat.not_lt_zero, Bool.false_eq_true, Option.toList_some, Option.toList_none, List.cons_append, List.nil_append, kv_rv, kc1_i, kc1_r, kc1_n, n10, n01, n1514, n1213, n1312, if_true, if_false, not_true_eq_false, not_false_eq_true, and_self, true_and, and_true, false_and, and_false, or_true, true_or, or_false, false_or, Nat.reduceLeDiff, Nat.reduceLT, Nat.reduceEqDiff, Nat.reduceAdd, s_11 js, r_8_2 js]
    refine m_flo js hK (show k < m by omega) (by omega) ew' (fun υ fr2 hv => ?_)
    simp only [g_42_98, g_42_101, ari_aa, ari_al, ari_la, ari_mm, ari_ml, ari_lm, ari_ltl, ari_llt, ari_lt, ari_le, ari_lel, ari_lle, ari_0, ari_eq, ari_eql, ari_leq, ari_cl, Nat.not_lt_zero, Bool.false_eq_true, Option.toList_some, Option.toList_none, List.cons_append, List.nil_append, kv_rv, kc1_i, kc1_r, kc1_n, n10, n01, n1514, n1213, n1312, if_true, if_false, not_true_eq_false, not_false_eq_true, and_self, true_and, and_true, false_and, and_false, or_true, true_or, or_false, false_or, Nat.reduceLeDiff, Nat.reduceLT, Nat.reduceEqDiff, Nat.reduceAdd]
    refine wp_l2 js0 hK0 hm hw ew H mm (k + 1) (by omega) υ (fr.tr fr2) (fun q hq hd => ?_) _
    rw [hv q hq]
    have hw3 : w = 3 + m := by omega
    by_cases c : dgf q k = 2
    · rw [if_pos c]
      have s1 := dgf_sub (e := 1) c (by decide)
      have s0 := dgf_sub (e := 0) c (by decide)
      rw [show (2 - 1) * 3 ^ k = 3 ^ k by omega] at s1
      rw [show (2 - 0) * 3 ^ k = 2 * 3 ^ k by omega] at s0
      rw [hs (q - 3 ^ k) (by omega) (fun j h1 h2 => ?_), hs (q - 2 * 3 ^ k) (by omega) (fun j h1 h2 => ?_), wd_and]
      · refine congrArg Int32.ofNat (wd_ext (fun r hr => ?_))
        rw [hw3]; exact (wb_two hq (by omega) hr c).symm
      · rw [s0.2 j]
        by_cases c2 : j = k
        · rw [if_pos c2]; decide
        · rw [if_neg c2]; exact hd j (by omega) h2
      · rw [s1.2 j]
        by_cases c2 : j = k
        · rw [if_pos c2]; decide
        · rw [if_neg c2]; exact hd j (by omega) h2
    · rw [if_neg c]
      refine hs q hq (fun j h1 h2 => ?_)
      by_cases c2 : j = k
      · rw [c2]; exact c
      · exact hd j (by omega) h2
theorem wp_l3 {σ0 : kv_S} (js0 : JS σ0) (hK0 : JK σ0) {B : Nat → Bool} {f w m : Nat} (hm : m = w - min w 3) (hw : w ≤ 8) (ew : kv_i σ0 11 2 = Int32.ofNat (3 ^ m)) (hf : ∀ q, q < 3 ^ m → kv_i σ0 12 q = Int32.ofNat (wd (wb B w q) 27)) (H : ∀ τ, FR (fun b _ => b = 13) σ0 τ → (∀ q, q < 3 ^ m → kv_i τ 13 q = Int32.ofNat (wd (wid B w q 0) 27)) → ∀ v5, Wp (d + 1) 42 140 [.ref 11, .ref (37 + 4 * f), .int (Int32.ofNat (min w 3)), .int (Int32.ofNat m), .int (Int32.ofNat (3 ^ m)), v5] [] τ Φ) : ∀ mm q, q + mm = 3 ^ m → ∀ τ, FR (fun b _ => b = 13) σ0 τ → (∀ q', q' < q → kv_i τ 13 q' = Int32.ofNat (wd (wid B w q' 0) 27)) → ∀ v5 : Value, Wp (d + 1) 42 107 [.ref 11, .ref (37 + 4 * f), .int (Int32.ofNat (min w 3)), .int (Int32.ofNat m), .int (Int32.ofNat q), v5] [] τ Φ
  | 0, q, e, τ, fr, hs, v5 => by
    have h243 : 3 ^ m ≤ 243 := by
      have : ∀ m, m ≤ 5 → 3 ^ m ≤ 243 := by decide
      exact this m (by omega)
    have e2 : q = 3 ^ m := by omega
    subst e2
    have js := fr.js js0
    have ew' : kv_i τ 11 2 = Int32.ofNat (3 ^ m) := by rw [fr.i (by omega)]; exact ew
    simp only [g_42_107, g_42_109, g_42_110, g_42_113, ari_aa, ari_al, ari_la, ari_mm, ari_ml, ari_lm, ari_ltl, ari_llt, ari_lt, ari_le, ari_lel, ari_lle, ari_0, ari_eq, ari_eql, ari_leq, ari_cl, Nat.not_lt_zero, Bool.false_eq_true, Option.toList_some, Option.toList_none, List.cons_append, List.nil_append, kv_rv, kc1_i, kc1_r, kc1_n, n10, n01, n1514, n1213, n1312, if_true, if_false, not_true_eq_false, not_false_eq_true, and_self, true_and, and_true, false_and, and_false, or_true, true_or, or_false, false_or, Nat.reduceLeDiff, Nat.reduceLT, Nat.reduceEqDiff, Nat.reduceAdd, s_11 js, r_8_2 js, ew', (show 3 ^ m < 300 by omega), (show 3 ^ m < 2147483648 by omega), (show 3 ^ m ≤ 3 ^ m by omega)]
    exact H τ fr hs _
  | mm + 1, q, e, τ, fr, hs, v5 => by
    have h243 : 3 ^ m ≤ 243 := by
      have : ∀ m, m ≤ 5 → 3 ^ m ≤ 243 := by decide
      exact this m (by omega)
    have js := fr.js js0
    have hK : JK τ := hK0.fr fr (fun b j q => by omega)
    have ew' : kv_i τ 11 2 = Int32.ofNat (3 ^ m) := by rw [fr.i (by omega)]; exact ew
    have f1 : kv_i τ 12 q = Int32.ofNat (wd (wb B w q) 27) := by rw [fr.i (by omega)]; exact hf q (by omega)
    simp only [g_42_107, g_42_109, g_42_110, g_42_113, ari_aa, ari_al, ari_la, ari_mm, ari_ml, ari_lm, ari_ltl, ari_llt, ari_lt, ari_le, ari_lel, ari_lle, ari_0, ari_eq, ari_eql, ari_leq, ari_cl, Nat.not_lt_zero, Bool.false_eq_true, Option.toList_some, Option.toList_none, List.cons_append, List.nil_append, kv_rv, kc1_i, kc1_r, kc1_n, n10, n01, n1514, n1213, n1312, if_true, if_false, not_true_eq_false, not_false_eq_true, and_self, true_and, and_true, false_and, and_false, or_true, true_or, or_false, false_or, Nat.reduceLeDiff, Nat.reduceLT, Nat.reduceEqDiff, Nat.reduceAdd, s_11 js, r_8_2 js, ew', (show q < 300 by omega), (show q < 2147483648 by omega), (show 3 ^ m < 300 by omega), (show 3 ^ m < 2147483648 by omega), (show ¬ 3 ^ m ≤ q by omega)]
    simp only [g_42_116, g_42_117, g_42_120, g_42_122, g_42_123, g_42_126, g_42_128, g_42_129, g_42_130, kv_w8_0, kv_w8_1, kv_w8_2, kv_w8_3, kv_w8_4, ari_aa, ari_al, ari_la, ari_mm, ari_ml, ari_lm, ari_ltl, ari_llt, ari_lt, ari_le, ari_lel, ari_lle, ari_0, ari_eq, ari_eql, ari_leq, ari_cl, Nat.not_lt_zero, Bool.false_eq_true, Option.toList_some, Option.toList_none, List.cons_append, List.nil_append, kv_rv, kc1_i, kc1_r, kc1_n, n10, n01, n1514, n1213, n1312, if_true, if_false, not_true_eq_false, not_false_eq_true, and_self, true_and, and_true, false_and, and_false, or_true, true_or, or_false, false_or, Nat.reduceLeDiff, Nat.reduceLT, Nat.reduceEqDiff, Nat.reduceAdd, s_11 js, r_8_2 js, s_12 js, r_11_0 js, s_13 js, r_11_1 js, f1, (show q < 243 by omega), (show q < 2147483648 by omega)]
    refine m_ww hK (show min w 3 ≤ 3 by omega) ?_
    simp only [g_42_133, g_42_134, g_42_137, kv_w8_0, kv_w8_1, kv_w8_2, kv_w8_3, kv_w8_4, ari_aa, ari_al, ari_la, ari_mm, ari_ml, ari_lm, ari_ltl, ari_llt, ari_lt, ari_le, ari_lel, ari_lle, ari_0, ari_eq, ari_eql, ari_leq, ari_cl, Nat.not_lt_zero, Bool.false_eq_true, Option.toList_some, Option.toList_none, List.cons_append, List.nil_append, kv_rv, kc1_i, kc1_r, kc1_n, n10, n01, n1514, n1213, n1312, if_true, if_false, not_true_eq_false, not_false_eq_true, and_self, true_and, and_true, false_and, and_false, or_true, true_or, or_false, false_or, Nat.reduceLeDiff, Nat.reduceLT, Nat.reduceEqDiff, Nat.reduceAdd, s_13 js, r_11_1 js, (show q < 243 by omega), (show q < 2147483648 by omega)]
    refine wp_l3 js0 hK0 hm hw ew hf H mm (q + 1) (by omega) _ (fr.si rfl) (fun q' hq' => ?_) _
    by_cases c : q' = q
    · rw [eq_ess ⟨rfl, c⟩, c]
      refine congrArg Int32.ofNat (wd_ext (fun r hr => ?_))
      unfold wid
      show _ = (_ || false)
      rw [Bool.or_false]
    · rw [ne_ess (by omega)]; exact hs q' (by omega)
theorem wp_l4 {σ0 : kv_S} (js0 : JS σ0) (hK0 : JK σ0) {B : Nat → Bool} {f w m : Nat} (hm : m = w - min w 3) (hw : w ≤ 8) (ew : kv_i σ0 11 2 = Int32.ofNat (3 ^ m)) (hf : ∀ q, q < 3 ^ m → kv_i σ0 12 q = Int32.ofNat (wd (wb B w q) 27)) (H : ∀ τ, FR (fun b _ => b = 13) σ0 τ → (∀ q, q < 3 ^ m → kv_i τ 13 q = Int32.ofNat (wd (wid B w q m) 27)) → Φ none τ) : ∀ mm k, k + mm = m → ∀ τ, FR (fun b _ => b = 13) σ0 τ → (∀ q, q < 3 ^ m → kv_i τ 13 q = Int32.ofNat (wd (wid B w q k) 27)) → ∀ v5 : Value, Wp (d + 1) 42 143 [.ref 11, .ref (37 + 4 * f), .int (Int32.ofNat (min w 3)), .int (Int32.ofNat m), .int (Int32.ofNat k), v5] [] τ Φ
  | 0, k, e, τ, fr, hs, v5 => by
    have e2 : k = m := by omega
    subst e2
    simp only [g_42_143, g_42_145, g_42_146, g_42_161, ari_aa, ari_al, ari_la, ari_mm, ari_ml, ari_lm, ari_ltl, ari_llt, ari_lt, ari_le, ari_lel, ari_lle, ari_0, ari_eq, ari_eql, ari_leq, ari_cl, Nat.not_lt_zero, Bool.false_eq_true, Option.toList_some, Option.toList_none, List.cons_append, List.nil_append, kv_rv, kc1_i, kc1_r, kc1_n, n10, n01, n1514, n1213, n1312, if_true, if_false, not_true_eq_false, not_false_eq_true, and_self, true_and, and_true, false_and, and_false, or_true, true_or, or_false, false_or, Nat.reduceLeDiff, Nat.reduceLT, Nat.reduceEqDiff, Nat.reduceAdd, (show k < 9 by omega), (show k < 2147483648 by omega), (show k ≤ k by omega)]
    exact H τ fr hs
  | mm + 1, k, e, τ, fr, hs, v5 => by
    have js := fr.js js0
    have hK : JK τ := hK0.fr fr (fun b j q => by omega)
    have ew' : kv_i τ 11 2 = Int32.ofNat (3 ^ m) := by rw [fr.i (by omega)]; exact ew
    simp only [g_42_143, g_42_145, g_42_146, ari_aa, ari_al, ari_la, ari_mm, ari_ml, ari_lm, ari_ltl, ari_llt, ari_lt, ari_le, ari_lel, ari_lle, ari_0, ari_eq, ari_eql, ari_leq, ari_cl, Nat.not_lt_zero, Bool.false_eq_true, Option.toList_some, Option.toList_none, List.cons_append, List.nil_append, kv_rv, kc1_i, kc1_r, kc1_n, n10, n01, n1514, n1213, n1312, if_true, if_false, not_true_eq_false, not_false_eq_true, and_self, true_and, and_true, false_and, and_false, or_true, true_or, or_false, false_or, Nat.reduceLeDiff, Nat.reduceLT, Nat.reduceEqDiff, Nat.reduceAdd, (show k < 9 by omega), (show k < 2147483648 by omega), (show m < 9 by omega), (show m < 2147483648 by omega), (show ¬ m ≤ k by omega)]
    simp only [g_42_149, g_42_150, g_42_152, kv_w8_0, kv_w8_1, kv_w8_2, kv_w8_3, kv_w8_4, Nat.not_lt_zero, Bool.false_eq_true, Option.toList_some, Option.toList_none, List.cons_append, List.nil_append, kv_rv, kc1_i, kc1_r, kc1_n, n10, n01, n1514, n1213, n1312, if_true, if_false, not_true_eq_false, not_false_eq_true, and_self, true_and, and_true, false_and, and_false, or_true, true_or, or_false, false_or, Nat.reduceLeDiff, Nat.reduceLT, Nat.reduceEqDiff, Nat.reduceAdd, s_11 js, r_8_2 js]
    refine m_wlo js hK (show k < m by omega) (by omega) ew' (fun υ fr2 hv => ?_)
    simp only [g_42_155, g_42_158, ari_aa, ari_al, ari_la, ari_mm, ari_ml, ari_lm, ari_ltl, ari_llt, ari_lt, ari_le, ari_lel, ari_lle, ari_0, ari_eq, ari_eql, ari_leq, ari_cl, Nat.not_lt_zero, Bool.false_eq_true, Option.toList_some, Option.toList_none, List.cons_append, List.nil_append, kv_rv, kc1_i, kc1_r, kc1_n, n10, n01, n1514, n1213, n1312, if_true, if_false, not_true_eq_false, not_false_eq_true, and_self, true_and, and_true, false_and, and_false, or_true, true_or, or_false, false_or, Nat.reduceLeDiff, Nat.reduceLT, Nat.reduceEqDiff, Nat.reduceAdd]
    refine wp_l4 js0 hK0 hm hw ew hf H mm (k + 1) (by omega) υ (fr.tr fr2) (fun q hq => ?_) _
    rw [hv q hq, hs q hq]
    by_cases c : dgf q k = 2
    · rw [if_neg (fun w => w c)]
      refine congrArg Int32.ofNat (wd_ext (fun r hr => ?_))
      unfold wid
      show _ = (_ || (anyN _ k || (!(dgf q k == 2) && _)))
      rw [c]; simp
    · have hlt := dgf_add_lt (p := q) (k := k) (n := m) (by omega) hq
      rw [if_pos c, fr.i (by omega), hf _ hlt, wd_or]
      refine congrArg Int32.ofNat (wd_ext (fun r hr => ?_))
      unfold wid
      show _ = (_ || (anyN _ k || (!(dgf q k == 2) && _)))
      rw [beq_eq_false_iff_ne.mpr c, Bool.not_false, Bool.true_and, Bool.or_assoc]
/-- the products of a function of w letters stand in the class's words -/
def pW (B : Nat → Bool) (w : Nat) (τ : kv_S) : Prop := kv_i τ 11 2 = Int32.ofNat (3 ^ (w - min w 3)) ∧ ∀ q, q < 3 ^ (w - min w 3) → kv_i τ 12 q = Int32.ofNat (wd (wb B w q) 27) ∧ kv_i τ 13 q = Int32.ofNat (wd (wid B w q (w - min w 3)) 27)
theorem low_i : ∀ w, w ≤ 8 → (if Int32.ofNat w < (3 : Int32) then Int32.ofNat w else 3) = Int32.ofNat (min w 3) ∧ (if (3 : Int32) < Int32.ofNat w then (3 : Int32) else Int32.ofNat w) = Int32.ofNat (min w 3) := by decide
theorem m_pworkOut {σ : kv_S} (js : JS σ) (hK : JK σ) {f w : Nat} (hf : f < 16) (hj : JF1' σ f w) (H : ∀ τ, FR (fun b i => b = 12 ∨ b = 13 ∨ b = 11 ∧ i = 2) σ τ → pW (mB σ f) w τ → Φ none τ) : Wc (d + 3) 42 [.ref 11, .ref (37 + 4 * f)] σ Φ := by
  have hw8 := hj.2.1
  have hw1 := hj.1
  have hW := pw8 hw8
  have s1 : kv_sh σ 1 = (10, 6) := hK.2.1
  obtain ⟨m, hm⟩ : ∃ m, m = w - min w 3 := ⟨_, rfl⟩
  have p1 : kv_i σ 1 m = Int32.ofNat (3 ^ m) := (hK.2.2.2.2.2.2.2 1 _ (by decide) (by decide)).trans (kP _ (by omega))
  simp only [c_42, g_42_0, g_42_1, g_42_4, g_42_5, g_42_8, g_42_9, g_42_10, g_42_13, g_42_14, g_42_15, g_42_16, g_42_17, g_42_20, g_42_21, g_42_22, g_42_25, g_42_26, kv_w8_0, kv_w8_1, kv_w8_2, kv_w8_3, kv_w8_4, ari_aa, ari_al, ari_la, ari_mm, ari_ml, ari_lm, ari_ltl, ari_llt, ari_lt, ari_le, ari_lel, ari_lle, ari_0, ari_eq, ari_eql, ari_leq, ari_cl, Nat.not_lt_zero, Bool.false_eq_true, Option.toList_some, Option.toList_none, List.cons_append, List.nil_append, kv_rv, kc1_i, kc1_r, kc1_n, n10, n01, n1514, n1213, n1312, if_true, if_false, not_true_eq_false, not_false_eq_true, and_self, true_and, and_true, false_and, and_false, or_true, true_or, or_false, false_or, Nat.reduceLeDiff, Nat.reduceLT, Nat.reduceEqDiff, Nat.reduceAdd, ari_ss, hj.2.2.1, (low_i w hw8).1, (low_i w hw8).2, sT js hf, s1, ← hm, p1, s_11 js, r_8_2 js, (show m < 6 by omega), (show m < 2147483648 by omega), (show min w 3 ≤ w by omega)]
  have fr0 : FR (fun b i => b = 11 ∧ i = 2) σ (kv_si σ 11 2 (Int32.ofNat (3 ^ m))) := (FR.rf _ σ).si ⟨rfl, rfl⟩
  have e0 : kv_i (kv_si σ 11 2 (Int32.ofNat (3 ^ m))) 11 2 = Int32.ofNat (3 ^ m) := eq_ess ⟨rfl, rfl⟩
  generalize kv_si σ 11 2 (Int32.ofNat (3 ^ m)) = σ1 at *
  have js1 := fr0.js js
  have hK1 : JK σ1 := hK.fr fr0 (fun b j q => by omega)
  have hj1 : JF1' σ1 f w := hj.fr fr0 (fun b j q => by omega) hf
  have eB : mB σ1 f = mB σ f := by funext r; unfold mB; rw [hld_fr fr0 (fun b j q => by omega)]
  refine wp_l1 js1 hK1 hf hj1 hm (fun τ fr hs x v5 => ?_) (max 1 (2 ^ w / 8)) 0 (by omega) σ1 (FR.rf _ σ1) (fun s hs => absurd hs (by omega)) _
  rw [eB] at hs
  simp only [g_42_83, g_42_84, Nat.not_lt_zero, Bool.false_eq_true, Option.toList_some, Option.toList_none, List.cons_append, List.nil_append, kv_rv, kc1_i, kc1_r, kc1_n, n10, n01, n1514, n1213, n1312, if_true, if_false, not_true_eq_false, not_false_eq_true, and_self, true_and, and_true, false_and, and_false, or_true, true_or, or_false, false_or, Nat.reduceLeDiff, Nat.reduceLT, Nat.reduceEqDiff, Nat.reduceAdd]
  have js2 := fr.js js1
  have hK2 : JK τ := hK1.fr fr (fun b j q => by omega)
  have ew2 : kv_i τ 11 2 = Int32.ofNat (3 ^ m) := by rw [fr.i (by omega)]; exact e0
  have hSm : max 1 (2 ^ w / 8) = 2 ^ m := by
    have : ∀ w, w ≤ 8 → 1 ≤ w → max 1 (2 ^ w / 8) = 2 ^ (w - min w 3) := by decide
    rw [hm]; exact this w hw8 hw1
  refine wp_l2 (B := mB σ f) js2 hK2 hm hw8 ew2 (fun υ fr2 hs2 v5 => ?_) m 0 (by omega) τ (FR.rf _ τ) (fun q hq hd => ?_) _
  · simp only [g_42_104, g_42_105, Nat.not_lt_zero, Bool.false_eq_true, Option.toList_some, Option.toList_none, List.cons_append, List.nil_append, kv_rv, kc1_i, kc1_r, kc1_n, n10, n01, n1514, n1213, n1312, if_true, if_false, not_true_eq_false, not_false_eq_true, and_self, true_and, and_true, false_and, and_false, or_true, true_or, or_false, false_or, Nat.reduceLeDiff, Nat.reduceLT, Nat.reduceEqDiff, Nat.reduceAdd]
    have js3 := fr2.js js2
    have hK3 : JK υ := hK2.fr fr2 (fun b j q => by omega)
    have ew3 : kv_i υ 11 2 = Int32.ofNat (3 ^ m) := by rw [fr2.i (by omega)]; exact ew2
    refine wp_l3 (B := mB σ f) js3 hK3 hm hw8 ew3 hs2 (fun ζ fr3 hs3 v5 => ?_) (3 ^ m) 0 (by omega) υ (FR.rf _ υ) (fun q hq => absurd hq (by omega)) _
    simp only [g_42_140, g_42_141, Nat.not_lt_zero, Bool.false_eq_true, Option.toList_some, Option.toList_none, List.cons_append, List.nil_append, kv_rv, kc1_i, kc1_r, kc1_n, n10, n01, n1514, n1213, n1312, if_true, if_false, not_true_eq_false, not_false_eq_true, and_self, true_and, and_true, false_and, and_false, or_true, true_or, or_false, false_or, Nat.reduceLeDiff, Nat.reduceLT, Nat.reduceEqDiff, Nat.reduceAdd]
    have js4 := fr3.js js3
    have hK4 : JK ζ := hK3.fr fr3 (fun b j q => by omega)
    have ew4 : kv_i ζ 11 2 = Int32.ofNat (3 ^ m) := by rw [fr3.i (by omega)]; exact ew3
    have hf4 : ∀ q, q < 3 ^ m → kv_i ζ 12 q = Int32.ofNat (wd (wb (mB σ f) w q) 27) := fun q hq => by rw [fr3.i (by omega)]; exact hs2 q hq
    refine wp_l4 (B := mB σ f) js4 hK4 hm hw8 ew4 hf4 (fun ω fr5 hs5 => ?_) m 0 (by omega) ζ (FR.rf _ ζ) hs3 _
    refine H ω ((((fr0.mono (fun b i q => Or.inr (Or.inr q))).tr (fr.mono (fun b i q => Or.inl q))).tr (fr2.mono (fun b i q => Or.inl q))).tr ((fr3.tr fr5).mono (fun b i q => Or.inr (Or.inl q)))) ⟨?_, fun q hq => ?_⟩
    · rw [← hm, fr5.i (by omega)]; exact ew4
    · rw [← hm] at hq ⊢
      exact ⟨by rw [fr5.i (by omega)]; exact hf4 q hq, hs5 q hq⟩
  · obtain ⟨s, hs1, hs2, hs3⟩ := qn_sur m (by omega) q hq (fun j hj => hd j (by omega) hj)
    rw [hs2, hs s (by omega)]
    refine congrArg Int32.ofNat (wd_ext (fun r hr => ?_))
    rw [hs2] at hs3
    exact swd_wb hw1 hw8 (by rw [← hm]; exact hs1) (fun j hj => hs3 j (by omega)) r hr
end PG

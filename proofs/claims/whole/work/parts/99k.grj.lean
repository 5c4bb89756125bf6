/-! ===== graphs: the model lays an order ===== -/
theorem ari_dd {a b : Nat} (ha : a < 2147483648) (hb : b < 2147483648) : Int32.ofNat a / Int32.ofNat b = Int32.ofNat (a / b) := ari_div ha hb
theorem nar_01 : vp_nar .boolean (0 : Int32) = 0 ∧ vp_nar .boolean (1 : Int32) = 1 := by decide
section GJ
variable {d : Nat} {σ : kv_S} {Φ : Option Value → kv_S → Prop}
/-- a letter is used: its bit in a mask -/
def usd (τ : kv_S) (w t : Nat) : Prop := ∀ r, r < w → kv_i τ 166 r = if unt t r = true then 0 else 1
theorem lo_l1 (js : JS σ) {w : Nat} {x : Int32} {v4 v5 v6 v7 : Value} (hw : w ≤ 6) (H : ∀ τ, FR (fun b _ => b = 166) σ τ → usd τ w 0 → ∀ v3 : Value, Wp d 150 20 [.ref 149, .int (Int32.ofNat w), .int x, v3, v4, v5, v6, v7] [] τ Φ) : ∀ m k, k + m = w → ∀ τ, FR (fun b _ => b = 166) σ τ → (∀ r, r < k → kv_i τ 166 r = 0) → Wp d 150 2 [.ref 149, .int (Int32.ofNat w), .int x, .int (Int32.ofNat k), v4, v5, v6, v7] [] τ Φ
  | 0, k, e, τ, fr, hI => by
    have e2 : k = w := by omega
    subst e2
    simp only [g_150_2, g_150_3, g_150_4, ari_aa, ari_al, ari_la, ari_mm, ari_ml, ari_lm, ari_ltl, ari_llt, ari_lt, ari_le, ari_lel, ari_lle, ari_0, ari_eq, ari_eql, ari_leq, ari_cl, Nat.not_lt_zero, Bool.false_eq_true, Option.toList_some, Option.toList_none, List.cons_append, List.nil_append, kv_rv, kc1_i, kc1_r, kc1_n, n10, n01, n1514, n1213, n1312, if_true, if_false, not_true_eq_false, not_false_eq_true, and_self, true_and, and_true, false_and, and_false, or_true, true_or, or_false, false_or, Nat.reduceLeDiff, Nat.reduceLT, Nat.reduceEqDiff, Nat.reduceAdd, (show k < 7 by omega), (show k < 2147483648 by omega), (show k ≤ k by omega)]
    exact H τ fr (fun r hr => by rw [hI r hr, if_pos (by unfold unt; rw [Nat.zero_testBit]; rfl)]) _
  | m + 1, k, e, τ, fr, hI => by
    have js2 := fr.js js
    simp only [g_150_2, g_150_3, g_150_4, ari_aa, ari_al, ari_la, ari_mm, ari_ml, ari_lm, ari_ltl, ari_llt, ari_lt, ari_le, ari_lel, ari_lle, ari_0, ari_eq, ari_eql, ari_leq, ari_cl, Nat.not_lt_zero, Bool.false_eq_true, Option.toList_some, Option.toList_none, List.cons_append, List.nil_append, kv_rv, kc1_i, kc1_r, kc1_n, n10, n01, n1514, n1213, n1312, if_true, if_false, not_true_eq_false, not_false_eq_true, and_self, true_and, and_true, false_and, and_false, or_true, true_or, or_false, false_or, Nat.reduceLeDiff, Nat.reduceLT, Nat.reduceEqDiff, Nat.reduceAdd, (show k < 7 by omega), (show k < 2147483648 by omega), (show w < 7 by omega), (show w < 2147483648 by omega), (show ¬ w ≤ k by omega)]
    simp only [g_150_7, g_150_8, g_150_11, g_150_12, g_150_13, g_150_14, g_150_17, ari_aa, ari_al, ari_la, ari_mm, ari_ml, ari_lm, ari_ltl, ari_llt, ari_lt, ari_le, ari_lel, ari_lle, ari_0, ari_eq, ari_eql, ari_leq, ari_cl, Nat.not_lt_zero, Bool.false_eq_true, Option.toList_some, Option.toList_none, List.cons_append, List.nil_append, kv_rv, kc1_i, kc1_r, kc1_n, n10, n01, n1514, n1213, n1312, if_true, if_false, not_true_eq_false, not_false_eq_true, and_self, true_and, and_true, false_and, and_false, or_true, true_or, or_false, false_or, Nat.reduceLeDiff, Nat.reduceLT, Nat.reduceEqDiff, Nat.reduceAdd, nar_01.1, s_149 js2, s_166 js2, r_149_24 js2, (show k < 8 by omega), (show k < 2147483648 by omega)]
    refine lo_l1 js hw H m (k + 1) (by omega) _ (fr.si rfl) (fun r hr => ?_)
    rw [i_si]
    by_cases c : r = k
    · rw [if_pos ⟨rfl, c⟩]
    · rw [if_neg (fun q => c q.2)]; exact hI r (by omega)
theorem lo_in (js : JS σ) {w t q L : Nat} {x y k z : Int32} (hw : w ≤ 6) (hq : q ≤ 720) (hU : usd σ w t) (hL : L < w) (hL1 : unt t L = true) (hL2 : cnt (unt t) L = q) : ∀ m l, l + m = L → Wp d 150 56 [.ref 149, .int (Int32.ofNat w), .int x, .int y, .int k, .int z, .int (Int32.ofNat (q - cnt (unt t) l)), .int (Int32.ofNat l)] [] σ Φ = Wp d 150 97 [.ref 149, .int (Int32.ofNat w), .int x, .int y, .int k, .int z, .int 0, .int (Int32.ofNat L)] [] σ Φ
  | 0, l, e => by
    have e2 : l = L := by omega
    subst e2
    have hu := hU l hL
    rw [if_pos hL1] at hu
    have e3 : q - cnt (unt t) l = 0 := by omega
    simp only [g_150_56, g_150_57, g_150_60, g_150_62, g_150_63, g_150_66, g_150_68, ari_aa, ari_al, ari_la, ari_mm, ari_ml, ari_lm, ari_ltl, ari_llt, ari_lt, ari_le, ari_lel, ari_lle, ari_0, ari_eq, ari_eql, ari_leq, ari_cl, Nat.not_lt_zero, Bool.false_eq_true, Option.toList_some, Option.toList_none, List.cons_append, List.nil_append, kv_rv, kc1_i, kc1_r, kc1_n, n10, n01, n1514, n1213, n1312, if_true, if_false, not_true_eq_false, not_false_eq_true, and_self, true_and, and_true, false_and, and_false, or_true, true_or, or_false, false_or, Nat.reduceLeDiff, Nat.reduceLT, Nat.reduceEqDiff, Nat.reduceAdd, e3, hu, s_149 js, s_166 js, r_149_24 js, (show ¬ (0 : Int32) < Int32.ofNat 0 by decide), (show Int32.ofNat 0 = 0 from rfl), (show Int32.ofNat 0 ≤ 0 by decide), (show (0 : Int32) ≤ 0 by decide), (show l < 8 by omega), (show l < 2147483648 by omega)]
  | m + 1, l, e => by
    have hu := hU l (by omega)
    by_cases c : unt t l = true
    · rw [if_pos c] at hu
      have hlt : cnt (unt t) l < cnt (unt t) L := cnt_lt_of (by omega) c
      have e4 : Int32.ofNat (q - cnt (unt t) l) - 1 = Int32.ofNat (q - cnt (unt t) (l + 1)) := by
        rw [ari_sl (n := 1) (by omega), cnt_s, c]
        congr 1
      conv => lhs; simp only [g_150_56, g_150_57, g_150_60, g_150_62, g_150_63, ari_aa, ari_al, ari_la, ari_mm, ari_ml, ari_lm, ari_ltl, ari_llt, ari_lt, ari_le, ari_lel, ari_lle, ari_0, ari_eq, ari_eql, ari_leq, ari_cl, Nat.not_lt_zero, Bool.false_eq_true, Option.toList_some, Option.toList_none, List.cons_append, List.nil_append, kv_rv, kc1_i, kc1_r, kc1_n, n10, n01, n1514, n1213, n1312, if_true, if_false, not_true_eq_false, not_false_eq_true, and_self, true_and, and_true, false_and, and_false, or_true, true_or, or_false, false_or, Nat.reduceLeDiff, Nat.reduceLT, Nat.reduceEqDiff, Nat.reduceAdd, hu, s_149 js, s_166 js, r_149_24 js, (show l < 8 by omega), (show l < 2147483648 by omega)]
      simp only [g_150_66, g_150_68, g_150_71, g_150_73, g_150_74, g_150_77, g_150_79, g_150_80, g_150_83, g_150_84, g_150_87, g_150_88, g_150_89, g_150_91, g_150_94, ari_aa, ari_al, ari_la, ari_mm, ari_ml, ari_lm, ari_ltl, ari_llt, ari_lt, ari_le, ari_lel, ari_lle, ari_0, ari_eq, ari_eql, ari_leq, ari_cl, Nat.not_lt_zero, Bool.false_eq_true, Option.toList_some, Option.toList_none, List.cons_append, List.nil_append, kv_rv, kc1_i, kc1_r, kc1_n, n10, n01, n1514, n1213, n1312, if_true, if_false, not_true_eq_false, not_false_eq_true, and_self, true_and, and_true, false_and, and_false, or_true, true_or, or_false, false_or, Nat.reduceLeDiff, Nat.reduceLT, Nat.reduceEqDiff, Nat.reduceAdd, hu, e4, s_149 js, s_166 js, r_149_24 js, (show l < 8 by omega), (show l < 2147483648 by omega), (show ¬ q - cnt (unt t) l ≤ 0 by omega), (show q - cnt (unt t) l < 721 by omega), (show q - cnt (unt t) l < 2147483648 by omega)]
      exact lo_in js hw hq hU hL hL1 hL2 m (l + 1) (by omega)
    · rw [if_neg c] at hu
      have e4 : Int32.ofNat (q - cnt (unt t) l) - 0 = Int32.ofNat (q - cnt (unt t) (l + 1)) := by
        rw [cnt_s, Bool.eq_false_iff.mpr c, Int32.sub_zero]
        rfl
      conv => lhs; simp only [g_150_56, g_150_57, g_150_60, g_150_62, g_150_63, ari_aa, ari_al, ari_la, ari_mm, ari_ml, ari_lm, ari_ltl, ari_llt, ari_lt, ari_le, ari_lel, ari_lle, ari_0, ari_eq, ari_eql, ari_leq, ari_cl, Nat.not_lt_zero, Bool.false_eq_true, Option.toList_some, Option.toList_none, List.cons_append, List.nil_append, kv_rv, kc1_i, kc1_r, kc1_n, n10, n01, n1514, n1213, n1312, if_true, if_false, not_true_eq_false, not_false_eq_true, and_self, true_and, and_true, false_and, and_false, or_true, true_or, or_false, false_or, Nat.reduceLeDiff, Nat.reduceLT, Nat.reduceEqDiff, Nat.reduceAdd, hu, s_149 js, s_166 js, r_149_24 js, (show l < 8 by omega), (show l < 2147483648 by omega)]
      simp only [g_150_71, g_150_73, g_150_74, g_150_77, g_150_79, g_150_80, g_150_83, g_150_84, g_150_87, g_150_88, g_150_89, g_150_91, g_150_94, ari_aa, ari_al, ari_la, ari_mm, ari_ml, ari_lm, ari_ltl, ari_llt, ari_lt, ari_le, ari_lel, ari_lle, ari_0, ari_eq, ari_eql, ari_leq, ari_cl, Nat.not_lt_zero, Bool.false_eq_true, Option.toList_some, Option.toList_none, List.cons_append, List.nil_append, kv_rv, kc1_i, kc1_r, kc1_n, n10, n01, n1514, n1213, n1312, if_true, if_false, not_true_eq_false, not_false_eq_true, and_self, true_and, and_true, false_and, and_false, or_true, true_or, or_false, false_or, Nat.reduceLeDiff, Nat.reduceLT, Nat.reduceEqDiff, Nat.reduceAdd, hu, e4, s_149 js, s_166 js, r_149_24 js, (show l < 8 by omega), (show l < 2147483648 by omega)]
      exact lo_in js hw hq hU hL hL1 hL2 m (l + 1) (by omega)
theorem lo_l2 (js : JS σ) {w : Nat} {o : Nat → Nat} {x : Int32} (hw : w ≤ 6) (H : ∀ τ, FR (fun b _ => b = 165 ∨ b = 166) σ τ → (∀ i, i < w → kv_i τ 165 i = Int32.ofNat (o i)) → Φ none τ) : ∀ m k, k + m = w → ∀ τ, FR (fun b _ => b = 165 ∨ b = 166) σ τ → ∀ t y, t < 64 → cnt (unt t) w = m → y < fac m → usd τ w t → (∀ i, i < k → kv_i τ 165 i = Int32.ofNat (o i)) → (∀ i, i < m → ol m t y i = o (k + i)) → ∀ v5 v6 v7 : Value, Wp (d + 1) 150 25 [.ref 149, .int (Int32.ofNat w), .int x, .int (Int32.ofNat y), .int (Int32.ofNat k), v5, v6, v7] [] τ Φ
  | 0, k, e, τ, fr, t, y, ht, hc, hy, hU, h1, h2, v5, v6, v7 => by
    have e2 : k = w := by omega
    subst e2
    simp only [g_150_25, g_150_27, g_150_28, g_150_120, ari_aa, ari_al, ari_la, ari_mm, ari_ml, ari_lm, ari_ltl, ari_llt, ari_lt, ari_le, ari_lel, ari_lle, ari_0, ari_eq, ari_eql, ari_leq, ari_cl, Nat.not_lt_zero, Bool.false_eq_true, Option.toList_some, Option.toList_none, List.cons_append, List.nil_append, kv_rv, kc1_i, kc1_r, kc1_n, n10, n01, n1514, n1213, n1312, if_true, if_false, not_true_eq_false, not_false_eq_true, and_self, true_and, and_true, false_and, and_false, or_true, true_or, or_false, false_or, Nat.reduceLeDiff, Nat.reduceLT, Nat.reduceEqDiff, Nat.reduceAdd, (show k < 7 by omega), (show k < 2147483648 by omega), (show k ≤ k by omega)]
    exact H τ fr h1
  | m + 1, k, e, τ, fr, t, y, ht, hc, hy, hU, h1, h2, v5, v6, v7 => by
    have js2 := fr.js js
    have hq : y / fac m < m + 1 := Nat.div_lt_of_lt_mul (by rw [Nat.mul_comm]; exact hy)
    obtain ⟨a, b, c⟩ := nu_spec (t := t) (q := y / fac m) (w := w) (by omega) (by omega)
    have hc2 := cnt_unt a b
    have f1 := (fac_k m (by omega)).2
    have f2 := (fac_k (m + 1) (by omega)).2
    have f0 := fac_pos m
    have e1 : Int32.ofNat w - 1 = Int32.ofNat (w - 1) := ari_sl (n := 1) (by omega)
    have e2 : Int32.ofNat (w - 1) - Int32.ofNat k = Int32.ofNat m := by rw [ari_ss (by omega), show w - 1 - k = m by omega]
    have e3 : Int32.ofNat y / Int32.ofNat (fac m) = Int32.ofNat (y / fac m) := ari_dd (by omega) (by omega)
    have l := lo_in (d := d + 1) (Φ := Φ) (x := x) (y := Int32.ofNat (y % fac m)) (k := Int32.ofNat k) (z := Int32.ofNat (fac m)) js2 hw (show y / fac m ≤ 720 by omega) hU a b c (nu t (y / fac m)) 0 (by omega)
    have o0 : nu t (y / fac m) = o k := h2 0 (by omega)
    rw [show y / fac m - cnt (unt t) 0 = y / fac m from Nat.sub_zero _] at l
    simp only [g_150_25, g_150_27, g_150_28, ari_aa, ari_al, ari_la, ari_mm, ari_ml, ari_lm, ari_ltl, ari_llt, ari_lt, ari_le, ari_lel, ari_lle, ari_0, ari_eq, ari_eql, ari_leq, ari_cl, Nat.not_lt_zero, Bool.false_eq_true, Option.toList_some, Option.toList_none, List.cons_append, List.nil_append, kv_rv, kc1_i, kc1_r, kc1_n, n10, n01, n1514, n1213, n1312, if_true, if_false, not_true_eq_false, not_false_eq_true, and_self, true_and, and_true, false_and, and_false, or_true, true_or, or_false, false_or, Nat.reduceLeDiff, Nat.reduceLT, Nat.reduceEqDiff, Nat.reduceAdd, (show k < 7 by omega), (show k < 2147483648 by omega), (show w < 7 by omega), (show w < 2147483648 by omega), (show ¬ w ≤ k by omega)]
    simp only [g_150_31, g_150_32, g_150_33, g_150_34, g_150_36, g_150_37, g_150_40, g_150_42, g_150_43, g_150_45, g_150_46, g_150_48, g_150_49, g_150_51, g_150_52, g_150_53, g_150_54, kv_w8_0, kv_w8_1, kv_w8_2, kv_w8_3, kv_w8_4, ari_aa, ari_al, ari_la, ari_mm, ari_ml, ari_lm, ari_ltl, ari_llt, ari_lt, ari_le, ari_lel, ari_lle, ari_0, ari_eq, ari_eql, ari_leq, ari_cl, Nat.not_lt_zero, Bool.false_eq_true, Option.toList_some, Option.toList_none, List.cons_append, List.nil_append, kv_rv, kc1_i, kc1_r, kc1_n, n10, n01, n1514, n1213, n1312, if_true, if_false, not_true_eq_false, not_false_eq_true, and_self, true_and, and_true, false_and, and_false, or_true, true_or, or_false, false_or, Nat.reduceLeDiff, Nat.reduceLT, Nat.reduceEqDiff, Nat.reduceAdd, e1, e2, m_ways (show m ≤ 6 by omega), e3, ari_rem, (show fac m < 721 by omega), (show fac m < 2147483648 by omega), (show ¬ fac m = 0 by omega)]
    refine Eq.mpr l ?_
    simp only [g_150_97, g_150_98, g_150_101, g_150_103, g_150_104, g_150_105, g_150_106, g_150_109, g_150_111, g_150_113, g_150_114, g_150_117, ari_aa, ari_al, ari_la, ari_mm, ari_ml, ari_lm, ari_ltl, ari_llt, ari_lt, ari_le, ari_lel, ari_lle, ari_0, ari_eq, ari_eql, ari_leq, ari_cl, Nat.not_lt_zero, Bool.false_eq_true, Option.toList_some, Option.toList_none, List.cons_append, List.nil_append, kv_rv, kc1_i, kc1_r, kc1_n, n10, n01, n1514, n1213, n1312, if_true, if_false, not_true_eq_false, not_false_eq_true, and_self, true_and, and_true, false_and, and_false, or_true, true_or, or_false, false_or, Nat.reduceLeDiff, Nat.reduceLT, Nat.reduceEqDiff, Nat.reduceAdd, sh_si, nar_01.2, r_si, s_149 js2, s_165 js2, r_149_23 js2, s_166 js2, r_149_24 js2, (show k < 8 by omega), (show k < 2147483648 by omega), (show nu t (y / fac m) < 8 by omega), (show nu t (y / fac m) < 2147483648 by omega)]
    refine lo_l2 js hw H m (k + 1) (by omega) _ ((fr.si (Or.inr rfl)).si (Or.inl rfl)) (t ||| 2 ^ nu t (y / fac m)) (y % fac m) (or_lt64 ht (by omega)) (by omega) (Nat.mod_lt _ f0) (fun r hr => ?_) (fun i hi => ?_) (fun i hi => ?_) _ _ _
    · rw [i_si, if_neg (by omega), i_si, unt_or]
      by_cases c5 : r = nu t (y / fac m)
      · rw [if_pos ⟨rfl, c5⟩, c5]; simp
      · rw [if_neg (fun q => c5 q.2), decide_eq_true c5, Bool.and_true]; exact hU r hr
    · rw [i_si]
      by_cases c5 : i = k
      · rw [if_pos ⟨rfl, c5⟩, c5, o0]
      · rw [if_neg (fun q => c5 q.2), i_si, if_neg (by omega)]; exact h1 i (by omega)
    · have := h2 (i + 1) (by omega)
      rw [show k + (i + 1) = k + 1 + i by omega] at this
      exact this
theorem m_layOrder (js : JS σ) {w x : Nat} (hw : w ≤ 6) (hx : x < fac w) (H : ∀ τ, FR (fun b _ => b = 165 ∨ b = 166) σ τ → (∀ i, i < w → kv_i τ 165 i = Int32.ofNat (ol w 0 x i)) → Φ none τ) : Wc (d + 1) 150 [.ref 149, .int (Int32.ofNat w), .int (Int32.ofNat x)] σ Φ := by
  simp only [c_150, g_150_0, g_150_1, Nat.not_lt_zero, Bool.false_eq_true, Option.toList_some, Option.toList_none, List.cons_append, List.nil_append, kv_rv, kc1_i, kc1_r, kc1_n, n10, n01, n1514, n1213, n1312, if_true, if_false, not_true_eq_false, not_false_eq_true, and_self, true_and, and_true, false_and, and_false, or_true, true_or, or_false, false_or, Nat.reduceLeDiff, Nat.reduceLT, Nat.reduceEqDiff, Nat.reduceAdd]
  refine lo_l1 js hw (fun τ fr hU v3 => ?_) w 0 (by omega) σ (FR.rf _ σ) (fun r hr => absurd hr (by omega))
  simp only [g_150_20, g_150_21, g_150_22, g_150_23, Nat.not_lt_zero, Bool.false_eq_true, Option.toList_some, Option.toList_none, List.cons_append, List.nil_append, kv_rv, kc1_i, kc1_r, kc1_n, n10, n01, n1514, n1213, n1312, if_true, if_false, not_true_eq_false, not_false_eq_true, and_self, true_and, and_true, false_and, and_false, or_true, true_or, or_false, false_or, Nat.reduceLeDiff, Nat.reduceLT, Nat.reduceEqDiff, Nat.reduceAdd]
  exact lo_l2 js hw H w 0 (by omega) τ (fr.mono (fun b k q => Or.inr q)) 0 x (by omega) (cnt_unt0 w) hx hU (fun i hi => absurd hi (by omega)) (fun i hi => by rw [Nat.zero_add]) _ _ _
end GJ

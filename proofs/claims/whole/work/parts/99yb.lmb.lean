/-! ===== least sums, the model: a sum is sorted and compared ===== -/
def Tk (tk : Nat → Nat) (k p : Nat) : Bool := anyN (fun i => decide (p = tk i)) k
theorem Tk_s (tk : Nat → Nat) (k : Nat) : Tk tk (k + 1) = fun p => Tk tk k p || decide (p = tk k) := rfl
theorem cnt_ins {T : Nat → Bool} {q n : Nat} (hq : q < n) (h : T q = false) : cnt (fun p => T p || decide (p = q)) n = cnt T n + 1 := by
  rw [cnt_del (B := fun p => T p || decide (p = q)) (y := q) (by simp) n hq]
  refine congrArg (· + 1) (cnt_congr n (fun r _ => ?_))
  by_cases c : r = q
  · rw [c, h]; simp
  · simp [c]
theorem cnt_in0 {T : Nat → Bool} {q n : Nat} (hq : n ≤ q) : cnt (fun p => T p || decide (p = q)) n = cnt T n := cnt_congr n (fun r hr => by rw [decide_eq_false (show ¬ r = q by omega), Bool.or_false])
section LB
variable {d : Nat} {σ : kv_S} {Φ : Option Value → kv_S → Prop} {P : Nat} {pn tk : Nat → Nat}
theorem so_in (js : JS σ) {f t : Int32} {n k : Nat} (hP : P ≤ 40) (hk : k < 40) (hpn : ∀ p, p < P → kv_i σ 155 p = Int32.ofNat (pn p) ∧ pn p < 243) (hmon : ∀ p q, p < q → q < P → pn p < pn q) (htk : kv_i σ 156 k = Int32.ofNat (tk k)) (htp : tk k < P) (hc : cnt (Tk tk k) P = k) (hd : Tk tk k (tk k) = false) (H : ∀ τ, FR (fun b _ => b = 158) σ τ → (∀ p, p < P → Tk tk k p = true → cnt (Tk tk k) p < cnt (Tk tk k) (tk k) → kv_i τ 158 (cnt (Tk tk k) p) = Int32.ofNat (pn p)) → (∀ p, p < P → Tk tk k p = true → cnt (Tk tk k) (tk k) ≤ cnt (Tk tk k) p → kv_i τ 158 (cnt (Tk tk k) p + 1) = Int32.ofNat (pn p)) → Wp d 141 91 [.ref 149, .int f, .int (Int32.ofNat n), .int t, .int (Int32.ofNat k), .int (Int32.ofNat (cnt (Tk tk k) (tk k)))] [] τ Φ) : ∀ m i, cnt (Tk tk k) (tk k) + m = i → i ≤ k → ∀ τ, FR (fun b _ => b = 158) σ τ → (∀ p, p < P → Tk tk k p = true → cnt (Tk tk k) p < i → kv_i τ 158 (cnt (Tk tk k) p) = Int32.ofNat (pn p)) → (∀ p, p < P → Tk tk k p = true → i ≤ cnt (Tk tk k) p → kv_i τ 158 (cnt (Tk tk k) p + 1) = Int32.ofNat (pn p)) → Wp d 141 40 [.ref 149, .int f, .int (Int32.ofNat n), .int t, .int (Int32.ofNat k), .int (Int32.ofNat i)] [] τ Φ
  | 0, i, e, hi, τ, fr, i1, i2 => by
    have js2 := fr.js js
    have e2 : i = cnt (Tk tk k) (tk k) := by omega
    by_cases c : i ≤ 0
    · simp only [g_141_40, g_141_42, ari_aa, ari_al, ari_la, ari_mm, ari_ml, ari_lm, ari_ltl, ari_llt, ari_lt, ari_le, ari_lel, ari_lle, ari_0, ari_eq, ari_eql, ari_leq, ari_cl, Nat.not_lt_zero, Bool.false_eq_true, Option.toList_some, Option.toList_none, List.cons_append, List.nil_append, kv_rv, kc1_i, kc1_r, kc1_n, n10, n01, n1514, n1213, n1312, if_true, if_false, not_true_eq_false, not_false_eq_true, and_self, true_and, and_true, false_and, and_false, or_true, true_or, or_false, false_or, Nat.reduceLeDiff, Nat.reduceLT, Nat.reduceEqDiff, Nat.reduceAdd, c, (show i < 41 by omega), (show i < 2147483648 by omega)]
      rw [e2]
      exact H τ fr (by rw [← e2]; exact i1) (by rw [← e2]; exact i2)
    · obtain ⟨p, q1, q2, q3⟩ := nth_ex (Tk tk k) P (i - 1) (by omega)
      have hlt : p < tk k := by
        refine Nat.lt_of_not_le fun hc2 => ?_
        have := cnt_mono (Tk tk k) hc2
        omega
      have hm := hmon p (tk k) hlt htp
      have b1 := (hpn p q1).2
      have b2 := (hpn (tk k) htp).2
      have z := i1 p q1 q2 (by omega)
      rw [q3] at z
      have e3 : Int32.ofNat i - 1 = Int32.ofNat (i - 1) := ari_sl (n := 1) (by omega)
      have t1 : kv_i τ 156 k = Int32.ofNat (tk k) := by rw [fr.i (by omega)]; exact htk
      have t2 : kv_i τ 155 (tk k) = Int32.ofNat (pn (tk k)) := by rw [fr.i (by omega)]; exact (hpn _ htp).1
      simp only [g_141_40, g_141_42, g_141_45, g_141_46, g_141_49, g_141_51, g_141_52, g_141_53, g_141_54, g_141_55, g_141_58, g_141_59, g_141_62, g_141_64, g_141_65, g_141_66, ari_aa, ari_al, ari_la, ari_mm, ari_ml, ari_lm, ari_ltl, ari_llt, ari_lt, ari_le, ari_lel, ari_lle, ari_0, ari_eq, ari_eql, ari_leq, ari_cl, Nat.not_lt_zero, Bool.false_eq_true, Option.toList_some, Option.toList_none, List.cons_append, List.nil_append, kv_rv, kc1_i, kc1_r, kc1_n, n10, n01, n1514, n1213, n1312, if_true, if_false, not_true_eq_false, not_false_eq_true, and_self, true_and, and_true, false_and, and_false, or_true, true_or, or_false, false_or, Nat.reduceLeDiff, Nat.reduceLT, Nat.reduceEqDiff, Nat.reduceAdd, c, e3, z, t1, t2, s_149 js2, s_155 js2, r_149_8 js2, s_156 js2, r_149_9 js2, s_158 js2, r_149_11 js2, (show i < 41 by omega), (show i < 2147483648 by omega), (show i - 1 < 40 by omega), (show i - 1 < 2147483648 by omega), (show k < 40 by omega), (show k < 2147483648 by omega), (show tk k < 6561 by omega), (show tk k < 2147483648 by omega), (show pn p < 243 by omega), (show pn p < 2147483648 by omega), (show pn (tk k) < 243 by omega), (show pn (tk k) < 2147483648 by omega), (show pn p ≤ pn (tk k) by omega)]
      rw [e2]
      exact H τ fr (by rw [← e2]; exact i1) (by rw [← e2]; exact i2)
  | m + 1, i, e, hi, τ, fr, i1, i2 => by
    have js2 := fr.js js
    obtain ⟨p, q1, q2, q3⟩ := nth_ex (Tk tk k) P (i - 1) (by omega)
    have hlt : tk k < p := by
      rcases Nat.lt_trichotomy p (tk k) with z | z | z
      · have := cnt_lt_of z q2; omega
      · rw [z, hd] at q2; cases q2
      · exact z
    have hm := hmon (tk k) p hlt q1
    have b1 := (hpn p q1).2
    have b2 := (hpn (tk k) htp).2
    have z := i1 p q1 q2 (by omega)
    rw [q3] at z
    have e3 : Int32.ofNat i - 1 = Int32.ofNat (i - 1) := ari_sl (n := 1) (by omega)
    have t1 : kv_i τ 156 k = Int32.ofNat (tk k) := by rw [fr.i (by omega)]; exact htk
    have t2 : kv_i τ 155 (tk k) = Int32.ofNat (pn (tk k)) := by rw [fr.i (by omega)]; exact (hpn _ htp).1
    simp only [g_141_40, g_141_42, g_141_45, g_141_46, g_141_49, g_141_51, g_141_52, g_141_53, g_141_54, g_141_55, g_141_58, g_141_59, g_141_62, g_141_64, g_141_65, g_141_66, ari_aa, ari_al, ari_la, ari_mm, ari_ml, ari_lm, ari_ltl, ari_llt, ari_lt, ari_le, ari_lel, ari_lle, ari_0, ari_eq, ari_eql, ari_leq, ari_cl, Nat.not_lt_zero, Bool.false_eq_true, Option.toList_some, Option.toList_none, List.cons_append, List.nil_append, kv_rv, kc1_i, kc1_r, kc1_n, n10, n01, n1514, n1213, n1312, if_true, if_false, not_true_eq_false, not_false_eq_true, and_self, true_and, and_true, false_and, and_false, or_true, true_or, or_false, false_or, Nat.reduceLeDiff, Nat.reduceLT, Nat.reduceEqDiff, Nat.reduceAdd, e3, z, t1, t2, s_149 js2, s_155 js2, r_149_8 js2, s_156 js2, r_149_9 js2, s_158 js2, r_149_11 js2, (show i < 41 by omega), (show i < 2147483648 by omega), (show ¬ i ≤ 0 by omega), (show i - 1 < 40 by omega), (show i - 1 < 2147483648 by omega), (show k < 40 by omega), (show k < 2147483648 by omega), (show tk k < 6561 by omega), (show tk k < 2147483648 by omega), (show pn p < 243 by omega), (show pn p < 2147483648 by omega), (show pn (tk k) < 243 by omega), (show pn (tk k) < 2147483648 by omega), (show ¬ pn p ≤ pn (tk k) by omega)]
    simp only [g_141_69, g_141_70, g_141_73, g_141_75, g_141_76, g_141_79, g_141_81, g_141_82, g_141_83, g_141_84, g_141_85, g_141_88, ari_aa, ari_al, ari_la, ari_mm, ari_ml, ari_lm, ari_ltl, ari_llt, ari_lt, ari_le, ari_lel, ari_lle, ari_0, ari_eq, ari_eql, ari_leq, ari_cl, Nat.not_lt_zero, Bool.false_eq_true, Option.toList_some, Option.toList_none, List.cons_append, List.nil_append, kv_rv, kc1_i, kc1_r, kc1_n, n10, n01, n1514, n1213, n1312, if_true, if_false, not_true_eq_false, not_false_eq_true, and_self, true_and, and_true, false_and, and_false, or_true, true_or, or_false, false_or, Nat.reduceLeDiff, Nat.reduceLT, Nat.reduceEqDiff, Nat.reduceAdd, e3, z, i32_m1, s_149 js2, s_158 js2, r_149_11 js2, (show i < 40 by omega), (show i < 2147483648 by omega), (show i - 1 < 40 by omega), (show i - 1 < 2147483648 by omega)]
    refine so_in js hP hk hpn hmon htk htp hc hd H m (i - 1) (by omega) (by omega) _ (fr.si rfl) (fun u u1 u2 u3 => ?_) (fun u u1 u2 u3 => ?_)
    · rw [i_si, if_neg (by omega)]; exact i1 u u1 u2 (by omega)
    · rw [i_si]
      by_cases y : cnt (Tk tk k) u = i - 1
      · have eu : u = p := by
          rcases Nat.lt_trichotomy u p with x | x | x
          · have := cnt_lt_of x u2; omega
          · exact x
          · have := cnt_lt_of x q2; omega
        rw [if_pos ⟨rfl, by omega⟩, eu]
      · rw [if_neg (by omega)]; exact i2 u u1 u2 (by omega)
/-- the first k of those taken, sorted -/
def SRT (pn tk : Nat → Nat) (P k : Nat) (τ : kv_S) : Prop := ∀ p, p < P → Tk tk k p = true → kv_i τ 158 (cnt (Tk tk k) p) = Int32.ofNat (pn p)
theorem so_out (js : JS σ) (h3 : J3 σ) {f w n : Nat} (hf : f < 16) (hw : w ≤ 5) (ew : kv_i σ 150 f = Int32.ofNat w) (hP : P ≤ 40) (hn : n ≤ 40) (hpn : ∀ p, p < P → kv_i σ 155 p = Int32.ofNat (pn p) ∧ pn p < 243) (hmon : ∀ p q, p < q → q < P → pn p < pn q) (htk : ∀ k, k < n → kv_i σ 156 k = Int32.ofNat (tk k) ∧ tk k < P ∧ Tk tk k (tk k) = false) (H : ∀ τ, FR (fun b _ => b = 158) σ τ → SRT pn tk P n τ → cnt (Tk tk n) P = n → ∀ v5 : Value, Wp (d + 2) 141 116 [.ref 149, .int (Int32.ofNat f), .int (Int32.ofNat n), .int (Int32.ofNat (PRs (fun p => tcf w (pn p)) P (Tk tk n))), .int (Int32.ofNat n), v5] [] τ Φ) : ∀ m k, k + m = n → ∀ τ, FR (fun b _ => b = 158) σ τ → SRT pn tk P k τ → cnt (Tk tk k) P = k → ∀ v5 : Value, Wp (d + 2) 141 5 [.ref 149, .int (Int32.ofNat f), .int (Int32.ofNat n), .int (Int32.ofNat (PRs (fun p => tcf w (pn p)) P (Tk tk k))), .int (Int32.ofNat k), v5] [] τ Φ
  | 0, k, e, τ, fr, hS, hc, v5 => by
    have e2 : k = n := by omega
    subst e2
    simp only [g_141_5, g_141_7, g_141_8, ari_aa, ari_al, ari_la, ari_mm, ari_ml, ari_lm, ari_ltl, ari_llt, ari_lt, ari_le, ari_lel, ari_lle, ari_0, ari_eq, ari_eql, ari_leq, ari_cl, Nat.not_lt_zero, Bool.false_eq_true, Option.toList_some, Option.toList_none, List.cons_append, List.nil_append, kv_rv, kc1_i, kc1_r, kc1_n, n10, n01, n1514, n1213, n1312, if_true, if_false, not_true_eq_false, not_false_eq_true, and_self, true_and, and_true, false_and, and_false, or_true, true_or, or_false, false_or, Nat.reduceLeDiff, Nat.reduceLT, Nat.reduceEqDiff, Nat.reduceAdd, (show k < 41 by omega), (show k < 2147483648 by omega), (show k ≤ k by omega)]
    exact H τ fr hS hc _
  | m + 1, k, e, τ, fr, hS, hc, v5 => by
    have js2 := fr.js js
    have h32 : J3 τ := h3.fr fr (fun b k q => by omega)
    obtain ⟨t1, t2, t3⟩ := htk k (by omega)
    obtain ⟨p1, p2⟩ := hpn _ t2
    have u1 : kv_i τ 156 k = Int32.ofNat (tk k) := by rw [fr.i (by omega)]; exact t1
    have u2 : kv_i τ 155 (tk k) = Int32.ofNat (pn (tk k)) := by rw [fr.i (by omega)]; exact p1
    have u3 : kv_i τ 150 f = Int32.ofNat w := by rw [fr.i (by omega)]; exact ew
    have ep : PRs (fun p => tcf w (pn p)) P (Tk tk k) + tcf w (pn (tk k)) = PRs (fun p => tcf w (pn p)) P (Tk tk (k + 1)) := (PRs_ins (pr := fun p => tcf w (pn p)) t2 t3).symm
    have hcl : cnt (Tk tk k) (tk k) ≤ k := by have := cnt_mono (Tk tk k) (Nat.le_of_lt t2); omega
    simp only [g_141_5, g_141_7, g_141_8, ari_aa, ari_al, ari_la, ari_mm, ari_ml, ari_lm, ari_ltl, ari_llt, ari_lt, ari_le, ari_lel, ari_lle, ari_0, ari_eq, ari_eql, ari_leq, ari_cl, Nat.not_lt_zero, Bool.false_eq_true, Option.toList_some, Option.toList_none, List.cons_append, List.nil_append, kv_rv, kc1_i, kc1_r, kc1_n, n10, n01, n1514, n1213, n1312, if_true, if_false, not_true_eq_false, not_false_eq_true, and_self, true_and, and_true, false_and, and_false, or_true, true_or, or_false, false_or, Nat.reduceLeDiff, Nat.reduceLT, Nat.reduceEqDiff, Nat.reduceAdd, (show k < 41 by omega), (show k < 2147483648 by omega), (show n < 41 by omega), (show n < 2147483648 by omega), (show ¬ n ≤ k by omega)]
    simp only [g_141_11, g_141_12, g_141_13, g_141_14, g_141_17, g_141_18, g_141_21, g_141_23, g_141_24, g_141_25, g_141_26, g_141_29, g_141_30, g_141_31, g_141_34, g_141_35, g_141_36, g_141_38, kv_w8_0, kv_w8_1, kv_w8_2, kv_w8_3, kv_w8_4, ari_aa, ari_al, ari_la, ari_mm, ari_ml, ari_lm, ari_ltl, ari_llt, ari_lt, ari_le, ari_lel, ari_lle, ari_0, ari_eq, ari_eql, ari_leq, ari_cl, Nat.not_lt_zero, Bool.false_eq_true, Option.toList_some, Option.toList_none, List.cons_append, List.nil_append, kv_rv, kc1_i, kc1_r, kc1_n, n10, n01, n1514, n1213, n1312, if_true, if_false, not_true_eq_false, not_false_eq_true, and_self, true_and, and_true, false_and, and_false, or_true, true_or, or_false, false_or, Nat.reduceLeDiff, Nat.reduceLT, Nat.reduceEqDiff, Nat.reduceAdd, u1, u2, u3, m_toldL js2 h32 (show pn (tk k) < 6561 by omega) (show w ≤ 6 by omega), ep, s_149 js2, s_150 js2, r_149_2 js2, s_155 js2, r_149_8 js2, s_156 js2, r_149_9 js2, (show k < 40 by omega), (show k < 2147483648 by omega), (show tk k < 6561 by omega), (show tk k < 2147483648 by omega), (show f < 16 by omega), (show f < 2147483648 by omega)]
    refine so_in (tk := tk) js2 hP (show k < 40 by omega) (fun p hp => ⟨by rw [fr.i (by omega)]; exact (hpn p hp).1, (hpn p hp).2⟩) hmon u1 t2 hc t3 (fun υ fr2 i1 i2 => ?_) (k - cnt (Tk tk k) (tk k)) k (by omega) (Nat.le_refl _) τ (FR.rf _ τ) (fun p hp hT _ => hS p hp hT) (fun p hp hT hle => ?_)
    · have js3 := fr2.js js2
      have w1 : kv_i υ 156 k = Int32.ofNat (tk k) := by rw [fr2.i (by omega)]; exact u1
      have w2 : kv_i υ 155 (tk k) = Int32.ofNat (pn (tk k)) := by rw [fr2.i (by omega)]; exact u2
      simp only [g_141_91, g_141_92, g_141_95, g_141_97, g_141_98, g_141_101, g_141_102, g_141_105, g_141_107, g_141_108, g_141_109, g_141_110, g_141_113, ari_aa, ari_al, ari_la, ari_mm, ari_ml, ari_lm, ari_ltl, ari_llt, ari_lt, ari_le, ari_lel, ari_lle, ari_0, ari_eq, ari_eql, ari_leq, ari_cl, Nat.not_lt_zero, Bool.false_eq_true, Option.toList_some, Option.toList_none, List.cons_append, List.nil_append, kv_rv, kc1_i, kc1_r, kc1_n, n10, n01, n1514, n1213, n1312, if_true, if_false, not_true_eq_false, not_false_eq_true, and_self, true_and, and_true, false_and, and_false, or_true, true_or, or_false, false_or, Nat.reduceLeDiff, Nat.reduceLT, Nat.reduceEqDiff, Nat.reduceAdd, w1, w2, s_149 js3, s_155 js3, r_149_8 js3, s_156 js3, r_149_9 js3, s_158 js3, r_149_11 js3, (show k < 40 by omega), (show k < 2147483648 by omega), (show tk k < 6561 by omega), (show tk k < 2147483648 by omega), (show cnt (Tk tk k) (tk k) < 40 by omega), (show cnt (Tk tk k) (tk k) < 2147483648 by omega)]
      refine so_out js h3 hf hw ew hP hn hpn hmon htk H m (k + 1) (by omega) _ ((fr.tr fr2).si rfl) (fun p hp hT => ?_) ?_ _
      · rw [Tk_s] at hT ⊢
        have hT : (Tk tk k p || decide (p = tk k)) = true := hT
        rw [i_si]
        rcases Nat.lt_trichotomy p (tk k) with z | z | z
        · rw [cnt_in0 (Nat.le_of_lt z)]
          rw [decide_eq_false (show ¬ p = tk k by omega), Bool.or_false] at hT
          have := cnt_lt_of z hT
          rw [if_neg (by omega)]
          exact i1 p hp hT this
        · subst z
          rw [cnt_in0 (Nat.le_refl _), if_pos ⟨rfl, rfl⟩]
        · rw [cnt_ins z t3]
          rw [decide_eq_false (show ¬ p = tk k by omega), Bool.or_false] at hT
          have := cnt_mono (Tk tk k) (Nat.le_of_lt z)
          rw [if_neg (by omega)]
          exact i2 p hp hT this
      · rw [Tk_s, cnt_ins t2 t3, hc]
    · have := cnt_lt_of hp hT
      omega
theorem cp_copy (js : JS σ) {f : Int32} {n : Nat} {L : Int32} {v4 : Int32} (hn : n ≤ 40) (H : ∀ τ, FR (fun b k => b = 160 ∨ b = 149 ∧ 15 ≤ k ∧ k ≤ 17) σ τ → kv_i τ 149 15 = 1 → kv_i τ 149 16 = Int32.ofNat n → kv_i τ 149 17 = L → (∀ i, i < n → kv_i τ 160 i = kv_i σ 158 i) → Φ none τ) : ∀ m k, k + m = n → ∀ τ, FR (fun b k => b = 160 ∨ b = 149 ∧ 15 ≤ k ∧ k ≤ 17) σ τ → kv_i τ 149 15 = 1 → kv_i τ 149 16 = Int32.ofNat n → kv_i τ 149 17 = L → (∀ i, i < k → kv_i τ 160 i = kv_i σ 158 i) → Wp d 141 263 [.ref 149, .int f, .int (Int32.ofNat n), .int L, .int v4, .int (Int32.ofNat k)] [] τ Φ
  | 0, k, e, τ, fr, h1, h2, h3, h4 => by
    have e2 : k = n := by omega
    subst e2
    simp only [g_141_263, g_141_265, g_141_266, g_141_289, ari_aa, ari_al, ari_la, ari_mm, ari_ml, ari_lm, ari_ltl, ari_llt, ari_lt, ari_le, ari_lel, ari_lle, ari_0, ari_eq, ari_eql, ari_leq, ari_cl, Nat.not_lt_zero, Bool.false_eq_true, Option.toList_some, Option.toList_none, List.cons_append, List.nil_append, kv_rv, kc1_i, kc1_r, kc1_n, n10, n01, n1514, n1213, n1312, if_true, if_false, not_true_eq_false, not_false_eq_true, and_self, true_and, and_true, false_and, and_false, or_true, true_or, or_false, false_or, Nat.reduceLeDiff, Nat.reduceLT, Nat.reduceEqDiff, Nat.reduceAdd, (show k < 41 by omega), (show k < 2147483648 by omega), (show k ≤ k by omega)]
    exact H τ fr h1 h2 h3 h4
  | m + 1, k, e, τ, fr, h1, h2, h3, h4 => by
    have js2 := fr.js js
    simp only [g_141_263, g_141_265, g_141_266, ari_aa, ari_al, ari_la, ari_mm, ari_ml, ari_lm, ari_ltl, ari_llt, ari_lt, ari_le, ari_lel, ari_lle, ari_0, ari_eq, ari_eql, ari_leq, ari_cl, Nat.not_lt_zero, Bool.false_eq_true, Option.toList_some, Option.toList_none, List.cons_append, List.nil_append, kv_rv, kc1_i, kc1_r, kc1_n, n10, n01, n1514, n1213, n1312, if_true, if_false, not_true_eq_false, not_false_eq_true, and_self, true_and, and_true, false_and, and_false, or_true, true_or, or_false, false_or, Nat.reduceLeDiff, Nat.reduceLT, Nat.reduceEqDiff, Nat.reduceAdd, (show k < 41 by omega), (show k < 2147483648 by omega), (show n < 41 by omega), (show n < 2147483648 by omega), (show ¬ n ≤ k by omega)]
    simp only [g_141_269, g_141_270, g_141_273, g_141_275, g_141_276, g_141_279, g_141_281, g_141_282, g_141_283, g_141_286, ari_aa, ari_al, ari_la, ari_mm, ari_ml, ari_lm, ari_ltl, ari_llt, ari_lt, ari_le, ari_lel, ari_lle, ari_0, ari_eq, ari_eql, ari_leq, ari_cl, Nat.not_lt_zero, Bool.false_eq_true, Option.toList_some, Option.toList_none, List.cons_append, List.nil_append, kv_rv, kc1_i, kc1_r, kc1_n, n10, n01, n1514, n1213, n1312, if_true, if_false, not_true_eq_false, not_false_eq_true, and_self, true_and, and_true, false_and, and_false, or_true, true_or, or_false, false_or, Nat.reduceLeDiff, Nat.reduceLT, Nat.reduceEqDiff, Nat.reduceAdd, s_149 js2, s_158 js2, r_149_11 js2, s_160 js2, r_149_18 js2, (show k < 40 by omega), (show k < 2147483648 by omega)]
    refine cp_copy js hn H m (k + 1) (by omega) _ (fr.si (Or.inl rfl)) (by rw [i_si, if_neg (by omega)]; exact h1) (by rw [i_si, if_neg (by omega)]; exact h2) (by rw [i_si, if_neg (by omega)]; exact h3) (fun i hi => ?_)
    rw [i_si]
    by_cases c : i = k
    · rw [if_pos ⟨rfl, c⟩, c, fr.i (by omega)]
    · rw [if_neg (fun q => c q.2)]; exact h4 i (by omega)
theorem cp_take (js : JS σ) {f : Int32} {n : Nat} {L : Int32} {v4 : Int32} {v5 : Value} (hn : n ≤ 40) (H : ∀ τ, FR (fun b k => b = 160 ∨ b = 149 ∧ 15 ≤ k ∧ k ≤ 17) σ τ → kv_i τ 149 15 = 1 → kv_i τ 149 16 = Int32.ofNat n → kv_i τ 149 17 = L → (∀ i, i < n → kv_i τ 160 i = kv_i σ 158 i) → Φ none τ) : Wp d 141 245 [.ref 149, .int f, .int (Int32.ofNat n), .int L, .int v4, v5] [] σ Φ := by
  simp only [g_141_245, g_141_246, g_141_247, g_141_250, g_141_251, g_141_252, g_141_255, g_141_256, g_141_257, g_141_260, g_141_261, Nat.not_lt_zero, Bool.false_eq_true, Option.toList_some, Option.toList_none, List.cons_append, List.nil_append, kv_rv, kc1_i, kc1_r, kc1_n, n10, n01, n1514, n1213, n1312, if_true, if_false, not_true_eq_false, not_false_eq_true, and_self, true_and, and_true, false_and, and_false, or_true, true_or, or_false, false_or, Nat.reduceLeDiff, Nat.reduceLT, Nat.reduceEqDiff, Nat.reduceAdd, sh_si, s_149 js]
  refine cp_copy js hn H n 0 (by omega) _ ((((FR.rf _ σ).si (Or.inr ⟨rfl, by omega⟩)).si (Or.inr ⟨rfl, by omega⟩)).si (Or.inr ⟨rfl, by omega⟩)) ?_ ?_ ?_ (fun i hi => absurd hi (by omega))
  · rw [i_si, if_neg (by omega), i_si, if_neg (by omega), i_si, if_pos ⟨rfl, rfl⟩]
  · rw [i_si, if_neg (by omega), i_si, if_pos ⟨rfl, rfl⟩]
  · rw [i_si, if_pos ⟨rfl, rfl⟩]
theorem cp_lex (js : JS σ) {f L v4 : Int32} {n : Nat} {a b : Nat → Nat} (hn : n ≤ 40) (ha : ∀ i, i < n → kv_i σ 158 i = Int32.ofNat (a i) ∧ a i < 243) (hb : ∀ i, i < n → kv_i σ 160 i = Int32.ofNat (b i) ∧ b i < 243) (H : ∀ k, k ≤ n → (∀ i, i < k → a i = b i) → (k < n → a k ≠ b k) → Wp d 141 209 [.ref 149, .int f, .int (Int32.ofNat n), .int L, .int v4, .int (Int32.ofNat k)] [] σ Φ) : ∀ m k, k + m = n → (∀ i, i < k → a i = b i) → Wp d 141 180 [.ref 149, .int f, .int (Int32.ofNat n), .int L, .int v4, .int (Int32.ofNat k)] [] σ Φ
  | 0, k, e, hI => by
    have e2 : k = n := by omega
    subst e2
    simp only [g_141_180, g_141_182, g_141_183, ari_aa, ari_al, ari_la, ari_mm, ari_ml, ari_lm, ari_ltl, ari_llt, ari_lt, ari_le, ari_lel, ari_lle, ari_0, ari_eq, ari_eql, ari_leq, ari_cl, Nat.not_lt_zero, Bool.false_eq_true, Option.toList_some, Option.toList_none, List.cons_append, List.nil_append, kv_rv, kc1_i, kc1_r, kc1_n, n10, n01, n1514, n1213, n1312, if_true, if_false, not_true_eq_false, not_false_eq_true, and_self, true_and, and_true, false_and, and_false, or_true, true_or, or_false, false_or, Nat.reduceLeDiff, Nat.reduceLT, Nat.reduceEqDiff, Nat.reduceAdd, (show k < 41 by omega), (show k < 2147483648 by omega), (show k ≤ k by omega)]
    exact H k (Nat.le_refl _) hI (fun h => absurd h (Nat.lt_irrefl _))
  | m + 1, k, e, hI => by
    obtain ⟨a1, a2⟩ := ha k (by omega)
    obtain ⟨b1, b2⟩ := hb k (by omega)
    simp only [g_141_180, g_141_182, g_141_183, ari_aa, ari_al, ari_la, ari_mm, ari_ml, ari_lm, ari_ltl, ari_llt, ari_lt, ari_le, ari_lel, ari_lle, ari_0, ari_eq, ari_eql, ari_leq, ari_cl, Nat.not_lt_zero, Bool.false_eq_true, Option.toList_some, Option.toList_none, List.cons_append, List.nil_append, kv_rv, kc1_i, kc1_r, kc1_n, n10, n01, n1514, n1213, n1312, if_true, if_false, not_true_eq_false, not_false_eq_true, and_self, true_and, and_true, false_and, and_false, or_true, true_or, or_false, false_or, Nat.reduceLeDiff, Nat.reduceLT, Nat.reduceEqDiff, Nat.reduceAdd, (show k < 41 by omega), (show k < 2147483648 by omega), (show n < 41 by omega), (show n < 2147483648 by omega), (show ¬ n ≤ k by omega)]
    by_cases c : a k = b k
    · simp only [g_141_186, g_141_187, g_141_190, g_141_192, g_141_193, g_141_194, g_141_197, g_141_199, g_141_200, g_141_203, g_141_206, ari_aa, ari_al, ari_la, ari_mm, ari_ml, ari_lm, ari_ltl, ari_llt, ari_lt, ari_le, ari_lel, ari_lle, ari_0, ari_eq, ari_eql, ari_leq, ari_cl, Nat.not_lt_zero, Bool.false_eq_true, Option.toList_some, Option.toList_none, List.cons_append, List.nil_append, kv_rv, kc1_i, kc1_r, kc1_n, n10, n01, n1514, n1213, n1312, if_true, if_false, not_true_eq_false, not_false_eq_true, and_self, true_and, and_true, false_and, and_false, or_true, true_or, or_false, false_or, Nat.reduceLeDiff, Nat.reduceLT, Nat.reduceEqDiff, Nat.reduceAdd, a1, b1, c, s_149 js, s_158 js, r_149_11 js, s_160 js, r_149_18 js, (show k < 40 by omega), (show k < 2147483648 by omega), (show a k < 243 by omega), (show a k < 2147483648 by omega), (show b k < 243 by omega), (show b k < 2147483648 by omega)]
      refine cp_lex js hn ha hb H m (k + 1) (by omega) (fun i hi => ?_)
      by_cases z : i = k
      · rw [z]; exact c
      · exact hI i (by omega)
    · simp only [g_141_186, g_141_187, g_141_190, g_141_192, g_141_193, g_141_194, g_141_197, g_141_199, g_141_200, ari_aa, ari_al, ari_la, ari_mm, ari_ml, ari_lm, ari_ltl, ari_llt, ari_lt, ari_le, ari_lel, ari_lle, ari_0, ari_eq, ari_eql, ari_leq, ari_cl, Nat.not_lt_zero, Bool.false_eq_true, Option.toList_some, Option.toList_none, List.cons_append, List.nil_append, kv_rv, kc1_i, kc1_r, kc1_n, n10, n01, n1514, n1213, n1312, if_true, if_false, not_true_eq_false, not_false_eq_true, and_self, true_and, and_true, false_and, and_false, or_true, true_or, or_false, false_or, Nat.reduceLeDiff, Nat.reduceLT, Nat.reduceEqDiff, Nat.reduceAdd, a1, b1, c, s_149 js, s_158 js, r_149_11 js, s_160 js, r_149_18 js, (show k < 40 by omega), (show k < 2147483648 by omega), (show a k < 243 by omega), (show a k < 2147483648 by omega), (show b k < 243 by omega), (show b k < 2147483648 by omega)]
      exact H k (by omega) hI (fun _ => c)
end LB

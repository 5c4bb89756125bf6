/-- the first i letters left out besides make no product that fits -/
def prI (B : Nat → Bool) (n p k : Nat) : Bool := FIT B n p && !anyN (fun k => !(dgf p k == 2) && FIT B n (p + (2 - dgf p k) * 3 ^ k)) k
theorem prI_s (B : Nat → Bool) (n p k : Nat) : prI B n p (k + 1) = (prI B n p k && !(!(dgf p k == 2) && FIT B n (p + (2 - dgf p k) * 3 ^ k))) := by
  unfold prI
  show (_ && !(anyN _ k || _)) = _
  cases FIT B n p <;> cases anyN (fun k => !(dgf p k == 2) && FIT B n (p + (2 - dgf p k) * 3 ^ k)) k <;> simp
theorem prI_f {B : Nat → Bool} {n p : Nat} : ∀ m k, prI B n p k = false → prI B n p (k + m) = false
  | 0, k, h => h
  | m + 1, k, h => by
    show prI B n p (k + m + 1) = false
    rw [prI_s, prI_f m k h]; rfl
/-- what is known in the second loop -/
def fqI (σ0 : kv_S) (B : Nat → Bool) (n p : Nat) (τ : kv_S) : Prop := FR (fun b i => b = 155 ∨ b = 149 ∧ i = 7) σ0 τ ∧ kv_i τ 149 7 = Int32.ofNat (cnt (PRM B n) p) ∧ ∀ q, q < p → PRM B n q = true → kv_i τ 155 (cnt (PRM B n) q) = Int32.ofNat q
section FQ
variable {d : Nat} {Φ : Option Value → kv_S → Prop}
theorem fq_in {τ : kv_S} (js : JS τ) (h3 : J3 τ) {B : Nat → Bool} {f n p a : Nat} (hn : n ≤ 8) (hp : p < 3 ^ n) (hm : ∀ q, q < 3 ^ n → kv_i τ 154 q = bI (FIT B n q)) (H : ∀ x v7, Wp (d + 1) 136 275 [.ref 149, .int (Int32.ofNat f), .int (Int32.ofNat n), .int (Int32.ofNat a), .int (Int32.ofNat p), .int (bI (PRM B n p)), .int x, v7] [] τ Φ) : ∀ m k, k + m = n → ∀ v7 : Value, Wp (d + 1) 136 212 [.ref 149, .int (Int32.ofNat f), .int (Int32.ofNat n), .int (Int32.ofNat a), .int (Int32.ofNat p), .int (bI (prI B n p k)), .int (Int32.ofNat k), v7] [] τ Φ
  | 0, k, e, v7 => by
    have e2 : k = n := by omega
    subst e2
    simp only [g_136_212, g_136_214, g_136_215, ari_aa, ari_al, ari_la, ari_mm, ari_ml, ari_lm, ari_ltl, ari_llt, ari_lt, ari_le, ari_lel, ari_lle, ari_0, ari_eq, ari_eql, ari_leq, ari_cl, Nat.not_lt_zero, Bool.false_eq_true, Option.toList_some, Option.toList_none, List.cons_append, List.nil_append, kv_rv, kc1_i, kc1_r, kc1_n, n10, n01, n1514, n1213, n1312, if_true, if_false, not_true_eq_false, not_false_eq_true, and_self, true_and, and_true, false_and, and_false, or_true, true_or, or_false, false_or, Nat.reduceLeDiff, Nat.reduceLT, Nat.reduceEqDiff, Nat.reduceAdd, (show k < 9 by omega), (show k < 2147483648 by omega), (show k ≤ k by omega)]
    exact H _ _
  | m + 1, k, e, v7 => by
    have h8 := p3_8 n hn
    have hd : dgf p k < 3 := Nat.mod_lt _ (by decide)
    cases hc : prI B n p k with
    | false =>
      have hf := prI_f (m + 1) k hc
      rw [e] at hf
      have := H (Int32.ofNat k) v7
      have e3 : PRM B n p = false := hf
      rw [e3] at this
      simp only [g_136_212, g_136_214, g_136_215, g_136_218, g_136_220, ari_aa, ari_al, ari_la, ari_mm, ari_ml, ari_lm, ari_ltl, ari_llt, ari_lt, ari_le, ari_lel, ari_lle, ari_0, ari_eq, ari_eql, ari_leq, ari_cl, Nat.not_lt_zero, Bool.false_eq_true, Option.toList_some, Option.toList_none, List.cons_append, List.nil_append, kv_rv, kc1_i, kc1_r, kc1_n, n10, n01, n1514, n1213, n1312, if_true, if_false, not_true_eq_false, not_false_eq_true, and_self, true_and, and_true, false_and, and_false, or_true, true_or, or_false, false_or, Nat.reduceLeDiff, Nat.reduceLT, Nat.reduceEqDiff, Nat.reduceAdd, bI, (show k < 9 by omega), (show k < 2147483648 by omega), (show n < 9 by omega), (show n < 2147483648 by omega), (show ¬ n ≤ k by omega)]
      exact this
    | true =>
      have ih := fun v => fq_in js h3 hn hp hm H m (k + 1) (by omega) v
      rw [prI_s, hc, Bool.true_and] at ih
      simp only [g_136_212, g_136_214, g_136_215, g_136_218, g_136_220, ari_aa, ari_al, ari_la, ari_mm, ari_ml, ari_lm, ari_ltl, ari_llt, ari_lt, ari_le, ari_lel, ari_lle, ari_0, ari_eq, ari_eql, ari_leq, ari_cl, Nat.not_lt_zero, Bool.false_eq_true, Option.toList_some, Option.toList_none, List.cons_append, List.nil_append, kv_rv, kc1_i, kc1_r, kc1_n, n10, n01, n1514, n1213, n1312, if_true, if_false, not_true_eq_false, not_false_eq_true, and_self, true_and, and_true, false_and, and_false, or_true, true_or, or_false, false_or, Nat.reduceLeDiff, Nat.reduceLT, Nat.reduceEqDiff, Nat.reduceAdd, bI, (show k < 9 by omega), (show k < 2147483648 by omega), (show n < 9 by omega), (show n < 2147483648 by omega), (show ¬ n ≤ k by omega)]
      by_cases c : dgf p k = 2
      · rw [c] at ih
        simp only [g_136_223, g_136_224, g_136_226, g_136_228, g_136_231, g_136_233, g_136_235, g_136_236, g_136_239, g_136_240, g_136_243, g_136_245, g_136_246, g_136_248, g_136_249, g_136_250, g_136_253, g_136_255, g_136_256, g_136_257, g_136_258, g_136_259, g_136_262, g_136_263, g_136_266, g_136_267, g_136_269, g_136_272, kv_w8_0, kv_w8_1, kv_w8_2, kv_w8_3, kv_w8_4, ari_aa, ari_al, ari_la, ari_mm, ari_ml, ari_lm, ari_ltl, ari_llt, ari_lt, ari_le, ari_lel, ari_lle, ari_0, ari_eq, ari_eql, ari_leq, ari_cl, Nat.not_lt_zero, Bool.false_eq_true, Option.toList_some, Option.toList_none, List.cons_append, List.nil_append, kv_rv, kc1_i, kc1_r, kc1_n, n10, n01, n1514, n1213, n1312, if_true, if_false, not_true_eq_false, not_false_eq_true, and_self, true_and, and_true, false_and, and_false, or_true, true_or, or_false, false_or, Nat.reduceLeDiff, Nat.reduceLT, Nat.reduceEqDiff, Nat.reduceAdd, s_149 js, m_digit js h3 (show p < 6561 by omega) (show k ≤ 8 by omega), c]
        exact ih _
      · have hlt := dgf_add_lt (p := p) (k := k) (n := n) (by omega) hp
        rw [beq_eq_false_iff_ne.mpr c, Bool.not_false, Bool.true_and] at ih
        have m1 := hm _ hlt
        have t3 := h3 k (by omega)
        have pk := p3_8 k (by omega)
        cases f1 : FIT B n (p + (2 - dgf p k) * 3 ^ k) with
        | false =>
          rw [f1] at m1 ih
          simp only [g_136_223, g_136_224, g_136_226, g_136_228, g_136_231, g_136_233, g_136_235, g_136_236, g_136_239, g_136_240, g_136_243, g_136_245, g_136_246, g_136_248, g_136_249, g_136_250, g_136_253, g_136_255, g_136_256, g_136_257, g_136_258, g_136_259, g_136_262, g_136_263, g_136_266, g_136_267, g_136_269, g_136_272, kv_w8_0, kv_w8_1, kv_w8_2, kv_w8_3, kv_w8_4, ari_aa, ari_al, ari_la, ari_mm, ari_ml, ari_lm, ari_ltl, ari_llt, ari_lt, ari_le, ari_lel, ari_lle, ari_0, ari_eq, ari_eql, ari_leq, ari_cl, Nat.not_lt_zero, Bool.false_eq_true, Option.toList_some, Option.toList_none, List.cons_append, List.nil_append, kv_rv, kc1_i, kc1_r, kc1_n, n10, n01, n1514, n1213, n1312, if_true, if_false, not_true_eq_false, not_false_eq_true, and_self, true_and, and_true, false_and, and_false, or_true, true_or, or_false, false_or, Nat.reduceLeDiff, Nat.reduceLT, Nat.reduceEqDiff, Nat.reduceAdd, ari_ls, bI, s_149 js, s_153 js, r_149_5 js, s_154 js, r_149_6 js, m_digit js h3 (show p < 6561 by omega) (show k ≤ 8 by omega), c, t3, m1, (show k < 9 by omega), (show k < 2147483648 by omega), (show dgf p k < 3 by omega), (show dgf p k < 2147483648 by omega), (show dgf p k ≤ 2 by omega), (show p + (2 - dgf p k) * 3 ^ k < 6561 by omega), (show p + (2 - dgf p k) * 3 ^ k < 2147483648 by omega)]
          exact ih _
        | true =>
          rw [f1] at m1 ih
          simp only [g_136_223, g_136_224, g_136_226, g_136_228, g_136_231, g_136_233, g_136_235, g_136_236, g_136_239, g_136_240, g_136_243, g_136_245, g_136_246, g_136_248, g_136_249, g_136_250, g_136_253, g_136_255, g_136_256, g_136_257, g_136_258, g_136_259, g_136_262, g_136_263, g_136_266, g_136_267, g_136_269, g_136_272, kv_w8_0, kv_w8_1, kv_w8_2, kv_w8_3, kv_w8_4, ari_aa, ari_al, ari_la, ari_mm, ari_ml, ari_lm, ari_ltl, ari_llt, ari_lt, ari_le, ari_lel, ari_lle, ari_0, ari_eq, ari_eql, ari_leq, ari_cl, Nat.not_lt_zero, Bool.false_eq_true, Option.toList_some, Option.toList_none, List.cons_append, List.nil_append, kv_rv, kc1_i, kc1_r, kc1_n, n10, n01, n1514, n1213, n1312, if_true, if_false, not_true_eq_false, not_false_eq_true, and_self, true_and, and_true, false_and, and_false, or_true, true_or, or_false, false_or, Nat.reduceLeDiff, Nat.reduceLT, Nat.reduceEqDiff, Nat.reduceAdd, ari_ls, bI, s_149 js, s_153 js, r_149_5 js, s_154 js, r_149_6 js, m_digit js h3 (show p < 6561 by omega) (show k ≤ 8 by omega), c, t3, m1, (show k < 9 by omega), (show k < 2147483648 by omega), (show dgf p k < 3 by omega), (show dgf p k < 2147483648 by omega), (show dgf p k ≤ 2 by omega), (show p + (2 - dgf p k) * 3 ^ k < 6561 by omega), (show p + (2 - dgf p k) * 3 ^ k < 2147483648 by omega)]
          exact ih _
theorem fq_l2 {σ0 : kv_S} (js0 : JS σ0) (h3 : J3 σ0) {B : Nat → Bool} {f n : Nat} (hn : n ≤ 8) (hm : ∀ q, q < 3 ^ n → kv_i σ0 154 q = bI (FIT B n q)) (H : ∀ τ, fqI σ0 B n (3 ^ n) τ → Φ none τ) : ∀ m p, p + m = 3 ^ n → ∀ τ, fqI σ0 B n p τ → ∀ v5 v6 v7 : Value, Wp (d + 2) 136 194 [.ref 149, .int (Int32.ofNat f), .int (Int32.ofNat n), .int (Int32.ofNat (3 ^ n)), .int (Int32.ofNat p), v5, v6, v7] [] τ Φ
  | 0, p, e, τ, hI, v5, v6, v7 => by
    have h8 := p3_8 n hn
    have e2 : p = 3 ^ n := by omega
    subst e2
    simp only [g_136_194, g_136_196, g_136_197, g_136_310, ari_aa, ari_al, ari_la, ari_mm, ari_ml, ari_lm, ari_ltl, ari_llt, ari_lt, ari_le, ari_lel, ari_lle, ari_0, ari_eq, ari_eql, ari_leq, ari_cl, Nat.not_lt_zero, Bool.false_eq_true, Option.toList_some, Option.toList_none, List.cons_append, List.nil_append, kv_rv, kc1_i, kc1_r, kc1_n, n10, n01, n1514, n1213, n1312, if_true, if_false, not_true_eq_false, not_false_eq_true, and_self, true_and, and_true, false_and, and_false, or_true, true_or, or_false, false_or, Nat.reduceLeDiff, Nat.reduceLT, Nat.reduceEqDiff, Nat.reduceAdd, (show 3 ^ n < 6562 by omega), (show 3 ^ n < 2147483648 by omega), (show 3 ^ n ≤ 3 ^ n by omega)]
    exact H τ hI
  | m + 1, p, e, τ, hI, v5, v6, v7 => by
    have h8 := p3_8 n hn
    have fr := hI.1
    have js := fr.js js0
    have h3' : J3 τ := h3.fr fr (fun b j q => by omega)
    have hm' : ∀ q, q < 3 ^ n → kv_i τ 154 q = bI (FIT B n q) := fun q hq => by rw [fr.i (by omega)]; exact hm q hq
    have m0 := hm' p (by omega)
    have e0 : bI (FIT B n p) = bI (prI B n p 0) := by unfold prI; show _ = bI (_ && !false); rw [Bool.not_false, Bool.and_true]
    rw [e0] at m0
    simp only [g_136_194, g_136_196, g_136_197, ari_aa, ari_al, ari_la, ari_mm, ari_ml, ari_lm, ari_ltl, ari_llt, ari_lt, ari_le, ari_lel, ari_lle, ari_0, ari_eq, ari_eql, ari_leq, ari_cl, Nat.not_lt_zero, Bool.false_eq_true, Option.toList_some, Option.toList_none, List.cons_append, List.nil_append, kv_rv, kc1_i, kc1_r, kc1_n, n10, n01, n1514, n1213, n1312, if_true, if_false, not_true_eq_false, not_false_eq_true, and_self, true_and, and_true, false_and, and_false, or_true, true_or, or_false, false_or, Nat.reduceLeDiff, Nat.reduceLT, Nat.reduceEqDiff, Nat.reduceAdd, (show p < 6562 by omega), (show p < 2147483648 by omega), (show 3 ^ n < 6562 by omega), (show 3 ^ n < 2147483648 by omega), (show ¬ 3 ^ n ≤ p by omega)]
    simp only [g_136_200, g_136_201, g_136_204, g_136_206, g_136_207, g_136_209, g_136_210, ari_aa, ari_al, ari_la, ari_mm, ari_ml, ari_lm, ari_ltl, ari_llt, ari_lt, ari_le, ari_lel, ari_lle, ari_0, ari_eq, ari_eql, ari_leq, ari_cl, Nat.not_lt_zero, Bool.false_eq_true, Option.toList_some, Option.toList_none, List.cons_append, List.nil_append, kv_rv, kc1_i, kc1_r, kc1_n, n10, n01, n1514, n1213, n1312, if_true, if_false, not_true_eq_false, not_false_eq_true, and_self, true_and, and_true, false_and, and_false, or_true, true_or, or_false, false_or, Nat.reduceLeDiff, Nat.reduceLT, Nat.reduceEqDiff, Nat.reduceAdd, s_149 js, s_154 js, r_149_6 js, m0, (show p < 6561 by omega), (show p < 2147483648 by omega)]
    refine fq_in js h3' hn (by omega) hm' (fun x v7 => ?_) n 0 (by omega) _
    have hc := cnt_le (PRM B n) p
    cases hP : PRM B n p with
    | false =>
      simp only [g_136_275, g_136_277, g_136_280, g_136_304, g_136_307, ari_aa, ari_al, ari_la, ari_mm, ari_ml, ari_lm, ari_ltl, ari_llt, ari_lt, ari_le, ari_lel, ari_lle, ari_0, ari_eq, ari_eql, ari_leq, ari_cl, Nat.not_lt_zero, Bool.false_eq_true, Option.toList_some, Option.toList_none, List.cons_append, List.nil_append, kv_rv, kc1_i, kc1_r, kc1_n, n10, n01, n1514, n1213, n1312, if_true, if_false, not_true_eq_false, not_false_eq_true, and_self, true_and, and_true, false_and, and_false, or_true, true_or, or_false, false_or, Nat.reduceLeDiff, Nat.reduceLT, Nat.reduceEqDiff, Nat.reduceAdd, bI]
      refine fq_l2 js0 h3 hn hm H m (p + 1) (by omega) τ ⟨fr, ?_, fun q hq hq2 => ?_⟩ _ _ _
      · show _ = Int32.ofNat (cnt (PRM B n) p + (PRM B n p).toNat)
        rw [hP]; exact hI.2.1
      · have : q ≠ p := fun e => by rw [e, hP] at hq2; cases hq2
        exact hI.2.2 q (by omega) hq2
    | true =>
      simp only [g_136_275, g_136_277, g_136_280, g_136_283, g_136_284, g_136_287, g_136_288, g_136_291, g_136_293, g_136_294, g_136_295, g_136_295r, g_136_296, g_136_299, g_136_300, g_136_301, g_136_304, g_136_307, n_si, n_sl, n_sr, n_mk, sh_si, sh_sl, sh_sr, sh_mk, i_si, i_sl, i_sr, i_mk, l_si, l_sl, l_sr, l_mk, r_si, r_sl, r_sr, r_mk, ari_aa, ari_al, ari_la, ari_mm, ari_ml, ari_lm, ari_ltl, ari_llt, ari_lt, ari_le, ari_lel, ari_lle, ari_0, ari_eq, ari_eql, ari_leq, ari_cl, Nat.not_lt_zero, Bool.false_eq_true, Option.toList_some, Option.toList_none, List.cons_append, List.nil_append, kv_rv, kc1_i, kc1_r, kc1_n, n10, n01, n1514, n1213, n1312, if_true, if_false, not_true_eq_false, not_false_eq_true, and_self, true_and, and_true, false_and, and_false, or_true, true_or, or_false, false_or, Nat.reduceLeDiff, Nat.reduceLT, Nat.reduceEqDiff, Nat.reduceAdd, bI, s_149 js, s_155 js, r_149_8 js, hI.2.1, (show ¬ (149 = 155) by decide), (show cnt (PRM B n) p < 6561 by omega), (show cnt (PRM B n) p < 2147483648 by omega)]
      refine fq_l2 js0 h3 hn hm H m (p + 1) (by omega) _ ⟨(fr.si (Or.inl rfl)).si (Or.inr ⟨rfl, rfl⟩), ?_, fun q hq hq2 => ?_⟩ _ _ _
      · rw [eq_ess ⟨rfl, rfl⟩]
        show _ = Int32.ofNat (cnt (PRM B n) p + (PRM B n p).toNat)
        rw [hP]; rfl
      · rw [ne_ess (by omega)]
        by_cases c : q = p
        · rw [c, eq_ess ⟨rfl, rfl⟩]
        · have hlt : cnt (PRM B n) q < cnt (PRM B n) p := by
            have e1 := cnt_add (PRM B n) (q + 1) (p - (q + 1))
            rw [show q + 1 + (p - (q + 1)) = p by omega] at e1
            have e2 : cnt (PRM B n) (q + 1) = cnt (PRM B n) q + (PRM B n q).toNat := rfl
            rw [hq2] at e2
            rw [show true.toNat = 1 from rfl] at e2
            omega
          rw [ne_ess (by omega)]; exact hI.2.2 q (by omega) hq2
/-- what the model finds -/
def mPr (σ0 : kv_S) (f n : Nat) (τ : kv_S) : Prop := FR (fun b i => b = 154 ∨ b = 155 ∨ b = 149 ∧ i = 7) σ0 τ ∧ kv_i τ 149 7 = Int32.ofNat (cnt (PRM (mB σ0 f) n) (3 ^ n)) ∧ ∀ q, q < 3 ^ n → PRM (mB σ0 f) n q = true → kv_i τ 155 (cnt (PRM (mB σ0 f) n) q) = Int32.ofNat q
theorem m_findPrimes {σ : kv_S} (js : JS σ) (h3 : J3 σ) {f n : Nat} (hf : f < 16) (hj : JF1' σ f n) (H : ∀ τ, mPr σ f n τ → Φ none τ) : Wc (d + 2) 136 [.ref 149, .int (Int32.ofNat f)] σ Φ := by
  have t3 := h3 n (by have := hj.2.1; omega)
  have hn8 := hj.2.1
  simp only [c_136, g_136_0, g_136_1, g_136_4, g_136_5, g_136_6, g_136_7, g_136_8, g_136_11, g_136_12, g_136_13, g_136_14, g_136_15, ari_aa, ari_al, ari_la, ari_mm, ari_ml, ari_lm, ari_ltl, ari_llt, ari_lt, ari_le, ari_lel, ari_lle, ari_0, ari_eq, ari_eql, ari_leq, ari_cl, Nat.not_lt_zero, Bool.false_eq_true, Option.toList_some, Option.toList_none, List.cons_append, List.nil_append, kv_rv, kc1_i, kc1_r, kc1_n, n10, n01, n1514, n1213, n1312, if_true, if_false, not_true_eq_false, not_false_eq_true, and_self, true_and, and_true, false_and, and_false, or_true, true_or, or_false, false_or, Nat.reduceLeDiff, Nat.reduceLT, Nat.reduceEqDiff, Nat.reduceAdd, s_149 js, s_150 js, r_149_2 js, s_153 js, r_149_5 js, hj.2.2.2.1, t3, (show f < 16 by omega), (show f < 2147483648 by omega), (show n < 9 by omega), (show n < 2147483648 by omega)]
  refine fp_l1 js h3 hf hj (fun τ hI v5 v6 v7 => ?_) (3 ^ n) 0 (by omega) σ ⟨FR.rf _ σ, fun q hq => absurd hq (by omega)⟩ _ _ _
  have fr := hI.1
  have js1 := fr.js js
  simp only [g_136_186, g_136_187, g_136_188, g_136_191, g_136_192, Nat.not_lt_zero, Bool.false_eq_true, Option.toList_some, Option.toList_none, List.cons_append, List.nil_append, kv_rv, kc1_i, kc1_r, kc1_n, n10, n01, n1514, n1213, n1312, if_true, if_false, not_true_eq_false, not_false_eq_true, and_self, true_and, and_true, false_and, and_false, or_true, true_or, or_false, false_or, Nat.reduceLeDiff, Nat.reduceLT, Nat.reduceEqDiff, Nat.reduceAdd, s_149 js1]
  have fr2 : FR (fun b i => b = 149 ∧ i = 7) τ (kv_si τ 149 7 0) := (FR.rf _ τ).si ⟨rfl, rfl⟩
  have e7 : kv_i (kv_si τ 149 7 0) 149 7 = Int32.ofNat 0 := by rw [eq_ess ⟨rfl, rfl⟩]; rfl
  generalize kv_si τ 149 7 0 = υ at *
  refine fq_l2 (B := mB σ f) (fr2.js js1) ((h3.fr fr (fun b j q => by omega)).fr fr2 (fun b j q => by omega)) hn8 (fun q hq => by rw [fr2.i (by omega)]; exact hI.2 q hq) (fun ω hq => ?_) (3 ^ n) 0 (by omega) υ ⟨FR.rf _ υ, e7, fun q hq => absurd hq (by omega)⟩ _ _ _
  exact H ω ⟨((fr.mono (fun b i q => Or.inl q)).tr (fr2.mono (fun b i q => Or.inr (Or.inr q)))).tr (hq.1.mono (fun b i q => Or.inr q)), hq.2.1, hq.2.2⟩
end FQ

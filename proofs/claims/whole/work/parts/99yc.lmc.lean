/-! ===== least sums, the model: the better of two sums ===== -/
def MB1 (A : Nat → Bool) (R : Nat → Nat → Bool) (P : Nat) (tc pn : Nat → Nat) (bs : Nat → Bool) (τ : kv_S) : Prop := kv_i τ 149 15 = 1 ∧ kv_i τ 149 16 = Int32.ofNat (cnt bs P) ∧ kv_i τ 149 17 = Int32.ofNat (PRs tc P bs) ∧ (∀ p, p < P → bs p = true → kv_i τ 160 (cnt bs p) = Int32.ofNat (pn p)) ∧ COV A R P bs
def MS (A : Nat → Bool) (R : Nat → Nat → Bool) (P : Nat) (tc pn : Nat → Nat) (bp : Nat) (τ : kv_S) : Prop := bp = 1152921504606846976 ∧ kv_i τ 149 15 = 0 ∨ ∃ bs, MB1 A R P tc pn bs τ ∧ bp = PRs (prc tc) P bs
def FM (b k : Nat) : Prop := b = 158 ∨ b = 160 ∨ b = 149 ∧ 15 ≤ k ∧ k ≤ 17
section LC
variable {d : Nat} {σ : kv_S} {Φ : Option Value → kv_S → Prop} {P : Nat} {pn tk : Nat → Nat} {A : Nat → Bool} {R : Nat → Nat → Bool}
theorem MB1.fr {Q : Nat → Nat → Prop} {tc : Nat → Nat} {bs : Nat → Bool} {σ τ : kv_S} (h : FR Q σ τ) (hq : ∀ b k, Q b k → ¬ (b = 160 ∨ b = 149 ∧ 15 ≤ k ∧ k ≤ 17)) (H : MB1 A R P tc pn bs σ) : MB1 A R P tc pn bs τ := ⟨(h.i (fun q => hq _ _ q (by omega))).trans H.1, (h.i (fun q => hq _ _ q (by omega))).trans H.2.1, (h.i (fun q => hq _ _ q (by omega))).trans H.2.2.1, fun p hp hb => (h.i (fun q => hq _ _ q (by omega))).trans (H.2.2.2.1 p hp hb), H.2.2.2.2⟩
theorem MS.fr {Q : Nat → Nat → Prop} {tc : Nat → Nat} {bp : Nat} {σ τ : kv_S} (h : FR Q σ τ) (hq : ∀ b k, Q b k → ¬ (b = 160 ∨ b = 149 ∧ 15 ≤ k ∧ k ≤ 17)) (H : MS A R P tc pn bp σ) : MS A R P tc pn bp τ := by
  rcases H with ⟨h1, h2⟩ | ⟨bs, h1, h2⟩
  · exact Or.inl ⟨h1, (h.i (fun q => hq _ _ q (by omega))).trans h2⟩
  · exact Or.inr ⟨bs, h1.fr h hq, h2⟩
theorem m_compare (js : JS σ) (h3 : J3 σ) {f w n bp : Nat} (hf : f < 16) (hw : w ≤ 5) (ew : kv_i σ 150 f = Int32.ofNat w) (hP : P ≤ 40) (hn : n ≤ 40) (hpn : ∀ p, p < P → kv_i σ 155 p = Int32.ofNat (pn p) ∧ pn p < 243) (hmon : ∀ p q, p < q → q < P → pn p < pn q) (htk : ∀ k, k < n → kv_i σ 156 k = Int32.ofNat (tk k) ∧ tk k < P ∧ Tk tk k (tk k) = false) (hT : COV A R P (Tk tk n)) (hM : MS A R P (fun p => tcf w (pn p)) pn bp σ) (H : ∀ υ bp', FR FM σ υ → MS A R P (fun p => tcf w (pn p)) pn bp' υ → bp' ≤ bp → bp' ≤ PRs (prc (fun p => tcf w (pn p))) P (Tk tk n) → Φ none υ) : Wc (d + 2) 141 [.ref 149, .int (Int32.ofNat f), .int (Int32.ofNat n)] σ Φ := by
  have htc : ∀ p, p < P → (fun p => tcf w (pn p)) p ≤ 5 := fun p _ => Nat.le_trans (cnt_le _ _) hw
  have e0 : PRs (fun p => tcf w (pn p)) P (Tk tk 0) = 0 := PRs_0 _ P
  have c0 : cnt (Tk tk 0) P = 0 := cnt_false P (fun r _ => rfl)
  simp only [c_141, g_141_0, g_141_1, g_141_2, g_141_3, Nat.not_lt_zero, Bool.false_eq_true, Option.toList_some, Option.toList_none, List.cons_append, List.nil_append, kv_rv, kc1_i, kc1_r, kc1_n, n10, n01, n1514, n1213, n1312, if_true, if_false, not_true_eq_false, not_false_eq_true, and_self, true_and, and_true, false_and, and_false, or_true, true_or, or_false, false_or, Nat.reduceLeDiff, Nat.reduceLT, Nat.reduceEqDiff, Nat.reduceAdd]
  have l := so_out (d := d) (Φ := Φ) js h3 hf hw ew hP hn hpn hmon htk (fun τ fr hS hc v5 => ?_) n 0 (by omega) σ (FR.rf _ σ) (fun p _ h => by cases h) c0 .null
  · rw [e0] at l
    exact l
  · have js2 := fr.js js
    have frm : FR FM σ τ := fr.mono (fun b k q => Or.inl q)
    have hle := PRs_le (S := Tk tk n) htc
    have ha : ∀ i, i < n → ∃ p, p < P ∧ Tk tk n p = true ∧ cnt (Tk tk n) p = i ∧ kv_i τ 158 i = Int32.ofNat (pn p) := fun i hi => by
      obtain ⟨p, q1, q2, q3⟩ := nth_ex (Tk tk n) P i (by omega)
      have := hS p q1 q2
      rw [q3] at this
      exact ⟨p, q1, q2, q3, this⟩
    have tak : ∀ bp0, PRs (prc (fun p => tcf w (pn p))) P (Tk tk n) ≤ bp0 → bp0 = bp → ∀ (v4 : Int32) (v5 : Value), Wp (d + 2) 141 245 [.ref 149, .int (Int32.ofNat f), .int (Int32.ofNat n), .int (Int32.ofNat (PRs (fun p => tcf w (pn p)) P (Tk tk n))), .int v4, v5] [] τ Φ := fun bp0 hb0 hb1 v4 v5 => by
      refine cp_take js2 hn (fun υ fr2 k1 k2 k3 k4 => H υ _ (frm.tr (fr2.mono (fun b k q => by unfold FM; omega))) (Or.inr ⟨Tk tk n, ⟨k1, by rw [k2, hc], k3, fun p hp hTp => ?_, hT⟩, rfl⟩) (by omega) (Nat.le_refl _))
      have := cnt_lt_of hp hTp
      rw [k4 _ (by omega)]
      exact hS p hp hTp
    rcases hM.fr fr (fun b k q => by omega) with ⟨z1, z2⟩ | ⟨bs, hb, hbp⟩
    · have hpl := PRs_le (S := Tk tk n) (pr := prc (fun p => tcf w (pn p))) (c := 2251799813685248) (fun p hp => prc_le (htc p hp))
      simp only [g_141_116, g_141_117, g_141_120, g_141_147, g_141_148, g_141_152, g_141_154, g_141_155, g_141_158, g_141_239, g_141_241, Nat.not_lt_zero, Bool.false_eq_true, Option.toList_some, Option.toList_none, List.cons_append, List.nil_append, kv_rv, kc1_i, kc1_r, kc1_n, n10, n01, n1514, n1213, n1312, if_true, if_false, not_true_eq_false, not_false_eq_true, and_self, true_and, and_true, false_and, and_false, or_true, true_or, or_false, false_or, Nat.reduceLeDiff, Nat.reduceLT, Nat.reduceEqDiff, Nat.reduceAdd, z2, s_149 js2]
      exact tak bp (by omega) rfl _ _
    · obtain ⟨b1, b2, b3, b4, b5⟩ := hb
      have hbl := PRs_le (S := bs) htc
      have hcb := cnt_le bs P
      have hcmp := PRs_cmp (S := Tk tk n) (T := bs) hP htc
      rw [hc] at hcmp
      have keep : ∀ (v4 v5 : Value), PRs (prc (fun p => tcf w (pn p))) P bs ≤ PRs (prc (fun p => tcf w (pn p))) P (Tk tk n) → Φ none τ := fun v4 v5 hle2 => H τ bp frm (Or.inr ⟨bs, ⟨b1, b2, b3, b4, b5⟩, hbp⟩) (Nat.le_refl _) (by omega)
      generalize eL : PRs (fun p => tcf w (pn p)) P (Tk tk n) = L at hle hcmp tak ⊢
      generalize eB : PRs (fun p => tcf w (pn p)) P bs = Lb at hbl hcmp b3
      generalize eN : cnt bs P = nb at hcb hcmp b2
      rcases Nat.lt_trichotomy n nb with c1 | c1 | c1
      · have hlt := hcmp.mpr (Or.inl c1)
        simp only [g_141_116, g_141_117, g_141_120, g_141_123, g_141_124, g_141_125, g_141_128, g_141_147, g_141_148, g_141_152, g_141_154, g_141_155, g_141_158, g_141_161, g_141_162, g_141_163, g_141_166, g_141_239, g_141_241, ari_aa, ari_al, ari_la, ari_mm, ari_ml, ari_lm, ari_ltl, ari_llt, ari_lt, ari_le, ari_lel, ari_lle, ari_0, ari_eq, ari_eql, ari_leq, ari_cl, Nat.not_lt_zero, Bool.false_eq_true, Option.toList_some, Option.toList_none, List.cons_append, List.nil_append, kv_rv, kc1_i, kc1_r, kc1_n, n10, n01, n1514, n1213, n1312, if_true, if_false, not_true_eq_false, not_false_eq_true, and_self, true_and, and_true, false_and, and_false, or_true, true_or, or_false, false_or, Nat.reduceLeDiff, Nat.reduceLT, Nat.reduceEqDiff, Nat.reduceAdd, b1, b2, c1, s_149 js2, (show n < 41 by omega), (show n < 2147483648 by omega), (show nb < 41 by omega), (show nb < 2147483648 by omega), (show ¬ n = nb by omega)]
        exact tak bp (by omega) rfl _ _
      · subst c1
        rcases Nat.lt_trichotomy L Lb with c2 | c2 | c2
        · have hlt := hcmp.mpr (Or.inr ⟨rfl, Or.inl c2⟩)
          simp only [g_141_116, g_141_117, g_141_120, g_141_123, g_141_124, g_141_125, g_141_128, g_141_131, g_141_132, g_141_133, g_141_136, g_141_139, g_141_140, g_141_141, g_141_144, g_141_147, g_141_148, g_141_151, g_141_152, g_141_154, g_141_155, g_141_158, g_141_161, g_141_162, g_141_163, g_141_166, g_141_169, g_141_170, g_141_171, g_141_174, g_141_239, g_141_241, ari_aa, ari_al, ari_la, ari_mm, ari_ml, ari_lm, ari_ltl, ari_llt, ari_lt, ari_le, ari_lel, ari_lle, ari_0, ari_eq, ari_eql, ari_leq, ari_cl, Nat.not_lt_zero, Bool.false_eq_true, Option.toList_some, Option.toList_none, List.cons_append, List.nil_append, kv_rv, kc1_i, kc1_r, kc1_n, n10, n01, n1514, n1213, n1312, if_true, if_false, not_true_eq_false, not_false_eq_true, and_self, true_and, and_true, false_and, and_false, or_true, true_or, or_false, false_or, Nat.reduceLeDiff, Nat.reduceLT, Nat.reduceEqDiff, Nat.reduceAdd, b1, b2, b3, s_149 js2, (show n < 41 by omega), (show n < 2147483648 by omega), (show ¬ n < n by omega), (show L < 201 by omega), (show L < 2147483648 by omega), (show Lb < 201 by omega), (show Lb < 2147483648 by omega), (show ¬ Lb ≤ L by omega), (show ¬ L = Lb by omega)]
          exact tak bp (by omega) rfl _ _
        · subst c2
          obtain ⟨a, ea⟩ : ∃ a : Nat → Nat, a = fun i => (kv_i τ 158 i).toNatClampNeg := ⟨_, rfl⟩
          obtain ⟨b, eb⟩ : ∃ b : Nat → Nat, b = fun i => (kv_i τ 160 i).toNatClampNeg := ⟨_, rfl⟩
          have ta : TEL pn P (Tk tk n) a := fun p hp hTp => by
            rw [ea]
            show (kv_i τ 158 (cnt (Tk tk n) p)).toNatClampNeg = pn p
            rw [hS p hp hTp, ari_cl (by have := (hpn p hp).2; omega)]
          have tb : TEL pn P bs b := fun p hp hTp => by
            rw [eb]
            show (kv_i τ 160 (cnt bs p)).toNatClampNeg = pn p
            rw [b4 p hp hTp, ari_cl (by have := (hpn p hp).2; omega)]
          have fa : ∀ i, i < n → kv_i τ 158 i = Int32.ofNat (a i) ∧ a i < 243 := fun i hi => by
            obtain ⟨p, q1, q2, q3⟩ := nth_ex (Tk tk n) P i (by omega)
            have x1 := hS p q1 q2
            have x2 := ta p q1 q2
            rw [q3] at x1 x2
            rw [x1, x2]
            exact ⟨rfl, (hpn p q1).2⟩
          have fb : ∀ i, i < n → kv_i τ 160 i = Int32.ofNat (b i) ∧ b i < 243 := fun i hi => by
            obtain ⟨p, q1, q2, q3⟩ := nth_ex bs P i (by omega)
            have x1 := b4 p q1 q2
            have x2 := tb p q1 q2
            rw [q3] at x1 x2
            rw [x1, x2]
            exact ⟨rfl, (hpn p q1).2⟩
          simp only [g_141_116, g_141_117, g_141_120, g_141_123, g_141_124, g_141_125, g_141_128, g_141_131, g_141_132, g_141_133, g_141_136, g_141_139, g_141_140, g_141_141, g_141_144, g_141_147, g_141_148, g_141_151, g_141_152, g_141_154, g_141_155, g_141_158, g_141_161, g_141_162, g_141_163, g_141_166, g_141_169, g_141_170, g_141_171, g_141_174, g_141_177, g_141_178, ari_aa, ari_al, ari_la, ari_mm, ari_ml, ari_lm, ari_ltl, ari_llt, ari_lt, ari_le, ari_lel, ari_lle, ari_0, ari_eq, ari_eql, ari_leq, ari_cl, Nat.not_lt_zero, Bool.false_eq_true, Option.toList_some, Option.toList_none, List.cons_append, List.nil_append, kv_rv, kc1_i, kc1_r, kc1_n, n10, n01, n1514, n1213, n1312, if_true, if_false, not_true_eq_false, not_false_eq_true, and_self, true_and, and_true, false_and, and_false, or_true, true_or, or_false, false_or, Nat.reduceLeDiff, Nat.reduceLT, Nat.reduceEqDiff, Nat.reduceAdd, b1, b2, b3, s_149 js2, (show n < 41 by omega), (show n < 2147483648 by omega), (show ¬ n < n by omega), (show L < 201 by omega), (show L < 2147483648 by omega), (show L ≤ L by omega)]
          refine cp_lex js2 hn fa fb (fun k hk h1 h2 => ?_) n 0 (by omega) (fun i hi => absurd hi (by omega))
          by_cases ck : k < n
          · obtain ⟨a1, a2⟩ := fa k ck
            obtain ⟨d1, d2⟩ := fb k ck
            have hne := h2 ck
            by_cases cl : a k < b k
            · have hm := TEL_first hP hmon ta tb h1 (by omega) (by omega) cl
              have hlt := hcmp.mpr (Or.inr ⟨rfl, Or.inr ⟨rfl, hm⟩⟩)
              simp only [g_141_209, g_141_211, g_141_212, g_141_215, g_141_216, g_141_219, g_141_221, g_141_222, g_141_223, g_141_226, g_141_228, g_141_229, g_141_232, g_141_233, g_141_236, g_141_237, g_141_239, g_141_241, ari_aa, ari_al, ari_la, ari_mm, ari_ml, ari_lm, ari_ltl, ari_llt, ari_lt, ari_le, ari_lel, ari_lle, ari_0, ari_eq, ari_eql, ari_leq, ari_cl, Nat.not_lt_zero, Bool.false_eq_true, Option.toList_some, Option.toList_none, List.cons_append, List.nil_append, kv_rv, kc1_i, kc1_r, kc1_n, n10, n01, n1514, n1213, n1312, if_true, if_false, not_true_eq_false, not_false_eq_true, and_self, true_and, and_true, false_and, and_false, or_true, true_or, or_false, false_or, Nat.reduceLeDiff, Nat.reduceLT, Nat.reduceEqDiff, Nat.reduceAdd, a1, d1, s_149 js2, s_158 js2, r_149_11 js2, s_160 js2, r_149_18 js2, (show k < 41 by omega), (show k < 2147483648 by omega), (show k < 40 by omega), (show k < 2147483648 by omega), (show n < 41 by omega), (show n < 2147483648 by omega), (show ¬ n ≤ k by omega), (show a k < 243 by omega), (show a k < 2147483648 by omega), (show b k < 243 by omega), (show b k < 2147483648 by omega), (show ¬ b k ≤ a k by omega)]
              exact tak bp (by omega) rfl _ _
            · have hm := TEL_first hP hmon tb ta (fun i hi => (h1 i hi).symm) (by omega) (by omega) (show b k < a k by omega)
              have hnlt : ¬ PRs (prc (fun p => tcf w (pn p))) P (Tk tk n) < PRs (prc (fun p => tcf w (pn p))) P bs := fun q => by
                have := hcmp.mp q
                omega
              simp only [g_141_209, g_141_211, g_141_212, g_141_215, g_141_216, g_141_219, g_141_221, g_141_222, g_141_223, g_141_226, g_141_228, g_141_229, g_141_236, g_141_237, g_141_239, g_141_241, g_141_244, ari_aa, ari_al, ari_la, ari_mm, ari_ml, ari_lm, ari_ltl, ari_llt, ari_lt, ari_le, ari_lel, ari_lle, ari_0, ari_eq, ari_eql, ari_leq, ari_cl, Nat.not_lt_zero, Bool.false_eq_true, Option.toList_some, Option.toList_none, List.cons_append, List.nil_append, kv_rv, kc1_i, kc1_r, kc1_n, n10, n01, n1514, n1213, n1312, if_true, if_false, not_true_eq_false, not_false_eq_true, and_self, true_and, and_true, false_and, and_false, or_true, true_or, or_false, false_or, Nat.reduceLeDiff, Nat.reduceLT, Nat.reduceEqDiff, Nat.reduceAdd, a1, d1, s_149 js2, s_158 js2, r_149_11 js2, s_160 js2, r_149_18 js2, (show k < 41 by omega), (show k < 2147483648 by omega), (show k < 40 by omega), (show k < 2147483648 by omega), (show n < 41 by omega), (show n < 2147483648 by omega), (show ¬ n ≤ k by omega), (show a k < 243 by omega), (show a k < 2147483648 by omega), (show b k < 243 by omega), (show b k < 2147483648 by omega), (show b k ≤ a k by omega)]
              exact keep .null .null (by omega)
          · have e2 : k = n := by omega
            subst e2
            have hsame := TEL_same hmon ta tb (by omega) (fun i hi => h1 i (by omega))
            have := PRs_congr (pr := prc (fun p => tcf w (pn p))) hsame
            simp only [g_141_209, g_141_211, g_141_212, g_141_236, g_141_237, g_141_239, g_141_241, g_141_244, ari_aa, ari_al, ari_la, ari_mm, ari_ml, ari_lm, ari_ltl, ari_llt, ari_lt, ari_le, ari_lel, ari_lle, ari_0, ari_eq, ari_eql, ari_leq, ari_cl, Nat.not_lt_zero, Bool.false_eq_true, Option.toList_some, Option.toList_none, List.cons_append, List.nil_append, kv_rv, kc1_i, kc1_r, kc1_n, n10, n01, n1514, n1213, n1312, if_true, if_false, not_true_eq_false, not_false_eq_true, and_self, true_and, and_true, false_and, and_false, or_true, true_or, or_false, false_or, Nat.reduceLeDiff, Nat.reduceLT, Nat.reduceEqDiff, Nat.reduceAdd, (show k < 41 by omega), (show k < 2147483648 by omega), (show k ≤ k by omega)]
            exact keep .null .null (by omega)
        · have hnlt : ¬ PRs (prc (fun p => tcf w (pn p))) P (Tk tk n) < PRs (prc (fun p => tcf w (pn p))) P bs := fun q => by
            have := hcmp.mp q
            omega
          simp only [g_141_116, g_141_117, g_141_120, g_141_123, g_141_124, g_141_125, g_141_128, g_141_131, g_141_132, g_141_133, g_141_136, g_141_139, g_141_140, g_141_141, g_141_144, g_141_151, g_141_152, g_141_154, g_141_155, g_141_158, g_141_161, g_141_162, g_141_163, g_141_166, g_141_169, g_141_170, g_141_171, g_141_174, g_141_239, g_141_241, g_141_244, ari_aa, ari_al, ari_la, ari_mm, ari_ml, ari_lm, ari_ltl, ari_llt, ari_lt, ari_le, ari_lel, ari_lle, ari_0, ari_eq, ari_eql, ari_leq, ari_cl, Nat.not_lt_zero, Bool.false_eq_true, Option.toList_some, Option.toList_none, List.cons_append, List.nil_append, kv_rv, kc1_i, kc1_r, kc1_n, n10, n01, n1514, n1213, n1312, if_true, if_false, not_true_eq_false, not_false_eq_true, and_self, true_and, and_true, false_and, and_false, or_true, true_or, or_false, false_or, Nat.reduceLeDiff, Nat.reduceLT, Nat.reduceEqDiff, Nat.reduceAdd, b1, b2, b3, s_149 js2, (show n < 41 by omega), (show n < 2147483648 by omega), (show ¬ n < n by omega), (show L < 201 by omega), (show L < 2147483648 by omega), (show Lb < 201 by omega), (show Lb < 2147483648 by omega), (show Lb ≤ L by omega), (show ¬ L = Lb by omega)]
          exact keep .null .null (by omega)
      · have hnlt : ¬ PRs (prc (fun p => tcf w (pn p))) P (Tk tk n) < PRs (prc (fun p => tcf w (pn p))) P bs := fun q => by
          have := hcmp.mp q
          omega
        simp only [g_141_116, g_141_117, g_141_120, g_141_123, g_141_124, g_141_125, g_141_128, g_141_131, g_141_132, g_141_133, g_141_136, g_141_151, g_141_152, g_141_154, g_141_155, g_141_158, g_141_161, g_141_162, g_141_163, g_141_166, g_141_239, g_141_241, g_141_244, ari_aa, ari_al, ari_la, ari_mm, ari_ml, ari_lm, ari_ltl, ari_llt, ari_lt, ari_le, ari_lel, ari_lle, ari_0, ari_eq, ari_eql, ari_leq, ari_cl, Nat.not_lt_zero, Bool.false_eq_true, Option.toList_some, Option.toList_none, List.cons_append, List.nil_append, kv_rv, kc1_i, kc1_r, kc1_n, n10, n01, n1514, n1213, n1312, if_true, if_false, not_true_eq_false, not_false_eq_true, and_self, true_and, and_true, false_and, and_false, or_true, true_or, or_false, false_or, Nat.reduceLeDiff, Nat.reduceLT, Nat.reduceEqDiff, Nat.reduceAdd, b1, b2, s_149 js2, (show n < 41 by omega), (show n < 2147483648 by omega), (show nb < 41 by omega), (show nb < 2147483648 by omega), (show ¬ n < nb by omega), (show ¬ n = nb by omega)]
        exact keep .null .null (by omega)
end LC

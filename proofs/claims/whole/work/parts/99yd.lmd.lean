/-! ===== least sums, the model: the search ===== -/
def MV (A : Nat → Bool) (R : Nat → Nat → Bool) (P : Nat) (pn : Nat → Nat) (f w : Nat) (τ : kv_S) : Prop := kv_i τ 149 7 = Int32.ofNat P ∧ (∀ p, p < P → kv_i τ 155 p = Int32.ofNat (pn p) ∧ pn p < 243) ∧ (∀ p, p < P → kv_i τ 161 p = iw (fun r => A r && R p r)) ∧ kv_i τ 150 f = Int32.ofNat w
def FDp (deep b k : Nat) : Prop := FM b k ∨ (b = 156 ∨ b = 157 ∨ b = 163 ∨ b = 164) ∧ deep ≤ k
theorem Tk_congr {tk tk' : Nat → Nat} {k : Nat} (h : ∀ i, i < k → tk i = tk' i) : Tk tk k = Tk tk' k := by
  funext p
  exact anyN_congr k (fun i hi => by rw [h i hi])
section LD
variable {d : Nat} {P : Nat} {pn : Nat → Nat} {A S : Nat → Bool} {R : Nat → Nat → Bool} {f w : Nat}
theorem MV.fr {Q : Nat → Nat → Prop} {σ τ : kv_S} (h : FR Q σ τ) (hq : ∀ b k, Q b k → ¬ (b = 149 ∧ k = 7 ∨ b = 155 ∨ b = 161 ∨ b = 150)) (H : MV A R P pn f w σ) : MV A R P pn f w τ := ⟨(h.i (fun q => hq _ _ q (by omega))).trans H.1, fun p hp => ⟨(h.i (fun q => hq _ _ q (by omega))).trans (H.2.1 p hp).1, (H.2.1 p hp).2⟩, fun p hp => (h.i (fun q => hq _ _ q (by omega))).trans (H.2.2.1 p hp), (h.i (fun q => hq _ _ q (by omega))).trans H.2.2.2⟩
/-- what a node of the search owes -/
def NODE (A S : Nat → Bool) (R : Nat → Nat → Bool) (P : Nat) (pn : Nat → Nat) (f w e n : Nat) : Prop := ∀ (L : Nat → Bool) (ρ deep : Nat) (tk : Nat → Nat) (τ : kv_S) (bp : Nat) (Φ : Option Value → kv_S → Prop), cnt L 32 ≤ n → deep + cnt L 32 ≤ 32 → ρ < 32 → L ρ = true → NED A R P (Tk tk deep) L → cnt (Tk tk deep) P = deep → (∀ i, i < deep → kv_i τ 156 i = Int32.ofNat (tk i) ∧ tk i < P ∧ Tk tk i (tk i) = false) → kv_i τ 163 deep = iw L → kv_i τ 164 deep = Int32.ofNat ρ → kv_i τ 157 deep = -1 → JS τ → J3 τ → MV A R P pn f w τ → MS A R P (fun p => tcf w (pn p)) pn bp τ → (∀ υ bp', FR (FDp deep) τ υ → MS A R P (fun p => tcf w (pn p)) pn bp' υ → bp' ≤ bp → ((∀ p, p < P → Tk tk deep p = true → S p = true) → bp' ≤ PRs (prc (fun p => tcf w (pn p))) P S) → ∀ v4 v5 : Value, Wp e 139 215 [.ref 149, .int (Int32.ofNat f), .int (iw A), .int (Int32.ofNat deep - 1), v4, v5] [] υ Φ) → ∀ v4 v5 : Value, Wp e 139 215 [.ref 149, .int (Int32.ofNat f), .int (iw A), .int (Int32.ofNat deep), v4, v5] [] τ Φ
theorem fnx {Φ : Option Value → kv_S → Prop} {τ : kv_S} (js : JS τ) (hV : MV A R P pn f w τ) (hP : P ≤ 40) {deep ρ : Nat} {fi al : Int32} {v5 : Value} (hd : deep < 40) (hρ : ρ < 32) (hA : A ρ = true) (h164 : kv_i τ 164 deep = Int32.ofNat ρ) {k0 : Nat} (H : ∀ k', k0 ≤ k' → k' ≤ P → (k' < P → R k' ρ = true) → (∀ q, k0 ≤ q → q < k' → R q ρ = false) → Wp d 139 267 [.ref 149, .int fi, .int al, .int (Int32.ofNat deep), .int (Int32.ofNat k'), v5] [] τ Φ) : ∀ m k, k + m = P → k0 ≤ k → (∀ q, k0 ≤ q → q < k → R q ρ = false) → Wp d 139 233 [.ref 149, .int fi, .int al, .int (Int32.ofNat deep), .int (Int32.ofNat k), v5] [] τ Φ
  | 0, k, e, hk, hI => by
    have e2 : k = P := by omega
    subst e2
    simp only [g_139_233, g_139_235, g_139_236, g_139_239, ari_aa, ari_al, ari_la, ari_mm, ari_ml, ari_lm, ari_ltl, ari_llt, ari_lt, ari_le, ari_lel, ari_lle, ari_0, ari_eq, ari_eql, ari_leq, ari_cl, Nat.not_lt_zero, Bool.false_eq_true, Option.toList_some, Option.toList_none, List.cons_append, List.nil_append, kv_rv, kc1_i, kc1_r, kc1_n, n10, n01, n1514, n1213, n1312, if_true, if_false, not_true_eq_false, not_false_eq_true, and_self, true_and, and_true, false_and, and_false, or_true, true_or, or_false, false_or, Nat.reduceLeDiff, Nat.reduceLT, Nat.reduceEqDiff, Nat.reduceAdd, hV.1, s_149 js, (show k < 41 by omega), (show k < 2147483648 by omega), (show k ≤ k by omega)]
    exact H k hk (Nat.le_refl _) (fun h => absurd h (Nat.lt_irrefl _)) hI
  | m + 1, k, e, hk, hI => by
    simp only [g_139_233, g_139_235, g_139_236, g_139_239, ari_aa, ari_al, ari_la, ari_mm, ari_ml, ari_lm, ari_ltl, ari_llt, ari_lt, ari_le, ari_lel, ari_lle, ari_0, ari_eq, ari_eql, ari_leq, ari_cl, Nat.not_lt_zero, Bool.false_eq_true, Option.toList_some, Option.toList_none, List.cons_append, List.nil_append, kv_rv, kc1_i, kc1_r, kc1_n, n10, n01, n1514, n1213, n1312, if_true, if_false, not_true_eq_false, not_false_eq_true, and_self, true_and, and_true, false_and, and_false, or_true, true_or, or_false, false_or, Nat.reduceLeDiff, Nat.reduceLT, Nat.reduceEqDiff, Nat.reduceAdd, hV.1, s_149 js, (show k < 41 by omega), (show k < 2147483648 by omega), (show P < 41 by omega), (show P < 2147483648 by omega), (show ¬ P ≤ k by omega)]
    cases cR : R k ρ with
    | true =>
      simp only [g_139_242, g_139_243, g_139_246, g_139_248, g_139_249, g_139_250, g_139_253, g_139_254, g_139_255, g_139_256, g_139_257, g_139_258, ari_aa, ari_al, ari_la, ari_mm, ari_ml, ari_lm, ari_ltl, ari_llt, ari_lt, ari_le, ari_lel, ari_lle, ari_0, ari_eq, ari_eql, ari_leq, ari_cl, Nat.not_lt_zero, Bool.false_eq_true, Option.toList_some, Option.toList_none, List.cons_append, List.nil_append, kv_rv, kc1_i, kc1_r, kc1_n, n10, n01, n1514, n1213, n1312, if_true, if_false, not_true_eq_false, not_false_eq_true, and_self, true_and, and_true, false_and, and_false, or_true, true_or, or_false, false_or, Nat.reduceLeDiff, Nat.reduceLT, Nat.reduceEqDiff, Nat.reduceAdd, hV.2.2.1 k (by omega), h164, ari_31 (show ρ < 32 from hρ), iw_bit (fun r => A r && R k r) hρ, hA, cR, Bool.and_self, bI_t, s_149 js, s_161 js, r_149_19 js, s_164 js, r_149_22 js, (show k < 243 by omega), (show k < 2147483648 by omega), (show deep < 41 by omega), (show deep < 2147483648 by omega)]
      exact H k hk (by omega) (fun _ => cR) hI
    | false =>
      simp only [g_139_242, g_139_243, g_139_246, g_139_248, g_139_249, g_139_250, g_139_253, g_139_254, g_139_255, g_139_256, g_139_257, g_139_258, g_139_261, g_139_264, ari_aa, ari_al, ari_la, ari_mm, ari_ml, ari_lm, ari_ltl, ari_llt, ari_lt, ari_le, ari_lel, ari_lle, ari_0, ari_eq, ari_eql, ari_leq, ari_cl, Nat.not_lt_zero, Bool.false_eq_true, Option.toList_some, Option.toList_none, List.cons_append, List.nil_append, kv_rv, kc1_i, kc1_r, kc1_n, n10, n01, n1514, n1213, n1312, if_true, if_false, not_true_eq_false, not_false_eq_true, and_self, true_and, and_true, false_and, and_false, or_true, true_or, or_false, false_or, Nat.reduceLeDiff, Nat.reduceLT, Nat.reduceEqDiff, Nat.reduceAdd, hV.2.2.1 k (by omega), h164, ari_31 (show ρ < 32 from hρ), iw_bit (fun r => A r && R k r) hρ, hA, cR, Bool.and_false, bI_f, s_149 js, s_161 js, r_149_19 js, s_164 js, r_149_22 js, (show k < 243 by omega), (show k < 2147483648 by omega), (show deep < 41 by omega), (show deep < 2147483648 by omega)]
      refine fnx js hV hP hd hρ hA h164 H m (k + 1) (by omega) (by omega) (fun q h1 h2 => ?_)
      by_cases z : q = k
      · rw [z]; exact cR
      · exact hI q h1 (by omega)
theorem dfs_in {Φ : Option Value → kv_S → Prop} {σ : kv_S} (js0 : JS σ) (h30 : J3 σ) (hV0 : MV A R P pn f w σ) (hf : f < 16) (hw : w ≤ 5) (hP : P ≤ 40) (hmon : ∀ p q, p < q → q < P → pn p < pn q) (hS : LST A R P (prc (fun p => tcf w (pn p))) S) {n : Nat} (IH : NODE A S R P pn f w (d + 3) n) {L : Nat → Bool} {ρ deep : Nat} {tk : Nat → Nat} (hn : cnt L 32 ≤ n + 1) (hdep : deep + cnt L 32 ≤ 32) (hρ : ρ < 32) (hLρ : L ρ = true) (hN : NED A R P (Tk tk deep) L) (hT : cnt (Tk tk deep) P = deep) (h156 : ∀ i, i < deep → kv_i σ 156 i = Int32.ofNat (tk i) ∧ tk i < P ∧ Tk tk i (tk i) = false) {bp0 : Nat} (H : ∀ υ bp', FR (FDp deep) σ υ → MS A R P (fun p => tcf w (pn p)) pn bp' υ → bp' ≤ bp0 → ((∀ p, p < P → Tk tk deep p = true → S p = true) → bp' ≤ PRs (prc (fun p => tcf w (pn p))) P S) → ∀ v4 v5 : Value, Wp (d + 3) 139 215 [.ref 149, .int (Int32.ofNat f), .int (iw A), .int (Int32.ofNat deep - 1), v4, v5] [] υ Φ) : ∀ m k, P ≤ k + m → k ≤ P → ∀ τ bp, FR (FDp deep) σ τ → kv_i τ 163 deep = iw L → kv_i τ 164 deep = Int32.ofNat ρ → kv_i τ 157 deep + 1 = Int32.ofNat k → MS A R P (fun p => tcf w (pn p)) pn bp τ → bp ≤ bp0 → ((∀ p, p < P → Tk tk deep p = true → S p = true) → (∃ q, q < k ∧ R q ρ = true ∧ S q = true) → bp ≤ PRs (prc (fun p => tcf w (pn p))) P S) → ∀ v4 v5 : Value, Wp (d + 3) 139 215 [.ref 149, .int (Int32.ofNat f), .int (iw A), .int (Int32.ofNat deep), v4, v5] [] τ Φ := by
  intro m
  have hA : A ρ = true := ((hN ρ hρ).mp hLρ).1
  have hAn : ¬ iw A = 0 := iw_n0.mpr ⟨ρ, hρ, hA⟩
  have hcp := cnt_lt_of hρ hLρ
  have htc : ∀ p, p < P → (fun p => tcf w (pn p)) p ≤ 5 := fun p _ => Nat.le_trans (cnt_le _ _) hw
  obtain ⟨q0, q01, q02, q03⟩ := hS.1 ρ hρ hA
  have hTq : ∀ q, q < P → R q ρ = true → Tk tk deep q = false := fun q hq hR => Bool.eq_false_iff.mpr fun h => by
    have := ((hN ρ hρ).mp hLρ).2 q hq h
    rw [hR] at this; cases this
  induction m with
  | zero =>
    intro k hk1 hk2 τ bp fr h163 h164 h157 hM hbp hdone v4 v5
    have js := fr.js js0
    have hV : MV A R P pn f w τ := hV0.fr fr (fun b k q => by unfold FDp FM at q; omega)
    simp only [g_139_215, g_139_216, g_139_219, g_139_220, g_139_223, g_139_224, g_139_227, g_139_228, g_139_229, g_139_230, g_139_231, ari_aa, ari_al, ari_la, ari_mm, ari_ml, ari_lm, ari_ltl, ari_llt, ari_lt, ari_le, ari_lel, ari_lle, ari_0, ari_eq, ari_eql, ari_leq, ari_cl, Nat.not_lt_zero, Bool.false_eq_true, Option.toList_some, Option.toList_none, List.cons_append, List.nil_append, kv_rv, kc1_i, kc1_r, kc1_n, n10, n01, n1514, n1213, n1312, if_true, if_false, not_true_eq_false, not_false_eq_true, and_self, true_and, and_true, false_and, and_false, or_true, true_or, or_false, false_or, Nat.reduceLeDiff, Nat.reduceLT, Nat.reduceEqDiff, Nat.reduceAdd, hAn, h157, s_149 js, s_157 js, r_149_10 js, (show deep < 40 by omega), (show deep < 2147483648 by omega), (show deep < 41 by omega), (show deep < 2147483648 by omega)]
    refine fnx js hV hP (show deep < 40 by omega) hρ hA h164 (fun k' a1 a2 a3 a4 => ?_) (P - k) k (by omega) (Nat.le_refl _) (fun q h1 h2 => absurd h2 (by omega))
    have u7 : kv_i (kv_si τ 157 deep (Int32.ofNat k')) 149 7 = Int32.ofNat P := by rw [i_si, if_neg (by omega)]; exact hV.1
    have e2 : k' = P := by omega
    subst e2
    simp only [g_139_267, g_139_268, g_139_271, g_139_272, g_139_274, g_139_275, g_139_277, g_139_278, g_139_281, g_139_301, g_139_304, ari_aa, ari_al, ari_la, ari_mm, ari_ml, ari_lm, ari_ltl, ari_llt, ari_lt, ari_le, ari_lel, ari_lle, ari_0, ari_eq, ari_eql, ari_leq, ari_cl, Nat.not_lt_zero, Bool.false_eq_true, Option.toList_some, Option.toList_none, List.cons_append, List.nil_append, kv_rv, kc1_i, kc1_r, kc1_n, n10, n01, n1514, n1213, n1312, if_true, if_false, not_true_eq_false, not_false_eq_true, and_self, true_and, and_true, false_and, and_false, or_true, true_or, or_false, false_or, Nat.reduceLeDiff, Nat.reduceLT, Nat.reduceEqDiff, Nat.reduceAdd, sh_si, u7, i32_m1, s_149 js, s_157 js, r_149_10 js, (show deep < 40 by omega), (show deep < 2147483648 by omega), (show k' < 41 by omega), (show k' < 2147483648 by omega), (show k' ≤ k' by omega)]
    refine H _ bp (fr.si (Or.inr ⟨by omega, Nat.le_refl _⟩)) (hM.fr ((FR.rf (fun b k => b = 157) τ).si rfl) (fun b k q => by omega)) hbp (fun hTS => hdone hTS ⟨q0, by omega, q03, q02⟩) _ _
  | succ m ih =>
    intro k hk1 hk2 τ bp fr h163 h164 h157 hM hbp hdone v4 v5
    have js := fr.js js0
    have h3 : J3 τ := h30.fr fr (fun b k q => by unfold FDp FM at q; omega)
    have hV : MV A R P pn f w τ := hV0.fr fr (fun b k q => by unfold FDp FM at q; omega)
    simp only [g_139_215, g_139_216, g_139_219, g_139_220, g_139_223, g_139_224, g_139_227, g_139_228, g_139_229, g_139_230, g_139_231, ari_aa, ari_al, ari_la, ari_mm, ari_ml, ari_lm, ari_ltl, ari_llt, ari_lt, ari_le, ari_lel, ari_lle, ari_0, ari_eq, ari_eql, ari_leq, ari_cl, Nat.not_lt_zero, Bool.false_eq_true, Option.toList_some, Option.toList_none, List.cons_append, List.nil_append, kv_rv, kc1_i, kc1_r, kc1_n, n10, n01, n1514, n1213, n1312, if_true, if_false, not_true_eq_false, not_false_eq_true, and_self, true_and, and_true, false_and, and_false, or_true, true_or, or_false, false_or, Nat.reduceLeDiff, Nat.reduceLT, Nat.reduceEqDiff, Nat.reduceAdd, hAn, h157, s_149 js, s_157 js, r_149_10 js, (show deep < 40 by omega), (show deep < 2147483648 by omega), (show deep < 41 by omega), (show deep < 2147483648 by omega)]
    refine fnx js hV hP (show deep < 40 by omega) hρ hA h164 (fun k' a1 a2 a3 a4 => ?_) (P - k) k (by omega) (Nat.le_refl _) (fun q h1 h2 => absurd h2 (by omega))
    have fr1 : FR (FDp deep) σ (kv_si τ 157 deep (Int32.ofNat k')) := fr.si (Or.inr ⟨by omega, Nat.le_refl _⟩)
    have frs : FR (fun b k => b = 157 ∧ k = deep) τ (kv_si τ 157 deep (Int32.ofNat k')) := (FR.rf _ τ).si ⟨rfl, rfl⟩
    have hM1 : MS A R P (fun p => tcf w (pn p)) pn bp (kv_si τ 157 deep (Int32.ofNat k')) := hM.fr frs (fun b k q => by omega)
    have exit : ((∀ p, p < P → Tk tk deep p = true → S p = true) → bp ≤ PRs (prc (fun p => tcf w (pn p))) P S) → ∀ v4 v5 : Value, Wp (d + 3) 139 301 [.ref 149, .int (Int32.ofNat f), .int (iw A), .int (Int32.ofNat deep), v4, v5] [] (kv_si τ 157 deep (Int32.ofNat k')) Φ := fun hK v4 v5 => by
      simp only [g_139_301, g_139_304, Nat.not_lt_zero, Bool.false_eq_true, Option.toList_some, Option.toList_none, List.cons_append, List.nil_append, kv_rv, kc1_i, kc1_r, kc1_n, n10, n01, n1514, n1213, n1312, if_true, if_false, not_true_eq_false, not_false_eq_true, and_self, true_and, and_true, false_and, and_false, or_true, true_or, or_false, false_or, Nat.reduceLeDiff, Nat.reduceLT, Nat.reduceEqDiff, Nat.reduceAdd, i32_m1]
      exact H _ bp fr1 hM1 hbp hK _ _
    have u7 : kv_i (kv_si τ 157 deep (Int32.ofNat k')) 149 7 = Int32.ofNat P := by rw [i_si, if_neg (by omega)]; exact hV.1
    by_cases ck : k' = P
    · subst ck
      simp only [g_139_267, g_139_268, g_139_271, g_139_272, g_139_274, g_139_275, g_139_277, g_139_278, g_139_281, ari_aa, ari_al, ari_la, ari_mm, ari_ml, ari_lm, ari_ltl, ari_llt, ari_lt, ari_le, ari_lel, ari_lle, ari_0, ari_eq, ari_eql, ari_leq, ari_cl, Nat.not_lt_zero, Bool.false_eq_true, Option.toList_some, Option.toList_none, List.cons_append, List.nil_append, kv_rv, kc1_i, kc1_r, kc1_n, n10, n01, n1514, n1213, n1312, if_true, if_false, not_true_eq_false, not_false_eq_true, and_self, true_and, and_true, false_and, and_false, or_true, true_or, or_false, false_or, Nat.reduceLeDiff, Nat.reduceLT, Nat.reduceEqDiff, Nat.reduceAdd, sh_si, u7, s_149 js, s_157 js, r_149_10 js, (show deep < 40 by omega), (show deep < 2147483648 by omega), (show k' < 41 by omega), (show k' < 2147483648 by omega), (show k' ≤ k' by omega)]
      refine exit (fun hTS => hdone hTS ⟨q0, ?_, q03, q02⟩) _ _
      refine Nat.lt_of_not_le fun hc => ?_
      have := a4 q0 hc q01
      rw [q03] at this; cases this
    · have hk' : k' < P := by omega
      have hR := a3 hk'
      have hTk := hTq k' hk' hR
      simp only [g_139_267, g_139_268, g_139_271, g_139_272, g_139_274, g_139_275, g_139_277, g_139_278, g_139_281, ari_aa, ari_al, ari_la, ari_mm, ari_ml, ari_lm, ari_ltl, ari_llt, ari_lt, ari_le, ari_lel, ari_lle, ari_0, ari_eq, ari_eql, ari_leq, ari_cl, Nat.not_lt_zero, Bool.false_eq_true, Option.toList_some, Option.toList_none, List.cons_append, List.nil_append, kv_rv, kc1_i, kc1_r, kc1_n, n10, n01, n1514, n1213, n1312, if_true, if_false, not_true_eq_false, not_false_eq_true, and_self, true_and, and_true, false_and, and_false, or_true, true_or, or_false, false_or, Nat.reduceLeDiff, Nat.reduceLT, Nat.reduceEqDiff, Nat.reduceAdd, sh_si, u7, s_149 js, s_157 js, r_149_10 js, (show deep < 40 by omega), (show deep < 2147483648 by omega), (show k' < 41 by omega), (show k' < 2147483648 by omega), (show P < 41 by omega), (show P < 2147483648 by omega), (show ¬ P ≤ k' by omega)]
      have go : ∀ v5 : Value, Wp (d + 3) 139 307 [.ref 149, .int (Int32.ofNat f), .int (iw A), .int (Int32.ofNat deep), .int (Int32.ofNat k'), v5] [] (kv_si τ 157 deep (Int32.ofNat k')) Φ := fun v5 => by
        obtain ⟨tk', etk⟩ : ∃ tk' : Nat → Nat, tk' = fun i => if i = deep then k' else tk i := ⟨_, rfl⟩
        have tk1 : ∀ i, i < deep → tk' i = tk i := fun i hi => by rw [etk]; exact if_neg (by omega)
        have tk2 : tk' deep = k' := by rw [etk]; exact if_pos rfl
        have tkc : ∀ i, i ≤ deep → Tk tk' i = Tk tk i := fun i hi => Tk_congr (fun j hj => tk1 j (by omega))
        have eT : Tk tk' (deep + 1) = fun p => Tk tk deep p || decide (p = k') := by rw [Tk_s, tkc deep (Nat.le_refl _), tk2]
        have hT' : cnt (Tk tk' (deep + 1)) P = deep + 1 := by rw [eT, cnt_ins hk' hTk, hT]
        have hTS' : (∀ p, p < P → Tk tk deep p = true → S p = true) → S k' = true → ∀ p, p < P → Tk tk' (deep + 1) p = true → S p = true := fun h1 h2 p hp h => by
          rw [eT] at h
          have h : (Tk tk deep p || decide (p = k')) = true := h
          rw [Bool.or_eq_true, decide_eq_true_eq] at h
          rcases h with z | z
          · exact h1 p hp z
          · rw [z]; exact h2
        obtain ⟨τ1, e1⟩ : ∃ τ1, τ1 = kv_si (kv_si τ 157 deep (Int32.ofNat k')) 156 deep (Int32.ofNat k') := ⟨_, rfl⟩
        have frt : FR (fun b k => (b = 157 ∨ b = 156) ∧ k = deep) τ τ1 := by rw [e1]; exact ((FR.rf _ τ).si ⟨Or.inl rfl, rfl⟩).si ⟨Or.inr rfl, rfl⟩
        have fr2 : FR (FDp deep) σ τ1 := fr.tr (frt.mono (fun b k q => Or.inr ⟨by omega, by omega⟩))
        have js2 := fr2.js js0
        have h32 : J3 τ1 := h30.fr fr2 (fun b k q => by unfold FDp FM at q; omega)
        have hV2 : MV A R P pn f w τ1 := hV0.fr fr2 (fun b k q => by unfold FDp FM at q; omega)
        have hM2 : MS A R P (fun p => tcf w (pn p)) pn bp τ1 := hM.fr frt (fun b k q => by omega)
        have t157 : kv_i τ1 157 deep = Int32.ofNat k' := by rw [e1, i_si, if_neg (by omega), i_si, if_pos ⟨rfl, rfl⟩]
        have t163 : kv_i τ1 163 deep = iw L := by rw [frt.i (by omega)]; exact h163
        have t164 : kv_i τ1 164 deep = Int32.ofNat ρ := by rw [frt.i (by omega)]; exact h164
        have t156 : ∀ i, i < deep + 1 → kv_i τ1 156 i = Int32.ofNat (tk' i) ∧ tk' i < P ∧ Tk tk' i (tk' i) = false := fun i hi => by
          by_cases z : i = deep
          · subst z
            rw [tk2, tkc i (Nat.le_refl _), e1, i_si, if_pos ⟨rfl, rfl⟩]
            exact ⟨rfl, hk', hTk⟩
          · obtain ⟨x1, x2, x3⟩ := h156 i (by omega)
            rw [tk1 i (by omega), tkc i (by omega), frt.i (by omega), fr.i (by unfold FDp FM; omega)]
            exact ⟨x1, x2, x3⟩
        have next : ∀ υ bp', FR (FDp (deep + 1)) τ1 υ → MS A R P (fun p => tcf w (pn p)) pn bp' υ → bp' ≤ bp → ((∀ p, p < P → Tk tk deep p = true → S p = true) → S k' = true → bp' ≤ PRs (prc (fun p => tcf w (pn p))) P S) → ∀ v4 v5 : Value, Wp (d + 3) 139 215 [.ref 149, .int (Int32.ofNat f), .int (iw A), .int (Int32.ofNat deep), v4, v5] [] υ Φ := fun υ bp' frn hMn hbn hKn v4 v5 => by
          refine ih (k' + 1) (by omega) (by omega) υ bp' (fr2.tr (frn.mono (fun b k q => q.elim Or.inl (fun x => Or.inr ⟨x.1, by omega⟩)))) ?_ ?_ ?_ hMn (by omega) (fun hTS hex => ?_) _ _
          · rw [frn.i (by unfold FDp FM; omega)]; exact t163
          · rw [frn.i (by unfold FDp FM; omega)]; exact t164
          · rw [frn.i (by unfold FDp FM; omega), t157]; exact ari_al _ _
          · obtain ⟨q, y1, y2, y3⟩ := hex
            by_cases z : q = k'
            · rw [z] at y3; exact hKn hTS y3
            · by_cases z2 : q < k
              · have := hdone hTS ⟨q, z2, y2, y3⟩; omega
              · have := a4 q (by omega) (by omega)
                rw [y2] at this; cases this
        have eL : iw L &&& (iw (fun r => A r && R k' r) ^^^ -1) = iw (fun r => L r && !(A r && R k' r)) := iw_andn _ _
        have hL' : ∀ r, r < 32 → ((L r && !(A r && R k' r)) = true ↔ L r = true ∧ R k' r = false) := fun r hr => by
          rw [Bool.and_eq_true, Bool.not_eq_true']
          constructor
          · rintro ⟨x1, x2⟩
            rw [((hN r hr).mp x1).1, Bool.true_and] at x2
            exact ⟨x1, x2⟩
          · rintro ⟨x1, x2⟩
            exact ⟨x1, by rw [x2, Bool.and_false]⟩
        have hN' : NED A R P (Tk tk' (deep + 1)) (fun r => L r && !(A r && R k' r)) := fun r hr => by
          show (L r && !(A r && R k' r)) = true ↔ _
          rw [hL' r hr, hN r hr, eT]
          constructor
          · rintro ⟨⟨x1, x2⟩, x3⟩
            refine ⟨x1, fun p hp h => ?_⟩
            have h : (Tk tk deep p || decide (p = k')) = true := h
            rw [Bool.or_eq_true, decide_eq_true_eq] at h
            rcases h with z | z
            · exact x2 p hp z
            · rw [z]; exact x3
          · rintro ⟨x1, x2⟩
            refine ⟨⟨x1, fun p hp h => x2 p hp ?_⟩, x2 k' hk' ?_⟩
            · show (Tk tk deep p || decide (p = k')) = true
              rw [h]; rfl
            · show (Tk tk deep k' || decide (k' = k')) = true
              simp
        have hc' : cnt (fun r => L r && !(A r && R k' r)) 32 < cnt L 32 := by
          have x1 := cnt_del (B := L) hLρ 32 hρ
          have x2 : cnt (fun r => L r && !(A r && R k' r)) 32 ≤ cnt (fun i => L i && decide (i ≠ ρ)) 32 := cnt_imp (fun r hr h => by
            have h := (hL' r hr).mp h
            show (L r && decide (r ≠ ρ)) = true
            rw [h.1, Bool.true_and]
            refine decide_eq_true fun z => ?_
            have := h.2
            rw [z, hR] at this; cases this)
          omega
        simp only [g_139_307, g_139_308, g_139_311, g_139_312, g_139_314, ari_aa, ari_al, ari_la, ari_mm, ari_ml, ari_lm, ari_ltl, ari_llt, ari_lt, ari_le, ari_lel, ari_lle, ari_0, ari_eq, ari_eql, ari_leq, ari_cl, Nat.not_lt_zero, Bool.false_eq_true, Option.toList_some, Option.toList_none, List.cons_append, List.nil_append, kv_rv, kc1_i, kc1_r, kc1_n, n10, n01, n1514, n1213, n1312, if_true, if_false, not_true_eq_false, not_false_eq_true, and_self, true_and, and_true, false_and, and_false, or_true, true_or, or_false, false_or, Nat.reduceLeDiff, Nat.reduceLT, Nat.reduceEqDiff, Nat.reduceAdd, sh_si, r_si, s_149 js, s_156 js, r_149_9 js, (show deep < 40 by omega), (show deep < 2147483648 by omega)]
        rw [← e1]
        simp only [g_139_315, g_139_316, g_139_319, g_139_320, g_139_321, g_139_322, g_139_325, g_139_327, g_139_328, g_139_329, g_139_330, g_139_331, g_139_333, ari_aa, ari_al, ari_la, ari_mm, ari_ml, ari_lm, ari_ltl, ari_llt, ari_lt, ari_le, ari_lel, ari_lle, ari_0, ari_eq, ari_eql, ari_leq, ari_cl, Nat.not_lt_zero, Bool.false_eq_true, Option.toList_some, Option.toList_none, List.cons_append, List.nil_append, kv_rv, kc1_i, kc1_r, kc1_n, n10, n01, n1514, n1213, n1312, if_true, if_false, not_true_eq_false, not_false_eq_true, and_self, true_and, and_true, false_and, and_false, or_true, true_or, or_false, false_or, Nat.reduceLeDiff, Nat.reduceLT, Nat.reduceEqDiff, Nat.reduceAdd, t163, hV2.2.2.1 k' hk', eL, s_149 js2, s_161 js2, r_149_19 js2, s_163 js2, r_149_21 js2, (show deep < 41 by omega), (show deep < 2147483648 by omega), (show k' < 243 by omega), (show k' < 2147483648 by omega)]
        by_cases c0 : iw (fun r => L r && !(A r && R k' r)) = 0
        · simp only [g_139_335, g_139_338, g_139_339, g_139_340, g_139_341, g_139_342, g_139_343, kv_w8_0, kv_w8_1, kv_w8_2, kv_w8_3, kv_w8_4, ari_aa, ari_al, ari_la, ari_mm, ari_ml, ari_lm, ari_ltl, ari_llt, ari_lt, ari_le, ari_lel, ari_lle, ari_0, ari_eq, ari_eql, ari_leq, ari_cl, Nat.not_lt_zero, Bool.false_eq_true, Option.toList_some, Option.toList_none, List.cons_append, List.nil_append, kv_rv, kc1_i, kc1_r, kc1_n, n10, n01, n1514, n1213, n1312, if_true, if_false, not_true_eq_false, not_false_eq_true, and_self, true_and, and_true, false_and, and_false, or_true, true_or, or_false, false_or, Nat.reduceLeDiff, Nat.reduceLT, Nat.reduceEqDiff, Nat.reduceAdd, c0, s_149 js2]
          have hcov : COV A R P (Tk tk' (deep + 1)) := fun r hr hAr => hN'.no hr hAr (by have := iw_0.mp c0 r hr; intro hc; rw [this] at hc; cases hc)
          refine m_compare (tk := tk') js2 h32 hf hw hV2.2.2.2 hP (show deep + 1 ≤ 40 by omega) hV2.2.1 hmon t156 hcov hM2 (fun υ bp' fr3 hM3 hb1 hb2 => ?_)
          simp only [g_139_346, g_139_403, Nat.not_lt_zero, Bool.false_eq_true, Option.toList_some, Option.toList_none, List.cons_append, List.nil_append, kv_rv, kc1_i, kc1_r, kc1_n, n10, n01, n1514, n1213, n1312, if_true, if_false, not_true_eq_false, not_false_eq_true, and_self, true_and, and_true, false_and, and_false, or_true, true_or, or_false, false_or, Nat.reduceLeDiff, Nat.reduceLT, Nat.reduceEqDiff, Nat.reduceAdd]
          exact next υ bp' (fr3.mono (fun b k q => Or.inl q)) hM3 hb1 (fun hTS hSk => Nat.le_trans hb2 (PRs_mono (hTS' hTS hSk))) _ _
        · have push : ∀ v4 : Value, Wp (d + 3) 139 373 [.ref 149, .int (Int32.ofNat f), .int (iw A), .int (Int32.ofNat deep), .int (Int32.ofNat k'), .int (iw (fun r => L r && !(A r && R k' r)))] [] τ1 Φ := fun v4 => by
            simp only [g_139_373, g_139_376, g_139_377, g_139_380, g_139_381, g_139_383, g_139_384, g_139_385, g_139_388, g_139_389, g_139_390, g_139_392, kv_w8_0, kv_w8_1, kv_w8_2, kv_w8_3, kv_w8_4, ari_aa, ari_al, ari_la, ari_mm, ari_ml, ari_lm, ari_ltl, ari_llt, ari_lt, ari_le, ari_lel, ari_lle, ari_0, ari_eq, ari_eql, ari_leq, ari_cl, Nat.not_lt_zero, Bool.false_eq_true, Option.toList_some, Option.toList_none, List.cons_append, List.nil_append, kv_rv, kc1_i, kc1_r, kc1_n, n10, n01, n1514, n1213, n1312, if_true, if_false, not_true_eq_false, not_false_eq_true, and_self, true_and, and_true, false_and, and_false, or_true, true_or, or_false, false_or, Nat.reduceLeDiff, Nat.reduceLT, Nat.reduceEqDiff, Nat.reduceAdd, sh_si, r_si, s_149 js2, s_163 js2, r_149_21 js2, s_164 js2, r_149_22 js2, (show deep + 1 < 41 by omega), (show deep + 1 < 2147483648 by omega)]
            have js3 : JS (kv_si τ1 163 (deep + 1) (iw (fun r => L r && !(A r && R k' r)))) := js2.of rfl rfl
            refine m_rarest js3 (fun h0 => absurd (iw_0.mpr h0) c0) (fun ρ' hρ' hLρ' => ?_)
            simp only [g_139_395, g_139_396, g_139_397, g_139_400, g_139_401, g_139_402, g_139_403, ari_aa, ari_al, ari_la, ari_mm, ari_ml, ari_lm, ari_ltl, ari_llt, ari_lt, ari_le, ari_lel, ari_lle, ari_0, ari_eq, ari_eql, ari_leq, ari_cl, Nat.not_lt_zero, Bool.false_eq_true, Option.toList_some, Option.toList_none, List.cons_append, List.nil_append, kv_rv, kc1_i, kc1_r, kc1_n, n10, n01, n1514, n1213, n1312, if_true, if_false, not_true_eq_false, not_false_eq_true, and_self, true_and, and_true, false_and, and_false, or_true, true_or, or_false, false_or, Nat.reduceLeDiff, Nat.reduceLT, Nat.reduceEqDiff, Nat.reduceAdd, sh_si, r_si, s_149 js2, s_157 js2, r_149_10 js2, s_164 js2, r_149_22 js2, (show deep + 1 < 41 by omega), (show deep + 1 < 2147483648 by omega), (show deep + 1 < 40 by omega), (show deep + 1 < 2147483648 by omega)]
            have fr6 : FR (FDp (deep + 1)) τ1 (kv_si (kv_si (kv_si τ1 163 (deep + 1) (iw (fun r => L r && !(A r && R k' r)))) 164 (deep + 1) (Int32.ofNat ρ')) 157 (deep + 1) (-1)) := (((FR.rf _ τ1).si (Or.inr ⟨by omega, Nat.le_refl _⟩)).si (Or.inr ⟨by omega, Nat.le_refl _⟩)).si (Or.inr ⟨by omega, Nat.le_refl _⟩)
            refine IH (fun r => L r && !(A r && R k' r)) ρ' (deep + 1) tk' _ bp Φ (by omega) (by omega) hρ' hLρ' hN' hT' (fun i hi => ?_) ?_ ?_ ?_ (fr6.js js2) (h32.fr fr6 (fun b k q => by unfold FDp FM at q; omega)) (hV2.fr fr6 (fun b k q => by unfold FDp FM at q; omega)) (hM2.fr (((FR.rf (fun b k => b = 163 ∨ b = 164 ∨ b = 157) τ1).si (Or.inl rfl)).si (Or.inr (Or.inl rfl)) |>.si (Or.inr (Or.inr rfl))) (fun b k q => by omega)) (fun υ bp' fr7 hM7 hb7 hK7 v4 v5 => ?_) _ _
            · rw [i_si, if_neg (by omega), i_si, if_neg (by omega), i_si, if_neg (by omega)]; exact t156 i hi
            · rw [i_si, if_neg (by omega), i_si, if_neg (by omega), i_si, if_pos ⟨rfl, rfl⟩]
            · rw [i_si, if_neg (by omega), i_si, if_pos ⟨rfl, rfl⟩]
            · rw [i_si, if_pos ⟨rfl, rfl⟩]
            · rw [ari_sl (n := 1) (by omega), show deep + 1 - 1 = deep by omega]
              exact next υ bp' (fr6.tr fr7) hM7 hb7 (fun hTS hSk => hK7 (hTS' hTS hSk)) _ _
          rcases hM2 with ⟨z1, z2⟩ | ⟨bs, hb, hbq⟩
          · simp only [g_139_335, g_139_349, g_139_350, g_139_353, Nat.not_lt_zero, Bool.false_eq_true, Option.toList_some, Option.toList_none, List.cons_append, List.nil_append, kv_rv, kc1_i, kc1_r, kc1_n, n10, n01, n1514, n1213, n1312, if_true, if_false, not_true_eq_false, not_false_eq_true, and_self, true_and, and_true, false_and, and_false, or_true, true_or, or_false, false_or, Nat.reduceLeDiff, Nat.reduceLT, Nat.reduceEqDiff, Nat.reduceAdd, c0, z2, s_149 js2]
            exact push .null
          · simp only [g_139_335, g_139_349, g_139_350, g_139_353, g_139_356, g_139_357, g_139_358, g_139_359, g_139_360, g_139_362, kv_w8_0, kv_w8_1, kv_w8_2, kv_w8_3, kv_w8_4, ari_aa, ari_al, ari_la, ari_mm, ari_ml, ari_lm, ari_ltl, ari_llt, ari_lt, ari_le, ari_lel, ari_lle, ari_0, ari_eq, ari_eql, ari_leq, ari_cl, Nat.not_lt_zero, Bool.false_eq_true, Option.toList_some, Option.toList_none, List.cons_append, List.nil_append, kv_rv, kc1_i, kc1_r, kc1_n, n10, n01, n1514, n1213, n1312, if_true, if_false, not_true_eq_false, not_false_eq_true, and_self, true_and, and_true, false_and, and_false, or_true, true_or, or_false, false_or, Nat.reduceLeDiff, Nat.reduceLT, Nat.reduceEqDiff, Nat.reduceAdd, c0, hb.1, s_149 js2]
            refine m_needed (P := P) (C := fun p r => A r && R p r) js2 hP hV2.1 hV2.2.2.1 (fun v hv hvx => ?_)
            have hcb := cnt_le bs P
            by_cases cv : cnt bs P < deep + 1 + v
            · simp only [g_139_365, g_139_366, g_139_367, g_139_370, g_139_403, ari_aa, ari_al, ari_la, ari_mm, ari_ml, ari_lm, ari_ltl, ari_llt, ari_lt, ari_le, ari_lel, ari_lle, ari_0, ari_eq, ari_eql, ari_leq, ari_cl, Nat.not_lt_zero, Bool.false_eq_true, Option.toList_some, Option.toList_none, List.cons_append, List.nil_append, kv_rv, kc1_i, kc1_r, kc1_n, n10, n01, n1514, n1213, n1312, if_true, if_false, not_true_eq_false, not_false_eq_true, and_self, true_and, and_true, false_and, and_false, or_true, true_or, or_false, false_or, Nat.reduceLeDiff, Nat.reduceLT, Nat.reduceEqDiff, Nat.reduceAdd, hb.2.1, cv, s_149 js2, (show deep + 1 + v < 200 by omega), (show deep + 1 + v < 2147483648 by omega), (show cnt bs P < 41 by omega), (show cnt bs P < 2147483648 by omega)]
              refine next τ1 bp (FR.rf _ τ1) (Or.inr ⟨bs, hb, hbq⟩) (Nat.le_refl _) (fun hTS hSk => ?_) _ _
              have y1 := hvx (fun p => S p && !Tk tk' (deep + 1) p) (fun r hr hLr => by
                have hLr := (hN' r hr).mp hLr
                obtain ⟨p, p1, p2, p3⟩ := hS.1 r hr hLr.1
                have hTp : Tk tk' (deep + 1) p = false := Bool.eq_false_iff.mpr fun hc => by
                  have := hLr.2 p p1 hc
                  rw [p3] at this; cases this
                exact ⟨p, p1, by rw [p2, hTp]; rfl, by rw [hLr.1, p3]; rfl⟩)
              have y2 := PRs_uni (pr := fun _ => 1) (P := P) (S := Tk tk' (deep + 1)) (T := fun p => S p && !Tk tk' (deep + 1) p) (U := S) (fun p hp => by
                cases cT : Tk tk' (deep + 1) p with
                | true => rw [hTS' hTS hSk p hp cT]; rfl
                | false => simp) (fun p hp hTp => by rw [hTp]; simp)
              rw [PRs_c, PRs_c, PRs_c, Nat.one_mul, Nat.one_mul, Nat.one_mul, hT'] at y2
              have := (PRs_cmp (S := bs) (T := S) hP htc).mpr (Or.inl (by omega))
              omega
            · simp only [g_139_365, g_139_366, g_139_367, g_139_370, ari_aa, ari_al, ari_la, ari_mm, ari_ml, ari_lm, ari_ltl, ari_llt, ari_lt, ari_le, ari_lel, ari_lle, ari_0, ari_eq, ari_eql, ari_leq, ari_cl, Nat.not_lt_zero, Bool.false_eq_true, Option.toList_some, Option.toList_none, List.cons_append, List.nil_append, kv_rv, kc1_i, kc1_r, kc1_n, n10, n01, n1514, n1213, n1312, if_true, if_false, not_true_eq_false, not_false_eq_true, and_self, true_and, and_true, false_and, and_false, or_true, true_or, or_false, false_or, Nat.reduceLeDiff, Nat.reduceLT, Nat.reduceEqDiff, Nat.reduceAdd, hb.2.1, cv, s_149 js2, (show deep + 1 + v < 200 by omega), (show deep + 1 + v < 2147483648 by omega), (show cnt bs P < 41 by omega), (show cnt bs P < 2147483648 by omega)]
              exact push .null
      rcases hM1 with ⟨z1, z2⟩ | ⟨bs, hb, hbq⟩
      · simp only [g_139_284, g_139_285, g_139_288, Nat.not_lt_zero, Bool.false_eq_true, Option.toList_some, Option.toList_none, List.cons_append, List.nil_append, kv_rv, kc1_i, kc1_r, kc1_n, n10, n01, n1514, n1213, n1312, if_true, if_false, not_true_eq_false, not_false_eq_true, and_self, true_and, and_true, false_and, and_false, or_true, true_or, or_false, false_or, Nat.reduceLeDiff, Nat.reduceLT, Nat.reduceEqDiff, Nat.reduceAdd, sh_si, z2, s_149 js]
        exact go _
      · have hcb := cnt_le bs P
        by_cases cb : deep + 1 ≤ cnt bs P
        · simp only [g_139_284, g_139_285, g_139_288, g_139_291, g_139_292, g_139_293, g_139_294, g_139_295, g_139_298, ari_aa, ari_al, ari_la, ari_mm, ari_ml, ari_lm, ari_ltl, ari_llt, ari_lt, ari_le, ari_lel, ari_lle, ari_0, ari_eq, ari_eql, ari_leq, ari_cl, Nat.not_lt_zero, Bool.false_eq_true, Option.toList_some, Option.toList_none, List.cons_append, List.nil_append, kv_rv, kc1_i, kc1_r, kc1_n, n10, n01, n1514, n1213, n1312, if_true, if_false, not_true_eq_false, not_false_eq_true, and_self, true_and, and_true, false_and, and_false, or_true, true_or, or_false, false_or, Nat.reduceLeDiff, Nat.reduceLT, Nat.reduceEqDiff, Nat.reduceAdd, sh_si, hb.1, hb.2.1, cb, s_149 js, (show deep + 1 < 41 by omega), (show deep + 1 < 2147483648 by omega), (show cnt bs P < 41 by omega), (show cnt bs P < 2147483648 by omega)]
          exact go _
        · simp only [g_139_284, g_139_285, g_139_288, g_139_291, g_139_292, g_139_293, g_139_294, g_139_295, g_139_298, ari_aa, ari_al, ari_la, ari_mm, ari_ml, ari_lm, ari_ltl, ari_llt, ari_lt, ari_le, ari_lel, ari_lle, ari_0, ari_eq, ari_eql, ari_leq, ari_cl, Nat.not_lt_zero, Bool.false_eq_true, Option.toList_some, Option.toList_none, List.cons_append, List.nil_append, kv_rv, kc1_i, kc1_r, kc1_n, n10, n01, n1514, n1213, n1312, if_true, if_false, not_true_eq_false, not_false_eq_true, and_self, true_and, and_true, false_and, and_false, or_true, true_or, or_false, false_or, Nat.reduceLeDiff, Nat.reduceLT, Nat.reduceEqDiff, Nat.reduceAdd, sh_si, hb.1, hb.2.1, cb, s_149 js, (show deep + 1 < 41 by omega), (show deep + 1 < 2147483648 by omega), (show cnt bs P < 41 by omega), (show cnt bs P < 2147483648 by omega)]
          refine exit (fun hTS => ?_) _ _
          have hT0 := hTq q0 q01 q03
          have y : cnt (fun p => Tk tk deep p || decide (p = q0)) P ≤ cnt S P := cnt_imp (fun p hp h => by
            rw [Bool.or_eq_true, decide_eq_true_eq] at h
            rcases h with z | z
            · exact hTS p hp z
            · rw [z]; exact q02)
          rw [cnt_ins q01 hT0, hT] at y
          have := (PRs_cmp (S := bs) (T := S) hP htc).mpr (Or.inl (by omega))
          omega
theorem dfs_all (hf : f < 16) (hw : w ≤ 5) (hP : P ≤ 40) (hmon : ∀ p q, p < q → q < P → pn p < pn q) (hS : LST A R P (prc (fun p => tcf w (pn p))) S) : ∀ n, NODE A S R P pn f w (d + 3) n
  | 0 => fun L ρ deep tk τ bp Φ hn hdep hρ hLρ => by
    have := cnt_lt_of hρ hLρ
    omega
  | n + 1 => fun L ρ deep tk τ bp Φ hn hdep hρ hLρ hN hT h156 h163 h164 h157 js h3 hV hM H v4 v5 => dfs_in js h3 hV hf hw hP hmon hS (dfs_all hf hw hP hmon hS n) hn hdep hρ hLρ hN hT h156 H P 0 (by omega) (by omega) τ bp (FR.rf _ τ) h163 h164 (by rw [h157]; decide) hM (Nat.le_refl _) (fun _ ⟨q, hq, _⟩ => absurd hq (by omega)) v4 v5
end LD

/-! ===== least sums, the class: the search ===== -/
def KK (P : Nat) (S T O : Nat → Bool) : Prop := (∀ p, p < P → T p = true → S p = true) ∧ ∀ p, p < P → S p = true → T p = false → O p = true
/-- the rows in need: those of A at which none of T holds -/
def NED (A : Nat → Bool) (R : Nat → Nat → Bool) (P : Nat) (T N : Nat → Bool) : Prop := ∀ r, r < 32 → (N r = true ↔ A r = true ∧ ∀ p, p < P → T p = true → R p r = false)
theorem NED.no {A : Nat → Bool} {R : Nat → Nat → Bool} {P : Nat} {T N : Nat → Bool} (h : NED A R P T N) {r : Nat} (hr : r < 32) (hA : A r = true) (hN : ¬ N r = true) : ∃ p, p < P ∧ T p = true ∧ R p r = true := by
  refine Classical.byContradiction fun hn => hN ((h r hr).mpr ⟨hA, fun p hp hT => Bool.eq_false_iff.mpr fun hR => hn ⟨p, hp, hT, hR⟩⟩)
theorem KK_dom {A : Nat → Bool} {R : Nat → Nat → Bool} {P : Nat} {pr : Nat → Nat} {S T N W : Nat → Bool} (hS : LST A R P pr S) (hpos : ∀ p, p < P → 0 < pr p) (hN : NED A R P T N) {p : Nat} (hp : p < P) (hd : DOM P R pr N W p) (hK : KK P S T W) : KK P S T (fun q => W q && decide (q ≠ p)) := by
  refine ⟨hK.1, fun q hq hSq hTq => ?_⟩
  try dsimp only
  rw [hK.2 q hq hSq hTq, Bool.true_and, decide_eq_true_eq]
  intro hqp
  subst hqp
  have hdel := PRs_del (pr := pr) hp hSq
  rcases hd with ⟨u, u1, u2, u3, u4⟩ | h0
  · have hcov : COV A R P (fun x => (S x && decide (x ≠ q)) || decide (x = u)) := fun r hr hA => by
      obtain ⟨x, x1, x2, x3⟩ := hS.1 r hr hA
      by_cases cx : x = q
      · subst cx
        by_cases cN : N r = true
        · exact ⟨u, u1, by simp, u4 r hr cN x3⟩
        · obtain ⟨y, y1, y2, y3⟩ := hN.no hr hA cN
          have hy : y ≠ x := fun z => by rw [z, hTq] at y2; cases y2
          exact ⟨y, y1, by (try dsimp only); rw [hK.1 y y1 y2, decide_eq_true hy]; rfl, y3⟩
      · exact ⟨x, x1, by (try dsimp only); rw [x2, decide_eq_true cx]; rfl, x3⟩
    have hle := hS.2 _ hcov
    cases cu : (S u && decide (u ≠ q)) with
    | true =>
      have e : PRs pr P (fun x => (S x && decide (x ≠ q)) || decide (x = u)) = PRs pr P (fun x => S x && decide (x ≠ q)) := PRs_congr (fun x _ => by
        by_cases c : x = u
        · rw [c, cu]; rfl
        · rw [decide_eq_false c, Bool.or_false])
      have := hpos q hp
      omega
    | false =>
      have e := PRs_ins (pr := pr) (S := fun x => S x && decide (x ≠ q)) u1 cu
      omega
  · have hcov : COV A R P (fun x => S x && decide (x ≠ q)) := fun r hr hA => by
      obtain ⟨x, x1, x2, x3⟩ := hS.1 r hr hA
      by_cases cx : x = q
      · subst cx
        by_cases cN : N r = true
        · rw [h0 r hr cN] at x3; cases x3
        · obtain ⟨y, y1, y2, y3⟩ := hN.no hr hA cN
          have hy : y ≠ x := fun z => by rw [z, hTq] at y2; cases y2
          exact ⟨y, y1, by (try dsimp only); rw [hK.1 y y1 y2, decide_eq_true hy]; rfl, y3⟩
      · exact ⟨x, x1, by (try dsimp only); rw [x2, decide_eq_true cx]; rfl, x3⟩
    have hle := hS.2 _ hcov
    have := hpos q hp
    omega
/-- the best so far -/
def SB (A : Nat → Bool) (R : Nat → Nat → Bool) (P : Nat) (pr : Nat → Nat) (bp : Nat) (bs : Nat → Bool) (τ : kv_S) : Prop := kv_l τ 14 10 = Int64.ofNat bp ∧ kv_l τ 14 11 = lw bs ∧ bp ≤ 1152921504606846976 ∧ (bp = 1152921504606846976 ∨ COV A R P bs ∧ bp = PRs pr P bs)
theorem lw_dl (f : Nat → Bool) {n : Nat} (hn : n < 64) : lw f &&& (lw (fun r => decide (r = n)) ^^^ -1) = lw (fun r => f r && decide (r ≠ n)) := by rw [← lw_one hn]; exact lw_del f hn
section CC
variable {d : Nat} {Φ : Option Value → kv_S → Prop} {P : Nat} {R : Nat → Nat → Bool} {pr : Nat → Nat} {A S : Nat → Bool}
def FS (b k : Nat) : Prop := b = 14 ∧ (k = 10 ∨ k = 11)
theorem se_zero {τ : kv_S} (js : JS τ) (hP : P ≤ 40) (hb : ∀ p, p < P → pr p ≤ 2251799813685248) {N T : Nat → Bool} {l2 : Int64} {i8 : Int32} (hN : NED A R P T N) (hz : iw N = 0) {bp : Nat} {bs : Nat → Bool} (hB : SB A R P pr bp bs τ) (H : ∀ υ bp' bs', FR FS τ υ → SB A R P pr bp' bs' υ → bp' ≤ bp → ((∀ p, p < P → T p = true → S p = true) → bp' ≤ PRs pr P S) → Φ none υ) : Wc d 58 [.ref 14, .int (iw N), .long l2, .long (lw T), .long (Int64.ofNat (PRs pr P T)), .int i8] τ Φ := by
  have hle := PRs_le (S := T) hb
  have hT : COV A R P T := fun r hr hA => hN.no hr hA (by rw [iw_0.mp hz r hr]; decide)
  have hlt : PRs pr P T < 9223372036854775808 := by omega
  have hbl : bp < 9223372036854775808 := by have := hB.2.2.1; omega
  by_cases c : bp ≤ PRs pr P T
  · simp only [c_58, g_58_0, g_58_1, g_58_4, g_58_6, g_58_7, g_58_10, g_58_11, g_58_26, Nat.not_lt_zero, Bool.false_eq_true, Option.toList_some, Option.toList_none, List.cons_append, List.nil_append, kv_rv, kc1_i, kc1_r, kc1_n, n10, n01, n1514, n1213, n1312, if_true, if_false, not_true_eq_false, not_false_eq_true, and_self, true_and, and_true, false_and, and_false, or_true, true_or, or_false, false_or, Nat.reduceLeDiff, Nat.reduceLT, Nat.reduceEqDiff, Nat.reduceAdd, hz, lg_cmp_ge, hB.1, lar_le hbl hlt, c, s_14 js, r_8_3 js]
    exact H τ bp bs (FR.rf _ τ) hB (Nat.le_refl _) (fun h => Nat.le_trans c (PRs_mono h))
  · simp only [c_58, g_58_0, g_58_1, g_58_4, g_58_6, g_58_7, g_58_10, g_58_11, g_58_14, g_58_15, g_58_17, g_58_20, g_58_21, g_58_23, g_58_26, Nat.not_lt_zero, Bool.false_eq_true, Option.toList_some, Option.toList_none, List.cons_append, List.nil_append, kv_rv, kc1_i, kc1_r, kc1_n, n10, n01, n1514, n1213, n1312, if_true, if_false, not_true_eq_false, not_false_eq_true, and_self, true_and, and_true, false_and, and_false, or_true, true_or, or_false, false_or, Nat.reduceLeDiff, Nat.reduceLT, Nat.reduceEqDiff, Nat.reduceAdd, hz, lg_cmp_ge, hB.1, lar_le hbl hlt, c, sh_sl, s_14 js, r_8_3 js]
    refine H _ (PRs pr P T) T (((FR.rf _ τ).sl ⟨rfl, Or.inl rfl⟩).sl ⟨rfl, Or.inr rfl⟩) ⟨?_, ?_, by have := hB.2.2.1; omega, Or.inr ⟨hT, rfl⟩⟩ (by omega) (fun h => PRs_mono h)
    · rw [l_sl, if_neg (by decide), l_sl, if_pos ⟨rfl, rfl⟩]
    · rw [l_sl, if_pos ⟨rfl, rfl⟩]
/-- what a search owes -/
def SRCH (P : Nat) (R : Nat → Nat → Bool) (pr : Nat → Nat) (A S : Nat → Bool) (e n : Nat) : Prop := ∀ (N O T : Nat → Bool) (dep : Nat) (τ : kv_S) (bp : Nat) (bs : Nat → Bool) (Φ : Option Value → kv_S → Prop), JS τ → CV P R pr τ → cnt N 32 ≤ n → dep + cnt N 32 ≤ 32 → NED A R P T N → (∀ p, O p = true → p < P ∧ T p = false) → SB A R P pr bp bs τ → (∀ υ bp' bs', FR FS τ υ → SB A R P pr bp' bs' υ → bp' ≤ bp → (KK P S T O → bp' ≤ PRs pr P S) → Φ none υ) → Wc e 58 [.ref 14, .int (iw N), .long (lw O), .long (lw T), .long (Int64.ofNat (PRs pr P T)), .int (Int32.ofNat dep)] τ Φ
theorem se_loop {σ : kv_S} (js0 : JS σ) (hc0 : CV P R pr σ) (hP : P ≤ 40) (hS : LST A R P pr S) {e n : Nat} (IH : SRCH P R pr A S e n) {N T W : Nat → Bool} {dep ρ : Nat} {l2 : Int64} (hn : cnt N 32 ≤ n + 1) (hdep : dep + cnt N 32 ≤ 32) (hN : NED A R P T N) (hW : ∀ p, W p = true → p < P ∧ T p = false) (hρ : ρ < 32) (hNρ : N ρ = true) {bp0 : Nat} (H : ∀ υ bp' bs', FR FS σ υ → SB A R P pr bp' bs' υ → bp' ≤ bp0 → (KK P S T W → bp' ≤ PRs pr P S) → Φ none υ) : ∀ m p, p + m = P → ∀ τ (W' : Nat → Bool) bp bs, FR FS σ τ → SB A R P pr bp bs τ → bp ≤ bp0 → (∀ q, W' q = true → W q = true) → (∀ q, p ≤ q → W' q = W q) → (∀ q, q < p → W q = true → R q ρ = false → W' q = true) → (KK P S T W → (∃ q, q < p ∧ R q ρ = true ∧ S q = true ∧ T q = false) → bp ≤ PRs pr P S) → Wp (e + 1) 58 78 [.ref 14, .int (iw N), .long l2, .null, .long (lw T), .null, .long (Int64.ofNat (PRs pr P T)), .null, .int (Int32.ofNat dep), .long (lw W'), .null, .long (lw (fun q => decide (q < P) && R q ρ)), .null, .int (Int32.ofNat p)] [] τ Φ
  | 0, p, e1, τ, W', bp, bs, fr, hB, hbp, a1, a2, a3, a4 => by
    have js := fr.js js0
    have hc : CV P R pr τ := hc0.fr fr (fun b k q => by unfold FS at q; omega)
    have e2 : p = P := by omega
    subst e2
    simp only [g_58_78, g_58_80, g_58_81, g_58_84, g_58_173, ari_aa, ari_al, ari_la, ari_mm, ari_ml, ari_lm, ari_ltl, ari_llt, ari_lt, ari_le, ari_lel, ari_lle, ari_0, ari_eq, ari_eql, ari_leq, ari_cl, Nat.not_lt_zero, Bool.false_eq_true, Option.toList_some, Option.toList_none, List.cons_append, List.nil_append, kv_rv, kc1_i, kc1_r, kc1_n, n10, n01, n1514, n1213, n1312, if_true, if_false, not_true_eq_false, not_false_eq_true, and_self, true_and, and_true, false_and, and_false, or_true, true_or, or_false, false_or, Nat.reduceLeDiff, Nat.reduceLT, Nat.reduceEqDiff, Nat.reduceAdd, hc.1, s_14 js, r_8_3 js, (show p < 41 by omega), (show p < 2147483648 by omega), (show p ≤ p by omega)]
    refine H τ bp bs fr hB hbp (fun hK => a4 hK ?_)
    obtain ⟨q, q1, q2, q3⟩ := hS.1 ρ hρ ((hN ρ hρ).mp hNρ).1
    refine ⟨q, q1, q3, q2, Bool.eq_false_iff.mpr fun hT => ?_⟩
    have := ((hN ρ hρ).mp hNρ).2 q q1 hT
    rw [q3] at this; cases this
  | m + 1, p, e1, τ, W', bp, bs, fr, hB, hbp, a1, a2, a3, a4 => by
    have js := fr.js js0
    have hc : CV P R pr τ := hc0.fr fr (fun b k q => by unfold FS at q; omega)
    simp only [g_58_78, g_58_80, g_58_81, g_58_84, ari_aa, ari_al, ari_la, ari_mm, ari_ml, ari_lm, ari_ltl, ari_llt, ari_lt, ari_le, ari_lel, ari_lle, ari_0, ari_eq, ari_eql, ari_leq, ari_cl, Nat.not_lt_zero, Bool.false_eq_true, Option.toList_some, Option.toList_none, List.cons_append, List.nil_append, kv_rv, kc1_i, kc1_r, kc1_n, n10, n01, n1514, n1213, n1312, if_true, if_false, not_true_eq_false, not_false_eq_true, and_self, true_and, and_true, false_and, and_false, or_true, true_or, or_false, false_or, Nat.reduceLeDiff, Nat.reduceLT, Nat.reduceEqDiff, Nat.reduceAdd, hc.1, s_14 js, r_8_3 js, (show p < 41 by omega), (show p < 2147483648 by omega), (show P < 41 by omega), (show P < 2147483648 by omega), (show ¬ P ≤ p by omega)]
    by_cases c0 : lw (fun q => (decide (q < P) && R q ρ) && W' q) >>> Int64.ofNat p = 0
    · simp only [g_58_87, g_58_89, g_58_91, g_58_92, g_58_94, g_58_95, g_58_96, g_58_97, g_58_100, Nat.not_lt_zero, Bool.false_eq_true, Option.toList_some, Option.toList_none, List.cons_append, List.nil_append, kv_rv, kc1_i, kc1_r, kc1_n, n10, n01, n1514, n1213, n1312, if_true, if_false, not_true_eq_false, not_false_eq_true, and_self, true_and, and_true, false_and, and_false, or_true, true_or, or_false, false_or, Nat.reduceLeDiff, Nat.reduceLT, Nat.reduceEqDiff, Nat.reduceAdd, lsh_k p (by omega), lw_and, lg_cmp_eq, c0]
      refine H τ bp bs fr hB hbp (fun hK => a4 hK ?_)
      obtain ⟨q, q1, q2, q3⟩ := hS.1 ρ hρ ((hN ρ hρ).mp hNρ).1
      have hT : T q = false := Bool.eq_false_iff.mpr fun hT => by
        have := ((hN ρ hρ).mp hNρ).2 q q1 hT
        rw [q3] at this; cases this
      by_cases cq : q < p
      · exact ⟨q, cq, q3, q2, hT⟩
      · have z := (lw_sh0 (show p < 64 by omega)).mp c0 q (by omega) (by omega)
        try dsimp only at z
        rw [decide_eq_true q1, q3, a2 q (by omega), hK.2 q q1 q2 hT] at z
        cases z
    · simp only [g_58_87, g_58_89, g_58_91, g_58_92, g_58_94, g_58_95, g_58_96, g_58_97, Nat.not_lt_zero, Bool.false_eq_true, Option.toList_some, Option.toList_none, List.cons_append, List.nil_append, kv_rv, kc1_i, kc1_r, kc1_n, n10, n01, n1514, n1213, n1312, if_true, if_false, not_true_eq_false, not_false_eq_true, and_self, true_and, and_true, false_and, and_false, or_true, true_or, or_false, false_or, Nat.reduceLeDiff, Nat.reduceLT, Nat.reduceEqDiff, Nat.reduceAdd, lsh_k p (by omega), lw_and, lg_cmp_eq, c0]
      cases cb : ((decide (p < P) && R p ρ) && W' p) with
      | false =>
        simp only [g_58_101, g_58_103, g_58_105, g_58_106, g_58_108, g_58_109, g_58_110, g_58_111, g_58_112, g_58_113, g_58_167, g_58_170, ari_aa, ari_al, ari_la, ari_mm, ari_ml, ari_lm, ari_ltl, ari_llt, ari_lt, ari_le, ari_lel, ari_lle, ari_0, ari_eq, ari_eql, ari_leq, ari_cl, Nat.not_lt_zero, Bool.false_eq_true, Option.toList_some, Option.toList_none, List.cons_append, List.nil_append, kv_rv, kc1_i, kc1_r, kc1_n, n10, n01, n1514, n1213, n1312, if_true, if_false, not_true_eq_false, not_false_eq_true, and_self, true_and, and_true, false_and, and_false, or_true, true_or, or_false, false_or, Nat.reduceLeDiff, Nat.reduceLT, Nat.reduceEqDiff, Nat.reduceAdd, lsh_k p (by omega), lw_and, lw_bit (fun q => (decide (q < P) && R q ρ) && W' q) (show p < 64 by omega), cb, lg_cmp_eq]
        rw [decide_eq_true (show p < P by omega), Bool.true_and] at cb
        refine se_loop js0 hc0 hP hS IH hn hdep hN hW hρ hNρ H m (p + 1) (by omega) τ W' bp bs fr hB hbp a1 (fun q hq => a2 q (by omega)) (fun q hq hWq hR => ?_) (fun hK hex => ?_)
        · by_cases z : q = p
          · rw [z] at hWq ⊢; rw [a2 p (Nat.le_refl _)]; exact hWq
          · exact a3 q (by omega) hWq hR
        · obtain ⟨q, q1, q2, q3, q4⟩ := hex
          by_cases z : q = p
          · rw [z] at q2 q3 q4
            have := hK.2 p (by omega) q3 q4
            rw [q2, a2 p (Nat.le_refl _), this] at cb
            cases cb
          · exact a4 hK ⟨q, by omega, q2, q3, q4⟩
      | true =>
        have cb0 := cb
        rw [Bool.and_eq_true, Bool.and_eq_true, decide_eq_true_eq] at cb
        obtain ⟨⟨p1, hRp⟩, hWp⟩ := cb
        have hTp := (hW p (a1 p hWp)).2
        have eN : (fun r => N r && !R p r) = fun r => N r && !R p r := rfl
        have hcnt : cnt (fun r => N r && !R p r) 32 < cnt N 32 := by
          have h1 := cnt_del (B := N) hNρ 32 hρ
          have h2 : cnt (fun r => N r && !R p r) 32 ≤ cnt (fun i => N i && decide (i ≠ ρ)) 32 := cnt_imp (fun r _ h => by
            rw [Bool.and_eq_true] at h ⊢
            refine ⟨h.1, decide_eq_true fun z => ?_⟩
            have := h.2
            rw [z, hRp] at this; cases this)
          omega
        simp only [g_58_101, g_58_103, g_58_105, g_58_106, g_58_108, g_58_109, g_58_110, g_58_111, g_58_112, g_58_113, g_58_116, g_58_118, g_58_119, g_58_121, g_58_122, g_58_125, g_58_126, g_58_127, g_58_129, g_58_130, g_58_131, g_58_132, g_58_135, g_58_137, g_58_138, g_58_139, g_58_140, g_58_141, g_58_143, g_58_145, g_58_146, g_58_148, g_58_149, g_58_150, g_58_152, g_58_153, g_58_156, g_58_158, g_58_159, g_58_160, g_58_162, g_58_163, g_58_164, kv_w8_0, kv_w8_1, kv_w8_2, kv_w8_3, kv_w8_4, kv_w8_0, ari_aa, ari_al, ari_la, ari_mm, ari_ml, ari_lm, ari_ltl, ari_llt, ari_lt, ari_le, ari_lel, ari_lle, ari_0, ari_eq, ari_eql, ari_leq, ari_cl, Nat.not_lt_zero, Bool.false_eq_true, Option.toList_some, Option.toList_none, List.cons_append, List.nil_append, kv_rv, kc1_i, kc1_r, kc1_n, n10, n01, n1514, n1213, n1312, if_true, if_false, not_true_eq_false, not_false_eq_true, and_self, true_and, and_true, false_and, and_false, or_true, true_or, or_false, false_or, Nat.reduceLeDiff, Nat.reduceLT, Nat.reduceEqDiff, Nat.reduceAdd, lsh_k p (by omega), lw_and, lw_bit (fun q => (decide (q < P) && R q ρ) && W' q) (show p < 64 by omega), cb0, lg_cmp_eq, (show ¬ (1 : Int64) = 0 by decide), lw_dl W' (show p < 64 by omega), hc.2.1 p p1, hc.2.2.1 p p1, iw_andn, lw_one (show p < 64 by omega), lw_or, lar_add, ← PRs_ins (pr := pr) (S := T) p1 hTp, s_14 js, r_8_3 js, s_18 js, r_14_5 js, s_19 js, r_14_6 js, (show p < 40 by omega), (show p < 2147483648 by omega)]
        refine IH (fun r => N r && !R p r) (fun q => W' q && decide (q ≠ p)) (fun q => T q || decide (q = p)) (dep + 1) τ bp bs _ js hc (by omega) (by omega) (fun r hr => ?_) (fun q hq => ?_) hB (fun υ bp' bs' fr2 hB2 hb2 hK2 => ?_)
        · rw [Bool.and_eq_true, hN r hr, Bool.not_eq_true']
          constructor
          · rintro ⟨⟨z1, z2⟩, z3⟩
            refine ⟨z1, fun q hq hTq => ?_⟩
            rw [Bool.or_eq_true, decide_eq_true_eq] at hTq
            rcases hTq with y | y
            · exact z2 q hq y
            · rw [y]; exact z3
          · rintro ⟨z1, z2⟩
            exact ⟨⟨z1, fun q hq hTq => z2 q hq (by (try dsimp only); rw [hTq]; rfl)⟩, z2 p p1 (by simp)⟩
        · rw [Bool.and_eq_true, decide_eq_true_eq] at hq
          obtain ⟨y1, y2⟩ := hW q (a1 q hq.1)
          exact ⟨y1, by rw [y2, decide_eq_false hq.2]; rfl⟩
        · simp only [g_58_167, g_58_170, ari_aa, ari_al, ari_la, ari_mm, ari_ml, ari_lm, ari_ltl, ari_llt, ari_lt, ari_le, ari_lel, ari_lle, ari_0, ari_eq, ari_eql, ari_leq, ari_cl, Nat.not_lt_zero, Bool.false_eq_true, Option.toList_some, Option.toList_none, List.cons_append, List.nil_append, kv_rv, kc1_i, kc1_r, kc1_n, n10, n01, n1514, n1213, n1312, if_true, if_false, not_true_eq_false, not_false_eq_true, and_self, true_and, and_true, false_and, and_false, or_true, true_or, or_false, false_or, Nat.reduceLeDiff, Nat.reduceLT, Nat.reduceEqDiff, Nat.reduceAdd]
          refine se_loop js0 hc0 hP hS IH hn hdep hN hW hρ hNρ H m (p + 1) (by omega) υ _ bp' bs' (fr.tr fr2) hB2 (by omega) (fun q hq => ?_) (fun q hq => ?_) (fun q hq hWq hR => ?_) (fun hK hex => ?_)
          · rw [Bool.and_eq_true] at hq; exact a1 q hq.1
          · rw [decide_eq_true (show q ≠ p by omega), Bool.and_true]; exact a2 q (by omega)
          · have z : q ≠ p := fun z => by rw [z, hRp] at hR; cases hR
            rw [a3 q (by omega) hWq hR, decide_eq_true z]; rfl
          · obtain ⟨q, q1, q2, q3, q4⟩ := hex
            by_cases z : ∃ q, q < p ∧ R q ρ = true ∧ S q = true ∧ T q = false
            · exact Nat.le_trans hb2 (a4 hK z)
            · have hqp : q = p := by
                refine Classical.byContradiction fun y => z ⟨q, by omega, q2, q3, q4⟩
              subst hqp
              refine hK2 ⟨fun u hu hT => ?_, fun u hu hSu hTu => ?_⟩
              · rw [Bool.or_eq_true, decide_eq_true_eq] at hT
                rcases hT with y | y
                · exact hK.1 u hu y
                · rw [y]; exact q3
              · rw [Bool.or_eq_false_iff, decide_eq_false_iff_not] at hTu
                have hWu := hK.2 u hu hSu hTu.1
                show (W' u && decide (u ≠ q)) = true
                rw [decide_eq_true (show u ≠ q from hTu.2), Bool.and_true]
                by_cases y : u < q
                · exact a3 u y hWu (Bool.eq_false_iff.mpr fun hR => z ⟨u, y, hR, hSu, hTu.1⟩)
                · rw [a2 u (by omega)]; exact hWu
theorem se_all (hP : P ≤ 40) (hS : LST A R P pr S) (hpos : ∀ p, p < P → 0 < pr p) (hb : ∀ p, p < P → pr p ≤ 2251799813685248) : ∀ n, SRCH P R pr A S (d + n + 3) n
  | 0 => fun N O T dep τ bp bs Φ js hc hn hdep hN hO hB H => by
    have hz : iw N = 0 := iw_0.mpr (fun r hr => Bool.eq_false_iff.mpr fun h => by have := cnt_lt_of hr h; omega)
    exact se_zero (S := S) js hP hb hN hz hB (fun υ bp' bs' fr h1 h2 h3 => H υ bp' bs' fr h1 h2 (fun hK => h3 hK.1))
  | n + 1 => fun N O T dep τ bp bs Φ js hc hn hdep hN hO hB H => by
    by_cases hz : iw N = 0
    · exact se_zero (S := S) js hP hb hN hz hB (fun υ bp' bs' fr h1 h2 h3 => H υ bp' bs' fr h1 h2 (fun hK => h3 hK.1))
    · have hne := iw_n0.mp hz
      have hle := PRs_le (S := T) hb
      have hcp : 0 < cnt N 32 := by
        obtain ⟨r, h1, h2⟩ := hne
        have := cnt_lt_of h1 h2; omega
      show Wc (d + n + 3 + 1) 58 _ τ Φ
      simp only [c_58, g_58_0, g_58_1, g_58_27, g_58_28, g_58_29, g_58_30, kv_w8_0, kv_w8_1, kv_w8_2, kv_w8_3, kv_w8_4, Nat.not_lt_zero, Bool.false_eq_true, Option.toList_some, Option.toList_none, List.cons_append, List.nil_append, kv_rv, kc1_i, kc1_r, kc1_n, n10, n01, n1514, n1213, n1312, if_true, if_false, not_true_eq_false, not_false_eq_true, and_self, true_and, and_true, false_and, and_false, or_true, true_or, or_false, false_or, Nat.reduceLeDiff, Nat.reduceLT, Nat.reduceEqDiff, Nat.reduceAdd, hz, s_14 js, r_8_3 js]
      refine m_undom (Q := fun W => (∀ p, W p = true → p < P ∧ T p = false) ∧ (KK P S T O → KK P S T W)) js hc hP (fun W p hp hQ hWp hd => ⟨fun q hq => ?_, fun hK => KK_dom hS hpos hN hp hd (hQ.2 hK)⟩) ⟨hO, id⟩ (fun W hQ => ?_)
      · rw [Bool.and_eq_true] at hq; exact hQ.1 q hq.1
      · simp only [g_58_33, g_58_35, g_58_37, g_58_39, g_58_42, g_58_44, g_58_45, g_58_46, g_58_48, kv_w8_0, kv_w8_1, kv_w8_2, kv_w8_3, kv_w8_4, ari_aa, ari_al, ari_la, ari_mm, ari_ml, ari_lm, ari_ltl, ari_llt, ari_lt, ari_le, ari_lel, ari_lle, ari_0, ari_eq, ari_eql, ari_leq, ari_cl, Nat.not_lt_zero, Bool.false_eq_true, Option.toList_some, Option.toList_none, List.cons_append, List.nil_append, kv_rv, kc1_i, kc1_r, kc1_n, n10, n01, n1514, n1213, n1312, if_true, if_false, not_true_eq_false, not_false_eq_true, and_self, true_and, and_true, false_and, and_false, or_true, true_or, or_false, false_or, Nat.reduceLeDiff, Nat.reduceLT, Nat.reduceEqDiff, Nat.reduceAdd, s_14 js, r_8_3 js, (show dep < 33 by omega), (show dep < 2147483648 by omega), (show ¬ 32 ≤ dep by omega)]
        refine m_leastPrice js hc hP hb (fun v hv hvx => ?_)
        have hbl := hB.2.2.1
        simp only [g_58_51, g_58_52, g_58_53, g_58_56, Nat.not_lt_zero, Bool.false_eq_true, Option.toList_some, Option.toList_none, List.cons_append, List.nil_append, kv_rv, kc1_i, kc1_r, kc1_n, n10, n01, n1514, n1213, n1312, if_true, if_false, not_true_eq_false, not_false_eq_true, and_self, true_and, and_true, false_and, and_false, or_true, true_or, or_false, false_or, Nat.reduceLeDiff, Nat.reduceLT, Nat.reduceEqDiff, Nat.reduceAdd, lar_add, hB.1, s_14 js, r_8_3 js]
        have hK0 : KK P S T W → PRs pr P T + v ≤ PRs pr P S := fun hK => by
          have hu := PRs_uni (pr := pr) (P := P) (S := T) (T := fun p => S p && !T p) (U := S) (fun p hp => by
            cases cT : T p with
            | true => rw [hK.1 p hp cT]; rfl
            | false => simp) (fun p hp hT => by rw [hT]; simp)
          have := hvx (fun p => S p && !T p) ⟨fun p hp hX => by
            rw [Bool.and_eq_true, Bool.not_eq_true'] at hX
            exact hK.2 p hp hX.1 hX.2, fun r hr hNr => by
            obtain ⟨p, q1, q2, q3⟩ := hS.1 r hr ((hN r hr).mp hNr).1
            have hT : T p = false := Bool.eq_false_iff.mpr fun hT => by
              have := ((hN r hr).mp hNr).2 p q1 hT
              rw [q3] at this; cases this
            exact ⟨p, q1, by (try dsimp only); rw [q2, hT]; rfl, q3⟩⟩
          omega
        by_cases c1 : PRs pr P T + v < bp
        · simp only [g_58_57, g_58_61, g_58_62, g_58_65, g_58_66, g_58_67, g_58_69, kv_w8_0, kv_w8_1, kv_w8_2, kv_w8_3, kv_w8_4, Nat.not_lt_zero, Bool.false_eq_true, Option.toList_some, Option.toList_none, List.cons_append, List.nil_append, kv_rv, kc1_i, kc1_r, kc1_n, n10, n01, n1514, n1213, n1312, if_true, if_false, not_true_eq_false, not_false_eq_true, and_self, true_and, and_true, false_and, and_false, or_true, true_or, or_false, false_or, Nat.reduceLeDiff, Nat.reduceLT, Nat.reduceEqDiff, Nat.reduceAdd, lg_cmp_lt, lar_lt (show PRs pr P T + v < 9223372036854775808 by omega) (show bp < 9223372036854775808 by omega), c1, s_14 js, r_8_3 js, s_21 js, r_14_8 js]
          refine m_tight js hc hP hne (fun ρ hρ hNρ => ?_)
          simp only [g_58_72, g_58_73, g_58_75, g_58_76, ari_aa, ari_al, ari_la, ari_mm, ari_ml, ari_lm, ari_ltl, ari_llt, ari_lt, ari_le, ari_lel, ari_lle, ari_0, ari_eq, ari_eql, ari_leq, ari_cl, Nat.not_lt_zero, Bool.false_eq_true, Option.toList_some, Option.toList_none, List.cons_append, List.nil_append, kv_rv, kc1_i, kc1_r, kc1_n, n10, n01, n1514, n1213, n1312, if_true, if_false, not_true_eq_false, not_false_eq_true, and_self, true_and, and_true, false_and, and_false, or_true, true_or, or_false, false_or, Nat.reduceLeDiff, Nat.reduceLT, Nat.reduceEqDiff, Nat.reduceAdd, hc.2.2.2.2 ρ hρ, s_21 js, r_14_8 js, (show ρ < 32 by omega), (show ρ < 2147483648 by omega)]
          exact se_loop js hc hP hS (se_all hP hS hpos hb n) hn hdep hN hQ.1 hρ hNρ (fun υ bp' bs' fr h1 h2 h3 => H υ bp' bs' fr h1 h2 (fun hK => h3 (hQ.2 hK))) P 0 (by omega) τ W bp bs (FR.rf _ τ) hB (Nat.le_refl _) (fun q h => h) (fun q _ => rfl) (fun q hq => absurd hq (by omega)) (fun _ ⟨q, hq, _⟩ => absurd hq (by omega))
        · simp only [g_58_57, g_58_60, Nat.not_lt_zero, Bool.false_eq_true, Option.toList_some, Option.toList_none, List.cons_append, List.nil_append, kv_rv, kc1_i, kc1_r, kc1_n, n10, n01, n1514, n1213, n1312, if_true, if_false, not_true_eq_false, not_false_eq_true, and_self, true_and, and_true, false_and, and_false, or_true, true_or, or_false, false_or, Nat.reduceLeDiff, Nat.reduceLT, Nat.reduceEqDiff, Nat.reduceAdd, lg_cmp_lt, lar_lt (show PRs pr P T + v < 9223372036854775808 by omega) (show bp < 9223372036854775808 by omega), c1]
          exact H τ bp bs (FR.rf _ τ) hB (Nat.le_refl _) (fun hK => by have := hK0 (hQ.2 hK); omega)
end CC

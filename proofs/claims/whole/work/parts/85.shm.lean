/-! ===== shaping: the model's pieces ===== -/
def mNet (σ : kv_S) (k : Nat) : aN := (fun g => kv_i σ 171 (40 * k + g), fun g => kv_i σ 172 (40 * k + g), fun i => kv_i σ 174 (6 * k + i))
def kpm (σ : kv_S) (k : Nat) : Nat → Bool := fun g => kv_i σ 173 (40 * k + g) == 1
theorem mt0 : ∀ t, t < 16 → ∀ c, c < 16 → (Int32.ofNat t &&& Int32.ofNat c = 0 ↔ t &&& c = 0) := by decide +kernel
theorem mt1 : ∀ t, t < 16 → ∀ c, c < 16 → (Int32.ofNat t &&& Int32.ofNat c = Int32.ofNat c ↔ (t ^^^ 15) &&& c = 0) := by decide +kernel
/-- the model's scratch while it shapes -/
def mScr (b i : Nat) : Prop := b = 181 ∨ b = 182 ∨ b = 149 ∧ i = 44 ∨ b = 149 ∧ i = 45
theorem mScr_N (b i : Nat) (h : mScr b i) : ¬ (168 ≤ b ∧ b ≤ 174) := by unfold mScr at h; omega
theorem mNet_fr {P : Nat → Nat → Prop} {σ τ : kv_S} (h : FR P σ τ) {k : Nat} (hp : ∀ b j, P b j → ¬ (b = 171 ∨ b = 172 ∨ b = 174)) : mNet τ k = mNet σ k := by
  unfold mNet
  rw [show (fun g => kv_i τ 171 (40 * k + g)) = fun g => kv_i σ 171 (40 * k + g) by funext j; exact h.i (fun q => hp _ _ q (by omega)), show (fun g => kv_i τ 172 (40 * k + g)) = fun g => kv_i σ 172 (40 * k + g) by funext j; exact h.i (fun q => hp _ _ q (by omega)), show (fun i => kv_i τ 174 (6 * k + i)) = fun i => kv_i σ 174 (6 * k + i) by funext j; exact h.i (fun q => hp _ _ q (by omega))]
theorem tbM_fr {P : Nat → Nat → Prop} {σ τ : kv_S} (h : FR P σ τ) {k : Nat} (hp : ∀ b j, P b j → ¬ b = 170) : tbM τ k = tbM σ k := by
  funext g; unfold tbM; rw [h.i (fun q => hp _ _ q rfl)]
theorem kpm_fr {P : Nat → Nat → Prop} {σ τ : kv_S} (h : FR P σ τ) {k : Nat} (hp : ∀ b j, P b j → ¬ b = 173) : kpm τ k = kpm σ k := by
  funext g; unfold kpm; rw [h.i (fun q => hp _ _ q rfl)]
section SM
variable {d : Nat} {Φ : Option Value → kv_S → Prop}
theorem areSame_loop {σ0 : kv_S} (h : JS σ0) {k w G g g2 : Nat} (hk : k < 8) (hn : JNm σ0 k w G) (hg : g < G) (hg2 : g2 < G) (H1 : (∀ row, row < 2 ^ w → vlM σ0 k G 1000 row g = vlM σ0 k G 1000 row g2) → ∀ τ, FR (fun b _ => b = 181 ∨ b = 182) σ0 τ → Φ (some (.int 1)) τ) (H0 : ¬ (∀ row, row < 2 ^ w → vlM σ0 k G 1000 row g = vlM σ0 k G 1000 row g2) → ∀ τ, FR (fun b _ => b = 181 ∨ b = 182) σ0 τ → Φ (some (.int 0)) τ) : ∀ m row, row + m = 2 ^ w → (∀ r, r < row → vlM σ0 k G 1000 r g = vlM σ0 k G 1000 r g2) → ∀ τ, FR (fun b _ => b = 181 ∨ b = 182) σ0 τ → Wp (d + 2) 179 3 [.ref 149, .int (Int32.ofNat k), .int (Int32.ofNat g), .int (Int32.ofNat g2), .int (Int32.ofNat row)] [] τ Φ
  | 0, row, e, hs, τ, fr => by
    have hW := pw8 hn.2.1
    have e2 : row = 2 ^ w := by omega
    subst e2
    have js := fr.js h
    have e5 : kv_i τ 168 k = Int32.ofNat w := by rw [fr.i (by omega)]; exact hn.2.2.2.2.1
    simp only [g_179_3, g_179_5, g_179_6, g_179_7, g_179_10, g_179_11, g_179_12, g_179_13, g_179_47, g_179_48, ari_aa, ari_al, ari_la, ari_mm, ari_ml, ari_lm, ari_ltl, ari_llt, ari_lt, ari_le, ari_lel, ari_lle, ari_0, ari_eq, ari_eql, ari_leq, ari_cl, Nat.not_lt_zero, Bool.false_eq_true, Option.toList_some, Option.toList_none, List.cons_append, List.nil_append, kv_rv, kc1_i, kc1_r, kc1_n, n10, n01, n1514, n1213, n1312, if_true, if_false, not_true_eq_false, not_false_eq_true, and_self, true_and, and_true, false_and, and_false, or_true, true_or, or_false, false_or, Nat.reduceLeDiff, Nat.reduceLT, Nat.reduceEqDiff, Nat.reduceAdd, s_149 js, s_168 js, r_149_27 js, e5, pow_w w hn.2.1, (show k < 8 by omega), (show k < 2147483648 by omega), (show 2 ^ w < 257 by omega), (show 2 ^ w < 2147483648 by omega), (show 2 ^ w ≤ 2 ^ w by omega)]
    exact H1 hs τ fr
  | m + 1, row, e, hs, τ, fr => by
    have hW := pw8 hn.2.1
    have hG := hn.2.2.1
    have js := fr.js h
    have e5 : kv_i τ 168 k = Int32.ofNat w := by rw [fr.i (by omega)]; exact hn.2.2.2.2.1
    have hn2 : JNm τ k w G := hn.fr fr hk hpM
    simp only [g_179_3, g_179_5, g_179_6, g_179_7, g_179_10, g_179_11, g_179_12, g_179_13, ari_aa, ari_al, ari_la, ari_mm, ari_ml, ari_lm, ari_ltl, ari_llt, ari_lt, ari_le, ari_lel, ari_lle, ari_0, ari_eq, ari_eql, ari_leq, ari_cl, Nat.not_lt_zero, Bool.false_eq_true, Option.toList_some, Option.toList_none, List.cons_append, List.nil_append, kv_rv, kc1_i, kc1_r, kc1_n, n10, n01, n1514, n1213, n1312, if_true, if_false, not_true_eq_false, not_false_eq_true, and_self, true_and, and_true, false_and, and_false, or_true, true_or, or_false, false_or, Nat.reduceLeDiff, Nat.reduceLT, Nat.reduceEqDiff, Nat.reduceAdd, s_149 js, s_168 js, r_149_27 js, e5, pow_w w hn.2.1, (show k < 8 by omega), (show k < 2147483648 by omega), (show row < 257 by omega), (show row < 2147483648 by omega), (show 2 ^ w < 257 by omega), (show 2 ^ w < 2147483648 by omega), (show ¬ 2 ^ w ≤ row by omega)]
    simp only [g_179_16, g_179_17, g_179_18, g_179_20, g_179_21, kv_w8_0, kv_w8_1, kv_w8_2, kv_w8_3, kv_w8_4, Nat.not_lt_zero, Bool.false_eq_true, Option.toList_some, Option.toList_none, List.cons_append, List.nil_append, kv_rv, kc1_i, kc1_r, kc1_n, n10, n01, n1514, n1213, n1312, if_true, if_false, not_true_eq_false, not_false_eq_true, and_self, true_and, and_true, false_and, and_false, or_true, true_or, or_false, false_or, Nat.reduceLeDiff, Nat.reduceLT, Nat.reduceEqDiff, Nat.reduceAdd, s_149 js]
    refine m_work_m js hk hn2 (by omega) (tt_none hG) (fun υ fr2 hv => ?_)
    have fr3 := fr.tr (fr2.mono (Q := fun b _ => b = 181 ∨ b = 182) (fun b j q => Or.inl q))
    have js3 := fr3.js h
    have v1 : kv_i υ 181 g = bI (vlM σ0 k G 1000 row g) := by rw [hv g hg, vlM_fr fr hk hpM]
    have v2 : kv_i υ 181 g2 = bI (vlM σ0 k G 1000 row g2) := by rw [hv g2 hg2, vlM_fr fr hk hpM]
    by_cases c : vlM σ0 k G 1000 row g = vlM σ0 k G 1000 row g2
    · simp only [g_179_24, g_179_25, g_179_28, g_179_29, g_179_30, g_179_31, g_179_34, g_179_35, g_179_36, g_179_39, g_179_40, g_179_41, g_179_44, ari_aa, ari_al, ari_la, ari_mm, ari_ml, ari_lm, ari_ltl, ari_llt, ari_lt, ari_le, ari_lel, ari_lle, ari_0, ari_eq, ari_eql, ari_leq, ari_cl, Nat.not_lt_zero, Bool.false_eq_true, Option.toList_some, Option.toList_none, List.cons_append, List.nil_append, kv_rv, kc1_i, kc1_r, kc1_n, n10, n01, n1514, n1213, n1312, if_true, if_false, not_true_eq_false, not_false_eq_true, and_self, true_and, and_true, false_and, and_false, or_true, true_or, or_false, false_or, Nat.reduceLeDiff, Nat.reduceLT, Nat.reduceEqDiff, Nat.reduceAdd, s_149 js3, s_181 js3, r_149_42 js3, v1, v2, c, (show g < 40 by omega), (show g < 2147483648 by omega), (show g2 < 40 by omega), (show g2 < 2147483648 by omega)]
      refine areSame_loop h hk hn hg hg2 H1 H0 m (row + 1) (by omega) (fun r hr => ?_) υ fr3
      by_cases c2 : r = row
      · rw [c2]; exact c
      · exact hs r (by omega)
    · have c2 : (bI (vlM σ0 k G 1000 row g) = bI (vlM σ0 k G 1000 row g2)) = False := eq_false (mt bI_inj.mp c)
      simp only [g_179_24, g_179_25, g_179_28, g_179_29, g_179_30, g_179_31, g_179_34, g_179_35, g_179_36, g_179_39, g_179_40, g_179_41, g_179_44, ari_aa, ari_al, ari_la, ari_mm, ari_ml, ari_lm, ari_ltl, ari_llt, ari_lt, ari_le, ari_lel, ari_lle, ari_0, ari_eq, ari_eql, ari_leq, ari_cl, Nat.not_lt_zero, Bool.false_eq_true, Option.toList_some, Option.toList_none, List.cons_append, List.nil_append, kv_rv, kc1_i, kc1_r, kc1_n, n10, n01, n1514, n1213, n1312, if_true, if_false, not_true_eq_false, not_false_eq_true, and_self, true_and, and_true, false_and, and_false, or_true, true_or, or_false, false_or, Nat.reduceLeDiff, Nat.reduceLT, Nat.reduceEqDiff, Nat.reduceAdd, s_149 js3, s_181 js3, r_149_42 js3, v1, v2, c2, (show g < 40 by omega), (show g < 2147483648 by omega), (show g2 < 40 by omega), (show g2 < 2147483648 by omega)]
      exact H0 (fun q => c (q row (by omega))) υ fr3
theorem twm_iff {σ : kv_S} {k w G g h : Nat} : (∀ row, row < 2 ^ w → vlM σ k G 1000 row g = vlM σ k G 1000 row h) ↔ aTw (tbM σ k) (mNet σ k).1 (mNet σ k).2.1 G w g h = true := by
  unfold aTw
  rw [Bool.not_eq_true', Bool.eq_false_iff, ne_eq, anyN_iff]
  constructor
  · rintro q ⟨row, hr, q2⟩
    have := q row hr
    unfold vlM at this
    have q2 : (nv (tbM σ k) (fun g => kv_i σ 171 (40 * k + g)) (fun g => kv_i σ 172 (40 * k + g)) 1000 row G g ^^ nv (tbM σ k) (fun g => kv_i σ 171 (40 * k + g)) (fun g => kv_i σ 172 (40 * k + g)) 1000 row G h) = true := q2
    rw [this] at q2
    simp at q2
  · intro q row hr
    refine Classical.byContradiction fun hc => q ⟨row, hr, ?_⟩
    show (vlM σ k G 1000 row g ^^ vlM σ k G 1000 row h) = true
    revert hc
    cases vlM σ k G 1000 row g <;> cases vlM σ k G 1000 row h <;> simp
theorem finds_loop {τ0 : kv_S} (js0 : JS τ0) {k w G g : Nat} {a b c : Value} (hk : k < 8) (hn : JNm τ0 k w G) (hg : g < G) (H1 : ∀ h υ, h < g → fst1 (aTw (tbM τ0 k) (mNet τ0 k).1 (mNet τ0 k).2.1 G w g) g 0 = h → FR mScr τ0 υ → kv_i υ 149 44 = kv_i τ0 149 44 → kv_i υ 149 45 = Int32.ofNat (8 + h) → Φ (some (.int 1)) υ) (H0 : ∀ υ, fst1 (aTw (tbM τ0 k) (mNet τ0 k).1 (mNet τ0 k).2.1 G w g) g 0 = g → FR mScr τ0 υ → Φ (some (.int 0)) υ) : ∀ m h, h + m = g → fst1 (aTw (tbM τ0 k) (mNet τ0 k).1 (mNet τ0 k).2.1 G w g) g 0 = fst1 (aTw (tbM τ0 k) (mNet τ0 k).1 (mNet τ0 k).2.1 G w g) m h → ∀ υ, FR (fun b _ => b = 181 ∨ b = 182) τ0 υ → kv_c1 c = true → Wp (d + 3) 178 148 [.ref 149, .int (Int32.ofNat k), .int (Int32.ofNat g), a, b, c, .int (Int32.ofNat h)] [] υ Φ
  | 0, h, e, hs, υ, fr, hc => by
    have hG := hn.2.2.1
    have e2 : h = g := by omega
    subst e2
    simp only [g_178_148, g_178_150, g_178_151, g_178_185, g_178_186, ari_aa, ari_al, ari_la, ari_mm, ari_ml, ari_lm, ari_ltl, ari_llt, ari_lt, ari_le, ari_lel, ari_lle, ari_0, ari_eq, ari_eql, ari_leq, ari_cl, Nat.not_lt_zero, Bool.false_eq_true, Option.toList_some, Option.toList_none, List.cons_append, List.nil_append, kv_rv, kc1_i, kc1_r, kc1_n, n10, n01, n1514, n1213, n1312, if_true, if_false, not_true_eq_false, not_false_eq_true, and_self, true_and, and_true, false_and, and_false, or_true, true_or, or_false, false_or, Nat.reduceLeDiff, Nat.reduceLT, Nat.reduceEqDiff, Nat.reduceAdd, (show h < 41 by omega), (show h < 2147483648 by omega), (show h ≤ h by omega)]
    exact H0 υ hs (fr.mono (fun b i q => by unfold mScr; omega))
  | m + 1, h, e, hs, υ, fr, hc => by
    have hG := hn.2.2.1
    have js := fr.js js0
    have hs : _ = if aTw (tbM τ0 k) (mNet τ0 k).1 (mNet τ0 k).2.1 G w g h = true then h else fst1 (aTw (tbM τ0 k) (mNet τ0 k).1 (mNet τ0 k).2.1 G w g) m (h + 1) := hs
    simp only [g_178_148, g_178_150, g_178_151, ari_aa, ari_al, ari_la, ari_mm, ari_ml, ari_lm, ari_ltl, ari_llt, ari_lt, ari_le, ari_lel, ari_lle, ari_0, ari_eq, ari_eql, ari_leq, ari_cl, Nat.not_lt_zero, Bool.false_eq_true, Option.toList_some, Option.toList_none, List.cons_append, List.nil_append, kv_rv, kc1_i, kc1_r, kc1_n, n10, n01, n1514, n1213, n1312, if_true, if_false, not_true_eq_false, not_false_eq_true, and_self, true_and, and_true, false_and, and_false, or_true, true_or, or_false, false_or, Nat.reduceLeDiff, Nat.reduceLT, Nat.reduceEqDiff, Nat.reduceAdd, (show h < 41 by omega), (show h < 2147483648 by omega), (show g < 41 by omega), (show g < 2147483648 by omega), (show ¬ g ≤ h by omega)]
    simp only [g_178_154, g_178_155, g_178_156, g_178_157, g_178_159, kv_w8_0, kv_w8_1, kv_w8_2, kv_w8_3, kv_w8_4, Nat.not_lt_zero, Bool.false_eq_true, Option.toList_some, Option.toList_none, List.cons_append, List.nil_append, kv_rv, kc1_i, kc1_r, kc1_n, n10, n01, n1514, n1213, n1312, if_true, if_false, not_true_eq_false, not_false_eq_true, and_self, true_and, and_true, false_and, and_false, or_true, true_or, or_false, false_or, Nat.reduceLeDiff, Nat.reduceLT, Nat.reduceEqDiff, Nat.reduceAdd, s_149 js]
    have hn2 : JNm υ k w G := hn.fr fr hk hpM
    have eT : tbM υ k = tbM τ0 k := tbM_fr fr (fun b i q => by omega)
    have eN : mNet υ k = mNet τ0 k := mNet_fr fr (fun b i q => by omega)
    simp only [c_179, g_179_0, g_179_1, Nat.not_lt_zero, Bool.false_eq_true, Option.toList_some, Option.toList_none, List.cons_append, List.nil_append, kv_rv, kc1_i, kc1_r, kc1_n, n10, n01, n1514, n1213, n1312, if_true, if_false, not_true_eq_false, not_false_eq_true, and_self, true_and, and_true, false_and, and_false, or_true, true_or, or_false, false_or, Nat.reduceLeDiff, Nat.reduceLT, Nat.reduceEqDiff, Nat.reduceAdd]
    refine areSame_loop js hk hn2 hg (show h < G by omega) (fun q ζ fr2 => ?_) (fun q ζ fr2 => ?_) (2 ^ w) 0 (by omega) (fun r hr => absurd hr (by omega)) υ (FR.rf _ υ)
    · have q2 := twm_iff.mp q
      rw [eT, eN] at q2
      rw [if_pos q2] at hs
      have fr3 := fr.tr fr2
      have js3 := fr3.js js0
      simp only [g_178_162, g_178_165, g_178_168, g_178_169, g_178_171, g_178_173, g_178_174, g_178_177, g_178_178, ari_aa, ari_al, ari_la, ari_mm, ari_ml, ari_lm, ari_ltl, ari_llt, ari_lt, ari_le, ari_lel, ari_lle, ari_0, ari_eq, ari_eql, ari_leq, ari_cl, Nat.not_lt_zero, Bool.false_eq_true, Option.toList_some, Option.toList_none, List.cons_append, List.nil_append, kv_rv, kc1_i, kc1_r, kc1_n, n10, n01, n1514, n1213, n1312, if_true, if_false, not_true_eq_false, not_false_eq_true, and_self, true_and, and_true, false_and, and_false, or_true, true_or, or_false, false_or, Nat.reduceLeDiff, Nat.reduceLT, Nat.reduceEqDiff, Nat.reduceAdd, s_149 js3]
      refine H1 h _ (by omega) hs ((fr3.mono (fun b i q => by unfold mScr; omega)).si (by unfold mScr; omega)) ?_ (eq_ess ⟨rfl, rfl⟩)
      rw [ne_ess (by omega), fr3.i (by omega)]
    · have q2 := mt twm_iff.mpr q
      rw [eT, eN] at q2
      rw [if_neg q2] at hs
      simp only [g_178_162, g_178_165, g_178_179, g_178_182, ari_aa, ari_al, ari_la, ari_mm, ari_ml, ari_lm, ari_ltl, ari_llt, ari_lt, ari_le, ari_lel, ari_lle, ari_0, ari_eq, ari_eql, ari_leq, ari_cl, Nat.not_lt_zero, Bool.false_eq_true, Option.toList_some, Option.toList_none, List.cons_append, List.nil_append, kv_rv, kc1_i, kc1_r, kc1_n, n10, n01, n1514, n1213, n1312, if_true, if_false, not_true_eq_false, not_false_eq_true, and_self, true_and, and_true, false_and, and_false, or_true, true_or, or_false, false_or, Nat.reduceLeDiff, Nat.reduceLT, Nat.reduceEqDiff, Nat.reduceAdd, hc]
      exact finds_loop js0 hk hn hg H1 H0 m (h + 1) (by omega) hs ζ (fr.tr fr2) hc
end SM

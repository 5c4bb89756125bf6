/-! ===== shape: the model ===== -/
theorem rdm_iff {σ : kv_S} {k G g : Nat} : ((∃ j, j < G ∧ (kv_i σ 171 (40 * k + j) = Int32.ofNat (8 + g) ∨ kv_i σ 172 (40 * k + j) = Int32.ofNat (8 + g))) ∨ ∃ i, i < 6 ∧ kv_i σ 174 (6 * k + i) = Int32.ofNat (8 + g)) ↔ aRd G (mNet σ k) g = true := by
  unfold aRd mNet
  rw [Bool.or_eq_true, anyN_iff, wo_iff]
  refine or_congr (exists_congr fun j => and_congr_right fun hj => ?_) Iff.rfl
  rw [Bool.or_eq_true, beq_iff_eq, beq_iff_eq]
section SO
variable {d : Nat} {Φ : Option Value → kv_S → Prop}
/-- the search for a gate that can -/
theorem shm_in {τ : kv_S} (js0 : JS τ) {k w G : Nat} (hk : k < 8) (hn : JNm τ k w G) (H0 : aG (tbM τ k) (kpm τ k) w G (mNet τ k) = G → ∀ υ, FR mScr τ υ → Wp (d + 4) 177 210 [.ref 149, .int (Int32.ofNat k), .int (Int32.ofNat G)] [] υ Φ) (H1 : aG (tbM τ k) (kpm τ k) w G (mNet τ k) < G → ∀ υ, FR mScr τ υ → kv_i υ 149 44 = Int32.ofNat (aR (tbM τ k) w G (mNet τ k) (aG (tbM τ k) (kpm τ k) w G (mNet τ k))) → kv_i υ 149 45 = aI (tbM τ k) w G (mNet τ k) (aG (tbM τ k) (kpm τ k) w G (mNet τ k)) → Wp (d + 4) 177 153 [.ref 149, .int (Int32.ofNat k), .int (Int32.ofNat (aG (tbM τ k) (kpm τ k) w G (mNet τ k)))] [] υ Φ) : ∀ m g, g + m = G → aG (tbM τ k) (kpm τ k) w G (mNet τ k) = fst1 (aCan (tbM τ k) (kpm τ k) w G (mNet τ k)) m g → ∀ υ, FR mScr τ υ → Wp (d + 4) 177 105 [.ref 149, .int (Int32.ofNat k), .int (Int32.ofNat g)] [] υ Φ
  | 0, g, e, hf, υ, fr => by
    have hG := hn.2.2.1
    have e2 : g = G := by omega
    subst e2
    have js := fr.js js0
    have e6 : kv_i υ 169 k = Int32.ofNat g := by rw [fr.i (by unfold mScr; omega)]; exact hn.2.2.2.2.2.2.1
    simp only [g_177_105, g_177_106, g_177_107, g_177_110, g_177_111, g_177_112, ari_aa, ari_al, ari_la, ari_mm, ari_ml, ari_lm, ari_ltl, ari_llt, ari_lt, ari_le, ari_lel, ari_lle, ari_0, ari_eq, ari_eql, ari_leq, ari_cl, Nat.not_lt_zero, Bool.false_eq_true, Option.toList_some, Option.toList_none, List.cons_append, List.nil_append, kv_rv, kc1_i, kc1_r, kc1_n, n10, n01, n1514, n1213, n1312, if_true, if_false, not_true_eq_false, not_false_eq_true, and_self, true_and, and_true, false_and, and_false, or_true, true_or, or_false, false_or, Nat.reduceLeDiff, Nat.reduceLT, Nat.reduceEqDiff, Nat.reduceAdd, s_149 js, s_169 js, r_149_28 js, e6, (show k < 8 by omega), (show k < 2147483648 by omega), (show g < 41 by omega), (show g < 2147483648 by omega), (show g ≤ g by omega)]
    exact H0 hf υ fr
  | m + 1, g, e, hf, υ, fr => by
    have hG := hn.2.2.1
    have js := fr.js js0
    have e6 : kv_i υ 169 k = Int32.ofNat G := by rw [fr.i (by unfold mScr; omega)]; exact hn.2.2.2.2.2.2.1
    have hf : _ = if aCan (tbM τ k) (kpm τ k) w G (mNet τ k) g = true then g else fst1 (aCan (tbM τ k) (kpm τ k) w G (mNet τ k)) m (g + 1) := hf
    have ek : kv_i υ 173 (40 * k + g) = kv_i τ 173 (40 * k + g) := fr.i (by unfold mScr; omega)
    obtain ⟨-, -, -, -, -, -, t9⟩ := hn.2.2.2.2.2.2.2.1 g (by omega)
    have eT : tbM υ k = tbM τ k := tbM_fr fr (fun b i q => by unfold mScr at q; omega)
    have eN : mNet υ k = mNet τ k := mNet_fr fr (fun b i q => by unfold mScr at q; omega)
    have hn2 : JNm υ k w G := hn.fr fr hk mScr_N
    simp only [g_177_105, g_177_106, g_177_107, g_177_110, g_177_111, g_177_112, ari_aa, ari_al, ari_la, ari_mm, ari_ml, ari_lm, ari_ltl, ari_llt, ari_lt, ari_le, ari_lel, ari_lle, ari_0, ari_eq, ari_eql, ari_leq, ari_cl, Nat.not_lt_zero, Bool.false_eq_true, Option.toList_some, Option.toList_none, List.cons_append, List.nil_append, kv_rv, kc1_i, kc1_r, kc1_n, n10, n01, n1514, n1213, n1312, if_true, if_false, not_true_eq_false, not_false_eq_true, and_self, true_and, and_true, false_and, and_false, or_true, true_or, or_false, false_or, Nat.reduceLeDiff, Nat.reduceLT, Nat.reduceEqDiff, Nat.reduceAdd, s_149 js, s_169 js, r_149_28 js, e6, (show k < 8 by omega), (show k < 2147483648 by omega), (show g < 41 by omega), (show g < 2147483648 by omega), (show G < 41 by omega), (show G < 2147483648 by omega), (show ¬ G ≤ g by omega)]
    have skip : aCan (tbM τ k) (kpm τ k) w G (mNet τ k) g = false → ∀ υ', FR mScr τ υ' → Wp (d + 4) 177 147 [.ref 149, .int (Int32.ofNat k), .int (Int32.ofNat g)] [] υ' Φ := by
      intro hc υ' fr'
      rw [hc, if_neg (by decide)] at hf
      simp only [g_177_147, g_177_150, ari_aa, ari_al, ari_la, ari_mm, ari_ml, ari_lm, ari_ltl, ari_llt, ari_lt, ari_le, ari_lel, ari_lle, ari_0, ari_eq, ari_eql, ari_leq, ari_cl, Nat.not_lt_zero, Bool.false_eq_true, Option.toList_some, Option.toList_none, List.cons_append, List.nil_append, kv_rv, kc1_i, kc1_r, kc1_n, n10, n01, n1514, n1213, n1312, if_true, if_false, not_true_eq_false, not_false_eq_true, and_self, true_and, and_true, false_and, and_false, or_true, true_or, or_false, false_or, Nat.reduceLeDiff, Nat.reduceLT, Nat.reduceEqDiff, Nat.reduceAdd]
      exact shm_in js0 hk hn H0 H1 m (g + 1) (by omega) hf υ' fr'
    simp only [g_177_115, g_177_116, g_177_117, g_177_118, kv_w8_0, kv_w8_1, kv_w8_2, kv_w8_3, kv_w8_4, Nat.not_lt_zero, Bool.false_eq_true, Option.toList_some, Option.toList_none, List.cons_append, List.nil_append, kv_rv, kc1_i, kc1_r, kc1_n, n10, n01, n1514, n1213, n1312, if_true, if_false, not_true_eq_false, not_false_eq_true, and_self, true_and, and_true, false_and, and_false, or_true, true_or, or_false, false_or, Nat.reduceLeDiff, Nat.reduceLT, Nat.reduceEqDiff, Nat.reduceAdd, s_149 js]
    refine m_isRead js hk hG e6 (fun q => ?_) (fun q => ?_)
    · have hrd := rdm_iff.mp q
      rw [eN] at hrd
      rcases t9 with t9 | t9
      · have hkp : kpm τ k g = false := by unfold kpm; rw [t9]; rfl
        simp only [g_177_121, g_177_124, g_177_125, g_177_128, g_177_130, g_177_131, g_177_132, g_177_133, g_177_134, g_177_135, g_177_138, g_177_139, g_177_140, g_177_141, kv_w8_0, kv_w8_1, kv_w8_2, kv_w8_3, kv_w8_4, ari_aa, ari_al, ari_la, ari_mm, ari_ml, ari_lm, ari_ltl, ari_llt, ari_lt, ari_le, ari_lel, ari_lle, ari_0, ari_eq, ari_eql, ari_leq, ari_cl, Nat.not_lt_zero, Bool.false_eq_true, Option.toList_some, Option.toList_none, List.cons_append, List.nil_append, kv_rv, kc1_i, kc1_r, kc1_n, n10, n01, n1514, n1213, n1312, if_true, if_false, not_true_eq_false, not_false_eq_true, and_self, true_and, and_true, false_and, and_false, or_true, true_or, or_false, false_or, Nat.reduceLeDiff, Nat.reduceLT, Nat.reduceEqDiff, Nat.reduceAdd, s_149 js, s_173 js, r_149_32 js, ek, t9, (show 40 * k + g < 320 by omega), (show 40 * k + g < 2147483648 by omega)]
        refine m_finds js hk hn2 (by omega) (fun c2 ζ fr2 q44 q45 => ?_) (fun c2 ζ fr2 => ?_)
        · rw [eT, eN] at c2 q44 q45
          have hcan : aCan (tbM τ k) (kpm τ k) w G (mNet τ k) g = true := by unfold aCan; rw [hkp, hrd, decide_eq_true c2]; rfl
          rw [hcan, if_pos rfl] at hf
          simp only [g_177_144, Nat.not_lt_zero, Bool.false_eq_true, Option.toList_some, Option.toList_none, List.cons_append, List.nil_append, kv_rv, kc1_i, kc1_r, kc1_n, n10, n01, n1514, n1213, n1312, if_true, if_false, not_true_eq_false, not_false_eq_true, and_self, true_and, and_true, false_and, and_false, or_true, true_or, or_false, false_or, Nat.reduceLeDiff, Nat.reduceLT, Nat.reduceEqDiff, Nat.reduceAdd]
          rw [← hf] at q44 q45 ⊢
          exact H1 (by omega) ζ (fr.tr fr2) q44 q45
        · rw [eT, eN] at c2
          simp only [g_177_144, Nat.not_lt_zero, Bool.false_eq_true, Option.toList_some, Option.toList_none, List.cons_append, List.nil_append, kv_rv, kc1_i, kc1_r, kc1_n, n10, n01, n1514, n1213, n1312, if_true, if_false, not_true_eq_false, not_false_eq_true, and_self, true_and, and_true, false_and, and_false, or_true, true_or, or_false, false_or, Nat.reduceLeDiff, Nat.reduceLT, Nat.reduceEqDiff, Nat.reduceAdd]
          exact skip (by unfold aCan; rw [decide_eq_false c2, Bool.and_false]) ζ (fr.tr fr2)
      · have hkp : kpm τ k g = true := by unfold kpm; rw [t9]; rfl
        simp only [g_177_121, g_177_124, g_177_125, g_177_128, g_177_130, g_177_131, g_177_132, g_177_133, g_177_134, g_177_135, ari_aa, ari_al, ari_la, ari_mm, ari_ml, ari_lm, ari_ltl, ari_llt, ari_lt, ari_le, ari_lel, ari_lle, ari_0, ari_eq, ari_eql, ari_leq, ari_cl, Nat.not_lt_zero, Bool.false_eq_true, Option.toList_some, Option.toList_none, List.cons_append, List.nil_append, kv_rv, kc1_i, kc1_r, kc1_n, n10, n01, n1514, n1213, n1312, if_true, if_false, not_true_eq_false, not_false_eq_true, and_self, true_and, and_true, false_and, and_false, or_true, true_or, or_false, false_or, Nat.reduceLeDiff, Nat.reduceLT, Nat.reduceEqDiff, Nat.reduceAdd, s_149 js, s_173 js, r_149_32 js, ek, t9, (show 40 * k + g < 320 by omega), (show 40 * k + g < 2147483648 by omega)]
        exact skip (by unfold aCan; rw [hkp]; rfl) υ fr
    · have hrd := mt rdm_iff.mpr q
      rw [eN] at hrd
      simp only [g_177_121, Nat.not_lt_zero, Bool.false_eq_true, Option.toList_some, Option.toList_none, List.cons_append, List.nil_append, kv_rv, kc1_i, kc1_r, kc1_n, n10, n01, n1514, n1213, n1312, if_true, if_false, not_true_eq_false, not_false_eq_true, and_self, true_and, and_true, false_and, and_false, or_true, true_or, or_false, false_or, Nat.reduceLeDiff, Nat.reduceLT, Nat.reduceEqDiff, Nat.reduceAdd]
      exact skip (by unfold aCan; rw [Bool.eq_false_iff.mpr hrd, Bool.and_false, Bool.false_and]) υ fr
/-- n steps are done -/
def SHm (σ1 : kv_S) (k w G n : Nat) (τ : kv_S) : Prop := FR (fun b i => mScr b i ∨ (b = 171 ∨ b = 172) ∧ 40 * k ≤ i ∧ i < 40 * k + 40 ∨ b = 174 ∧ 6 * k ≤ i ∧ i < 6 * k + 6 ∨ b = 175 ∨ b = 176 ∨ b = 177 ∨ b = 149 ∧ i = 35) σ1 τ ∧ mNet τ k = aIt (tbM σ1 k) (kpm σ1 k) w G (mNet σ1 k) n ∧ kv_i τ 149 35 = Int32.ofNat n ∧ ∀ i, i < n → kv_i τ 175 i = Int32.ofNat (aG (tbM σ1 k) (kpm σ1 k) w G (aIt (tbM σ1 k) (kpm σ1 k) w G (mNet σ1 k) i)) ∧ kv_i τ 176 i = Int32.ofNat (aR (tbM σ1 k) w G (aIt (tbM σ1 k) (kpm σ1 k) w G (mNet σ1 k) i) (aG (tbM σ1 k) (kpm σ1 k) w G (aIt (tbM σ1 k) (kpm σ1 k) w G (mNet σ1 k) i))) ∧ kv_i τ 177 i = aI (tbM σ1 k) w G (aIt (tbM σ1 k) (kpm σ1 k) w G (mNet σ1 k) i) (aG (tbM σ1 k) (kpm σ1 k) w G (aIt (tbM σ1 k) (kpm σ1 k) w G (mNet σ1 k) i))
theorem JNm.of {σ τ : kv_S} {k w G : Nat} (hn : JNm σ k w G) (h : ∀ b j, (b = 168 ∨ b = 169 ∨ b = 170 ∨ b = 173) → kv_i τ b j = kv_i σ b j) (hok : aOk w G (mNet τ k)) : JNm τ k w G := by
  obtain ⟨w1, w2, w3, w4, w5, w6, w7, w8, w9⟩ := hn
  refine ⟨w1, w2, w3, w4, by rw [h _ _ (by omega)]; exact w5, w6, by rw [h _ _ (by omega)]; exact w7, fun g hg => ?_, fun i hi => ⟨rfl, hok.2 i hi⟩⟩
  obtain ⟨t1, t2, -, t4, -, t6, t7⟩ := w8 g hg
  refine ⟨?_, rfl, (hok.1 g hg).1, rfl, (hok.1 g hg).2, t6, ?_⟩
  · rw [h _ _ (by omega)]; exact t1
  · rw [h _ _ (by omega)]; exact t7
theorem shm_out {σ1 : kv_S} (js1 : JS σ1) {k w G : Nat} (hk : k < 8) (hn : JNm σ1 k w G) (H : ∀ n τ, n ≤ 1800 → (∀ i, i < n → aG (tbM σ1 k) (kpm σ1 k) w G (aIt (tbM σ1 k) (kpm σ1 k) w G (mNet σ1 k) i) < G) → aG (tbM σ1 k) (kpm σ1 k) w G (aIt (tbM σ1 k) (kpm σ1 k) w G (mNet σ1 k) n) = G → SHm σ1 k w G n τ → Φ (some (.int (Int32.ofNat n))) τ) : ∀ m n, n + m = 1800 → (∀ i, i < n → aG (tbM σ1 k) (kpm σ1 k) w G (aIt (tbM σ1 k) (kpm σ1 k) w G (mNet σ1 k) i) < G) → ∀ τ, SHm σ1 k w G n τ → Wp (d + 4) 177 105 [.ref 149, .int (Int32.ofNat k), .int (Int32.ofNat 0)] [] τ Φ := by
  have hok : aOk w G (mNet σ1 k) := ⟨fun j hj => hn.xy j hj, fun i hi => hn.o i hi⟩
  have hpS : ∀ b i, (mScr b i ∨ (b = 171 ∨ b = 172) ∧ 40 * k ≤ i ∧ i < 40 * k + 40 ∨ b = 174 ∧ 6 * k ≤ i ∧ i < 6 * k + 6 ∨ b = 175 ∨ b = 176 ∨ b = 177 ∨ b = 149 ∧ i = 35) → 8 ≤ b ∧ ¬ (b = 168 ∨ b = 169 ∨ b = 170 ∨ b = 173) := fun b i q => by unfold mScr at q; omega
  intro m
  induction m with
  | zero =>
    intro n e hs τ hI
    have e2 : n = 1800 := by omega
    subst e2
    have fr := hI.1
    have js := fr.js js1
    have hokn := (aIt_ok hn.2.1 hn.2.2.1 hok 1800 hs).1
    have hn2 : JNm τ k w G := hn.of (fun b j q => fr.i (fun q2 => (hpS _ _ q2).2 q)) (by rw [hI.2.1]; exact hokn)
    have eT : tbM τ k = tbM σ1 k := tbM_fr fr (fun b i q => by have := (hpS b i q).2; omega)
    have eK : kpm τ k = kpm σ1 k := kpm_fr fr (fun b i q => by have := (hpS b i q).2; omega)
    have hend := aIt_end hn.2.1 hn.2.2.1 hok hs
    refine shm_in js hk hn2 (fun h0 υ fr2 => ?_) (fun h1 => ?_) G 0 (by omega) rfl τ (FR.rf _ τ)
    · have js2 := fr2.js js
      have e35 : kv_i υ 149 35 = Int32.ofNat 1800 := by rw [fr2.i (by unfold mScr; omega)]; exact hI.2.2.1
      simp only [g_177_210, g_177_211, g_177_214, Nat.not_lt_zero, Bool.false_eq_true, Option.toList_some, Option.toList_none, List.cons_append, List.nil_append, kv_rv, kc1_i, kc1_r, kc1_n, n10, n01, n1514, n1213, n1312, if_true, if_false, not_true_eq_false, not_false_eq_true, and_self, true_and, and_true, false_and, and_false, or_true, true_or, or_false, false_or, Nat.reduceLeDiff, Nat.reduceLT, Nat.reduceEqDiff, Nat.reduceAdd, s_149 js2, e35]
      refine H 1800 υ (Nat.le_refl _) hs hend ⟨fr.tr (fr2.mono (fun b i q => Or.inl q)), ?_, e35, fun i hi => ?_⟩
      · rw [mNet_fr fr2 (fun b i q => by unfold mScr at q; omega)]; exact hI.2.1
      · rw [fr2.i (by unfold mScr; omega), fr2.i (by unfold mScr; omega), fr2.i (by unfold mScr; omega)]; exact hI.2.2.2 i hi
    · rw [eT, eK, hI.2.1, hend] at h1; omega
  | succ m ih =>
    intro n e hs τ hI
    have fr := hI.1
    have js := fr.js js1
    have hokn := (aIt_ok hn.2.1 hn.2.2.1 hok n hs).1
    have hn2 : JNm τ k w G := hn.of (fun b j q => fr.i (fun q2 => (hpS _ _ q2).2 q)) (by rw [hI.2.1]; exact hokn)
    have eT : tbM τ k = tbM σ1 k := tbM_fr fr (fun b i q => by have := (hpS b i q).2; omega)
    have eK : kpm τ k = kpm σ1 k := kpm_fr fr (fun b i q => by have := (hpS b i q).2; omega)
    refine shm_in js hk hn2 (fun h0 υ fr2 => ?_) (fun h1 υ fr2 q44 q45 => ?_) G 0 (by omega) rfl τ (FR.rf _ τ)
    · rw [eT, eK, hI.2.1] at h0
      have js2 := fr2.js js
      have e35 : kv_i υ 149 35 = Int32.ofNat n := by rw [fr2.i (by unfold mScr; omega)]; exact hI.2.2.1
      simp only [g_177_210, g_177_211, g_177_214, Nat.not_lt_zero, Bool.false_eq_true, Option.toList_some, Option.toList_none, List.cons_append, List.nil_append, kv_rv, kc1_i, kc1_r, kc1_n, n10, n01, n1514, n1213, n1312, if_true, if_false, not_true_eq_false, not_false_eq_true, and_self, true_and, and_true, false_and, and_false, or_true, true_or, or_false, false_or, Nat.reduceLeDiff, Nat.reduceLT, Nat.reduceEqDiff, Nat.reduceAdd, s_149 js2, e35]
      refine H n υ (by omega) hs h0 ⟨fr.tr (fr2.mono (fun b i q => Or.inl q)), ?_, e35, fun i hi => ?_⟩
      · rw [mNet_fr fr2 (fun b i q => by unfold mScr at q; omega)]; exact hI.2.1
      · rw [fr2.i (by unfold mScr; omega), fr2.i (by unfold mScr; omega), fr2.i (by unfold mScr; omega)]; exact hI.2.2.2 i hi
    · rw [eT, eK, hI.2.1] at h1 q44 q45 ⊢
      have js2 := fr2.js js
      have hG := hn.2.2.1
      have e35 : kv_i υ 149 35 = Int32.ofNat n := by rw [fr2.i (by unfold mScr; omega)]; exact hI.2.2.1
      obtain ⟨g, hg⟩ : ∃ g, g = aG (tbM σ1 k) (kpm σ1 k) w G (aIt (tbM σ1 k) (kpm σ1 k) w G (mNet σ1 k) n) := ⟨_, rfl⟩
      rw [← hg] at h1 q44 q45 ⊢
      obtain ⟨r, hr⟩ : ∃ r, r = aR (tbM σ1 k) w G (aIt (tbM σ1 k) (kpm σ1 k) w G (mNet σ1 k) n) g := ⟨_, rfl⟩
      obtain ⟨x, hx⟩ : ∃ x, x = aI (tbM σ1 k) w G (aIt (tbM σ1 k) (kpm σ1 k) w G (mNet σ1 k) n) g := ⟨_, rfl⟩
      rw [← hr] at q44
      rw [← hx] at q45
      simp only [g_177_153, g_177_154, g_177_157, g_177_158, g_177_161, g_177_162, g_177_163, g_177_164, g_177_167, g_177_168, g_177_171, g_177_172, g_177_175, g_177_176, g_177_177, g_177_180, g_177_181, g_177_184, g_177_185, g_177_188, g_177_189, g_177_190, g_177_190r, g_177_191, g_177_194, g_177_195, g_177_196, g_177_199, g_177_200, g_177_201, g_177_202, kv_w8_0, kv_w8_1, kv_w8_2, kv_w8_3, kv_w8_4, n_si, n_sl, n_sr, n_mk, sh_si, sh_sl, sh_sr, sh_mk, i_si, i_sl, i_sr, i_mk, l_si, l_sl, l_sr, l_mk, r_si, r_sl, r_sr, r_mk, ari_aa, ari_al, ari_la, ari_mm, ari_ml, ari_lm, ari_ltl, ari_llt, ari_lt, ari_le, ari_lel, ari_lle, ari_0, ari_eq, ari_eql, ari_leq, ari_cl, Nat.not_lt_zero, Bool.false_eq_true, Option.toList_some, Option.toList_none, List.cons_append, List.nil_append, kv_rv, kc1_i, kc1_r, kc1_n, n10, n01, n1514, n1213, n1312, if_true, if_false, not_true_eq_false, not_false_eq_true, and_self, true_and, and_true, false_and, and_false, or_true, true_or, or_false, false_or, Nat.reduceLeDiff, Nat.reduceLT, Nat.reduceEqDiff, Nat.reduceAdd, s_149 js2, s_175 js2, r_149_36 js2, s_176 js2, r_149_37 js2, s_177 js2, r_149_38 js2, e35, q44, q45, (show ¬ (149 = 175) by decide), (show ¬ (149 = 176) by decide), (show ¬ (149 = 177) by decide), (show n < 4000 by omega), (show n < 2147483648 by omega)]
      obtain ⟨ξ, hξ⟩ : ∃ ξ, ξ = kv_si (kv_si (kv_si (kv_si υ 175 n (Int32.ofNat g)) 176 n (Int32.ofNat r)) 177 n x) 149 35 (Int32.ofNat (n + 1)) := ⟨_, rfl⟩
      rw [← hξ]
      have fr3 : FR (fun b i => b = 175 ∨ b = 176 ∨ b = 177 ∨ b = 149 ∧ i = 35) υ ξ := by rw [hξ]; exact ((((FR.rf _ υ).si (by omega)).si (by omega)).si (by omega)).si (by omega)
      have z1 : kv_i ξ 175 n = Int32.ofNat g := by rw [hξ]; simp (disch := omega) only [ne_ess, eq_ess]
      have z2 : kv_i ξ 176 n = Int32.ofNat r := by rw [hξ]; simp (disch := omega) only [ne_ess, eq_ess]
      have z3 : kv_i ξ 177 n = x := by rw [hξ]; simp (disch := omega) only [ne_ess, eq_ess]
      have z4 : kv_i ξ 149 35 = Int32.ofNat (n + 1) := by rw [hξ]; simp (disch := omega) only [ne_ess, eq_ess]
      have z5 : ∀ b i, i < n → (b = 175 ∨ b = 176 ∨ b = 177) → kv_i ξ b i = kv_i υ b i := fun b i hi q => by rw [hξ]; simp (disch := omega) only [ne_ess]
      have js3 := fr3.js js2
      have eN3 : mNet ξ k = aIt (tbM σ1 k) (kpm σ1 k) w G (mNet σ1 k) n := by rw [mNet_fr fr3 (fun b i q => by omega), mNet_fr fr2 (fun b i q => by unfold mScr at q; omega)]; exact hI.2.1
      refine m_reads (g := g) (x := x) js3 hk hG (by rw [fr3.i (by omega)]; exact (hn2.fr fr2 hk mScr_N).2.2.2.2.2.2.1) (by rw [fr3.i (by omega)]; exact q45) (fun ω fr4 hN => ?_)
      simp only [g_177_205, g_177_206, g_177_207, Nat.not_lt_zero, Bool.false_eq_true, Option.toList_some, Option.toList_none, List.cons_append, List.nil_append, kv_rv, kc1_i, kc1_r, kc1_n, n10, n01, n1514, n1213, n1312, if_true, if_false, not_true_eq_false, not_false_eq_true, and_self, true_and, and_true, false_and, and_false, or_true, true_or, or_false, false_or, Nat.reduceLeDiff, Nat.reduceLT, Nat.reduceEqDiff, Nat.reduceAdd]
      rw [eN3] at hN
      refine ih (n + 1) (by omega) (fun i hi => ?_) ω ⟨((fr.tr (fr2.mono (fun b i q => Or.inl q))).tr (fr3.mono (fun b i q => by unfold mScr; omega))).tr (fr4.mono (fun b i q => by unfold mScr; omega)), ?_, by rw [fr4.i (by omega)]; exact z4, fun i hi => ?_⟩
      · by_cases c : i = n
        · rw [c, ← hg]; exact h1
        · exact hs i (by omega)
      · rw [hN, hx, hg]; rfl
      · rw [fr4.i (by omega), fr4.i (by omega), fr4.i (by omega)]
        by_cases c : i = n
        · rw [c, z1, z2, z3, ← hg, hr, hx]; exact ⟨rfl, rfl, rfl⟩
        · rw [z5 _ i (by omega) (by omega), z5 _ i (by omega) (by omega), z5 _ i (by omega) (by omega), fr2.i (by unfold mScr; omega), fr2.i (by unfold mScr; omega), fr2.i (by unfold mScr; omega)]
          exact hI.2.2.2 i (by omega)
theorem sv_l1 {k G : Nat} (σ0 : kv_S) (h : JS σ0) (hk : k < 8) (hG : G ≤ 40) (e6 : kv_i σ0 169 k = Int32.ofNat G) (H : ∀ τ, FR (fun b _ => b = 178 ∨ b = 179) σ0 τ → (∀ g, g < G → kv_i τ 178 g = kv_i σ0 171 (40 * k + g) ∧ kv_i τ 179 g = kv_i σ0 172 (40 * k + g)) → Wp d 177 72 [.ref 149, .int (Int32.ofNat k), .int (Int32.ofNat G)] [] τ Φ) : ∀ m j, j + m = G → ∀ τ, FR (fun b _ => b = 178 ∨ b = 179) σ0 τ → (∀ g, g < j → kv_i τ 178 g = kv_i σ0 171 (40 * k + g) ∧ kv_i τ 179 g = kv_i σ0 172 (40 * k + g)) → Wp d 177 22 [.ref 149, .int (Int32.ofNat k), .int (Int32.ofNat j)] [] τ Φ
  | 0, j, e, τ, fr, hs => by
    have e2 : j = G := by omega
    subst e2
    have e6' : kv_i τ 169 k = Int32.ofNat j := by rw [fr.i (by omega)]; exact e6
    simp only [g_177_22, g_177_23, g_177_24, g_177_27, g_177_28, g_177_29, ari_aa, ari_al, ari_la, ari_mm, ari_ml, ari_lm, ari_ltl, ari_llt, ari_lt, ari_le, ari_lel, ari_lle, ari_0, ari_eq, ari_eql, ari_leq, ari_cl, Nat.not_lt_zero, Bool.false_eq_true, Option.toList_some, Option.toList_none, List.cons_append, List.nil_append, kv_rv, kc1_i, kc1_r, kc1_n, n10, n01, n1514, n1213, n1312, if_true, if_false, not_true_eq_false, not_false_eq_true, and_self, true_and, and_true, false_and, and_false, or_true, true_or, or_false, false_or, Nat.reduceLeDiff, Nat.reduceLT, Nat.reduceEqDiff, Nat.reduceAdd, s_149 (fr.js h), s_169 (fr.js h), r_149_28 (fr.js h), e6', (show k < 8 by omega), (show k < 2147483648 by omega), (show j < 41 by omega), (show j < 2147483648 by omega), (show j ≤ j by omega)]
    exact H τ fr hs
  | m + 1, j, e, τ, fr, hs => by
    have e6' : kv_i τ 169 k = Int32.ofNat G := by rw [fr.i (by omega)]; exact e6
    simp only [g_177_22, g_177_23, g_177_24, g_177_27, g_177_28, g_177_29, ari_aa, ari_al, ari_la, ari_mm, ari_ml, ari_lm, ari_ltl, ari_llt, ari_lt, ari_le, ari_lel, ari_lle, ari_0, ari_eq, ari_eql, ari_leq, ari_cl, Nat.not_lt_zero, Bool.false_eq_true, Option.toList_some, Option.toList_none, List.cons_append, List.nil_append, kv_rv, kc1_i, kc1_r, kc1_n, n10, n01, n1514, n1213, n1312, if_true, if_false, not_true_eq_false, not_false_eq_true, and_self, true_and, and_true, false_and, and_false, or_true, true_or, or_false, false_or, Nat.reduceLeDiff, Nat.reduceLT, Nat.reduceEqDiff, Nat.reduceAdd, s_149 (fr.js h), s_169 (fr.js h), r_149_28 (fr.js h), e6', (show k < 8 by omega), (show k < 2147483648 by omega), (show j < 41 by omega), (show j < 2147483648 by omega), (show G < 41 by omega), (show G < 2147483648 by omega), (show ¬ G ≤ j by omega)]
    simp only [g_177_32, g_177_33, g_177_36, g_177_37, g_177_38, g_177_41, g_177_43, g_177_44, g_177_45, g_177_46, g_177_47, g_177_48, g_177_49, g_177_50, g_177_53, g_177_54, g_177_55, g_177_58, g_177_60, g_177_61, g_177_62, g_177_63, g_177_64, g_177_65, g_177_66, g_177_69, n_si, n_sl, n_sr, n_mk, sh_si, sh_sl, sh_sr, sh_mk, i_si, i_sl, i_sr, i_mk, l_si, l_sl, l_sr, l_mk, r_si, r_sl, r_sr, r_mk, ari_aa, ari_al, ari_la, ari_mm, ari_ml, ari_lm, ari_ltl, ari_llt, ari_lt, ari_le, ari_lel, ari_lle, ari_0, ari_eq, ari_eql, ari_leq, ari_cl, Nat.not_lt_zero, Bool.false_eq_true, Option.toList_some, Option.toList_none, List.cons_append, List.nil_append, kv_rv, kc1_i, kc1_r, kc1_n, n10, n01, n1514, n1213, n1312, if_true, if_false, not_true_eq_false, not_false_eq_true, and_self, true_and, and_true, false_and, and_false, or_true, true_or, or_false, false_or, Nat.reduceLeDiff, Nat.reduceLT, Nat.reduceEqDiff, Nat.reduceAdd, s_149 (fr.js h), s_171 (fr.js h), r_149_30 (fr.js h), s_172 (fr.js h), r_149_31 (fr.js h), s_178 (fr.js h), r_149_39 (fr.js h), s_179 (fr.js h), r_149_40 (fr.js h), (show j < 40 by omega), (show j < 2147483648 by omega), (show 40 * k + j < 320 by omega), (show 40 * k + j < 2147483648 by omega), (show ¬ (172 = 178) by decide)]
    refine sv_l1 σ0 h hk hG e6 H m (j + 1) (by omega) _ ((fr.si (Or.inl rfl)).si (Or.inr rfl)) (fun g hg => ?_)
    by_cases c : g = j
    · subst c
      rw [ne_ess (by omega), eq_ess ⟨rfl, rfl⟩, eq_ess ⟨rfl, rfl⟩, fr.i (by omega), fr.i (by omega)]
      exact ⟨rfl, rfl⟩
    · rw [ne_ess (by omega), ne_ess (by omega), ne_ess (by omega), ne_ess (by omega)]
      exact hs g (by omega)
theorem sv_l2 {k : Nat} (σ0 : kv_S) (h : JS σ0) (hk : k < 8) (H : ∀ τ, FR (fun b _ => b = 180) σ0 τ → (∀ i, i < 6 → kv_i τ 180 i = kv_i σ0 174 (6 * k + i)) → Wp d 177 103 [.ref 149, .int (Int32.ofNat k), .int (Int32.ofNat 6)] [] τ Φ) : ∀ m j, j + m = 6 → ∀ τ, FR (fun b _ => b = 180) σ0 τ → (∀ i, i < j → kv_i τ 180 i = kv_i σ0 174 (6 * k + i)) → Wp d 177 74 [.ref 149, .int (Int32.ofNat k), .int (Int32.ofNat j)] [] τ Φ
  | 0, j, e, τ, fr, hs => by
    have e2 : j = 6 := by omega
    subst e2
    simp only [g_177_74, g_177_75, g_177_77, ari_aa, ari_al, ari_la, ari_mm, ari_ml, ari_lm, ari_ltl, ari_llt, ari_lt, ari_le, ari_lel, ari_lle, ari_0, ari_eq, ari_eql, ari_leq, ari_cl, Nat.not_lt_zero, Bool.false_eq_true, Option.toList_some, Option.toList_none, List.cons_append, List.nil_append, kv_rv, kc1_i, kc1_r, kc1_n, n10, n01, n1514, n1213, n1312, if_true, if_false, not_true_eq_false, not_false_eq_true, and_self, true_and, and_true, false_and, and_false, or_true, true_or, or_false, false_or, Nat.reduceLeDiff, Nat.reduceLT, Nat.reduceEqDiff, Nat.reduceAdd]
    exact H τ fr hs
  | m + 1, j, e, τ, fr, hs => by
    simp only [g_177_74, g_177_75, g_177_77, ari_aa, ari_al, ari_la, ari_mm, ari_ml, ari_lm, ari_ltl, ari_llt, ari_lt, ari_le, ari_lel, ari_lle, ari_0, ari_eq, ari_eql, ari_leq, ari_cl, Nat.not_lt_zero, Bool.false_eq_true, Option.toList_some, Option.toList_none, List.cons_append, List.nil_append, kv_rv, kc1_i, kc1_r, kc1_n, n10, n01, n1514, n1213, n1312, if_true, if_false, not_true_eq_false, not_false_eq_true, and_self, true_and, and_true, false_and, and_false, or_true, true_or, or_false, false_or, Nat.reduceLeDiff, Nat.reduceLT, Nat.reduceEqDiff, Nat.reduceAdd, (show j < 6 by omega), (show j < 2147483648 by omega), (show ¬ 6 ≤ j by omega)]
    simp only [g_177_80, g_177_81, g_177_84, g_177_85, g_177_86, g_177_89, g_177_91, g_177_92, g_177_93, g_177_94, g_177_95, g_177_96, g_177_97, g_177_100, n_si, n_sl, n_sr, n_mk, sh_si, sh_sl, sh_sr, sh_mk, i_si, i_sl, i_sr, i_mk, l_si, l_sl, l_sr, l_mk, r_si, r_sl, r_sr, r_mk, ari_aa, ari_al, ari_la, ari_mm, ari_ml, ari_lm, ari_ltl, ari_llt, ari_lt, ari_le, ari_lel, ari_lle, ari_0, ari_eq, ari_eql, ari_leq, ari_cl, Nat.not_lt_zero, Bool.false_eq_true, Option.toList_some, Option.toList_none, List.cons_append, List.nil_append, kv_rv, kc1_i, kc1_r, kc1_n, n10, n01, n1514, n1213, n1312, if_true, if_false, not_true_eq_false, not_false_eq_true, and_self, true_and, and_true, false_and, and_false, or_true, true_or, or_false, false_or, Nat.reduceLeDiff, Nat.reduceLT, Nat.reduceEqDiff, Nat.reduceAdd, s_149 (fr.js h), s_174 (fr.js h), r_149_33 (fr.js h), s_180 (fr.js h), r_149_41 (fr.js h), (show j < 6 by omega), (show j < 2147483648 by omega), (show 6 * k + j < 48 by omega), (show 6 * k + j < 2147483648 by omega)]
    refine sv_l2 σ0 h hk H m (j + 1) (by omega) _ (fr.si rfl) (fun i hi => ?_)
    by_cases c : i = j
    · subst c
      rw [eq_ess ⟨rfl, rfl⟩, fr.i (by omega)]
    · rw [ne_ess (by omega)]
      exact hs i (by omega)
end SO

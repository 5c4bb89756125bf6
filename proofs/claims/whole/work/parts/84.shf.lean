/-! ===== shape: the class ===== -/
def aEnc (T : Nat → Nat) (Kp : Nat → Bool) (w G : Nat) (N : aN) : Nat := 512 * onn (aI T w G N (aG T Kp w G N)) + 64 * aR T w G N (aG T Kp w G N) + aG T Kp w G N
/-- n steps are done -/
def SHc (σ1 : kv_S) (k w G n : Nat) (τ : kv_S) : Prop := FR (fun b i => cScr b i ∨ b = 103 + 6 * k ∨ b = 104 + 6 * k ∨ b = 106 + 6 * k ∨ b = 33 ∨ b = 32 ∧ i = 4) σ1 τ ∧ cNet τ k = aIt (tbN σ1 k) (kpc σ1 k) w G (cNet σ1 k) n ∧ kv_i τ 32 4 = Int32.ofNat n ∧ ∀ i, i < n → kv_i τ 33 i = Int32.ofNat (aEnc (tbN σ1 k) (kpc σ1 k) w G (aIt (tbN σ1 k) (kpc σ1 k) w G (cNet σ1 k) i))
section SF
variable {d : Nat} {Φ : Option Value → kv_S → Prop}
theorem JNc.of {σ τ : kv_S} {k w G : Nat} (hk : k < 8) (hn : JNc σ k w G) (h : ∀ b j, (b = 101 + 6 * k ∨ b = 102 + 6 * k ∨ b = 105 + 6 * k) → kv_i τ b j = kv_i σ b j) (hok : aOk w G (cNet τ k)) : JNc τ k w G := by
  obtain ⟨w1, w2, w3, w4, w5, w6, w7, w8, w9⟩ := hn
  refine ⟨w1, w2, w3, by rw [h _ _ (by omega)]; exact w4, w5, by rw [h _ _ (by omega)]; exact w6, w7, fun g hg => ?_, fun i hi => ⟨trivial, hok.2 i hi⟩⟩
  obtain ⟨t1, t2, -, t4, -, t6, t7⟩ := w8 g hg
  refine ⟨?_, t2, (hok.1 g hg).1, t4, (hok.1 g hg).2, t6, ?_⟩
  · rw [h _ _ (by omega)]; exact t1
  · rw [h _ _ (by omega)]; exact t7
theorem shp_loop {σ1 : kv_S} (js1 : JS σ1) (hK : JK σ1) {k w G : Nat} (hk : k < 8) (hn : JNc σ1 k w G) (H : ∀ n τ, n ≤ 1800 → (∀ i, i < n → aG (tbN σ1 k) (kpc σ1 k) w G (aIt (tbN σ1 k) (kpc σ1 k) w G (cNet σ1 k) i) < G) → aG (tbN σ1 k) (kpc σ1 k) w G (aIt (tbN σ1 k) (kpc σ1 k) w G (cNet σ1 k) n) = G → SHc σ1 k w G n τ → Φ (some (.int (Int32.ofNat n))) τ) : ∀ m n, n + m = 1800 → (∀ i, i < n → aG (tbN σ1 k) (kpc σ1 k) w G (aIt (tbN σ1 k) (kpc σ1 k) w G (cNet σ1 k) i) < G) → ∀ τ, SHc σ1 k w G n τ → Wp (d + 6) 103 28 [.ref 8, .int (Int32.ofNat k), .int 1, .int (Int32.ofNat n)] [] τ Φ
  | 0, n, e, hs, τ, hI => by
    have e2 : n = 1800 := by omega
    subst e2
    have js := hI.1.js js1
    have hok : aOk w G (cNet σ1 k) := ⟨fun j hj => hn.xy j hj, fun i hi => hn.o i hi⟩
    simp only [g_103_28, g_103_29, g_103_32, g_103_33, g_103_36, g_103_56, g_103_57, g_103_60, g_103_63, ari_aa, ari_al, ari_la, ari_mm, ari_ml, ari_lm, ari_ltl, ari_llt, ari_lt, ari_le, ari_lel, ari_lle, ari_0, ari_eq, ari_eql, ari_leq, ari_cl, Nat.not_lt_zero, Bool.false_eq_true, Option.toList_some, Option.toList_none, List.cons_append, List.nil_append, kv_rv, kc1_i, kc1_r, kc1_n, n10, n01, n1514, n1213, n1312, if_true, if_false, not_true_eq_false, not_false_eq_true, and_self, true_and, and_true, false_and, and_false, or_true, true_or, or_false, false_or, Nat.reduceLeDiff, Nat.reduceLT, Nat.reduceEqDiff, Nat.reduceAdd, s_8 js, s_32 js, r_8_8 js, hI.2.2.1]
    exact H 1800 τ (Nat.le_refl _) hs (aIt_end hn.2.1 hn.2.2.1 hok hs) hI
  | m + 1, n, e, hs, τ, hI => by
    have js := hI.1.js js1
    have hok : aOk w G (cNet σ1 k) := ⟨fun j hj => hn.xy j hj, fun i hi => hn.o i hi⟩
    have hokn := (aIt_ok hn.2.1 hn.2.2.1 hok n hs).1
    have fr := hI.1
    have hpS : ∀ b i, (cScr b i ∨ b = 103 + 6 * k ∨ b = 104 + 6 * k ∨ b = 106 + 6 * k ∨ b = 33 ∨ b = 32 ∧ i = 4) → 8 ≤ b ∧ ¬ (b = 101 + 6 * k ∨ b = 102 + 6 * k ∨ b = 105 + 6 * k) := fun b i q => by unfold cScr at q; omega
    have hn2 : JNc τ k w G := hn.of hk (fun b j q => fr.i (fun q2 => (hpS _ _ q2).2 q)) (by rw [hI.2.1]; exact hokn)
    have eT : tbN τ k = tbN σ1 k := tbN_fr fr (fun b i q => by have := (hpS b i q).2; omega)
    have eK : kpc τ k = kpc σ1 k := kpc_fr fr (fun b i q => by have := (hpS b i q).2; omega)
    simp only [g_103_28, g_103_29, g_103_32, g_103_33, g_103_36, g_103_39, g_103_40, g_103_41, g_103_44, g_103_45, g_103_46, kv_w8_0, kv_w8_1, kv_w8_2, kv_w8_3, kv_w8_4, ari_aa, ari_al, ari_la, ari_mm, ari_ml, ari_lm, ari_ltl, ari_llt, ari_lt, ari_le, ari_lel, ari_lle, ari_0, ari_eq, ari_eql, ari_leq, ari_cl, Nat.not_lt_zero, Bool.false_eq_true, Option.toList_some, Option.toList_none, List.cons_append, List.nil_append, kv_rv, kc1_i, kc1_r, kc1_n, n10, n01, n1514, n1213, n1312, if_true, if_false, not_true_eq_false, not_false_eq_true, and_self, true_and, and_true, false_and, and_false, or_true, true_or, or_false, false_or, Nat.reduceLeDiff, Nat.reduceLT, Nat.reduceEqDiff, Nat.reduceAdd, s_8 js, s_10 js, r_8_1 js, nN js hk, qN js hk, (show n < 1800 by omega), (show n < 2147483648 by omega), (show ¬ 1800 ≤ n by omega), (show k < 8 by omega), (show k < 2147483648 by omega)]
    refine m_shapeOnce js (hK.fr fr (fun b i q => (hpS b i q).1)) hk hn2 (show n < 1800 by omega) hI.2.2.1 (fun h0 υ fr2 => ?_) (fun h1 υ fr2 hN h33 h32 => ?_)
    · rw [eT, eK, hI.2.1] at h0
      have js2 := fr2.js js
      have e4 : kv_i υ 32 4 = Int32.ofNat n := by rw [fr2.i (by unfold cScr; omega)]; exact hI.2.2.1
      simp only [g_103_49, g_103_50, g_103_53, ari_aa, ari_al, ari_la, ari_mm, ari_ml, ari_lm, ari_ltl, ari_llt, ari_lt, ari_le, ari_lel, ari_lle, ari_0, ari_eq, ari_eql, ari_leq, ari_cl, Nat.not_lt_zero, Bool.false_eq_true, Option.toList_some, Option.toList_none, List.cons_append, List.nil_append, kv_rv, kc1_i, kc1_r, kc1_n, n10, n01, n1514, n1213, n1312, if_true, if_false, not_true_eq_false, not_false_eq_true, and_self, true_and, and_true, false_and, and_false, or_true, true_or, or_false, false_or, Nat.reduceLeDiff, Nat.reduceLT, Nat.reduceEqDiff, Nat.reduceAdd]
      simp only [g_103_28, g_103_29, g_103_56, g_103_57, g_103_60, g_103_63, Nat.not_lt_zero, Bool.false_eq_true, Option.toList_some, Option.toList_none, List.cons_append, List.nil_append, kv_rv, kc1_i, kc1_r, kc1_n, n10, n01, n1514, n1213, n1312, if_true, if_false, not_true_eq_false, not_false_eq_true, and_self, true_and, and_true, false_and, and_false, or_true, true_or, or_false, false_or, Nat.reduceLeDiff, Nat.reduceLT, Nat.reduceEqDiff, Nat.reduceAdd, s_8 js2, s_32 js2, r_8_8 js2, e4]
      refine H n υ (by omega) hs h0 ⟨fr.tr (fr2.mono (fun b i q => Or.inl q)), ?_, e4, fun i hi => ?_⟩
      · rw [cNet_fr fr2 hk (fun b i q => by unfold cScr at q; omega)]; exact hI.2.1
      · rw [fr2.i (by unfold cScr; omega)]; exact hI.2.2.2 i hi
    · rw [eT, eK, hI.2.1] at h1 hN h33
      simp only [g_103_49, g_103_50, g_103_53, ari_aa, ari_al, ari_la, ari_mm, ari_ml, ari_lm, ari_ltl, ari_llt, ari_lt, ari_le, ari_lel, ari_lle, ari_0, ari_eq, ari_eql, ari_leq, ari_cl, Nat.not_lt_zero, Bool.false_eq_true, Option.toList_some, Option.toList_none, List.cons_append, List.nil_append, kv_rv, kc1_i, kc1_r, kc1_n, n10, n01, n1514, n1213, n1312, if_true, if_false, not_true_eq_false, not_false_eq_true, and_self, true_and, and_true, false_and, and_false, or_true, true_or, or_false, false_or, Nat.reduceLeDiff, Nat.reduceLT, Nat.reduceEqDiff, Nat.reduceAdd]
      refine shp_loop js1 hK hk hn H m (n + 1) (by omega) (fun i hi => ?_) υ ⟨fr.tr (fr2.mono (fun b i q => by unfold cScr at q ⊢; omega)), hN, h32, fun i hi => ?_⟩
      · by_cases c : i = n
        · rw [c]; exact h1
        · exact hs i (by omega)
      · by_cases c : i = n
        · rw [c]; exact h33
        · rw [fr2.i (by unfold cScr; omega)]; exact hI.2.2.2 i (by omega)
theorem m_sbegin {σ : kv_S} (h : JS σ) {k : Nat} (hk : k < 8) : Wc (d + 1) 104 [.ref 32, .int (Int32.ofNat k), .ref (101 + 6 * k)] σ Φ = Φ none (kv_cpy (kv_cpy (kv_cpy (kv_si (kv_si σ 32 4 0) 32 5 (Int32.ofNat k)) (103 + 6 * k) 34 40) (104 + 6 * k) 35 40) (106 + 6 * k) 36 6) := by
  have q1 : ∀ σ a b, (σ.1, kv_cpm σ.2.1 a b 0 0 40, σ.2.2) = kv_cpy σ a b 40 := fun _ _ _ => rfl
  have q2 : ∀ σ a b, (σ.1, kv_cpm σ.2.1 a b 0 0 6, σ.2.2) = kv_cpy σ a b 6 := fun _ _ _ => rfl
  simp only [c_104, g_104_0, g_104_1, g_104_2, g_104_5, g_104_6, g_104_7, g_104_10, g_104_11, g_104_14, g_104_15, g_104_16, g_104_19, g_104_20, g_104_22, g_104_25, g_104_26, g_104_29, g_104_30, g_104_31, g_104_34, g_104_35, g_104_37, g_104_40, g_104_41, g_104_44, g_104_45, g_104_46, g_104_49, g_104_50, g_104_52, g_104_55, kv_w8_0, kv_w8_1, kv_w8_2, kv_w8_3, kv_w8_4, n_si, n_sl, n_sr, n_mk, sh_si, sh_sl, sh_sr, sh_mk, i_si, i_sl, i_sr, i_mk, l_si, l_sl, l_sr, l_mk, r_si, r_sl, r_sr, r_mk, Nat.not_lt_zero, Bool.false_eq_true, Option.toList_some, Option.toList_none, List.cons_append, List.nil_append, kv_rv, kc1_i, kc1_r, kc1_n, n10, n01, n1514, n1213, n1312, if_true, if_false, not_true_eq_false, not_false_eq_true, and_self, true_and, and_true, false_and, and_false, or_true, true_or, or_false, false_or, Nat.reduceLeDiff, Nat.reduceLT, Nat.reduceEqDiff, Nat.reduceAdd, cpy_sh, cpy_r, q1, q2, cl0, cl40, cl6, nN h hk, nX h hk, qX h hk, nY h hk, qY h hk, nO h hk, qO h hk, s_32 h, r_8_8 h, s_34 h, r_32_1 h, s_35 h, r_32_2 h, s_36 h, r_32_3 h, (show ¬ (0 : Int32) < 0 by decide), (show ¬ (40 : Int32) < 0 by decide), (show ¬ (6 : Int32) < 0 by decide), Nat.zero_add, Nat.le_refl, (show 8 ≤ 103 + 6 * k by omega), (show 8 ≤ 104 + 6 * k by omega), (show 8 ≤ 106 + 6 * k by omega)]
end SF

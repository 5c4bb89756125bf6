/-! ===== back ===== -/
/-- the first n places of row a are copied to row b -/
def kv_cpy (σ : kv_S) (a b n : Nat) : kv_S := (σ.1, kv_cpm σ.2.1 a b 0 0 n, σ.2.2)
theorem cpy_i (σ : kv_S) (a b n c j : Nat) : kv_i (kv_cpy σ a b n) c j = if c = b ∧ j < n then kv_i σ a j else kv_i σ c j := by
  show (if c = b then va_cpy (σ.2.1 a) (σ.2.1 b) 0 0 n j else σ.2.1 c j) = if c = b ∧ j < n then σ.2.1 a j else σ.2.1 c j
  by_cases e : c = b
  · subst e
    rw [if_pos rfl]
    unfold va_cpy
    by_cases h : j < n
    · simp [h]
    · simp [h]
  · simp [e]
theorem cpy_sh (σ : kv_S) (a b n : Nat) : kv_sh (kv_cpy σ a b n) = kv_sh σ := Eq.trans rfl rfl
theorem cpy_r (σ : kv_S) (a b n : Nat) : kv_r (kv_cpy σ a b n) = kv_r σ := Eq.trans rfl rfl
theorem cpy_fr {P : Nat → Nat → Prop} {σ τ : kv_S} (h : FR P σ τ) {a b n : Nat} (hp : ∀ j, j < n → P b j) : FR P σ (kv_cpy τ a b n) := ⟨h.1, h.2.1, fun c j hb => by rw [cpy_i, if_neg (fun w => hb (by rw [w.1]; exact hp j w.2))]; exact h.2.2.1 c j hb, fun c j hb => h.2.2.2 c j hb⟩
theorem cl0 : (0 : Int32).toNatClampNeg = 0 := by decide
theorem cl40 : (40 : Int32).toNatClampNeg = 40 := by decide
theorem cl6 : (6 : Int32).toNatClampNeg = 6 := by decide
section BK
variable {d : Nat} {σ : kv_S} {Φ : Option Value → kv_S → Prop}
theorem m_undo (h : JS σ) {k : Nat} (hk : k < 8) : Wc (d + 1) 117 [.ref 32, .ref (101 + 6 * k)] σ Φ = Φ none (kv_si (kv_cpy (kv_cpy (kv_cpy σ 34 (103 + 6 * k) 40) 35 (104 + 6 * k) 40) 36 (106 + 6 * k) 6) 32 5 (-1)) := by
  have q1 : ∀ σ a b, (σ.1, kv_cpm σ.2.1 a b 0 0 40, σ.2.2) = kv_cpy σ a b 40 := fun _ _ _ => rfl
  have q2 : ∀ σ a b, (σ.1, kv_cpm σ.2.1 a b 0 0 6, σ.2.2) = kv_cpy σ a b 6 := fun _ _ _ => rfl
  simp only [c_117, g_117_0, g_117_1, g_117_4, g_117_5, g_117_6, g_117_9, g_117_10, g_117_12, g_117_15, g_117_16, g_117_19, g_117_20, g_117_21, g_117_24, g_117_25, g_117_27, g_117_30, g_117_31, g_117_34, g_117_35, g_117_36, g_117_39, g_117_40, g_117_42, g_117_45, g_117_46, g_117_47, g_117_50, kv_w8_0, kv_w8_1, kv_w8_2, kv_w8_3, kv_w8_4, Nat.not_lt_zero, Bool.false_eq_true, Option.toList_some, Option.toList_none, List.cons_append, List.nil_append, kv_rv, kc1_i, kc1_r, kc1_n, n10, n01, n1514, n1213, n1312, if_true, if_false, not_true_eq_false, not_false_eq_true, and_self, true_and, and_true, false_and, and_false, or_true, true_or, or_false, false_or, Nat.reduceLeDiff, Nat.reduceLT, Nat.reduceEqDiff, Nat.reduceAdd, cpy_sh, cpy_r, q1, q2, cl0, cl40, cl6, nN h hk, nX h hk, qX h hk, nY h hk, qY h hk, nO h hk, qO h hk, s_32 h, r_8_8 h, s_34 h, r_32_1 h, s_35 h, r_32_2 h, s_36 h, r_32_3 h, (show ¬ (0 : Int32) < 0 by decide), (show ¬ (40 : Int32) < 0 by decide), (show ¬ (6 : Int32) < 0 by decide), Nat.zero_add, Nat.le_refl, (show 8 ≤ 103 + 6 * k by omega), (show 8 ≤ 104 + 6 * k by omega), (show 8 ≤ 106 + 6 * k by omega)]

theorem back_l1 {k G : Nat} (σ0 : kv_S) (h : JS σ0) (hk : k < 8) (hG : G ≤ 40) (e6 : kv_i σ0 169 k = Int32.ofNat G) (H : ∀ τ, FR (fun b j => (b = 171 ∨ b = 172) ∧ 40 * k ≤ j ∧ j < 40 * k + 40) σ0 τ → (∀ g, g < G → kv_i τ 171 (40 * k + g) = kv_i σ0 178 g ∧ kv_i τ 172 (40 * k + g) = kv_i σ0 179 g) → Wp d 182 70 [.ref 149, .int (Int32.ofNat k), .int (Int32.ofNat G)] [] τ Φ) : ∀ m j, j + m = G → ∀ τ, FR (fun b j => (b = 171 ∨ b = 172) ∧ 40 * k ≤ j ∧ j < 40 * k + 40) σ0 τ → (∀ g, g < j → kv_i τ 171 (40 * k + g) = kv_i σ0 178 g ∧ kv_i τ 172 (40 * k + g) = kv_i σ0 179 g) → Wp d 182 20 [.ref 149, .int (Int32.ofNat k), .int (Int32.ofNat j)] [] τ Φ
  | 0, j, e, τ, fr, hs => by
    have e2 : j = G := by omega
    subst e2
    have e6' : kv_i τ 169 k = Int32.ofNat j := by rw [fr.i (by omega)]; exact e6
    simp only [g_182_20, g_182_21, g_182_22, g_182_25, g_182_26, g_182_27, ari_aa, ari_al, ari_la, ari_mm, ari_ml, ari_lm, ari_ltl, ari_llt, ari_lt, ari_le, ari_lel, ari_lle, ari_0, ari_eq, ari_eql, ari_leq, ari_cl, Nat.not_lt_zero, Bool.false_eq_true, Option.toList_some, Option.toList_none, List.cons_append, List.nil_append, kv_rv, kc1_i, kc1_r, kc1_n, n10, n01, n1514, n1213, n1312, if_true, if_false, not_true_eq_false, not_false_eq_true, and_self, true_and, and_true, false_and, and_false, or_true, true_or, or_false, false_or, Nat.reduceLeDiff, Nat.reduceLT, Nat.reduceEqDiff, Nat.reduceAdd, s_149 (fr.js h), s_169 (fr.js h), r_149_28 (fr.js h), e6', (show k < 8 by omega), (show k < 2147483648 by omega), (show j < 41 by omega), (show j < 2147483648 by omega), (show j ≤ j by omega)]
    exact H τ fr hs
  | m + 1, j, e, τ, fr, hs => by
    have e6' : kv_i τ 169 k = Int32.ofNat G := by rw [fr.i (by omega)]; exact e6
    simp only [g_182_20, g_182_21, g_182_22, g_182_25, g_182_26, g_182_27, ari_aa, ari_al, ari_la, ari_mm, ari_ml, ari_lm, ari_ltl, ari_llt, ari_lt, ari_le, ari_lel, ari_lle, ari_0, ari_eq, ari_eql, ari_leq, ari_cl, Nat.not_lt_zero, Bool.false_eq_true, Option.toList_some, Option.toList_none, List.cons_append, List.nil_append, kv_rv, kc1_i, kc1_r, kc1_n, n10, n01, n1514, n1213, n1312, if_true, if_false, not_true_eq_false, not_false_eq_true, and_self, true_and, and_true, false_and, and_false, or_true, true_or, or_false, false_or, Nat.reduceLeDiff, Nat.reduceLT, Nat.reduceEqDiff, Nat.reduceAdd, s_149 (fr.js h), s_169 (fr.js h), r_149_28 (fr.js h), e6', (show k < 8 by omega), (show k < 2147483648 by omega), (show j < 41 by omega), (show j < 2147483648 by omega), (show G < 41 by omega), (show G < 2147483648 by omega), (show ¬ G ≤ j by omega)]
    simp only [g_182_30, g_182_31, g_182_34, g_182_36, g_182_37, g_182_38, g_182_39, g_182_40, g_182_41, g_182_44, g_182_45, g_182_46, g_182_47, g_182_48, g_182_51, g_182_53, g_182_54, g_182_55, g_182_56, g_182_57, g_182_58, g_182_61, g_182_62, g_182_63, g_182_64, g_182_67, n_si, n_sl, n_sr, n_mk, sh_si, sh_sl, sh_sr, sh_mk, i_si, i_sl, i_sr, i_mk, l_si, l_sl, l_sr, l_mk, r_si, r_sl, r_sr, r_mk, ari_aa, ari_al, ari_la, ari_mm, ari_ml, ari_lm, ari_ltl, ari_llt, ari_lt, ari_le, ari_lel, ari_lle, ari_0, ari_eq, ari_eql, ari_leq, ari_cl, Nat.not_lt_zero, Bool.false_eq_true, Option.toList_some, Option.toList_none, List.cons_append, List.nil_append, kv_rv, kc1_i, kc1_r, kc1_n, n10, n01, n1514, n1213, n1312, if_true, if_false, not_true_eq_false, not_false_eq_true, and_self, true_and, and_true, false_and, and_false, or_true, true_or, or_false, false_or, Nat.reduceLeDiff, Nat.reduceLT, Nat.reduceEqDiff, Nat.reduceAdd, s_149 (fr.js h), s_171 (fr.js h), r_149_30 (fr.js h), s_172 (fr.js h), r_149_31 (fr.js h), s_178 (fr.js h), r_149_39 (fr.js h), s_179 (fr.js h), r_149_40 (fr.js h), (show j < 40 by omega), (show j < 2147483648 by omega), (show 40 * k + j < 320 by omega), (show 40 * k + j < 2147483648 by omega), (show ¬ (179 = 171) by decide)]
    refine back_l1 σ0 h hk hG e6 H m (j + 1) (by omega) _ ((fr.si (by omega)).si (by omega)) (fun g hg => ?_)
    by_cases c : g = j
    · subst c
      rw [ne_ess (by omega), eq_ess ⟨rfl, rfl⟩, eq_ess ⟨rfl, rfl⟩, fr.i (by omega), fr.i (by omega)]
      exact ⟨rfl, rfl⟩
    · rw [ne_ess (by omega), ne_ess (by omega), ne_ess (by omega), ne_ess (by omega)]
      exact hs g (by omega)
theorem back_l2 {k : Nat} (σ0 : kv_S) (h : JS σ0) (hk : k < 8) (H : ∀ τ, FR (fun b j => b = 174 ∧ 6 * k ≤ j ∧ j < 6 * k + 6) σ0 τ → (∀ i, i < 6 → kv_i τ 174 (6 * k + i) = kv_i σ0 180 i) → Wp d 182 101 [.ref 149, .int (Int32.ofNat k), .int (Int32.ofNat 6)] [] τ Φ) : ∀ m j, j + m = 6 → ∀ τ, FR (fun b j => b = 174 ∧ 6 * k ≤ j ∧ j < 6 * k + 6) σ0 τ → (∀ i, i < j → kv_i τ 174 (6 * k + i) = kv_i σ0 180 i) → Wp d 182 72 [.ref 149, .int (Int32.ofNat k), .int (Int32.ofNat j)] [] τ Φ
  | 0, j, e, τ, fr, hs => by
    have e2 : j = 6 := by omega
    subst e2
    simp only [g_182_72, g_182_73, g_182_75, ari_aa, ari_al, ari_la, ari_mm, ari_ml, ari_lm, ari_ltl, ari_llt, ari_lt, ari_le, ari_lel, ari_lle, ari_0, ari_eq, ari_eql, ari_leq, ari_cl, Nat.not_lt_zero, Bool.false_eq_true, Option.toList_some, Option.toList_none, List.cons_append, List.nil_append, kv_rv, kc1_i, kc1_r, kc1_n, n10, n01, n1514, n1213, n1312, if_true, if_false, not_true_eq_false, not_false_eq_true, and_self, true_and, and_true, false_and, and_false, or_true, true_or, or_false, false_or, Nat.reduceLeDiff, Nat.reduceLT, Nat.reduceEqDiff, Nat.reduceAdd]
    exact H τ fr hs
  | m + 1, j, e, τ, fr, hs => by
    simp only [g_182_72, g_182_73, g_182_75, ari_aa, ari_al, ari_la, ari_mm, ari_ml, ari_lm, ari_ltl, ari_llt, ari_lt, ari_le, ari_lel, ari_lle, ari_0, ari_eq, ari_eql, ari_leq, ari_cl, Nat.not_lt_zero, Bool.false_eq_true, Option.toList_some, Option.toList_none, List.cons_append, List.nil_append, kv_rv, kc1_i, kc1_r, kc1_n, n10, n01, n1514, n1213, n1312, if_true, if_false, not_true_eq_false, not_false_eq_true, and_self, true_and, and_true, false_and, and_false, or_true, true_or, or_false, false_or, Nat.reduceLeDiff, Nat.reduceLT, Nat.reduceEqDiff, Nat.reduceAdd, (show j < 6 by omega), (show j < 2147483648 by omega), (show ¬ 6 ≤ j by omega)]
    simp only [g_182_78, g_182_79, g_182_82, g_182_84, g_182_85, g_182_86, g_182_87, g_182_88, g_182_89, g_182_92, g_182_93, g_182_94, g_182_95, g_182_98, n_si, n_sl, n_sr, n_mk, sh_si, sh_sl, sh_sr, sh_mk, i_si, i_sl, i_sr, i_mk, l_si, l_sl, l_sr, l_mk, r_si, r_sl, r_sr, r_mk, ari_aa, ari_al, ari_la, ari_mm, ari_ml, ari_lm, ari_ltl, ari_llt, ari_lt, ari_le, ari_lel, ari_lle, ari_0, ari_eq, ari_eql, ari_leq, ari_cl, Nat.not_lt_zero, Bool.false_eq_true, Option.toList_some, Option.toList_none, List.cons_append, List.nil_append, kv_rv, kc1_i, kc1_r, kc1_n, n10, n01, n1514, n1213, n1312, if_true, if_false, not_true_eq_false, not_false_eq_true, and_self, true_and, and_true, false_and, and_false, or_true, true_or, or_false, false_or, Nat.reduceLeDiff, Nat.reduceLT, Nat.reduceEqDiff, Nat.reduceAdd, s_149 (fr.js h), s_174 (fr.js h), r_149_33 (fr.js h), s_180 (fr.js h), r_149_41 (fr.js h), (show j < 6 by omega), (show j < 2147483648 by omega), (show 6 * k + j < 48 by omega), (show 6 * k + j < 2147483648 by omega)]
    refine back_l2 σ0 h hk H m (j + 1) (by omega) _ (fr.si (by omega)) (fun i hi => ?_)
    by_cases c : i = j
    · subst c
      rw [eq_ess ⟨rfl, rfl⟩, fr.i (by omega)]
    · rw [ne_ess (by omega)]
      exact hs i (by omega)
end BK
/-- promise 29: back -/
theorem o_27 (d : Nat) : ob_27 JJ (d + 2) := by
  intro σ h p
  have h' := h
  obtain ⟨a1, a2, a3, a4, ⟨K, hK, k1, k2, k3⟩, a6, a7⟩ := h'
  obtain ⟨⟨S, s1, s2, s3, s4⟩, u2, u3⟩ := id a7
  by_cases hp : ¬ p < 0 ∧ p < Int32.ofNat K
  · obtain ⟨k, hk, rfl, ec⟩ := i32_nat (by omega) hp.1 hp.2
    have hk8 : k < 8 := by omega
    by_cases hu : kv_i σ 32 5 = Int32.ofNat k
    · obtain ⟨w, G, hn⟩ := k3 k hk
      have hn : JN1' σ k w G := hn
      have hG := hn.2.2.1
      have hS : JH1 σ k := by
        rcases u3 with u3 | ⟨k', K', q1, q2, q3, q4, q5⟩
        · rw [hu, ari_neg (by omega) (by decide) (by decide)] at u3; exact u3.elim
        · rw [hu, ari_eq (by omega) (by omega)] at q4; rw [q4]; exact q5
      obtain ⟨w', G', b1, b2, b3, b4, b5, b6⟩ := hS
      rw [hn.2.2.2.1, ari_eq (by have := hn.2.1; omega) (by omega)] at b1
      rw [hn.2.2.2.2.2.1, ari_eq (by omega) (by omega)] at b2
      subst b1 b2
      simp only [c_116, g_116_0, g_116_1, g_116_2, g_116_5, g_116_8, g_116_9, g_116_12, g_116_15, g_116_16, g_116_19, g_116_20, g_116_21, g_116_22, g_116_25, g_116_26, g_116_29, g_116_30, g_116_31, kv_w8_0, kv_w8_1, kv_w8_2, kv_w8_3, kv_w8_4, ari_aa, ari_al, ari_la, ari_mm, ari_ml, ari_lm, ari_ltl, ari_llt, ari_lt, ari_le, ari_lel, ari_lle, ari_0, ari_eq, ari_eql, ari_leq, ari_cl, Nat.not_lt_zero, Bool.false_eq_true, Option.toList_some, Option.toList_none, List.cons_append, List.nil_append, kv_rv, kc1_i, kc1_r, kc1_n, n10, n01, n1514, n1213, n1312, if_true, if_false, not_true_eq_false, not_false_eq_true, and_self, true_and, and_true, false_and, and_false, or_true, true_or, or_false, false_or, Nat.reduceLeDiff, Nat.reduceLT, Nat.reduceEqDiff, Nat.reduceAdd, m_isNet_c a1, k1, hu, m_undo a1 hk8, nN a1 hk8, qN a1 hk8, s_8 a1, s_10 a1, r_8_1 a1, s_32 a1, r_8_8 a1, (show k < 8 by omega), (show k < 2147483648 by omega), (show k < K by omega), (show k < 2147483648 by omega), (show K < 9 by omega), (show K < 2147483648 by omega)]
      obtain ⟨τ, hτ⟩ : ∃ τ, τ = kv_si (kv_cpy (kv_cpy (kv_cpy σ 34 (103 + 6 * k) 40) 35 (104 + 6 * k) 40) 36 (106 + 6 * k) 6) 32 5 (-1) := ⟨_, rfl⟩
      rw [← hτ]
      have fr : FR (fun b j => b = 103 + 6 * k ∨ b = 104 + 6 * k ∨ b = 106 + 6 * k ∨ b = 32 ∧ j = 5) σ τ := by
        rw [hτ]; exact (cpy_fr (cpy_fr (cpy_fr (FR.rf _ σ) (fun j q => by omega)) (fun j q => by omega)) (fun j q => by omega)).si (by omega)
      have t1 : ∀ g, g < 40 → kv_i τ (103 + 6 * k) g = kv_i σ 34 g := fun g hg => by rw [hτ, ne_ess (by omega), cpy_i, if_neg (by omega), cpy_i, if_neg (by omega), cpy_i, if_pos ⟨rfl, hg⟩]
      have t2 : ∀ g, g < 40 → kv_i τ (104 + 6 * k) g = kv_i σ 35 g := fun g hg => by rw [hτ, ne_ess (by omega), cpy_i, if_neg (by omega), cpy_i, if_pos ⟨rfl, hg⟩, cpy_i, if_neg (by omega)]
      have t3 : ∀ i, i < 6 → kv_i τ (106 + 6 * k) i = kv_i σ 36 i := fun i hi => by rw [hτ, ne_ess (by omega), cpy_i, if_pos ⟨rfl, hi⟩, cpy_i, if_neg (by omega), cpy_i, if_neg (by omega)]
      have t4 : kv_i τ 32 5 = -1 := by rw [hτ, eq_ess ⟨rfl, rfl⟩]
      have js := fr.js a1
      have e4 : kv_i τ 32 4 = Int32.ofNat S := by rw [fr.i (by omega)]; exact s2
      simp only [g_116_34, g_116_35, g_116_38, g_116_41, Nat.not_lt_zero, Bool.false_eq_true, Option.toList_some, Option.toList_none, List.cons_append, List.nil_append, kv_rv, kc1_i, kc1_r, kc1_n, n10, n01, n1514, n1213, n1312, if_true, if_false, not_true_eq_false, not_false_eq_true, and_self, true_and, and_true, false_and, and_false, or_true, true_or, or_false, false_or, Nat.reduceLeDiff, Nat.reduceLT, Nat.reduceEqDiff, Nat.reduceAdd, s_8 js, s_32 js, r_8_8 js, e4]
      refine ⟨_, rfl, ?_⟩
      have g1 : kv_i τ 149 26 = Int32.ofNat K := by rw [fr.i (by omega)]; exact k2
      have g2 : kv_i τ 149 34 = Int32.ofNat k := by rw [fr.i (by omega), u2]; exact hu
      simp only [c_182, g_182_0, g_182_1, g_182_2, g_182_5, g_182_8, g_182_9, g_182_12, g_182_13, g_182_16, g_182_17, g_182_18, g_182_19, kv_w8_0, kv_w8_1, kv_w8_2, kv_w8_3, kv_w8_4, ari_aa, ari_al, ari_la, ari_mm, ari_ml, ari_lm, ari_ltl, ari_llt, ari_lt, ari_le, ari_lel, ari_lle, ari_0, ari_eq, ari_eql, ari_leq, ari_cl, Nat.not_lt_zero, Bool.false_eq_true, Option.toList_some, Option.toList_none, List.cons_append, List.nil_append, kv_rv, kc1_i, kc1_r, kc1_n, n10, n01, n1514, n1213, n1312, if_true, if_false, not_true_eq_false, not_false_eq_true, and_self, true_and, and_true, false_and, and_false, or_true, true_or, or_false, false_or, Nat.reduceLeDiff, Nat.reduceLT, Nat.reduceEqDiff, Nat.reduceAdd, m_isNet_m js, g1, g2, s_149 js, (show k < 8 by omega), (show k < 2147483648 by omega), (show k < K by omega), (show k < 2147483648 by omega), (show K < 9 by omega), (show K < 2147483648 by omega)]
      refine back_l1 τ js hk8 hG (by rw [fr.i (by omega)]; exact hn.2.2.2.2.2.2.1) (fun υ fr2 hs => ?_) G 0 (by omega) τ (FR.rf _ τ) (fun g hg => absurd hg (by omega))
      simp only [g_182_70, g_182_71, Nat.not_lt_zero, Bool.false_eq_true, Option.toList_some, Option.toList_none, List.cons_append, List.nil_append, kv_rv, kc1_i, kc1_r, kc1_n, n10, n01, n1514, n1213, n1312, if_true, if_false, not_true_eq_false, not_false_eq_true, and_self, true_and, and_true, false_and, and_false, or_true, true_or, or_false, false_or, Nat.reduceLeDiff, Nat.reduceLT, Nat.reduceEqDiff, Nat.reduceAdd]
      refine back_l2 υ (fr2.js js) hk8 (fun ζ fr3 hz => ?_) 6 0 (by omega) υ (FR.rf _ υ) (fun g hg => absurd hg (by omega))
      have js3 := fr3.js (fr2.js js)
      have e35 : kv_i ζ 149 35 = Int32.ofNat S := by rw [fr3.i (by omega), fr2.i (by omega), fr.i (by omega)]; exact s3
      simp only [g_182_101, g_182_102, g_182_103, g_182_106, g_182_107, g_182_110, n_si, n_sl, n_sr, n_mk, sh_si, sh_sl, sh_sr, sh_mk, i_si, i_sl, i_sr, i_mk, l_si, l_sl, l_sr, l_mk, r_si, r_sl, r_sr, r_mk, Nat.not_lt_zero, Bool.false_eq_true, Option.toList_some, Option.toList_none, List.cons_append, List.nil_append, kv_rv, kc1_i, kc1_r, kc1_n, n10, n01, n1514, n1213, n1312, if_true, if_false, not_true_eq_false, not_false_eq_true, and_self, true_and, and_true, false_and, and_false, or_true, true_or, or_false, false_or, Nat.reduceLeDiff, Nat.reduceLT, Nat.reduceEqDiff, Nat.reduceAdd, s_149 js3, e35]
      have frA : FR (fun b j => b = 103 + 6 * k ∨ b = 104 + 6 * k ∨ b = 106 + 6 * k ∨ b = 32 ∧ j = 5 ∨ (b = 171 ∨ b = 172) ∧ 40 * k ≤ j ∧ j < 40 * k + 40 ∨ b = 174 ∧ 6 * k ≤ j ∧ j < 6 * k + 6 ∨ b = 149 ∧ j = 34) σ (kv_si ζ 149 34 (-1)) := (((fr.mono (fun b j q => by omega)).tr (fr2.mono (fun b j q => by omega))).tr (fr3.mono (fun b j q => by omega))).si (by omega)
      have hx : ∀ g, g < G → kv_i (kv_si ζ 149 34 (-1)) 171 (40 * k + g) = kv_i σ 34 g ∧ kv_i (kv_si ζ 149 34 (-1)) 172 (40 * k + g) = kv_i σ 35 g ∧ kv_i (kv_si ζ 149 34 (-1)) (103 + 6 * k) g = kv_i σ 34 g ∧ kv_i (kv_si ζ 149 34 (-1)) (104 + 6 * k) g = kv_i σ 35 g := fun g hg => by
        rw [ne_ess (by omega), ne_ess (by omega), ne_ess (by omega), ne_ess (by omega), fr3.i (by omega), fr3.i (by omega), fr3.i (by omega), fr3.i (by omega), (hs g hg).1, (hs g hg).2, fr.i (by omega), fr.i (by omega), fr2.i (by omega), fr2.i (by omega), t1 g (by omega), t2 g (by omega), (b5 g hg).1, (b5 g hg).2.2.1]
        exact ⟨rfl, rfl, rfl, rfl⟩
      have ho : ∀ i, i < 6 → kv_i (kv_si ζ 149 34 (-1)) 174 (6 * k + i) = kv_i σ 36 i ∧ kv_i (kv_si ζ 149 34 (-1)) (106 + 6 * k) i = kv_i σ 36 i := fun i hi => by
        rw [ne_ess (by omega), ne_ess (by omega), hz i hi, fr2.i (by omega), fr.i (by omega), (b6 i hi).1, fr3.i (by omega), fr2.i (by omega), t3 i hi]
        exact ⟨rfl, rfl⟩
      have h5 : kv_i (kv_si ζ 149 34 (-1)) 32 5 = -1 := by rw [ne_ess (by omega), fr3.i (by omega), fr2.i (by omega)]; exact t4
      have h34 : kv_i (kv_si ζ 149 34 (-1)) 149 34 = -1 := eq_ess ⟨rfl, rfl⟩
      generalize kv_si ζ 149 34 (-1) = ω at *
      have cg : ∀ b j, ¬ (b = 103 + 6 * k ∨ b = 104 + 6 * k ∨ b = 106 + 6 * k ∨ b = 32 ∧ j = 5 ∨ (b = 171 ∨ b = 172) ∧ 40 * k ≤ j ∧ j < 40 * k + 40 ∨ b = 174 ∧ 6 * k ≤ j ∧ j < 6 * k + 6 ∨ b = 149 ∧ j = 34) → kv_i ω b j = kv_i σ b j := fun b j q => frA.i q
      refine ⟨frA.js a1, a2.fr frA (by omega), a3.fr frA (by omega), a4.fr frA (by unfold cF; omega), ⟨K, hK, by rw [cg _ _ (by omega)]; exact k1, by rw [cg _ _ (by omega)]; exact k2, fun n hnK => ?_⟩, a6.fr frA (by unfold cC; omega), a7.gone (fun b j hb => cg _ _ (by omega)) (cg _ _ (by omega)) (cg _ _ (by omega)) h5 h34⟩
      by_cases e : n = k
      · subst e
        obtain ⟨w1, w2, w3, w4, w5, w6, w7, w8, w9⟩ := hn
        refine ⟨w, G, w1, w2, w3, by rw [cg _ _ (by omega)]; exact w4, by rw [cg _ _ (by omega)]; exact w5, by rw [cg _ _ (by omega)]; exact w6, by rw [cg _ _ (by omega)]; exact w7, fun g hg => ?_, fun i hi => ?_⟩
        · obtain ⟨x1, x2, x3, x4⟩ := hx g hg
          obtain ⟨⟨t, y1, y2, y3⟩, y4, y5, y6, y7, y8, y9⟩ := w8 g hg
          unfold JN2
          rw [x1, x2, x3, x4, cg (102 + 6 * n) g (by omega), cg 170 _ (by omega), cg 173 _ (by omega), cg (105 + 6 * n) g (by omega)]
          exact ⟨⟨t, y1, y2, y3⟩, rfl, (b5 g hg).2.1, rfl, (b5 g hg).2.2.2, y8, y9⟩
        · rw [(ho i hi).1, (ho i hi).2]
          exact ⟨rfl, (b6 i hi).2⟩
      · exact (k3 n hnK).fine (fun b j q1 q2 => cg _ _ (by omega)) (cg _ _ (by omega)) (cg _ _ (by omega)) (fun b g q1 q2 q3 => cg _ _ (by omega)) (fun i hi => cg _ _ (by omega))
    · simp only [c_116, g_116_0, g_116_1, g_116_2, g_116_5, g_116_8, g_116_9, g_116_12, g_116_15, g_116_16, g_116_19, g_116_20, kv_w8_0, kv_w8_1, kv_w8_2, kv_w8_3, kv_w8_4, ari_aa, ari_al, ari_la, ari_mm, ari_ml, ari_lm, ari_ltl, ari_llt, ari_lt, ari_le, ari_lel, ari_lle, ari_0, ari_eq, ari_eql, ari_leq, ari_cl, Nat.not_lt_zero, Bool.false_eq_true, Option.toList_some, Option.toList_none, List.cons_append, List.nil_append, kv_rv, kc1_i, kc1_r, kc1_n, n10, n01, n1514, n1213, n1312, if_true, if_false, not_true_eq_false, not_false_eq_true, and_self, true_and, and_true, false_and, and_false, or_true, true_or, or_false, false_or, Nat.reduceLeDiff, Nat.reduceLT, Nat.reduceEqDiff, Nat.reduceAdd, m_isNet_c a1, k1, hu, s_8 a1, s_32 a1, r_8_8 a1, (show k < 8 by omega), (show k < 2147483648 by omega), (show k < K by omega), (show k < 2147483648 by omega), (show K < 9 by omega), (show K < 2147483648 by omega)]
      refine ⟨_, rfl, ?_⟩
      have hu2 : ¬ kv_i σ 149 34 = Int32.ofNat k := by rw [u2]; exact hu
      simp only [c_182, g_182_0, g_182_1, g_182_2, g_182_5, g_182_8, g_182_9, g_182_12, g_182_13, g_182_16, g_182_17, kv_w8_0, kv_w8_1, kv_w8_2, kv_w8_3, kv_w8_4, ari_aa, ari_al, ari_la, ari_mm, ari_ml, ari_lm, ari_ltl, ari_llt, ari_lt, ari_le, ari_lel, ari_lle, ari_0, ari_eq, ari_eql, ari_leq, ari_cl, Nat.not_lt_zero, Bool.false_eq_true, Option.toList_some, Option.toList_none, List.cons_append, List.nil_append, kv_rv, kc1_i, kc1_r, kc1_n, n10, n01, n1514, n1213, n1312, if_true, if_false, not_true_eq_false, not_false_eq_true, and_self, true_and, and_true, false_and, and_false, or_true, true_or, or_false, false_or, Nat.reduceLeDiff, Nat.reduceLT, Nat.reduceEqDiff, Nat.reduceAdd, m_isNet_m a1, k2, hu2, s_149 a1, (show k < 8 by omega), (show k < 2147483648 by omega), (show k < K by omega), (show k < 2147483648 by omega), (show K < 9 by omega), (show K < 2147483648 by omega)]
      exact h
  · simp only [c_116, g_116_0, g_116_1, g_116_2, g_116_5, g_116_8, g_116_9, g_116_12, g_116_15, g_116_16, g_116_19, g_116_20, kv_w8_0, kv_w8_1, kv_w8_2, kv_w8_3, kv_w8_4, Nat.not_lt_zero, Bool.false_eq_true, Option.toList_some, Option.toList_none, List.cons_append, List.nil_append, kv_rv, kc1_i, kc1_r, kc1_n, n10, n01, n1514, n1213, n1312, if_true, if_false, not_true_eq_false, not_false_eq_true, and_self, true_and, and_true, false_and, and_false, or_true, true_or, or_false, false_or, Nat.reduceLeDiff, Nat.reduceLT, Nat.reduceEqDiff, Nat.reduceAdd, m_isNet_c a1, k1, hp, s_8 a1]
    refine ⟨_, rfl, ?_⟩
    simp only [c_182, g_182_0, g_182_1, g_182_2, g_182_5, g_182_8, g_182_9, g_182_12, g_182_13, g_182_16, g_182_17, kv_w8_0, kv_w8_1, kv_w8_2, kv_w8_3, kv_w8_4, Nat.not_lt_zero, Bool.false_eq_true, Option.toList_some, Option.toList_none, List.cons_append, List.nil_append, kv_rv, kc1_i, kc1_r, kc1_n, n10, n01, n1514, n1213, n1312, if_true, if_false, not_true_eq_false, not_false_eq_true, and_self, true_and, and_true, false_and, and_false, or_true, true_or, or_false, false_or, Nat.reduceLeDiff, Nat.reduceLT, Nat.reduceEqDiff, Nat.reduceAdd, m_isNet_m a1, k2, hp, s_149 a1]
    exact h

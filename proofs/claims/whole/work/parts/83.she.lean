/-- the class's scratch while it shapes -/
def cScr (b i : Nat) : Prop := b = 27 ∨ b = 26 ∧ i = 1 ∨ b = 31 ∨ b = 30 ∧ i = 1
def kpc (σ : kv_S) (k : Nat) : Nat → Bool := fun g => kv_i σ (105 + 6 * k) g == 1
theorem rd_iff {σ : kv_S} {k G g : Nat} : rdp σ k G g ↔ aRd G (cNet σ k) g = true := by
  unfold rdp aRd cNet
  rw [Bool.or_eq_true, anyN_iff, wo_iff]
  refine or_congr (exists_congr fun j => and_congr_right fun hj => ?_) Iff.rfl
  rw [Bool.or_eq_true, beq_iff_eq, beq_iff_eq]
theorem cNet_fr {P : Nat → Nat → Prop} {σ τ : kv_S} (h : FR P σ τ) {k : Nat} (hk : k < 8) (hp : ∀ b j, P b j → ¬ (b = 103 + 6 * k ∨ b = 104 + 6 * k ∨ b = 106 + 6 * k)) : cNet τ k = cNet σ k := by
  unfold cNet
  rw [show kv_i τ (103 + 6 * k) = kv_i σ (103 + 6 * k) by funext j; exact h.i (fun q => hp _ _ q (by omega)), show kv_i τ (104 + 6 * k) = kv_i σ (104 + 6 * k) by funext j; exact h.i (fun q => hp _ _ q (by omega)), show kv_i τ (106 + 6 * k) = kv_i σ (106 + 6 * k) by funext j; exact h.i (fun q => hp _ _ q (by omega))]
theorem tbN_fr {P : Nat → Nat → Prop} {σ τ : kv_S} (h : FR P σ τ) {k : Nat} (hp : ∀ b j, P b j → ¬ b = 102 + 6 * k) : tbN τ k = tbN σ k := by
  funext g; unfold tbN; rw [h.i (fun q => hp _ _ q rfl)]
theorem kpc_fr {P : Nat → Nat → Prop} {σ τ : kv_S} (h : FR P σ τ) {k : Nat} (hp : ∀ b j, P b j → ¬ b = 105 + 6 * k) : kpc τ k = kpc σ k := by
  funext g; unfold kpc; rw [h.i (fun q => hp _ _ q rfl)]
section SE
variable {d : Nat} {Φ : Option Value → kv_S → Prop}
theorem once_loop {τ : kv_S} (js0 : JS τ) (hK : JK τ) {k w G S : Nat} (hk : k < 8) (hn : JNc τ k w G) (hv : vld τ k w G) (hS : S < 1800) (e4 : kv_i τ 32 4 = Int32.ofNat S) {s : Int64} (hs : ∀ g, g < G → lb s (10 + g) = aRd G (cNet τ k) g) (H0 : aG (tbN τ k) (kpc τ k) w G (cNet τ k) = G → ∀ υ, FR (fun b i => b = 31 ∨ b = 30 ∧ i = 1) τ υ → Φ (some (.int 0)) υ) (H1 : aG (tbN τ k) (kpc τ k) w G (cNet τ k) < G → ∀ υ, FR (fun b i => (b = 31 ∨ b = 30 ∧ i = 1) ∨ b = 103 + 6 * k ∨ b = 104 + 6 * k ∨ b = 106 + 6 * k ∨ b = 33 ∧ i = S ∨ b = 32 ∧ i = 4) τ υ → cNet υ k = aX (tbN τ k) (kpc τ k) w G (cNet τ k) → kv_i υ 33 S = Int32.ofNat (512 * onn (aI (tbN τ k) w G (cNet τ k) (aG (tbN τ k) (kpc τ k) w G (cNet τ k))) + 64 * aR (tbN τ k) w G (cNet τ k) (aG (tbN τ k) (kpc τ k) w G (cNet τ k)) + aG (tbN τ k) (kpc τ k) w G (cNet τ k)) → kv_i υ 32 4 = Int32.ofNat (S + 1) → Φ (some (.int 1)) υ) : ∀ m g, g + m = G → aG (tbN τ k) (kpc τ k) w G (cNet τ k) = fst1 (aCan (tbN τ k) (kpc τ k) w G (cNet τ k)) m g → ∀ υ, FR (fun b i => b = 31 ∨ b = 30 ∧ i = 1) τ υ → ∀ v5 v6 : Value, Wp (d + 5) 105 16 [.ref 8, .ref (101 + 6 * k), .long s, .null, .int (Int32.ofNat g), v5, v6] [] υ Φ
  | 0, g, e, hf, υ, fr, v5, v6 => by
    have hG := hn.2.2.1
    have e2 : g = G := by omega
    subst e2
    have js := fr.js js0
    have e6 : kv_i υ (101 + 6 * k) 6 = Int32.ofNat g := by rw [fr.i (by omega)]; exact hn.2.2.2.2.2.1
    simp only [g_105_16, g_105_18, g_105_19, g_105_22, g_105_104, g_105_105, ari_aa, ari_al, ari_la, ari_mm, ari_ml, ari_lm, ari_ltl, ari_llt, ari_lt, ari_le, ari_lel, ari_lle, ari_0, ari_eq, ari_eql, ari_leq, ari_cl, Nat.not_lt_zero, Bool.false_eq_true, Option.toList_some, Option.toList_none, List.cons_append, List.nil_append, kv_rv, kc1_i, kc1_r, kc1_n, n10, n01, n1514, n1213, n1312, if_true, if_false, not_true_eq_false, not_false_eq_true, and_self, true_and, and_true, false_and, and_false, or_true, true_or, or_false, false_or, Nat.reduceLeDiff, Nat.reduceLT, Nat.reduceEqDiff, Nat.reduceAdd, nN js hk, e6, (show g < 41 by omega), (show g < 2147483648 by omega), (show g ≤ g by omega)]
    exact H0 hf υ fr
  | m + 1, g, e, hf, υ, fr, v5, v6 => by
    have hG := hn.2.2.1
    have js := fr.js js0
    have e6 : kv_i υ (101 + 6 * k) 6 = Int32.ofNat G := by rw [fr.i (by omega)]; exact hn.2.2.2.2.2.1
    have hf : _ = if aCan (tbN τ k) (kpc τ k) w G (cNet τ k) g = true then g else fst1 (aCan (tbN τ k) (kpc τ k) w G (cNet τ k)) m (g + 1) := hf
    have ek : kv_i υ (105 + 6 * k) g = kv_i τ (105 + 6 * k) g := fr.i (by omega)
    have eo := onn_nat (8 + g)
    rw [show 8 + g + 2 = 10 + g by omega] at eo
    obtain ⟨⟨t, t1, t2, -⟩, -, t5, -, t7, -, t9⟩ := hn.2.2.2.2.2.2.2.1 g (by omega)
    simp only [g_105_16, g_105_18, g_105_19, g_105_22, ari_aa, ari_al, ari_la, ari_mm, ari_ml, ari_lm, ari_ltl, ari_llt, ari_lt, ari_le, ari_lel, ari_lle, ari_0, ari_eq, ari_eql, ari_leq, ari_cl, Nat.not_lt_zero, Bool.false_eq_true, Option.toList_some, Option.toList_none, List.cons_append, List.nil_append, kv_rv, kc1_i, kc1_r, kc1_n, n10, n01, n1514, n1213, n1312, if_true, if_false, not_true_eq_false, not_false_eq_true, and_self, true_and, and_true, false_and, and_false, or_true, true_or, or_false, false_or, Nat.reduceLeDiff, Nat.reduceLT, Nat.reduceEqDiff, Nat.reduceAdd, nN js hk, e6, (show g < 41 by omega), (show g < 2147483648 by omega), (show G < 41 by omega), (show G < 2147483648 by omega), (show ¬ G ≤ g by omega)]
    have skip : aCan (tbN τ k) (kpc τ k) w G (cNet τ k) g = false → ∀ υ', FR (fun b i => b = 31 ∨ b = 30 ∧ i = 1) τ υ' → ∀ v5 v6 : Value, Wp (d + 5) 105 98 [.ref 8, .ref (101 + 6 * k), .long s, .null, .int (Int32.ofNat g), v5, v6] [] υ' Φ := by
      intro hc υ' fr' v5 v6
      rw [hc, if_neg (by decide)] at hf
      simp only [g_105_98, g_105_101, ari_aa, ari_al, ari_la, ari_mm, ari_ml, ari_lm, ari_ltl, ari_llt, ari_lt, ari_le, ari_lel, ari_lle, ari_0, ari_eq, ari_eql, ari_leq, ari_cl, Nat.not_lt_zero, Bool.false_eq_true, Option.toList_some, Option.toList_none, List.cons_append, List.nil_append, kv_rv, kc1_i, kc1_r, kc1_n, n10, n01, n1514, n1213, n1312, if_true, if_false, not_true_eq_false, not_false_eq_true, and_self, true_and, and_true, false_and, and_false, or_true, true_or, or_false, false_or, Nat.reduceLeDiff, Nat.reduceLT, Nat.reduceEqDiff, Nat.reduceAdd]
      exact once_loop js0 hK hk hn hv hS e4 hs H0 H1 m (g + 1) (by omega) hf υ' fr' v5 v6
    rcases t9 with t9 | t9
    · have hkp : kpc τ k g = false := by unfold kpc; rw [t9]; rfl
      by_cases c1 : aRd G (cNet τ k) g = true
      · have hl : lb s (10 + g) = true := by rw [hs g (by omega)]; exact c1
        simp only [g_105_25, g_105_26, g_105_29, g_105_31, g_105_32, g_105_35, g_105_36, g_105_38, g_105_40, g_105_41, g_105_44, g_105_47, g_105_48, g_105_49, g_105_51, kv_w8_0, kv_w8_1, kv_w8_2, kv_w8_3, kv_w8_4, ari_aa, ari_al, ari_la, ari_mm, ari_ml, ari_lm, ari_ltl, ari_llt, ari_lt, ari_le, ari_lel, ari_lle, ari_0, ari_eq, ari_eql, ari_leq, ari_cl, Nat.not_lt_zero, Bool.false_eq_true, Option.toList_some, Option.toList_none, List.cons_append, List.nil_append, kv_rv, kc1_i, kc1_r, kc1_n, n10, n01, n1514, n1213, n1312, if_true, if_false, not_true_eq_false, not_false_eq_true, and_self, true_and, and_true, false_and, and_false, or_true, true_or, or_false, false_or, Nat.reduceLeDiff, Nat.reduceLT, Nat.reduceEqDiff, Nat.reduceAdd, nN js hk, nK js hk, qK js hk, ek, t9, m_has s eo (show 10 + g < 64 by omega), hl, s_8 js, (show g < 40 by omega), (show g < 2147483648 by omega), (show 8 ≤ 105 + 6 * k by omega)]
        have hn2 : JNc υ k w G := hn.fr fr hk (fun b i q => by omega)
        have hv2 := hv.fr hk fr
        have hK2 : JK υ := hK.fr fr (fun b i q => by omega)
        refine m_ruleFor js hK2 hk hn2 hv2 (by omega) (fun ζ fr2 => ?_)
        have fr3 := fr.tr fr2
        have js3 := fr3.js js0
        have eT : tbN υ k = tbN τ k := tbN_fr fr (fun b i q => by omega)
        have eN : cNet υ k = cNet τ k := cNet_fr fr hk (fun b i q => by omega)
        have eT3 : tbN ζ k = tbN τ k := tbN_fr fr3 (fun b i q => by omega)
        have eN3 : cNet ζ k = cNet τ k := cNet_fr fr3 hk (fun b i q => by omega)
        rw [eT, eN]
        by_cases c2 : aR (tbN τ k) w G (cNet τ k) g < 5
        · have hcan : aCan (tbN τ k) (kpc τ k) w G (cNet τ k) g = true := by unfold aCan; rw [hkp, c1, decide_eq_true c2]; rfl
          rw [hcan, if_pos rfl] at hf
          rw [if_pos c2]
          have hn3 : JNc ζ k w G := hn.fr fr3 hk (fun b i q => by omega)
          have hv3 := hv.fr hk fr3
          simp only [g_105_54, g_105_56, g_105_58, g_105_61, g_105_62, g_105_63, g_105_65, g_105_67, kv_w8_0, kv_w8_1, kv_w8_2, kv_w8_3, kv_w8_4, ari_aa, ari_al, ari_la, ari_mm, ari_ml, ari_lm, ari_ltl, ari_llt, ari_lt, ari_le, ari_lel, ari_lle, ari_0, ari_eq, ari_eql, ari_leq, ari_cl, Nat.not_lt_zero, Bool.false_eq_true, Option.toList_some, Option.toList_none, List.cons_append, List.nil_append, kv_rv, kc1_i, kc1_r, kc1_n, n10, n01, n1514, n1213, n1312, if_true, if_false, not_true_eq_false, not_false_eq_true, and_self, true_and, and_true, false_and, and_false, or_true, true_or, or_false, false_or, Nat.reduceLeDiff, Nat.reduceLT, Nat.reduceEqDiff, Nat.reduceAdd, s_8 js3, (show aR (tbN τ k) w G (cNet τ k) g < 6 by omega), (show aR (tbN τ k) w G (cNet τ k) g < 2147483648 by omega)]
          have mi := @m_instead (d + 1) (fun r τ_1 => Wp (d + 4 + 1) 105 70 [Value.ref 8, Value.ref (101 + 6 * k), Value.long s, Value.null, Value.int (Int32.ofNat g), Value.int (Int32.ofNat (aR (tbN τ k) w G (cNet τ k) g)), v6] (r.toList ++ []) τ_1 Φ) ζ js3 k w G g hk hn3 hv3 (by omega)
          rw [eT3, eN3] at mi
          refine mi c2 ?_
          have hok : aOk w G (cNet τ k) := ⟨fun j hj => hn.xy j hj, fun i hi => hn.o i hi⟩
          have hxv := aI_vO (T := tbN τ k) hok (show g < G by omega) c2
          have ox := hxv.onn hn.2.1 (show g ≤ 40 by omega)
          have e4' : kv_i ζ 32 4 = Int32.ofNat S := by rw [fr3.i (by omega)]; exact e4
          simp only [g_105_70, g_105_72, g_105_73, g_105_76, g_105_78, g_105_80, g_105_82, kv_w8_0, kv_w8_1, kv_w8_2, kv_w8_3, kv_w8_4, Nat.not_lt_zero, Bool.false_eq_true, Option.toList_some, Option.toList_none, List.cons_append, List.nil_append, kv_rv, kc1_i, kc1_r, kc1_n, n10, n01, n1514, n1213, n1312, if_true, if_false, not_true_eq_false, not_false_eq_true, and_self, true_and, and_true, false_and, and_false, or_true, true_or, or_false, false_or, Nat.reduceLeDiff, Nat.reduceLT, Nat.reduceEqDiff, Nat.reduceAdd, s_8 js3, s_32 js3, r_8_8 js3, m_note js3 hS e4' ox.2 c2 (show g < 40 by omega) ox.1]
          have frN : FR (fun b i => b = 33 ∧ i = S ∨ b = 32 ∧ i = 4) ζ (kv_si (kv_si ζ 33 S (Int32.ofNat (512 * onn (aI (tbN τ k) w G (cNet τ k) g) + 64 * aR (tbN τ k) w G (cNet τ k) g + g))) 32 4 (Int32.ofNat (S + 1))) := ((FR.rf _ ζ).si (Or.inl ⟨rfl, rfl⟩)).si (Or.inr ⟨rfl, rfl⟩)
          have n33 : kv_i (kv_si (kv_si ζ 33 S (Int32.ofNat (512 * onn (aI (tbN τ k) w G (cNet τ k) g) + 64 * aR (tbN τ k) w G (cNet τ k) g + g))) 32 4 (Int32.ofNat (S + 1))) 33 S = Int32.ofNat (512 * onn (aI (tbN τ k) w G (cNet τ k) g) + 64 * aR (tbN τ k) w G (cNet τ k) g + g) := by rw [ne_ess (by omega), eq_ess ⟨rfl, rfl⟩]
          have n32 : kv_i (kv_si (kv_si ζ 33 S (Int32.ofNat (512 * onn (aI (tbN τ k) w G (cNet τ k) g) + 64 * aR (tbN τ k) w G (cNet τ k) g + g))) 32 4 (Int32.ofNat (S + 1))) 32 4 = Int32.ofNat (S + 1) := eq_ess ⟨rfl, rfl⟩
          generalize kv_si (kv_si ζ 33 S (Int32.ofNat (512 * onn (aI (tbN τ k) w G (cNet τ k) g) + 64 * aR (tbN τ k) w G (cNet τ k) g + g))) 32 4 (Int32.ofNat (S + 1)) = ξ at *
          have js4 := frN.js js3
          have eN4 : cNet ξ k = cNet τ k := (cNet_fr frN hk (fun b i q => by omega)).trans eN3
          simp only [g_105_85, g_105_86, g_105_88, g_105_90, g_105_91, g_105_93, kv_w8_0, kv_w8_1, kv_w8_2, kv_w8_3, kv_w8_4, ari_aa, ari_al, ari_la, ari_mm, ari_ml, ari_lm, ari_ltl, ari_llt, ari_lt, ari_le, ari_lel, ari_lle, ari_0, ari_eq, ari_eql, ari_leq, ari_cl, Nat.not_lt_zero, Bool.false_eq_true, Option.toList_some, Option.toList_none, List.cons_append, List.nil_append, kv_rv, kc1_i, kc1_r, kc1_n, n10, n01, n1514, n1213, n1312, if_true, if_false, not_true_eq_false, not_false_eq_true, and_self, true_and, and_true, false_and, and_false, or_true, true_or, or_false, false_or, Nat.reduceLeDiff, Nat.reduceLT, Nat.reduceEqDiff, Nat.reduceAdd, nN js4 hk]
          refine m_readI js4 hk hG (by rw [frN.i (by omega), fr3.i (by omega)]; exact hn.2.2.2.2.2.1) (fun ω fr5 hN5 => ?_)
          simp only [g_105_96, g_105_97, Nat.not_lt_zero, Bool.false_eq_true, Option.toList_some, Option.toList_none, List.cons_append, List.nil_append, kv_rv, kc1_i, kc1_r, kc1_n, n10, n01, n1514, n1213, n1312, if_true, if_false, not_true_eq_false, not_false_eq_true, and_self, true_and, and_true, false_and, and_false, or_true, true_or, or_false, false_or, Nat.reduceLeDiff, Nat.reduceLT, Nat.reduceEqDiff, Nat.reduceAdd]
          have frA : FR (fun b i => (b = 31 ∨ b = 30 ∧ i = 1) ∨ b = 103 + 6 * k ∨ b = 104 + 6 * k ∨ b = 106 + 6 * k ∨ b = 33 ∧ i = S ∨ b = 32 ∧ i = 4) τ ω := ((fr3.mono (fun b i q => Or.inl q)).tr (frN.mono (fun b i q => by omega))).tr (fr5.mono (fun b i q => by omega))
          rw [eN4] at hN5
          refine H1 (by rw [hf]; omega) ω frA ?_ ?_ ?_
          · unfold aX; rw [hf]; exact hN5
          · rw [hf, fr5.i (by omega)]; exact n33
          · rw [fr5.i (by omega)]; exact n32
        · have hcan : aCan (tbN τ k) (kpc τ k) w G (cNet τ k) g = false := by unfold aCan; rw [decide_eq_false c2, Bool.and_false]
          rw [if_neg c2]
          simp only [g_105_54, g_105_56, g_105_58, Nat.not_lt_zero, Bool.false_eq_true, Option.toList_some, Option.toList_none, List.cons_append, List.nil_append, kv_rv, kc1_i, kc1_r, kc1_n, n10, n01, n1514, n1213, n1312, if_true, if_false, not_true_eq_false, not_false_eq_true, and_self, true_and, and_true, false_and, and_false, or_true, true_or, or_false, false_or, Nat.reduceLeDiff, Nat.reduceLT, Nat.reduceEqDiff, Nat.reduceAdd, (show (-1 : Int32) < 0 by decide)]
          exact skip hcan ζ fr3 _ _
      · have hl : lb s (10 + g) = false := by rw [hs g (by omega)]; exact Bool.eq_false_iff.mpr c1
        simp only [g_105_25, g_105_26, g_105_29, g_105_31, g_105_32, g_105_35, g_105_36, g_105_38, g_105_40, g_105_41, g_105_44, kv_w8_0, kv_w8_1, kv_w8_2, kv_w8_3, kv_w8_4, ari_aa, ari_al, ari_la, ari_mm, ari_ml, ari_lm, ari_ltl, ari_llt, ari_lt, ari_le, ari_lel, ari_lle, ari_0, ari_eq, ari_eql, ari_leq, ari_cl, Nat.not_lt_zero, Bool.false_eq_true, Option.toList_some, Option.toList_none, List.cons_append, List.nil_append, kv_rv, kc1_i, kc1_r, kc1_n, n10, n01, n1514, n1213, n1312, if_true, if_false, not_true_eq_false, not_false_eq_true, and_self, true_and, and_true, false_and, and_false, or_true, true_or, or_false, false_or, Nat.reduceLeDiff, Nat.reduceLT, Nat.reduceEqDiff, Nat.reduceAdd, nN js hk, nK js hk, qK js hk, ek, t9, m_has s eo (show 10 + g < 64 by omega), hl, (show g < 40 by omega), (show g < 2147483648 by omega), (show 8 ≤ 105 + 6 * k by omega)]
        exact skip (by unfold aCan; rw [Bool.eq_false_iff.mpr c1, Bool.and_false, Bool.false_and]) υ fr _ _
    · have hkp : kpc τ k g = true := by unfold kpc; rw [t9]; rfl
      simp only [g_105_25, g_105_26, g_105_29, g_105_31, g_105_32, ari_aa, ari_al, ari_la, ari_mm, ari_ml, ari_lm, ari_ltl, ari_llt, ari_lt, ari_le, ari_lel, ari_lle, ari_0, ari_eq, ari_eql, ari_leq, ari_cl, Nat.not_lt_zero, Bool.false_eq_true, Option.toList_some, Option.toList_none, List.cons_append, List.nil_append, kv_rv, kc1_i, kc1_r, kc1_n, n10, n01, n1514, n1213, n1312, if_true, if_false, not_true_eq_false, not_false_eq_true, and_self, true_and, and_true, false_and, and_false, or_true, true_or, or_false, false_or, Nat.reduceLeDiff, Nat.reduceLT, Nat.reduceEqDiff, Nat.reduceAdd, nN js hk, nK js hk, qK js hk, ek, t9, (show g < 40 by omega), (show g < 2147483648 by omega), (show 8 ≤ 105 + 6 * k by omega)]
      exact skip (by unfold aCan; rw [hkp]; rfl) υ fr _ _
theorem m_shapeOnce {τ0 : kv_S} (js0 : JS τ0) (hK : JK τ0) {k w G S : Nat} (hk : k < 8) (hn : JNc τ0 k w G) (hS : S < 1800) (e4 : kv_i τ0 32 4 = Int32.ofNat S) (H0 : aG (tbN τ0 k) (kpc τ0 k) w G (cNet τ0 k) = G → ∀ υ, FR cScr τ0 υ → Φ (some (.int 0)) υ) (H1 : aG (tbN τ0 k) (kpc τ0 k) w G (cNet τ0 k) < G → ∀ υ, FR (fun b i => cScr b i ∨ b = 103 + 6 * k ∨ b = 104 + 6 * k ∨ b = 106 + 6 * k ∨ b = 33 ∧ i = S ∨ b = 32 ∧ i = 4) τ0 υ → cNet υ k = aX (tbN τ0 k) (kpc τ0 k) w G (cNet τ0 k) → kv_i υ 33 S = Int32.ofNat (512 * onn (aI (tbN τ0 k) w G (cNet τ0 k) (aG (tbN τ0 k) (kpc τ0 k) w G (cNet τ0 k))) + 64 * aR (tbN τ0 k) w G (cNet τ0 k) (aG (tbN τ0 k) (kpc τ0 k) w G (cNet τ0 k)) + aG (tbN τ0 k) (kpc τ0 k) w G (cNet τ0 k)) → kv_i υ 32 4 = Int32.ofNat (S + 1) → Φ (some (.int 1)) υ) : Wc (d + 5) 105 [.ref 8, .ref (101 + 6 * k)] τ0 Φ := by
  have hG := hn.2.2.1
  simp only [c_105, g_105_0, g_105_1, g_105_4, g_105_5, kv_w8_0, kv_w8_1, kv_w8_2, kv_w8_3, kv_w8_4, Nat.not_lt_zero, Bool.false_eq_true, Option.toList_some, Option.toList_none, List.cons_append, List.nil_append, kv_rv, kc1_i, kc1_r, kc1_n, n10, n01, n1514, n1213, n1312, if_true, if_false, not_true_eq_false, not_false_eq_true, and_self, true_and, and_true, false_and, and_false, or_true, true_or, or_false, false_or, Nat.reduceLeDiff, Nat.reduceLT, Nat.reduceEqDiff, Nat.reduceAdd, s_8 js0, s_26 js0, r_8_5 js0]
  refine m_workOut_q js0 hK hk (Or.inl rfl) hn (fun τ hw => ?_)
  have fr := hw.1
  have js := fr.js js0
  have hv := hw.vld hk
  have hn2 : JNc τ k w G := hn.fr fr hk (fun b i q => by omega)
  have eT : tbN τ k = tbN τ0 k := tbN_fr fr (fun b i q => by omega)
  have eN : cNet τ k = cNet τ0 k := cNet_fr fr hk (fun b i q => by omega)
  have eK : kpc τ k = kpc τ0 k := kpc_fr fr (fun b i q => by omega)
  simp only [g_105_8, g_105_9, kv_w8_0, kv_w8_1, kv_w8_2, kv_w8_3, kv_w8_4, Nat.not_lt_zero, Bool.false_eq_true, Option.toList_some, Option.toList_none, List.cons_append, List.nil_append, kv_rv, kc1_i, kc1_r, kc1_n, n10, n01, n1514, n1213, n1312, if_true, if_false, not_true_eq_false, not_false_eq_true, and_self, true_and, and_true, false_and, and_false, or_true, true_or, or_false, false_or, Nat.reduceLeDiff, Nat.reduceLT, Nat.reduceEqDiff, Nat.reduceAdd, nN js hk]
  refine m_readOps js hk hn2.2.1 hG hn2.2.2.2.2.2.1 hn2.xy hn2.o (fun s hs => ?_)
  simp only [g_105_12, g_105_13, g_105_14, Nat.not_lt_zero, Bool.false_eq_true, Option.toList_some, Option.toList_none, List.cons_append, List.nil_append, kv_rv, kc1_i, kc1_r, kc1_n, n10, n01, n1514, n1213, n1312, if_true, if_false, not_true_eq_false, not_false_eq_true, and_self, true_and, and_true, false_and, and_false, or_true, true_or, or_false, false_or, Nat.reduceLeDiff, Nat.reduceLT, Nat.reduceEqDiff, Nat.reduceAdd]
  have hs2 : ∀ g, g < G → lb s (10 + g) = aRd G (cNet τ k) g := by
    intro g hg
    rw [Bool.eq_iff_iff, hs (10 + g) (by omega), rdp_iff hn2.2.1 hG (by omega) hn2.xy hn2.o, rd_iff]
  refine once_loop js (hK.fr fr (fun b i q => by omega)) hk hn2 hv hS (by rw [fr.i (by omega)]; exact e4) hs2 (fun h0 υ fr2 => ?_) (fun h1 υ fr2 => ?_) G 0 (by omega) rfl τ (FR.rf _ τ) _ _
  · rw [eT, eN, eK] at h0
    exact H0 h0 υ ((fr.mono (fun b i q => by unfold cScr; omega)).tr (fr2.mono (fun b i q => by unfold cScr; omega)))
  · rw [eT, eN, eK] at h1 ⊢
    exact H1 h1 υ ((fr.mono (fun b i q => by unfold cScr; omega)).tr (fr2.mono (fun b i q => by unfold cScr; omega)))
end SE

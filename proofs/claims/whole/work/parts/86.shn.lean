section SN
variable {d : Nat} {Φ : Option Value → kv_S → Prop}
theorem m_finds {τ : kv_S} (js : JS τ) {k w G g : Nat} (hk : k < 8) (hn : JNm τ k w G) (hg : g < G) (H1 : aR (tbM τ k) w G (mNet τ k) g < 5 → ∀ υ, FR mScr τ υ → kv_i υ 149 44 = Int32.ofNat (aR (tbM τ k) w G (mNet τ k) g) → kv_i υ 149 45 = aI (tbM τ k) w G (mNet τ k) g → Φ (some (.int 1)) υ) (H0 : ¬ aR (tbM τ k) w G (mNet τ k) g < 5 → ∀ υ, FR mScr τ υ → Φ (some (.int 0)) υ) : Wc (d + 3) 178 [.ref 149, .int (Int32.ofNat k), .int (Int32.ofNat g)] τ Φ := by
  have hG := hn.2.2.1
  simp only [c_178, g_178_0, g_178_2, g_178_3, g_178_4, g_178_5, g_178_6, g_178_7, g_178_8, g_178_9, g_178_10, kv_w8_0, kv_w8_1, kv_w8_2, kv_w8_3, kv_w8_4, ari_aa, ari_al, ari_la, ari_mm, ari_ml, ari_lm, ari_ltl, ari_llt, ari_lt, ari_le, ari_lel, ari_lle, ari_0, ari_eq, ari_eql, ari_leq, ari_cl, Nat.not_lt_zero, Bool.false_eq_true, Option.toList_some, Option.toList_none, List.cons_append, List.nil_append, kv_rv, kc1_i, kc1_r, kc1_n, n10, n01, n1514, n1213, n1312, if_true, if_false, not_true_eq_false, not_false_eq_true, and_self, true_and, and_true, false_and, and_false, or_true, true_or, or_false, false_or, Nat.reduceLeDiff, Nat.reduceLT, Nat.reduceEqDiff, Nat.reduceAdd, s_149 js]
  simp only [c_176, g_176_0, g_176_2, g_176_3, g_176_4, g_176_5, g_176_6, g_176_7, g_176_8, g_176_10, g_176_11, ari_aa, ari_al, ari_la, ari_mm, ari_ml, ari_lm, ari_ltl, ari_llt, ari_lt, ari_le, ari_lel, ari_lle, ari_0, ari_eq, ari_eql, ari_leq, ari_cl, Nat.not_lt_zero, Bool.false_eq_true, Option.toList_some, Option.toList_none, List.cons_append, List.nil_append, kv_rv, kc1_i, kc1_r, kc1_n, n10, n01, n1514, n1213, n1312, if_true, if_false, not_true_eq_false, not_false_eq_true, and_self, true_and, and_true, false_and, and_false, or_true, true_or, or_false, false_or, Nat.reduceLeDiff, Nat.reduceLT, Nat.reduceEqDiff, Nat.reduceAdd]
  refine caredm_out_m js hk hg hn (fun υ fr => ?_) (2 ^ w) 0 (by omega) τ (FR.rf _ τ) _ _ _
  have js2 := fr.js js
  obtain ⟨⟨t, t1, t2, -⟩, -⟩ := hn.2.2.2.2.2.2.2.1 g hg
  have et : kv_i υ 170 (40 * k + g) = Int32.ofNat t := by rw [fr.i (by omega)]; exact t2
  have etb : tbM τ k g = t := by unfold tbM; rw [t2, ari_cl (by omega)]
  have ec : crdM τ k G g w = aC (tbM τ k) (mNet τ k).1 (mNet τ k).2.1 (mNet τ k).2.2 G g w := rfl
  have hc16 : aC (tbM τ k) (mNet τ k).1 (mNet τ k).2.1 (mNet τ k).2.2 G g w < 16 := q4_lt _
  have ex : kv_i υ 171 (40 * k + g) = (mNet τ k).1 g := fr.i (by omega)
  have ey : kv_i υ 172 (40 * k + g) = (mNet τ k).2.1 g := fr.i (by omega)
  have frM : FR mScr τ υ := fr.mono (fun b i q => by unfold mScr; omega)
  rw [ec]
  obtain ⟨c, hc⟩ : ∃ c, c = aC (tbM τ k) (mNet τ k).1 (mNet τ k).2.1 (mNet τ k).2.2 G g w := ⟨_, rfl⟩
  rw [← hc] at hc16 ⊢
  have i0 := mt0 t t1 _ hc16
  have i1 := mt1 t t1 _ hc16
  have i2 := rt2 t t1 _ hc16
  have i3 := rt3 t t1 _ hc16
  unfold aI at H1
  unfold aR rl at H1 H0
  rw [etb, ← hc] at H1 H0
  have n44 : ¬ (149 = 149 ∧ (45 : Nat) = 44) := by decide
  by_cases c0 : t &&& c = 0
  · have j0 : (Int32.ofNat t &&& Int32.ofNat c = 0) = True := eq_true (i0.mpr c0)
    simp only [c0, if_true, Nat.reduceLT] at H1
    simp only [g_178_13, g_178_15, g_178_16, g_178_19, g_178_20, g_178_21, g_178_23, g_178_24, g_178_26, g_178_28, g_178_29, g_178_32, g_178_33, g_178_36, g_178_38, g_178_40, g_178_41, g_178_43, g_178_46, g_178_47, g_178_50, g_178_52, g_178_54, g_178_55, g_178_57, g_178_58, g_178_61, g_178_62, g_178_65, g_178_67, g_178_69, g_178_70, g_178_72, g_178_73, g_178_76, g_178_77, g_178_80, g_178_81, g_178_84, g_178_85, g_178_86, g_178_89, g_178_92, g_178_93, g_178_96, g_178_97, g_178_100, g_178_101, g_178_104, g_178_106, g_178_109, g_178_110, g_178_113, g_178_114, g_178_117, g_178_118, g_178_121, g_178_122, g_178_123, g_178_126, g_178_127, g_178_130, g_178_131, g_178_132, g_178_135, g_178_136, g_178_139, g_178_140, g_178_143, g_178_144, n_si, n_sl, n_sr, n_mk, sh_si, sh_sl, sh_sr, sh_mk, i_si, i_sl, i_sr, i_mk, l_si, l_sl, l_sr, l_mk, r_si, r_sl, r_sr, r_mk, ari_aa, ari_al, ari_la, ari_mm, ari_ml, ari_lm, ari_ltl, ari_llt, ari_lt, ari_le, ari_lel, ari_lle, ari_0, ari_eq, ari_eql, ari_leq, ari_cl, Nat.not_lt_zero, Bool.false_eq_true, Option.toList_some, Option.toList_none, List.cons_append, List.nil_append, kv_rv, kc1_i, kc1_r, kc1_n, n10, n01, n1514, n1213, n1312, if_true, if_false, not_true_eq_false, not_false_eq_true, and_self, true_and, and_true, false_and, and_false, or_true, true_or, or_false, false_or, Nat.reduceLeDiff, Nat.reduceLT, Nat.reduceEqDiff, Nat.reduceAdd, s_149 js2, s_170 js2, r_149_29 js2, et, j0, (show (0 : Int32) < 4 by decide), (show ¬ (4 : Int32) ≤ 0 by decide), (show (44 = 45) = False by decide), (show 40 * k + g < 320 by omega), (show 40 * k + g < 2147483648 by omega)]
    exact H1 trivial _ ((frM.si (by unfold mScr; omega)).si (by unfold mScr; omega)) (by rw [ne_ess (by omega), eq_ess ⟨rfl, rfl⟩]; rfl) (eq_ess ⟨rfl, rfl⟩)
  · have j0 : (Int32.ofNat t &&& Int32.ofNat c = 0) = False := eq_false (mt i0.mp c0)
    simp only [c0, if_false] at H1 H0
    by_cases c1 : (t ^^^ 15) &&& c = 0
    · have j1 : (Int32.ofNat t &&& Int32.ofNat c = Int32.ofNat c) = True := eq_true (i1.mpr c1)
      simp only [c1, if_true, Nat.reduceLT, Nat.reduceEqDiff, if_false] at H1
      simp only [g_178_13, g_178_15, g_178_16, g_178_19, g_178_20, g_178_21, g_178_23, g_178_24, g_178_26, g_178_28, g_178_29, g_178_32, g_178_33, g_178_36, g_178_38, g_178_40, g_178_41, g_178_43, g_178_46, g_178_47, g_178_50, g_178_52, g_178_54, g_178_55, g_178_57, g_178_58, g_178_61, g_178_62, g_178_65, g_178_67, g_178_69, g_178_70, g_178_72, g_178_73, g_178_76, g_178_77, g_178_80, g_178_81, g_178_84, g_178_85, g_178_86, g_178_89, g_178_92, g_178_93, g_178_96, g_178_97, g_178_100, g_178_101, g_178_104, g_178_106, g_178_109, g_178_110, g_178_113, g_178_114, g_178_117, g_178_118, g_178_121, g_178_122, g_178_123, g_178_126, g_178_127, g_178_130, g_178_131, g_178_132, g_178_135, g_178_136, g_178_139, g_178_140, g_178_143, g_178_144, n_si, n_sl, n_sr, n_mk, sh_si, sh_sl, sh_sr, sh_mk, i_si, i_sl, i_sr, i_mk, l_si, l_sl, l_sr, l_mk, r_si, r_sl, r_sr, r_mk, ari_aa, ari_al, ari_la, ari_mm, ari_ml, ari_lm, ari_ltl, ari_llt, ari_lt, ari_le, ari_lel, ari_lle, ari_0, ari_eq, ari_eql, ari_leq, ari_cl, Nat.not_lt_zero, Bool.false_eq_true, Option.toList_some, Option.toList_none, List.cons_append, List.nil_append, kv_rv, kc1_i, kc1_r, kc1_n, n10, n01, n1514, n1213, n1312, if_true, if_false, not_true_eq_false, not_false_eq_true, and_self, true_and, and_true, false_and, and_false, or_true, true_or, or_false, false_or, Nat.reduceLeDiff, Nat.reduceLT, Nat.reduceEqDiff, Nat.reduceAdd, s_149 js2, s_170 js2, r_149_29 js2, et, j0, j1, (show ¬ (4 : Int32) ≤ 1 by decide), (show (44 = 45) = False by decide), (show 40 * k + g < 320 by omega), (show 40 * k + g < 2147483648 by omega)]
      exact H1 trivial _ ((frM.si (by unfold mScr; omega)).si (by unfold mScr; omega)) (by rw [ne_ess (by omega), eq_ess ⟨rfl, rfl⟩]; rfl) (eq_ess ⟨rfl, rfl⟩)
    · have j1 : (Int32.ofNat t &&& Int32.ofNat c = Int32.ofNat c) = False := eq_false (mt i1.mp c1)
      simp only [c1, if_false] at H1 H0
      by_cases c2 : (t ^^^ 10) &&& c = 0
      · have j2 : ((Int32.ofNat t ^^^ 10) &&& Int32.ofNat c = 0) = True := eq_true (i2.mpr c2)
        simp only [c2, if_true, Nat.reduceLT, Nat.reduceEqDiff, if_false] at H1
        simp only [g_178_13, g_178_15, g_178_16, g_178_19, g_178_20, g_178_21, g_178_23, g_178_24, g_178_26, g_178_28, g_178_29, g_178_32, g_178_33, g_178_36, g_178_38, g_178_40, g_178_41, g_178_43, g_178_46, g_178_47, g_178_50, g_178_52, g_178_54, g_178_55, g_178_57, g_178_58, g_178_61, g_178_62, g_178_65, g_178_67, g_178_69, g_178_70, g_178_72, g_178_73, g_178_76, g_178_77, g_178_80, g_178_81, g_178_84, g_178_85, g_178_86, g_178_89, g_178_92, g_178_93, g_178_96, g_178_97, g_178_100, g_178_101, g_178_104, g_178_106, g_178_109, g_178_110, g_178_113, g_178_114, g_178_117, g_178_118, g_178_121, g_178_122, g_178_123, g_178_126, g_178_127, g_178_130, g_178_131, g_178_132, g_178_135, g_178_136, g_178_139, g_178_140, g_178_143, g_178_144, n_si, n_sl, n_sr, n_mk, sh_si, sh_sl, sh_sr, sh_mk, i_si, i_sl, i_sr, i_mk, l_si, l_sl, l_sr, l_mk, r_si, r_sl, r_sr, r_mk, ari_aa, ari_al, ari_la, ari_mm, ari_ml, ari_lm, ari_ltl, ari_llt, ari_lt, ari_le, ari_lel, ari_lle, ari_0, ari_eq, ari_eql, ari_leq, ari_cl, Nat.not_lt_zero, Bool.false_eq_true, Option.toList_some, Option.toList_none, List.cons_append, List.nil_append, kv_rv, kc1_i, kc1_r, kc1_n, n10, n01, n1514, n1213, n1312, if_true, if_false, not_true_eq_false, not_false_eq_true, and_self, true_and, and_true, false_and, and_false, or_true, true_or, or_false, false_or, Nat.reduceLeDiff, Nat.reduceLT, Nat.reduceEqDiff, Nat.reduceAdd, s_149 js2, s_170 js2, r_149_29 js2, s_171 js2, r_149_30 js2, et, ex, j0, j1, j2, (show ¬ (2 : Int32) = 0 by decide), (show ¬ (2 : Int32) = 1 by decide), (show ¬ (4 : Int32) ≤ 2 by decide), (show (44 = 45) = False by decide), (show ¬ (171 = 149) by decide), (show 40 * k + g < 320 by omega), (show 40 * k + g < 2147483648 by omega)]
        exact H1 trivial _ ((frM.si (by unfold mScr; omega)).si (by unfold mScr; omega)) (by rw [ne_ess (by omega), eq_ess ⟨rfl, rfl⟩]; rfl) (eq_ess ⟨rfl, rfl⟩)
      · have j2 : ((Int32.ofNat t ^^^ 10) &&& Int32.ofNat c = 0) = False := eq_false (mt i2.mp c2)
        simp only [c2, if_false] at H1 H0
        by_cases c3 : (t ^^^ 12) &&& c = 0
        · have j3 : ((Int32.ofNat t ^^^ 12) &&& Int32.ofNat c = 0) = True := eq_true (i3.mpr c3)
          simp only [c3, if_true, Nat.reduceLT, Nat.reduceEqDiff, if_false] at H1
          simp only [g_178_13, g_178_15, g_178_16, g_178_19, g_178_20, g_178_21, g_178_23, g_178_24, g_178_26, g_178_28, g_178_29, g_178_32, g_178_33, g_178_36, g_178_38, g_178_40, g_178_41, g_178_43, g_178_46, g_178_47, g_178_50, g_178_52, g_178_54, g_178_55, g_178_57, g_178_58, g_178_61, g_178_62, g_178_65, g_178_67, g_178_69, g_178_70, g_178_72, g_178_73, g_178_76, g_178_77, g_178_80, g_178_81, g_178_84, g_178_85, g_178_86, g_178_89, g_178_92, g_178_93, g_178_96, g_178_97, g_178_100, g_178_101, g_178_104, g_178_106, g_178_109, g_178_110, g_178_113, g_178_114, g_178_117, g_178_118, g_178_121, g_178_122, g_178_123, g_178_126, g_178_127, g_178_130, g_178_131, g_178_132, g_178_135, g_178_136, g_178_139, g_178_140, g_178_143, g_178_144, n_si, n_sl, n_sr, n_mk, sh_si, sh_sl, sh_sr, sh_mk, i_si, i_sl, i_sr, i_mk, l_si, l_sl, l_sr, l_mk, r_si, r_sl, r_sr, r_mk, ari_aa, ari_al, ari_la, ari_mm, ari_ml, ari_lm, ari_ltl, ari_llt, ari_lt, ari_le, ari_lel, ari_lle, ari_0, ari_eq, ari_eql, ari_leq, ari_cl, Nat.not_lt_zero, Bool.false_eq_true, Option.toList_some, Option.toList_none, List.cons_append, List.nil_append, kv_rv, kc1_i, kc1_r, kc1_n, n10, n01, n1514, n1213, n1312, if_true, if_false, not_true_eq_false, not_false_eq_true, and_self, true_and, and_true, false_and, and_false, or_true, true_or, or_false, false_or, Nat.reduceLeDiff, Nat.reduceLT, Nat.reduceEqDiff, Nat.reduceAdd, s_149 js2, s_170 js2, r_149_29 js2, s_172 js2, r_149_31 js2, et, ey, j0, j1, j2, j3, (show ¬ (3 : Int32) = 0 by decide), (show ¬ (3 : Int32) = 1 by decide), (show ¬ (3 : Int32) = 2 by decide), (show ¬ (4 : Int32) ≤ 3 by decide), (show (44 = 45) = False by decide), (show ¬ (172 = 149) by decide), (show 40 * k + g < 320 by omega), (show 40 * k + g < 2147483648 by omega)]
          exact H1 trivial _ ((frM.si (by unfold mScr; omega)).si (by unfold mScr; omega)) (by rw [ne_ess (by omega), eq_ess ⟨rfl, rfl⟩]; rfl) (eq_ess ⟨rfl, rfl⟩)
        · have j3 : ((Int32.ofNat t ^^^ 12) &&& Int32.ofNat c = 0) = False := eq_false (mt i3.mp c3)
          simp only [c3, if_false, Nat.reduceLT] at H1 H0
          simp only [g_178_13, g_178_15, g_178_16, g_178_19, g_178_20, g_178_21, g_178_23, g_178_24, g_178_26, g_178_28, g_178_29, g_178_32, g_178_33, g_178_36, g_178_38, g_178_40, g_178_41, g_178_43, g_178_46, g_178_47, g_178_50, g_178_52, g_178_54, g_178_55, g_178_57, g_178_58, g_178_61, g_178_62, g_178_65, g_178_67, g_178_69, g_178_70, g_178_72, g_178_73, g_178_76, g_178_77, g_178_80, g_178_81, g_178_84, g_178_85, g_178_86, g_178_89, g_178_92, g_178_93, g_178_96, g_178_97, g_178_100, g_178_101, g_178_104, g_178_106, g_178_109, g_178_110, g_178_113, g_178_114, g_178_117, g_178_118, g_178_121, g_178_122, g_178_123, g_178_126, g_178_127, g_178_130, g_178_131, g_178_132, g_178_135, g_178_136, g_178_139, g_178_140, g_178_143, g_178_144, g_178_145, g_178_146, n_si, n_sl, n_sr, n_mk, sh_si, sh_sl, sh_sr, sh_mk, i_si, i_sl, i_sr, i_mk, l_si, l_sl, l_sr, l_mk, r_si, r_sl, r_sr, r_mk, ari_aa, ari_al, ari_la, ari_mm, ari_ml, ari_lm, ari_ltl, ari_llt, ari_lt, ari_le, ari_lel, ari_lle, ari_0, ari_eq, ari_eql, ari_leq, ari_cl, Nat.not_lt_zero, Bool.false_eq_true, Option.toList_some, Option.toList_none, List.cons_append, List.nil_append, kv_rv, kc1_i, kc1_r, kc1_n, n10, n01, n1514, n1213, n1312, if_true, if_false, not_true_eq_false, not_false_eq_true, and_self, true_and, and_true, false_and, and_false, or_true, true_or, or_false, false_or, Nat.reduceLeDiff, Nat.reduceLT, Nat.reduceEqDiff, Nat.reduceAdd, s_149 js2, s_170 js2, r_149_29 js2, s_172 js2, r_149_31 js2, et, ey, j0, j1, j2, j3, (show ¬ (4 : Int32) = 0 by decide), (show ¬ (4 : Int32) = 1 by decide), (show ¬ (4 : Int32) = 2 by decide), (show (4 : Int32) ≤ 4 by decide), (show (44 = 45) = False by decide), (show ¬ (172 = 149) by decide), (show 40 * k + g < 320 by omega), (show 40 * k + g < 2147483648 by omega)]
          obtain ⟨τ1, hτ1⟩ : ∃ τ1, τ1 = kv_si (kv_si υ 149 44 4) 149 45 ((mNet τ k).2.1 g) := ⟨_, rfl⟩
          rw [← hτ1]
          have fr1 : FR mScr τ τ1 := by rw [hτ1]; exact (frM.si (by unfold mScr; omega)).si (by unfold mScr; omega)
          have e44 : kv_i τ1 149 44 = Int32.ofNat 4 := by rw [hτ1, ne_ess (by omega), eq_ess ⟨rfl, rfl⟩]; rfl
          have hn1 : JNm τ1 k w G := hn.fr fr1 hk mScr_N
          have eT : tbM τ1 k = tbM τ k := tbM_fr fr1 (fun b i q => by unfold mScr at q; omega)
          have eN : mNet τ1 k = mNet τ k := mNet_fr fr1 (fun b i q => by unfold mScr at q; omega)
          refine finds_loop (fr1.js js) hk hn1 hg (fun h ζ hh hf fr5 q44 q45 => ?_) (fun ζ hf fr5 => ?_) g 0 (by omega) rfl τ1 (FR.rf _ τ1) rfl
          · rw [eT, eN] at hf
            have hlt : fst1 (aTw (tbM τ k) (mNet τ k).1 (mNet τ k).2.1 G w g) g 0 < g := by omega
            simp only [hlt, if_true, Nat.reduceLT, Nat.reduceEqDiff, if_false] at H1
            exact H1 trivial ζ (fr1.tr fr5) (q44.trans e44) (by rw [q45, hf])
          · rw [eT, eN] at hf
            have hlt : ¬ fst1 (aTw (tbM τ k) (mNet τ k).1 (mNet τ k).2.1 G w g) g 0 < g := by omega
            simp only [hlt, if_false, Nat.reduceLT] at H0
            exact H0 (by decide) ζ (fr1.tr fr5)
theorem rds_l1 {τ0 : kv_S} (js0 : JS τ0) {k G : Nat} {g o : Int32} {x : Int32} (hk : k < 8) (hG : G ≤ 40) (e6 : kv_i τ0 169 k = Int32.ofNat G) (e45 : kv_i τ0 149 45 = x) (H : ∀ τ, FR (fun b j => (b = 171 ∨ b = 172) ∧ 40 * k ≤ j ∧ j < 40 * k + 40) τ0 τ → (∀ j, kv_i τ 171 (40 * k + j) = if j < G ∧ kv_i τ0 171 (40 * k + j) = o then x else kv_i τ0 171 (40 * k + j)) → (∀ j, kv_i τ 172 (40 * k + j) = if j < G ∧ kv_i τ0 172 (40 * k + j) = o then x else kv_i τ0 172 (40 * k + j)) → ∀ v5, Wp d 180 98 [.ref 149, .int (Int32.ofNat k), .int g, .int o, .int (Int32.ofNat G), v5] [] τ Φ) : ∀ m i, i + m = G → ∀ τ, FR (fun b j => (b = 171 ∨ b = 172) ∧ 40 * k ≤ j ∧ j < 40 * k + 40) τ0 τ → (∀ j, kv_i τ 171 (40 * k + j) = if j < i ∧ kv_i τ0 171 (40 * k + j) = o then x else kv_i τ0 171 (40 * k + j)) → (∀ j, kv_i τ 172 (40 * k + j) = if j < i ∧ kv_i τ0 172 (40 * k + j) = o then x else kv_i τ0 172 (40 * k + j)) → ∀ v5 : Value, Wp d 180 8 [.ref 149, .int (Int32.ofNat k), .int g, .int o, .int (Int32.ofNat i), v5] [] τ Φ
  | 0, i, e, τ, fr, h1, h2, v5 => by
    have e2 : i = G := by omega
    subst e2
    have js := fr.js js0
    have e6' : kv_i τ 169 k = Int32.ofNat i := by rw [fr.i (by omega)]; exact e6
    simp only [g_180_8, g_180_10, g_180_11, g_180_14, g_180_15, g_180_16, ari_aa, ari_al, ari_la, ari_mm, ari_ml, ari_lm, ari_ltl, ari_llt, ari_lt, ari_le, ari_lel, ari_lle, ari_0, ari_eq, ari_eql, ari_leq, ari_cl, Nat.not_lt_zero, Bool.false_eq_true, Option.toList_some, Option.toList_none, List.cons_append, List.nil_append, kv_rv, kc1_i, kc1_r, kc1_n, n10, n01, n1514, n1213, n1312, if_true, if_false, not_true_eq_false, not_false_eq_true, and_self, true_and, and_true, false_and, and_false, or_true, true_or, or_false, false_or, Nat.reduceLeDiff, Nat.reduceLT, Nat.reduceEqDiff, Nat.reduceAdd, s_149 js, s_169 js, r_149_28 js, e6', (show k < 8 by omega), (show k < 2147483648 by omega), (show i < 41 by omega), (show i < 2147483648 by omega), (show i ≤ i by omega)]
    exact H τ fr h1 h2 v5
  | m + 1, i, e, τ, fr, h1, h2, v5 => by
    have js := fr.js js0
    have e6' : kv_i τ 169 k = Int32.ofNat G := by rw [fr.i (by omega)]; exact e6
    have e45' : kv_i τ 149 45 = x := by rw [fr.i (by omega)]; exact e45
    have x1 : kv_i τ 171 (40 * k + i) = kv_i τ0 171 (40 * k + i) := by rw [h1 i, if_neg (by omega)]
    have y1 : kv_i τ 172 (40 * k + i) = kv_i τ0 172 (40 * k + i) := by rw [h2 i, if_neg (by omega)]
    simp only [g_180_8, g_180_10, g_180_11, g_180_14, g_180_15, g_180_16, ari_aa, ari_al, ari_la, ari_mm, ari_ml, ari_lm, ari_ltl, ari_llt, ari_lt, ari_le, ari_lel, ari_lle, ari_0, ari_eq, ari_eql, ari_leq, ari_cl, Nat.not_lt_zero, Bool.false_eq_true, Option.toList_some, Option.toList_none, List.cons_append, List.nil_append, kv_rv, kc1_i, kc1_r, kc1_n, n10, n01, n1514, n1213, n1312, if_true, if_false, not_true_eq_false, not_false_eq_true, and_self, true_and, and_true, false_and, and_false, or_true, true_or, or_false, false_or, Nat.reduceLeDiff, Nat.reduceLT, Nat.reduceEqDiff, Nat.reduceAdd, s_149 js, s_169 js, r_149_28 js, e6', (show k < 8 by omega), (show k < 2147483648 by omega), (show i < 41 by omega), (show i < 2147483648 by omega), (show G < 41 by omega), (show G < 2147483648 by omega), (show ¬ G ≤ i by omega)]
    have fin : ∀ a b, a = (if kv_i τ0 171 (40 * k + i) = o then x else kv_i τ0 171 (40 * k + i)) → b = (if kv_i τ0 172 (40 * k + i) = o then x else kv_i τ0 172 (40 * k + i)) → ∀ v5 : Value, Wp d 180 8 [.ref 149, .int (Int32.ofNat k), .int g, .int o, .int (Int32.ofNat (i + 1)), v5] [] (kv_si (kv_si τ 171 (40 * k + i) a) 172 (40 * k + i) b) Φ := by
      intro a b ha hb v5
      refine rds_l1 js0 hk hG e6 e45 H m (i + 1) (by omega) _ ((fr.si (by omega)).si (by omega)) (fun j => ?_) (fun j => ?_) v5
      · by_cases c : j = i
        · subst c; rw [ne_ess (by omega), eq_ess ⟨rfl, rfl⟩, ha]
          by_cases c2 : kv_i τ0 171 (40 * k + j) = o
          · rw [if_pos c2, if_pos ⟨by omega, c2⟩]
          · rw [if_neg c2, if_neg (fun q => c2 q.2)]
        · rw [ne_ess (by omega), ne_ess (by omega), h1 j]
          by_cases c2 : j < i ∧ kv_i τ0 171 (40 * k + j) = o
          · rw [if_pos c2, if_pos ⟨by omega, c2.2⟩]
          · rw [if_neg c2, if_neg (fun q => c2 ⟨by omega, q.2⟩)]
      · by_cases c : j = i
        · subst c; rw [eq_ess ⟨rfl, rfl⟩, hb]
          by_cases c2 : kv_i τ0 172 (40 * k + j) = o
          · rw [if_pos c2, if_pos ⟨by omega, c2⟩]
          · rw [if_neg c2, if_neg (fun q => c2 q.2)]
        · rw [ne_ess (by omega), ne_ess (by omega), h2 j]
          by_cases c2 : j < i ∧ kv_i τ0 172 (40 * k + j) = o
          · rw [if_pos c2, if_pos ⟨by omega, c2.2⟩]
          · rw [if_neg c2, if_neg (fun q => c2 ⟨by omega, q.2⟩)]
    by_cases c1 : kv_i τ0 171 (40 * k + i) = o <;> by_cases c2 : kv_i τ0 172 (40 * k + i) = o <;>
    (simp only [g_180_19, g_180_21, g_180_22, g_180_23, g_180_25, g_180_26, g_180_28, g_180_29, g_180_32, g_180_34, g_180_35, g_180_38, g_180_40, g_180_41, g_180_42, g_180_45, g_180_46, g_180_49, g_180_52, g_180_53, g_180_56, g_180_58, g_180_59, g_180_60, g_180_61, g_180_64, g_180_66, g_180_67, g_180_70, g_180_72, g_180_73, g_180_74, g_180_77, g_180_78, g_180_81, g_180_84, g_180_85, g_180_88, g_180_90, g_180_91, g_180_92, g_180_95, n_si, n_sl, n_sr, n_mk, sh_si, sh_sl, sh_sr, sh_mk, i_si, i_sl, i_sr, i_mk, l_si, l_sl, l_sr, l_mk, r_si, r_sl, r_sr, r_mk, ari_aa, ari_al, ari_la, ari_mm, ari_ml, ari_lm, ari_ltl, ari_llt, ari_lt, ari_le, ari_lel, ari_lle, ari_0, ari_eq, ari_eql, ari_leq, ari_cl, Nat.not_lt_zero, Bool.false_eq_true, Option.toList_some, Option.toList_none, List.cons_append, List.nil_append, kv_rv, kc1_i, kc1_r, kc1_n, n10, n01, n1514, n1213, n1312, if_true, if_false, not_true_eq_false, not_false_eq_true, and_self, true_and, and_true, false_and, and_false, or_true, true_or, or_false, false_or, Nat.reduceLeDiff, Nat.reduceLT, Nat.reduceEqDiff, Nat.reduceAdd, s_149 js, s_171 js, r_149_30 js, s_172 js, r_149_31 js, e45', x1, y1, c1, c2, (show ¬ (172 = 171) by decide), (show ¬ (149 = 171) by decide), (show 40 * k + i < 320 by omega), (show 40 * k + i < 2147483648 by omega)]
     refine fin _ _ ?_ ?_ _
     · first | rw [if_pos c1] | rw [if_neg c1]
     · first | rw [if_pos c2] | rw [if_neg c2])
theorem rds_l2 {τ0 : kv_S} (js0 : JS τ0) {k : Nat} {g o x : Int32} (hk : k < 8) (e45 : kv_i τ0 149 45 = x) (H : ∀ τ, FR (fun b j => b = 174 ∧ 6 * k ≤ j ∧ j < 6 * k + 6) τ0 τ → (∀ j, kv_i τ 174 (6 * k + j) = if j < 6 ∧ kv_i τ0 174 (6 * k + j) = o then x else kv_i τ0 174 (6 * k + j)) → Φ none τ) : ∀ m i, i + m = 6 → ∀ τ, FR (fun b j => b = 174 ∧ 6 * k ≤ j ∧ j < 6 * k + 6) τ0 τ → (∀ j, kv_i τ 174 (6 * k + j) = if j < i ∧ kv_i τ0 174 (6 * k + j) = o then x else kv_i τ0 174 (6 * k + j)) → ∀ v5 : Value, Wp d 180 101 [.ref 149, .int (Int32.ofNat k), .int g, .int o, .int (Int32.ofNat i), v5] [] τ Φ
  | 0, i, e, τ, fr, h1, v5 => by
    have e2 : i = 6 := by omega
    subst e2
    simp only [g_180_101, g_180_103, g_180_105, g_180_161, ari_aa, ari_al, ari_la, ari_mm, ari_ml, ari_lm, ari_ltl, ari_llt, ari_lt, ari_le, ari_lel, ari_lle, ari_0, ari_eq, ari_eql, ari_leq, ari_cl, Nat.not_lt_zero, Bool.false_eq_true, Option.toList_some, Option.toList_none, List.cons_append, List.nil_append, kv_rv, kc1_i, kc1_r, kc1_n, n10, n01, n1514, n1213, n1312, if_true, if_false, not_true_eq_false, not_false_eq_true, and_self, true_and, and_true, false_and, and_false, or_true, true_or, or_false, false_or, Nat.reduceLeDiff, Nat.reduceLT, Nat.reduceEqDiff, Nat.reduceAdd]
    exact H τ fr h1
  | m + 1, i, e, τ, fr, h1, v5 => by
    have js := fr.js js0
    have e45' : kv_i τ 149 45 = x := by rw [fr.i (by omega)]; exact e45
    have x1 : kv_i τ 174 (6 * k + i) = kv_i τ0 174 (6 * k + i) := by rw [h1 i, if_neg (by omega)]
    simp only [g_180_101, g_180_103, g_180_105, ari_aa, ari_al, ari_la, ari_mm, ari_ml, ari_lm, ari_ltl, ari_llt, ari_lt, ari_le, ari_lel, ari_lle, ari_0, ari_eq, ari_eql, ari_leq, ari_cl, Nat.not_lt_zero, Bool.false_eq_true, Option.toList_some, Option.toList_none, List.cons_append, List.nil_append, kv_rv, kc1_i, kc1_r, kc1_n, n10, n01, n1514, n1213, n1312, if_true, if_false, not_true_eq_false, not_false_eq_true, and_self, true_and, and_true, false_and, and_false, or_true, true_or, or_false, false_or, Nat.reduceLeDiff, Nat.reduceLT, Nat.reduceEqDiff, Nat.reduceAdd, (show i < 6 by omega), (show i < 2147483648 by omega), (show ¬ 6 ≤ i by omega)]
    have fin : ∀ a, a = (if kv_i τ0 174 (6 * k + i) = o then x else kv_i τ0 174 (6 * k + i)) → Wp d 180 101 [.ref 149, .int (Int32.ofNat k), .int g, .int o, .int (Int32.ofNat (i + 1)), v5] [] (kv_si τ 174 (6 * k + i) a) Φ := by
      intro a ha
      refine rds_l2 js0 hk e45 H m (i + 1) (by omega) _ (fr.si (by omega)) (fun j => ?_) v5
      by_cases c : j = i
      · subst c; rw [eq_ess ⟨rfl, rfl⟩, ha]
        by_cases c2 : kv_i τ0 174 (6 * k + j) = o
        · rw [if_pos c2, if_pos ⟨by omega, c2⟩]
        · rw [if_neg c2, if_neg (fun q => c2 q.2)]
      · rw [ne_ess (by omega), h1 j]
        by_cases c2 : j < i ∧ kv_i τ0 174 (6 * k + j) = o
        · rw [if_pos c2, if_pos ⟨by omega, c2.2⟩]
        · rw [if_neg c2, if_neg (fun q => c2 ⟨by omega, q.2⟩)]
    by_cases c1 : kv_i τ0 174 (6 * k + i) = o
    · simp only [g_180_108, g_180_109, g_180_112, g_180_114, g_180_115, g_180_116, g_180_118, g_180_119, g_180_120, g_180_123, g_180_125, g_180_126, g_180_127, g_180_129, g_180_130, g_180_131, g_180_132, g_180_135, g_180_136, g_180_139, g_180_142, g_180_143, g_180_146, g_180_148, g_180_149, g_180_150, g_180_152, g_180_153, g_180_154, g_180_155, g_180_158, n_si, n_sl, n_sr, n_mk, sh_si, sh_sl, sh_sr, sh_mk, i_si, i_sl, i_sr, i_mk, l_si, l_sl, l_sr, l_mk, r_si, r_sl, r_sr, r_mk, ari_aa, ari_al, ari_la, ari_mm, ari_ml, ari_lm, ari_ltl, ari_llt, ari_lt, ari_le, ari_lel, ari_lle, ari_0, ari_eq, ari_eql, ari_leq, ari_cl, Nat.not_lt_zero, Bool.false_eq_true, Option.toList_some, Option.toList_none, List.cons_append, List.nil_append, kv_rv, kc1_i, kc1_r, kc1_n, n10, n01, n1514, n1213, n1312, if_true, if_false, not_true_eq_false, not_false_eq_true, and_self, true_and, and_true, false_and, and_false, or_true, true_or, or_false, false_or, Nat.reduceLeDiff, Nat.reduceLT, Nat.reduceEqDiff, Nat.reduceAdd, s_149 js, s_174 js, r_149_33 js, e45', x1, c1, (show 6 * k + i < 48 by omega), (show 6 * k + i < 2147483648 by omega)]
      exact fin _ (by rw [if_pos c1])
    · simp only [g_180_108, g_180_109, g_180_112, g_180_114, g_180_115, g_180_116, g_180_118, g_180_119, g_180_120, g_180_123, g_180_125, g_180_126, g_180_127, g_180_129, g_180_130, g_180_131, g_180_132, g_180_135, g_180_136, g_180_139, g_180_142, g_180_143, g_180_146, g_180_148, g_180_149, g_180_150, g_180_152, g_180_153, g_180_154, g_180_155, g_180_158, n_si, n_sl, n_sr, n_mk, sh_si, sh_sl, sh_sr, sh_mk, i_si, i_sl, i_sr, i_mk, l_si, l_sl, l_sr, l_mk, r_si, r_sl, r_sr, r_mk, ari_aa, ari_al, ari_la, ari_mm, ari_ml, ari_lm, ari_ltl, ari_llt, ari_lt, ari_le, ari_lel, ari_lle, ari_0, ari_eq, ari_eql, ari_leq, ari_cl, Nat.not_lt_zero, Bool.false_eq_true, Option.toList_some, Option.toList_none, List.cons_append, List.nil_append, kv_rv, kc1_i, kc1_r, kc1_n, n10, n01, n1514, n1213, n1312, if_true, if_false, not_true_eq_false, not_false_eq_true, and_self, true_and, and_true, false_and, and_false, or_true, true_or, or_false, false_or, Nat.reduceLeDiff, Nat.reduceLT, Nat.reduceEqDiff, Nat.reduceAdd, s_149 js, s_174 js, r_149_33 js, e45', x1, c1, (show 6 * k + i < 48 by omega), (show 6 * k + i < 2147483648 by omega)]
      exact fin _ (by rw [if_neg c1])
theorem m_reads {τ0 : kv_S} (js0 : JS τ0) {k G g : Nat} {x : Int32} (hk : k < 8) (hG : G ≤ 40) (e6 : kv_i τ0 169 k = Int32.ofNat G) (e45 : kv_i τ0 149 45 = x) (H : ∀ τ, FR (fun b j => (b = 171 ∨ b = 172) ∧ 40 * k ≤ j ∧ j < 40 * k + 40 ∨ b = 174 ∧ 6 * k ≤ j ∧ j < 6 * k + 6) τ0 τ → mNet τ k = aS G (mNet τ0 k) g x → Φ none τ) : Wc d 180 [.ref 149, .int (Int32.ofNat k), .int (Int32.ofNat g)] τ0 Φ := by
  simp only [c_180, g_180_0, g_180_2, g_180_3, g_180_4, g_180_5, g_180_6, ari_aa, ari_al, ari_la, ari_mm, ari_ml, ari_lm, ari_ltl, ari_llt, ari_lt, ari_le, ari_lel, ari_lle, ari_0, ari_eq, ari_eql, ari_leq, ari_cl, Nat.not_lt_zero, Bool.false_eq_true, Option.toList_some, Option.toList_none, List.cons_append, List.nil_append, kv_rv, kc1_i, kc1_r, kc1_n, n10, n01, n1514, n1213, n1312, if_true, if_false, not_true_eq_false, not_false_eq_true, and_self, true_and, and_true, false_and, and_false, or_true, true_or, or_false, false_or, Nat.reduceLeDiff, Nat.reduceLT, Nat.reduceEqDiff, Nat.reduceAdd]
  refine rds_l1 (x := x) js0 hk hG e6 e45 (fun τ fr h1 h2 v5 => ?_) G 0 (by omega) τ0 (FR.rf _ τ0) (fun j => by rw [if_neg (by omega)]) (fun j => by rw [if_neg (by omega)]) _
  simp only [g_180_98, g_180_99, Nat.not_lt_zero, Bool.false_eq_true, Option.toList_some, Option.toList_none, List.cons_append, List.nil_append, kv_rv, kc1_i, kc1_r, kc1_n, n10, n01, n1514, n1213, n1312, if_true, if_false, not_true_eq_false, not_false_eq_true, and_self, true_and, and_true, false_and, and_false, or_true, true_or, or_false, false_or, Nat.reduceLeDiff, Nat.reduceLT, Nat.reduceEqDiff, Nat.reduceAdd]
  refine rds_l2 (x := x) (fr.js js0) hk (by rw [fr.i (by omega)]; exact e45) (fun υ fr2 h3 => ?_) 6 0 (by omega) τ (FR.rf _ τ) (fun j => by rw [if_neg (by omega)]) _
  refine H υ ((fr.mono (fun b j q => Or.inl q)).tr (fr2.mono (fun b j q => Or.inr q))) ?_
  have e1 : (fun j => kv_i υ 171 (40 * k + j)) = fun j => if j < G ∧ kv_i τ0 171 (40 * k + j) = Int32.ofNat (8 + g) then x else kv_i τ0 171 (40 * k + j) := by funext j; rw [fr2.i (by omega)]; exact h1 j
  have e2 : (fun j => kv_i υ 172 (40 * k + j)) = fun j => if j < G ∧ kv_i τ0 172 (40 * k + j) = Int32.ofNat (8 + g) then x else kv_i τ0 172 (40 * k + j) := by funext j; rw [fr2.i (by omega)]; exact h2 j
  have e3 : (fun j => kv_i υ 174 (6 * k + j)) = fun j => if j < 6 ∧ kv_i τ0 174 (6 * k + j) = Int32.ofNat (8 + g) then x else kv_i τ0 174 (6 * k + j) := by funext j; rw [h3 j, fr.i (by omega)]
  show ((fun j => kv_i υ 171 (40 * k + j)), (fun j => kv_i υ 172 (40 * k + j)), (fun j => kv_i υ 174 (6 * k + j))) = _
  rw [e1, e2, e3]
  rfl
end SN

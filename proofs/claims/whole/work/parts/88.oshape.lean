/-! ===== shape, the promise ===== -/
def cShp (k b i : Nat) : Prop := cScr b i ∨ mScr b i ∨ 33 ≤ b ∧ b ≤ 36 ∨ b = 32 ∧ (i = 4 ∨ i = 5) ∨ b = 103 + 6 * k ∨ b = 104 + 6 * k ∨ b = 106 + 6 * k ∨ b = 149 ∧ (i = 34 ∨ i = 35) ∨ (b = 171 ∨ b = 172) ∧ 40 * k ≤ i ∧ i < 40 * k + 40 ∨ b = 174 ∧ 6 * k ≤ i ∧ i < 6 * k + 6 ∨ 175 ≤ b ∧ b ≤ 180
theorem shp_c {k b i : Nat} (q : cScr b i ∨ b = 103 + 6 * k ∨ b = 104 + 6 * k ∨ b = 106 + 6 * k ∨ b = 33 ∨ b = 32 ∧ i = 4) : cShp k b i := by
  rcases q with q | q
  · exact Or.inl q
  · exact Or.inr (Or.inr (by omega))
theorem shp_m {k b i : Nat} (q : mScr b i ∨ (b = 171 ∨ b = 172) ∧ 40 * k ≤ i ∧ i < 40 * k + 40 ∨ b = 174 ∧ 6 * k ≤ i ∧ i < 6 * k + 6 ∨ b = 175 ∨ b = 176 ∨ b = 177 ∨ b = 149 ∧ i = 35) : cShp k b i := by
  rcases q with q | q | q | q
  · exact Or.inr (Or.inl q)
  · exact Or.inr (Or.inr (by omega))
  · exact Or.inr (Or.inr (by omega))
  · exact Or.inr (Or.inr (by omega))
theorem shp_8 {k b i : Nat} (q : cShp k b i) : 8 ≤ b := by unfold cShp cScr mScr at q; omega
theorem shp_3 {k b i : Nat} (q : cShp k b i) : ¬ b = 153 := by unfold cShp cScr mScr at q; omega
theorem shp_F {k b i : Nat} (hk : k < 8) (q : cShp k b i) : ¬ cF b i := by unfold cF; unfold cShp cScr mScr at q; omega
theorem shp_C {k b i : Nat} (hk : k < 8) (q : cShp k b i) : ¬ cC b i := by unfold cC; unfold cShp cScr mScr at q; omega
theorem aIt_eq {T T' : Nat → Nat} {Kp Kp' : Nat → Bool} {w G : Nat} {N N' : aN} (hT : ∀ g, g < G → T g = T' g) (hK : ∀ g, g < G → Kp g = Kp' g) (h : aEq G N N') : ∀ n, (∀ i, i < n → aG T Kp w G (aIt T Kp w G N i) < G) → aEq G (aIt T Kp w G N n) (aIt T' Kp' w G N' n)
  | 0, _ => h
  | n + 1, hs => by
    have ih := aIt_eq hT hK h n (fun i hi => hs i (by omega))
    have hg := hs n (by omega)
    have e1 : aG T Kp w G (aIt T Kp w G N n) = aG T' Kp' w G (aIt T' Kp' w G N' n) := aG_congr hT hK ih
    have e2 := (aR_congr (w := w) hT ih hg).2
    have st : aIt T' Kp' w G N' (n + 1) = aS G (aIt T' Kp' w G N' n) (aG T Kp w G (aIt T Kp w G N n)) (aI T w G (aIt T Kp w G N n) (aG T Kp w G (aIt T Kp w G N n))) := by
      show aS G _ (aG T' Kp' w G (aIt T' Kp' w G N' n)) (aI T' w G _ _) = _
      rw [e2, e1]
    rw [st]
    show aEq G (aS G _ _ _) _
    refine ⟨fun g hg => ⟨?_, ?_⟩, fun i hi => ?_⟩
    · show (if _ then _ else _) = (if _ then _ else _)
      rw [(ih.1 g hg).1]
    · show (if _ then _ else _) = (if _ then _ else _)
      rw [(ih.1 g hg).2]
    · show (if _ then _ else _) = (if _ then _ else _)
      rw [ih.2 i hi]
/-- promise 27: shape -/
theorem o_25 (d : Nat) : ob_25 JJ (d + 6) := by
  intro σ h p
  have h' := h
  obtain ⟨a1, a2, a3, a4, ⟨K, hK, k1, k2, k3⟩, a6, a7⟩ := h'
  by_cases hp : ¬ p < 0 ∧ p < Int32.ofNat K
  · obtain ⟨k, hk, rfl, ec⟩ := i32_nat (by omega) hp.1 hp.2
    obtain ⟨w, G, hn⟩ := k3 k hk
    have hn : JN1' σ k w G := hn
    have hk8 : k < 8 := by omega
    have hG := hn.2.2.1
    have hw := hn.2.1
    simp only [c_103, g_103_0, g_103_1, g_103_2, g_103_5, g_103_8, g_103_9, g_103_10, g_103_11, g_103_14, g_103_15, g_103_16, g_103_19, g_103_20, g_103_21, kv_w8_0, kv_w8_1, kv_w8_2, kv_w8_3, kv_w8_4, ari_aa, ari_al, ari_la, ari_mm, ari_ml, ari_lm, ari_ltl, ari_llt, ari_lt, ari_le, ari_lel, ari_lle, ari_0, ari_eq, ari_eql, ari_leq, ari_cl, Nat.not_lt_zero, Bool.false_eq_true, Option.toList_some, Option.toList_none, List.cons_append, List.nil_append, kv_rv, kc1_i, kc1_r, kc1_n, n10, n01, n1514, n1213, n1312, if_true, if_false, not_true_eq_false, not_false_eq_true, and_self, true_and, and_true, false_and, and_false, or_true, true_or, or_false, false_or, Nat.reduceLeDiff, Nat.reduceLT, Nat.reduceEqDiff, Nat.reduceAdd, m_isNet_c a1, k1, m_sbegin a1 hk8, nN a1 hk8, qN a1 hk8, s_8 a1, s_10 a1, r_8_1 a1, s_32 a1, r_8_8 a1, (show k < 8 by omega), (show k < 2147483648 by omega), (show k < K by omega), (show k < 2147483648 by omega), (show K < 9 by omega), (show K < 2147483648 by omega)]
    obtain ⟨σ1, hσ1⟩ : ∃ σ1, σ1 = kv_cpy (kv_cpy (kv_cpy (kv_si (kv_si σ 32 4 0) 32 5 (Int32.ofNat k)) (103 + 6 * k) 34 40) (104 + 6 * k) 35 40) (106 + 6 * k) 36 6 := ⟨_, rfl⟩
    rw [← hσ1]
    have fr1 : FR (fun b i => b = 34 ∨ b = 35 ∨ b = 36 ∨ b = 32 ∧ (i = 4 ∨ i = 5)) σ σ1 := by rw [hσ1]; exact cpy_fr (cpy_fr (cpy_fr (((FR.rf _ σ).si (by omega)).si (by omega)) (fun j q => by omega)) (fun j q => by omega)) (fun j q => by omega)
    have s34 : ∀ g, g < 40 → kv_i σ1 34 g = kv_i σ (103 + 6 * k) g := fun g hg => by rw [hσ1, cpy_i, if_neg (by omega), cpy_i, if_neg (by omega), cpy_i, if_pos ⟨rfl, hg⟩, ne_ess (by omega), ne_ess (by omega)]
    have s35 : ∀ g, g < 40 → kv_i σ1 35 g = kv_i σ (104 + 6 * k) g := fun g hg => by rw [hσ1, cpy_i, if_neg (by omega), cpy_i, if_pos ⟨rfl, hg⟩, cpy_i, if_neg (by omega), ne_ess (by omega), ne_ess (by omega)]
    have s36 : ∀ i, i < 6 → kv_i σ1 36 i = kv_i σ (106 + 6 * k) i := fun i hi => by rw [hσ1, cpy_i, if_pos ⟨rfl, hi⟩, cpy_i, if_neg (by omega), cpy_i, if_neg (by omega), ne_ess (by omega), ne_ess (by omega)]
    have s325 : kv_i σ1 32 5 = Int32.ofNat k := by rw [hσ1, cpy_i, if_neg (by omega), cpy_i, if_neg (by omega), cpy_i, if_neg (by omega), eq_ess ⟨rfl, rfl⟩]
    have s324 : kv_i σ1 32 4 = Int32.ofNat 0 := by rw [hσ1, cpy_i, if_neg (by omega), cpy_i, if_neg (by omega), cpy_i, if_neg (by omega), ne_ess (by omega), eq_ess ⟨rfl, rfl⟩]; rfl
    have js1 := fr1.js a1
    have hK1 : JK σ1 := a2.fr fr1 (fun b i q => by omega)
    have hnc : JNc σ1 k w G := hn.c.fr fr1 hk8 (fun b i q => by omega)
    have eT1 : tbN σ1 k = tbN σ k := tbN_fr fr1 (fun b i q => by omega)
    have eK1 : kpc σ1 k = kpc σ k := kpc_fr fr1 (fun b i q => by omega)
    have eN1 : cNet σ1 k = cNet σ k := cNet_fr fr1 hk8 (fun b i q => by omega)
    simp only [g_103_24, g_103_25, g_103_26, g_103_27, Nat.not_lt_zero, Bool.false_eq_true, Option.toList_some, Option.toList_none, List.cons_append, List.nil_append, kv_rv, kc1_i, kc1_r, kc1_n, n10, n01, n1514, n1213, n1312, if_true, if_false, not_true_eq_false, not_false_eq_true, and_self, true_and, and_true, false_and, and_false, or_true, true_or, or_false, false_or, Nat.reduceLeDiff, Nat.reduceLT, Nat.reduceEqDiff, Nat.reduceAdd]
    refine shp_loop (d := d) js1 hK1 hk8 hnc (fun n τ hn18 hs hend hI => ?_) 1800 0 (by omega) (fun i hi => absurd hi (by omega)) σ1 ⟨FR.rf _ σ1, rfl, s324, fun i hi => absurd hi (by omega)⟩
    refine ⟨_, rfl, ?_⟩
    unfold SHc at hI
    rw [eT1, eK1, eN1] at hs hend hI
    obtain ⟨fr2, hN, e324, e33⟩ := hI
    have fA : FR (cShp k) σ τ := (fr1.mono (fun b i q => Or.inr (Or.inr (by omega)))).tr (fr2.mono (fun b i q => shp_c q))
    have js2 := fr2.js js1
    have nmS : ∀ b j, (168 ≤ b ∧ b ≤ 174) → kv_i τ b j = kv_i σ b j := fun b j q => by rw [fr2.i (by unfold cScr; omega), fr1.i (by omega)]
    have g1 : kv_i τ 149 26 = Int32.ofNat K := by rw [fr2.i (by unfold cScr; omega), fr1.i (by omega)]; exact k2
    simp only [c_177, g_177_0, g_177_1, g_177_2, g_177_5, g_177_8, g_177_9, g_177_10, g_177_11, g_177_12, g_177_15, g_177_16, g_177_17, g_177_20, g_177_21, kv_w8_0, kv_w8_1, kv_w8_2, kv_w8_3, kv_w8_4, n_si, n_sl, n_sr, n_mk, sh_si, sh_sl, sh_sr, sh_mk, i_si, i_sl, i_sr, i_mk, l_si, l_sl, l_sr, l_mk, r_si, r_sl, r_sr, r_mk, ari_aa, ari_al, ari_la, ari_mm, ari_ml, ari_lm, ari_ltl, ari_llt, ari_lt, ari_le, ari_lel, ari_lle, ari_0, ari_eq, ari_eql, ari_leq, ari_cl, Nat.not_lt_zero, Bool.false_eq_true, Option.toList_some, Option.toList_none, List.cons_append, List.nil_append, kv_rv, kc1_i, kc1_r, kc1_n, n10, n01, n1514, n1213, n1312, if_true, if_false, not_true_eq_false, not_false_eq_true, and_self, true_and, and_true, false_and, and_false, or_true, true_or, or_false, false_or, Nat.reduceLeDiff, Nat.reduceLT, Nat.reduceEqDiff, Nat.reduceAdd, m_isNet_m js2, g1, s_149 js2, (show k < 8 by omega), (show k < 2147483648 by omega), (show k < K by omega), (show k < 2147483648 by omega), (show K < 9 by omega), (show K < 2147483648 by omega)]
    obtain ⟨τ1, hτ1⟩ : ∃ τ1, τ1 = kv_si (kv_si τ 149 34 (Int32.ofNat k)) 149 35 0 := ⟨_, rfl⟩
    rw [← hτ1]
    have fr3 : FR (fun b i => b = 149 ∧ (i = 34 ∨ i = 35)) τ τ1 := by rw [hτ1]; exact ((FR.rf _ τ).si (by omega)).si (by omega)
    have t34 : kv_i τ1 149 34 = Int32.ofNat k := by rw [hτ1, ne_ess (by omega), eq_ess ⟨rfl, rfl⟩]
    have t35 : kv_i τ1 149 35 = Int32.ofNat 0 := by rw [hτ1, eq_ess ⟨rfl, rfl⟩]; rfl
    have js3 := fr3.js js2
    refine sv_l1 τ1 js3 hk8 hG (by rw [fr3.i (by omega), nmS _ _ (by omega)]; exact hn.2.2.2.2.2.2.1) (fun τ2 fr4 hs4 => ?_) G 0 (by omega) τ1 (FR.rf _ τ1) (fun g hg => absurd hg (by omega))
    have js4 := fr4.js js3
    simp only [g_177_72, g_177_73, Nat.not_lt_zero, Bool.false_eq_true, Option.toList_some, Option.toList_none, List.cons_append, List.nil_append, kv_rv, kc1_i, kc1_r, kc1_n, n10, n01, n1514, n1213, n1312, if_true, if_false, not_true_eq_false, not_false_eq_true, and_self, true_and, and_true, false_and, and_false, or_true, true_or, or_false, false_or, Nat.reduceLeDiff, Nat.reduceLT, Nat.reduceEqDiff, Nat.reduceAdd]
    refine sv_l2 τ2 js4 hk8 (fun σ2 fr5 hs5 => ?_) 6 0 (by omega) τ2 (FR.rf _ τ2) (fun i hi => absurd hi (by omega))
    have js5 := fr5.js js4
    have nm2 : ∀ b j, (168 ≤ b ∧ b ≤ 174) → kv_i σ2 b j = kv_i σ b j := fun b j q => by rw [fr5.i (by omega), fr4.i (by omega), fr3.i (by omega)]; exact nmS b j q
    have hnm : JNm σ2 k w G := by
      refine hn.m.of (fun b j q => nm2 b j (by omega)) ⟨fun g hg => ?_, fun i hi => ?_⟩
      · show vO w g (kv_i σ2 171 (40 * k + g)) ∧ vO w g (kv_i σ2 172 (40 * k + g))
        rw [nm2 _ _ (by omega), nm2 _ _ (by omega)]; exact hn.m.xy g hg
      · show kv_i σ2 174 (6 * k + i) = -3 ∨ vO w G (kv_i σ2 174 (6 * k + i))
        rw [nm2 _ _ (by omega)]; exact hn.m.o i hi
    have hT : ∀ g, g < G → tbN σ k g = tbM σ2 k g := fun g hg => by
      obtain ⟨⟨t, t1, t2, t3⟩, -⟩ := hn.2.2.2.2.2.2.2.1 g hg
      unfold tbN tbM
      rw [nm2 _ _ (by omega), t2, t3]
    have hKp : ∀ g, g < G → kpc σ k g = kpm σ2 k g := fun g hg => by
      obtain ⟨-, -, -, -, -, t8, -⟩ := hn.2.2.2.2.2.2.2.1 g hg
      unfold kpc kpm
      rw [nm2 _ _ (by omega), t8]
    have hE : aEq G (cNet σ k) (mNet σ2 k) := ⟨fun g hg => ⟨by show _ = kv_i σ2 171 (40 * k + g); rw [nm2 _ _ (by omega)]; exact (hn.mx g hg).1.symm, by show _ = kv_i σ2 172 (40 * k + g); rw [nm2 _ _ (by omega)]; exact (hn.mx g hg).2.symm⟩, fun i hi => by show _ = kv_i σ2 174 (6 * k + i); rw [nm2 _ _ (by omega)]; exact (hn.mo i hi).symm⟩
    have p35 : kv_i σ2 149 35 = Int32.ofNat 0 := by rw [fr5.i (by omega), fr4.i (by omega)]; exact t35
    have p34 : kv_i σ2 149 34 = Int32.ofNat k := by rw [fr5.i (by omega), fr4.i (by omega)]; exact t34
    simp only [g_177_103, g_177_104, Nat.not_lt_zero, Bool.false_eq_true, Option.toList_some, Option.toList_none, List.cons_append, List.nil_append, kv_rv, kc1_i, kc1_r, kc1_n, n10, n01, n1514, n1213, n1312, if_true, if_false, not_true_eq_false, not_false_eq_true, and_self, true_and, and_true, false_and, and_false, or_true, true_or, or_false, false_or, Nat.reduceLeDiff, Nat.reduceLT, Nat.reduceEqDiff, Nat.reduceAdd]
    refine shm_out (d := d + 2) js5 hk8 hnm (fun n' ω hn18' hs' hend' hI' => ?_) 1800 0 (by omega) (fun i hi => absurd hi (by omega)) σ2 ⟨FR.rf _ σ2, rfl, p35, fun i hi => absurd hi (by omega)⟩
    obtain ⟨fr6, hN', e35, e17⟩ := hI'
    have hEn := aIt_eq (w := w) hT hKp hE
    have enn : n' = n := by
      rcases Nat.lt_trichotomy n n' with q | q | q
      · have e1 := aG_congr (w := w) hT hKp (hEn n hs)
        have := hs' n q
        rw [← e1, hend] at this; omega
      · exact q.symm
      · have e1 := aG_congr (w := w) hT hKp (hEn n' (fun i hi => hs i (by omega)))
        have := hs n' q
        rw [e1, hend'] at this; omega
    subst enn
    refine ⟨rfl, ?_⟩
    have hokn := aIt_ok (T := tbN σ k) (Kp := kpc σ k) hw hG (show aOk w G (cNet σ k) from ⟨fun j hj => hn.xy j hj, fun i hi => hn.o i hi⟩)
    have frT : FR (cShp k) σ ω := (((fA.tr (fr3.mono (fun b i q => Or.inr (Or.inr (by omega))))).tr (fr4.mono (fun b i q => Or.inr (Or.inr (by omega))))).tr (fr5.mono (fun b i q => Or.inr (Or.inr (by omega))))).tr (fr6.mono (fun b i q => shp_m q))
    have cg : ∀ b j, ¬ cShp k b j → kv_i ω b j = kv_i σ b j := fun b j q => frT.i q
    unfold cShp cScr mScr at cg
    have hp8 : ∀ b i, cShp k b i → 8 ≤ b := fun b i q => shp_8 q
    -- the class's cells at the end
    have late : ∀ b j, b < 149 → kv_i ω b j = kv_i τ b j := fun b j q => by rw [fr6.i (by unfold mScr; omega), fr5.i (by omega), fr4.i (by omega), fr3.i (by omega)]
    have cX : ∀ g, kv_i ω (103 + 6 * k) g = (aIt (tbN σ k) (kpc σ k) w G (cNet σ k) n').1 g := fun g => by rw [late _ _ (by omega), ← hN]; rfl
    have cY : ∀ g, kv_i ω (104 + 6 * k) g = (aIt (tbN σ k) (kpc σ k) w G (cNet σ k) n').2.1 g := fun g => by rw [late _ _ (by omega), ← hN]; rfl
    have cO : ∀ g, kv_i ω (106 + 6 * k) g = (aIt (tbN σ k) (kpc σ k) w G (cNet σ k) n').2.2 g := fun g => by rw [late _ _ (by omega), ← hN]; rfl
    have mX : ∀ g, g < G → kv_i ω 171 (40 * k + g) = (aIt (tbN σ k) (kpc σ k) w G (cNet σ k) n').1 g := fun g hg => by rw [((hEn n' hs).1 g hg).1, ← hN']; rfl
    have mY : ∀ g, g < G → kv_i ω 172 (40 * k + g) = (aIt (tbN σ k) (kpc σ k) w G (cNet σ k) n').2.1 g := fun g hg => by rw [((hEn n' hs).1 g hg).2, ← hN']; rfl
    have mO : ∀ i, i < 6 → kv_i ω 174 (6 * k + i) = (aIt (tbN σ k) (kpc σ k) w G (cNet σ k) n').2.2 i := fun i hi => by rw [(hEn n' hs).2 i hi, ← hN']; rfl
    refine ⟨frT.js a1, a2.fr frT hp8, a3.fr frT (fun b i q => shp_3 q), a4.fr frT (fun b i q => shp_F hk8 q), ⟨K, hK, by rw [cg _ _ (by omega)]; exact k1, by rw [cg _ _ (by omega)]; exact k2, fun m hm => ?_⟩, a6.fr frT (fun b i q => shp_C hk8 q), ⟨n', hn18, by rw [late _ _ (by omega)]; exact e324, e35, fun i hi => ?_⟩, ?_, ?_⟩
    · by_cases e : m = k
      · subst e
        obtain ⟨w1, w2, w3, w4, w5, w6, w7, w8, w9⟩ := hn
        refine ⟨w, G, w1, w2, w3, by rw [cg _ _ (by omega)]; exact w4, by rw [cg _ _ (by omega)]; exact w5, by rw [cg _ _ (by omega)]; exact w6, by rw [cg _ _ (by omega)]; exact w7, fun g hg => ?_, fun i hi => ?_⟩
        · obtain ⟨⟨t, y1, y2, y3⟩, y4, y5, y6, y7, y8, y9⟩ := w8 g hg
          unfold JN2
          rw [cX, cY, mX g hg, mY g hg, cg (102 + 6 * m) g (by omega), cg 170 _ (by omega), cg 173 _ (by omega), cg (105 + 6 * m) g (by omega)]
          exact ⟨⟨t, y1, y2, y3⟩, rfl, ((hokn n' hs).1.1 g hg).1, rfl, ((hokn n' hs).1.1 g hg).2, y8, y9⟩
        · rw [cO, mO i hi]
          exact ⟨rfl, (hokn n' hs).1.2 i hi⟩
      · exact (k3 m hm).fine (fun b j q1 q2 => cg _ _ (by omega)) (cg _ _ (by omega)) (cg _ _ (by omega)) (fun b g q1 q2 q3 => cg _ _ (by omega)) (fun i hi => cg _ _ (by omega))
    · have hsi := hs i hi
      have oki := (hokn i (fun j hj => hs j (by omega))).1
      obtain ⟨-, -, c3⟩ := aCan_r (aG_can hsi)
      have hxv := aI_vO (T := tbN σ k) oki hsi c3
      have ox := hxv.onn hw (by omega)
      have hEi := hEn i (fun j hj => hs j (by omega))
      have f1 := aG_congr (w := w) hT hKp hEi
      have f2 := aR_congr (w := w) hT hEi hsi
      obtain ⟨m1, m2, m3⟩ := e17 i hi
      rw [← f1] at m1 m2 m3
      rw [← f2.1] at m2
      rw [← f2.2] at m3
      refine ⟨_, _, _, by omega, c3, ox.2, by rw [late _ _ (by omega), e33 i hi]; rfl, m1, m2, ?_⟩
      rw [m3]
      have := ox.1
      rw [← this]
      rw [Int32.sub_eq_add_neg, Int32.sub_eq_add_neg, Int32.add_assoc, show (- -2 : Int32) + -2 = 0 by decide, Int32.add_zero]
    · rw [fr6.i (by unfold mScr; omega), p34, late _ _ (by omega), fr2.i (by unfold cScr; omega), s325]
    · refine Or.inr ⟨k, K, hk, by rw [cg _ _ (by omega)]; exact k1, hK, by rw [late _ _ (by omega), fr2.i (by unfold cScr; omega), s325], w, G, by rw [cg _ _ (by omega)]; exact hn.2.2.2.1, by rw [cg _ _ (by omega)]; exact hn.2.2.2.2.2.1, hG, hw, fun g hg => ?_, fun i hi => ?_⟩
      · have z1 : kv_i ω 34 g = kv_i σ (103 + 6 * k) g := by rw [late _ _ (by omega), fr2.i (by unfold cScr; omega), s34 g (by omega)]
        have z2 : kv_i ω 35 g = kv_i σ (104 + 6 * k) g := by rw [late _ _ (by omega), fr2.i (by unfold cScr; omega), s35 g (by omega)]
        have z3 : kv_i ω 178 g = kv_i σ (103 + 6 * k) g := by rw [fr6.i (by unfold mScr; omega), fr5.i (by omega), (hs4 g hg).1, fr3.i (by omega), nmS _ _ (by omega)]; exact (hn.mx g hg).1
        have z4 : kv_i ω 179 g = kv_i σ (104 + 6 * k) g := by rw [fr6.i (by unfold mScr; omega), fr5.i (by omega), (hs4 g hg).2, fr3.i (by omega), nmS _ _ (by omega)]; exact (hn.mx g hg).2
        rw [z1, z2, z3, z4]
        exact ⟨rfl, (hn.xy g hg).1, rfl, (hn.xy g hg).2⟩
      · have z1 : kv_i ω 36 i = kv_i σ (106 + 6 * k) i := by rw [late _ _ (by omega), fr2.i (by unfold cScr; omega), s36 i hi]
        have z2 : kv_i ω 180 i = kv_i σ (106 + 6 * k) i := by rw [fr6.i (by unfold mScr; omega), hs5 i hi, fr4.i (by omega), fr3.i (by omega), nmS _ _ (by omega)]; exact hn.mo i hi
        rw [z1, z2]
        exact ⟨rfl, hn.o i hi⟩
  · simp only [c_103, g_103_0, g_103_1, g_103_2, g_103_5, g_103_8, g_103_9, kv_w8_0, kv_w8_1, kv_w8_2, kv_w8_3, kv_w8_4, Nat.not_lt_zero, Bool.false_eq_true, Option.toList_some, Option.toList_none, List.cons_append, List.nil_append, kv_rv, kc1_i, kc1_r, kc1_n, n10, n01, n1514, n1213, n1312, if_true, if_false, not_true_eq_false, not_false_eq_true, and_self, true_and, and_true, false_and, and_false, or_true, true_or, or_false, false_or, Nat.reduceLeDiff, Nat.reduceLT, Nat.reduceEqDiff, Nat.reduceAdd, m_isNet_c a1, k1, hp, s_8 a1]
    refine ⟨_, rfl, ?_⟩
    simp only [c_177, g_177_0, g_177_1, g_177_2, g_177_5, g_177_8, g_177_9, kv_w8_0, kv_w8_1, kv_w8_2, kv_w8_3, kv_w8_4, Nat.not_lt_zero, Bool.false_eq_true, Option.toList_some, Option.toList_none, List.cons_append, List.nil_append, kv_rv, kc1_i, kc1_r, kc1_n, n10, n01, n1514, n1213, n1312, if_true, if_false, not_true_eq_false, not_false_eq_true, and_self, true_and, and_true, false_and, and_false, or_true, true_or, or_false, false_or, Nat.reduceLeDiff, Nat.reduceLT, Nat.reduceEqDiff, Nat.reduceAdd, m_isNet_m a1, k2, hp, s_149 a1]
    exact h

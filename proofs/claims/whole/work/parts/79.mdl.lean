/-! ===== the model's side of a net alone ===== -/
def JN2m (σ : kv_S) (k w g : Nat) : Prop := (∃ t : Nat, t < 16 ∧ kv_i σ 170 (40 * k + g) = Int32.ofNat t ∧ kv_i σ 170 (40 * k + g) = Int32.ofNat t) ∧ kv_i σ 171 (40 * k + g) = kv_i σ 171 (40 * k + g) ∧ vO w g (kv_i σ 171 (40 * k + g)) ∧ kv_i σ 172 (40 * k + g) = kv_i σ 172 (40 * k + g) ∧ vO w g (kv_i σ 172 (40 * k + g)) ∧ True ∧ (kv_i σ 173 (40 * k + g) = 0 ∨ kv_i σ 173 (40 * k + g) = 1)
def JNm (σ : kv_S) (k w G : Nat) : Prop := 1 ≤ w ∧ w ≤ 8 ∧ G ≤ 40 ∧ True ∧ kv_i σ 168 k = Int32.ofNat w ∧ True ∧ kv_i σ 169 k = Int32.ofNat G ∧ (∀ g, g < G → JN2m σ k w g) ∧ ∀ i, i < 6 → kv_i σ 174 (6 * k + i) = kv_i σ 174 (6 * k + i) ∧ (kv_i σ 174 (6 * k + i) = -3 ∨ vO w G (kv_i σ 174 (6 * k + i)))
theorem JNm.xy {σ : kv_S} {k w G : Nat} (h : JNm σ k w G) : ∀ g, g < G → vO w g (kv_i σ 171 (40 * k + g)) ∧ vO w g (kv_i σ 172 (40 * k + g)) := fun g hg => by
  obtain ⟨-, -, t5, -, t7, -⟩ := h.2.2.2.2.2.2.2.1 g hg
  exact ⟨t5, t7⟩
theorem JNm.mx {σ : kv_S} {k w G : Nat} (h : JNm σ k w G) : ∀ g, g < G → kv_i σ 171 (40 * k + g) = kv_i σ 171 (40 * k + g) ∧ kv_i σ 172 (40 * k + g) = kv_i σ 172 (40 * k + g) := fun g hg => ⟨rfl, rfl⟩
theorem JNm.o {σ : kv_S} {k w G : Nat} (h : JNm σ k w G) : ∀ i, i < 6 → kv_i σ 174 (6 * k + i) = -3 ∨ vO w G (kv_i σ 174 (6 * k + i)) := fun i hi => (h.2.2.2.2.2.2.2.2 i hi).2
theorem JNm.mo {σ : kv_S} {k w G : Nat} (h : JNm σ k w G) : ∀ i, i < 6 → kv_i σ 174 (6 * k + i) = kv_i σ 174 (6 * k + i) := fun i hi => rfl
theorem JN1'.m {σ : kv_S} {k w G : Nat} (h : JN1' σ k w G) : JNm σ k w G := by
  obtain ⟨w1, w2, w3, w4, w5, w6, w7, w8, w9⟩ := h
  refine ⟨w1, w2, w3, trivial, w5, trivial, w7, fun g hg => ?_, fun i hi => ⟨rfl, by rw [(w9 i hi).1]; exact (w9 i hi).2⟩⟩
  obtain ⟨⟨t, t1, t2, t3⟩, t4, t5, t6, t7, t8, t9⟩ := w8 g hg
  exact ⟨⟨t, t1, t3, t3⟩, rfl, by rw [t4]; exact t5, rfl, by rw [t6]; exact t7, trivial, by rw [t8]; exact t9⟩
theorem JNm.fr {P : Nat → Nat → Prop} {σ τ : kv_S} (h : FR P σ τ) {k w G : Nat} (hk : k < 8) (hp : ∀ b j, P b j → ¬ (168 ≤ b ∧ b ≤ 174)) (hn : JNm σ k w G) : JNm τ k w G := by
  have c : ∀ b j, (168 ≤ b ∧ b ≤ 174) → kv_i τ b j = kv_i σ b j := fun b j q => h.i (fun q2 => hp b j q2 q)
  unfold JNm JN2m at *
  rw [c 168 k (by omega), c 169 k (by omega)]
  obtain ⟨w1, w2, w3, w4, w5, w6, w7, w8, w9⟩ := hn
  refine ⟨w1, w2, w3, w4, w5, w6, w7, fun g hg => ?_, fun i hi => ?_⟩
  · rw [c 170 _ (by omega), c 171 _ (by omega), c 172 _ (by omega), c 173 _ (by omega)]
    exact w8 g hg
  · rw [c 174 _ (by omega)]; exact w9 i hi
def tbM (σ : kv_S) (k : Nat) : Nat → Nat := fun g => (kv_i σ 170 (40 * k + g)).toNatClampNeg
def vlM (σ : kv_S) (k G t row : Nat) : Nat → Bool := nv (tbM σ k) (fun g => kv_i σ 171 (40 * k + g)) (fun g => kv_i σ 172 (40 * k + g)) t row G
def voM (σ : kv_S) (k G t row : Nat) (x : Int32) : Bool := nvo (vlM σ k G t row) row x
def foM (σ : kv_S) (a GA t row i : Nat) : Int32 := if kv_i σ 174 (6 * a + i) = -3 then -3 else bI (voM σ a GA t row (kv_i σ 174 (6 * a + i)))
def CPM (σ : kv_S) (k G g n row : Nat) : Bool := anyN (fun i => !(kv_i σ 174 (6 * k + i) == -3) && (voM σ k G g row (kv_i σ 174 (6 * k + i)) ^^ voM σ k G 1000 row (kv_i σ 174 (6 * k + i)))) n
def crdM (σ : kv_S) (k G g w : Nat) : Nat := q4 (fun b => anyN (fun row => CPM σ k G g 6 row && nvb (voM σ k G 1000 row (kv_i σ 171 (40 * k + g))) (voM σ k G 1000 row (kv_i σ 172 (40 * k + g))) == b) (2 ^ w))
theorem vlM_fr {P : Nat → Nat → Prop} {σ τ : kv_S} (h : FR P σ τ) {k : Nat} (hk : k < 8) (hp : ∀ b j, P b j → ¬ (168 ≤ b ∧ b ≤ 174)) (G t row : Nat) : vlM τ k G t row = vlM σ k G t row := by
  have c : ∀ b j, (168 ≤ b ∧ b ≤ 174) → kv_i τ b j = kv_i σ b j := fun b j q => h.i (fun q2 => hp b j q2 q)
  unfold vlM
  rw [show tbM τ k = tbM σ k by funext g; unfold tbM; rw [c _ _ (by omega)], show (fun g => kv_i τ 171 (40 * k + g)) = (fun g => kv_i σ 171 (40 * k + g)) by funext g; exact c _ _ (by omega), show (fun g => kv_i τ 172 (40 * k + g)) = (fun g => kv_i σ 172 (40 * k + g)) by funext g; exact c _ _ (by omega)]
theorem voM_fr {P : Nat → Nat → Prop} {σ τ : kv_S} (h : FR P σ τ) {k : Nat} (hk : k < 8) (hp : ∀ b j, P b j → ¬ (168 ≤ b ∧ b ≤ 174)) (G t row : Nat) (x : Int32) : voM τ k G t row x = voM σ k G t row x := by unfold voM; rw [vlM_fr h hk hp]
theorem foM_fr {P : Nat → Nat → Prop} {σ τ : kv_S} (h : FR P σ τ) {k : Nat} (hk : k < 8) (hp : ∀ b j, P b j → ¬ (168 ≤ b ∧ b ≤ 174)) (G t row i : Nat) : foM τ k G t row i = foM σ k G t row i := by
  unfold foM
  rw [h.i (b := 174) (k := 6 * k + i) (fun q => hp _ _ q (by omega)), voM_fr h hk hp]
theorem hpM : ∀ b j : Nat, (fun b (_ : Nat) => b = 181 ∨ b = 182) b j → ¬ (168 ≤ b ∧ b ≤ 174) := fun b j q => by omega
section MQ
variable {d : Nat} {Φ : Option Value → kv_S → Prop}
theorem vo_gate_m {σ : kv_S} {k w G g t row : Nat} (hn : JNm σ k w G) (hg : g < G) : voM σ k G t row (Int32.ofNat (8 + g)) = ((tbM σ k g).testBit (nvb (voM σ k G t row (kv_i σ 171 (40 * k + g))) (voM σ k G t row (kv_i σ 172 (40 * k + g)))) != decide (t = g)) := by
  have hG := hn.2.2.1
  have v := hn.xy g hg
  unfold voM
  rw [nvo_g _ _ (by omega)]
  exact nv_g hn.2.1 hG hg v.1 v.2
theorem work_loop_m {σ0 : kv_S} (h : JS σ0) {k w G row t : Nat} {tt : Int32} (hk : k < 8) (hn : JNm σ0 k w G) (hr : row < 256) (ht : ∀ g, g < G → (Int32.ofNat g = tt ↔ t = g)) (H : ∀ τ, FR (fun b _ => b = 181) σ0 τ → (∀ g, g < G → kv_i τ 181 g = bI (vlM σ0 k G t row g)) → Φ none τ) : ∀ m g, g + m = G → ∀ τ, FR (fun b _ => b = 181) σ0 τ → (∀ j, j < g → kv_i τ 181 j = bI (vlM σ0 k G t row j)) → ∀ v5 v6 : Value, kv_c1 v5 = true → Wp (d + 1) 167 3 [.ref 149, .int (Int32.ofNat k), .int (Int32.ofNat row), .int tt, .int (Int32.ofNat g), v5, v6] [] τ Φ
  | 0, g, e, τ, fr, hs, v5, v6, hc => by
    have e2 : g = G := by omega
    subst e2
    have hG := hn.2.2.1
    have e6 : kv_i τ 169 k = Int32.ofNat g := by rw [fr.i (by omega)]; exact hn.2.2.2.2.2.2.1
    simp only [g_167_3, g_167_5, g_167_6, g_167_9, g_167_10, g_167_11, g_167_89, ari_aa, ari_al, ari_la, ari_mm, ari_ml, ari_lm, ari_ltl, ari_llt, ari_lt, ari_le, ari_lel, ari_lle, ari_0, ari_eq, ari_eql, ari_leq, ari_cl, Nat.not_lt_zero, Bool.false_eq_true, Option.toList_some, Option.toList_none, List.cons_append, List.nil_append, kv_rv, kc1_i, kc1_r, kc1_n, n10, n01, n1514, n1213, n1312, if_true, if_false, not_true_eq_false, not_false_eq_true, and_self, true_and, and_true, false_and, and_false, or_true, true_or, or_false, false_or, Nat.reduceLeDiff, Nat.reduceLT, Nat.reduceEqDiff, Nat.reduceAdd, s_149 (fr.js h), s_169 (fr.js h), r_149_28 (fr.js h), e6, (show k < 8 by omega), (show k < 2147483648 by omega), (show g < 41 by omega), (show g < 2147483648 by omega), (show g ≤ g by omega)]
    exact H τ fr hs
  | m + 1, g, e, τ, fr, hs, v5, v6, hc => by
    have hG := hn.2.2.1
    have js := fr.js h
    have e6 : kv_i τ 169 k = Int32.ofNat G := by rw [fr.i (by omega)]; exact hn.2.2.2.2.2.2.1
    obtain ⟨⟨t1, t2, t3, t4⟩, t5, t6, t7, t8, -⟩ := hn.2.2.2.2.2.2.2.1 g (by omega)
    have et : kv_i τ 170 (40 * k + g) = Int32.ofNat t1 := by rw [fr.i (by omega)]; exact t4
    have ex : kv_i τ 171 (40 * k + g) = kv_i σ0 171 (40 * k + g) := fr.i (by omega)
    have ey : kv_i τ 172 (40 * k + g) = kv_i σ0 172 (40 * k + g) := fr.i (by omega)
    have etb : tbM σ0 k g = t1 := by unfold tbM; rw [t3, ari_cl (by omega)]
    have hb4 := nvb_4 (nvo (vlM σ0 k G t row) row (kv_i σ0 171 (40 * k + g))) (nvo (vlM σ0 k G t row) row (kv_i σ0 172 (40 * k + g)))
    have hv := vo_gate_m (t := t) (row := row) hn (show g < G by omega)
    rw [etb] at hv
    unfold voM at hv
    rw [nvo_g _ _ (by omega)] at hv
    simp only [g_167_3, g_167_5, g_167_6, g_167_9, g_167_10, g_167_11, ari_aa, ari_al, ari_la, ari_mm, ari_ml, ari_lm, ari_ltl, ari_llt, ari_lt, ari_le, ari_lel, ari_lle, ari_0, ari_eq, ari_eql, ari_leq, ari_cl, Nat.not_lt_zero, Bool.false_eq_true, Option.toList_some, Option.toList_none, List.cons_append, List.nil_append, kv_rv, kc1_i, kc1_r, kc1_n, n10, n01, n1514, n1213, n1312, if_true, if_false, not_true_eq_false, not_false_eq_true, and_self, true_and, and_true, false_and, and_false, or_true, true_or, or_false, false_or, Nat.reduceLeDiff, Nat.reduceLT, Nat.reduceEqDiff, Nat.reduceAdd, s_149 js, s_169 js, r_149_28 js, e6, (show k < 8 by omega), (show k < 2147483648 by omega), (show g < 41 by omega), (show g < 2147483648 by omega), (show G < 41 by omega), (show G < 2147483648 by omega), (show ¬ G ≤ g by omega)]
    have fin : ∀ τ', τ' = kv_si τ 181 g (bI (vlM σ0 k G t row g)) → ∀ v5 v6 : Value, kv_c1 v5 = true → Wp (d + 1) 167 3 [.ref 149, .int (Int32.ofNat k), .int (Int32.ofNat row), .int tt, .int (Int32.ofNat (g + 1)), v5, v6] [] τ' Φ := by
      rintro τ' rfl v5 v6 hc
      refine work_loop_m h hk hn hr ht H m (g + 1) (by omega) _ (fr.si rfl) (fun j hj => ?_) v5 v6 hc
      by_cases c : j = g
      · subst c; exact eq_ess ⟨rfl, rfl⟩
      · rw [ne_ess (by omega)]; exact hs j (by omega)
    by_cases c : t = g
    · have c2 : (Int32.ofNat g = tt) = True := eq_true ((ht g (by omega)).mpr c)
      simp only [g_167_14, g_167_16, g_167_17, g_167_18, g_167_20, g_167_21, g_167_23, g_167_24, g_167_25, g_167_28, g_167_30, g_167_31, g_167_32, g_167_35, g_167_36, g_167_37, g_167_38, g_167_41, g_167_43, g_167_44, g_167_45, g_167_48, g_167_49, g_167_50, g_167_52, g_167_53, g_167_56, g_167_58, g_167_59, g_167_62, g_167_64, g_167_65, g_167_67, g_167_68, g_167_69, g_167_70, g_167_72, g_167_73, g_167_76, g_167_77, g_167_80, g_167_81, g_167_82, g_167_83, g_167_86, kv_w8_0, kv_w8_1, kv_w8_2, kv_w8_3, kv_w8_4, ari_aa, ari_al, ari_la, ari_mm, ari_ml, ari_lm, ari_ltl, ari_llt, ari_lt, ari_le, ari_lel, ari_lle, ari_0, ari_eq, ari_eql, ari_leq, ari_cl, Nat.not_lt_zero, Bool.false_eq_true, Option.toList_some, Option.toList_none, List.cons_append, List.nil_append, kv_rv, kc1_i, kc1_r, kc1_n, n10, n01, n1514, n1213, n1312, if_true, if_false, not_true_eq_false, not_false_eq_true, and_self, true_and, and_true, false_and, and_false, or_true, true_or, or_false, false_or, Nat.reduceLeDiff, Nat.reduceLT, Nat.reduceEqDiff, Nat.reduceAdd, ari_31, ari_sh, ari_1, nat_bit, m_valueOf js hn.2.1 (show g ≤ 40 by omega) hr hs t6, m_valueOf js hn.2.1 (show g ≤ 40 by omega) hr hs t8, bI_b, et, ex, ey, c2, hc, s_149 js, s_170 js, r_149_29 js, s_171 js, r_149_30 js, s_172 js, r_149_31 js, s_181 js, r_149_42 js, (show 40 * k + g < 320 by omega), (show 40 * k + g < 2147483648 by omega), (show g < 40 by omega), (show g < 2147483648 by omega), (show t1 < 16 by omega), (show t1 < 2147483648 by omega), (show nvb (nvo (vlM σ0 k G t row) row (kv_i σ0 171 (40 * k + g))) (nvo (vlM σ0 k G t row) row (kv_i σ0 172 (40 * k + g))) < 32 by omega), (show nvb (nvo (vlM σ0 k G t row) row (kv_i σ0 171 (40 * k + g))) (nvo (vlM σ0 k G t row) row (kv_i σ0 172 (40 * k + g))) < 2147483648 by omega)]
      refine fin _ ?_ _ _ rfl
      rw [hv, decide_eq_true c]
      cases t1.testBit _ <;> rfl
    · have c2 : ¬ Int32.ofNat g = tt := fun q => c ((ht g (by omega)).mp q)
      simp only [g_167_14, g_167_16, g_167_17, g_167_18, g_167_20, g_167_21, g_167_23, g_167_24, g_167_25, g_167_28, g_167_30, g_167_31, g_167_32, g_167_35, g_167_36, g_167_37, g_167_38, g_167_41, g_167_43, g_167_44, g_167_45, g_167_48, g_167_49, g_167_50, g_167_52, g_167_53, g_167_56, g_167_58, g_167_59, g_167_62, g_167_64, g_167_65, g_167_67, g_167_68, g_167_69, g_167_70, g_167_72, g_167_73, g_167_76, g_167_77, g_167_80, g_167_81, g_167_82, g_167_83, g_167_86, kv_w8_0, kv_w8_1, kv_w8_2, kv_w8_3, kv_w8_4, ari_aa, ari_al, ari_la, ari_mm, ari_ml, ari_lm, ari_ltl, ari_llt, ari_lt, ari_le, ari_lel, ari_lle, ari_0, ari_eq, ari_eql, ari_leq, ari_cl, Nat.not_lt_zero, Bool.false_eq_true, Option.toList_some, Option.toList_none, List.cons_append, List.nil_append, kv_rv, kc1_i, kc1_r, kc1_n, n10, n01, n1514, n1213, n1312, if_true, if_false, not_true_eq_false, not_false_eq_true, and_self, true_and, and_true, false_and, and_false, or_true, true_or, or_false, false_or, Nat.reduceLeDiff, Nat.reduceLT, Nat.reduceEqDiff, Nat.reduceAdd, ari_31, ari_sh, ari_1, nat_bit, m_valueOf js hn.2.1 (show g ≤ 40 by omega) hr hs t6, m_valueOf js hn.2.1 (show g ≤ 40 by omega) hr hs t8, bI_b, et, ex, ey, c2, hc, s_149 js, s_170 js, r_149_29 js, s_171 js, r_149_30 js, s_172 js, r_149_31 js, s_181 js, r_149_42 js, (show 40 * k + g < 320 by omega), (show 40 * k + g < 2147483648 by omega), (show g < 40 by omega), (show g < 2147483648 by omega), (show t1 < 16 by omega), (show t1 < 2147483648 by omega), (show nvb (nvo (vlM σ0 k G t row) row (kv_i σ0 171 (40 * k + g))) (nvo (vlM σ0 k G t row) row (kv_i σ0 172 (40 * k + g))) < 32 by omega), (show nvb (nvo (vlM σ0 k G t row) row (kv_i σ0 171 (40 * k + g))) (nvo (vlM σ0 k G t row) row (kv_i σ0 172 (40 * k + g))) < 2147483648 by omega)]
      refine fin _ ?_ _ _ rfl
      rw [hv, decide_eq_false c]
      cases t1.testBit _ <;> rfl
theorem m_work_m {σ : kv_S} (h : JS σ) {k w G row t : Nat} {tt : Int32} (hk : k < 8) (hn : JNm σ k w G) (hr : row < 256) (ht : ∀ g, g < G → (Int32.ofNat g = tt ↔ t = g)) (H : ∀ τ, FR (fun b _ => b = 181) σ τ → (∀ g, g < G → kv_i τ 181 g = bI (vlM σ k G t row g)) → Φ none τ) : Wc (d + 1) 167 [.ref 149, .int (Int32.ofNat k), .int (Int32.ofNat row), .int tt] σ Φ := by
  simp only [c_167, g_167_0, g_167_1, Nat.not_lt_zero, Bool.false_eq_true, Option.toList_some, Option.toList_none, List.cons_append, List.nil_append, kv_rv, kc1_i, kc1_r, kc1_n, n10, n01, n1514, n1213, n1312, if_true, if_false, not_true_eq_false, not_false_eq_true, and_self, true_and, and_true, false_and, and_false, or_true, true_or, or_false, false_or, Nat.reduceLeDiff, Nat.reduceLT, Nat.reduceEqDiff, Nat.reduceAdd]
  exact work_loop_m h hk hn hr ht H G 0 (by omega) σ (FR.rf _ σ) (fun j hj => absurd hj (by omega)) _ _ rfl
theorem outs_loop_m {σ0 : kv_S} (h : JS σ0) {k w G t row : Nat} (hk : k < 8) (hn : JNm σ0 k w G) (hr : row < 256) (hv : ∀ g, g < G → kv_i σ0 181 g = bI (vlM σ0 k G t row g)) (H : ∀ τ, FR (fun b _ => b = 182) σ0 τ → (∀ i, i < 6 → kv_i τ 182 i = foM σ0 k G t row i) → Φ none τ) : ∀ m i, i + m = 6 → ∀ τ, FR (fun b _ => b = 182) σ0 τ → (∀ j, j < i → kv_i τ 182 j = foM σ0 k G t row j) → Wp (d + 1) 171 2 [.ref 149, .int (Int32.ofNat k), .int (Int32.ofNat row), .int (Int32.ofNat i)] [] τ Φ
  | 0, i, e, τ, fr, hs => by
    have e2 : i = 6 := by omega
    subst e2
    simp only [g_171_2, g_171_3, g_171_5, g_171_57, ari_aa, ari_al, ari_la, ari_mm, ari_ml, ari_lm, ari_ltl, ari_llt, ari_lt, ari_le, ari_lel, ari_lle, ari_0, ari_eq, ari_eql, ari_leq, ari_cl, Nat.not_lt_zero, Bool.false_eq_true, Option.toList_some, Option.toList_none, List.cons_append, List.nil_append, kv_rv, kc1_i, kc1_r, kc1_n, n10, n01, n1514, n1213, n1312, if_true, if_false, not_true_eq_false, not_false_eq_true, and_self, true_and, and_true, false_and, and_false, or_true, true_or, or_false, false_or, Nat.reduceLeDiff, Nat.reduceLT, Nat.reduceEqDiff, Nat.reduceAdd]
    exact H τ fr hs
  | m + 1, i, e, τ, fr, hs => by
    have js := fr.js h
    have hG := hn.2.2.1
    have eo : kv_i τ 174 (6 * k + i) = kv_i σ0 174 (6 * k + i) := fr.i (by omega)
    have hv2 : ∀ g, g < G → kv_i τ 181 g = bI (vlM σ0 k G t row g) := fun g hg => by rw [fr.i (by omega)]; exact hv g hg
    simp only [g_171_2, g_171_3, g_171_5, ari_aa, ari_al, ari_la, ari_mm, ari_ml, ari_lm, ari_ltl, ari_llt, ari_lt, ari_le, ari_lel, ari_lle, ari_0, ari_eq, ari_eql, ari_leq, ari_cl, Nat.not_lt_zero, Bool.false_eq_true, Option.toList_some, Option.toList_none, List.cons_append, List.nil_append, kv_rv, kc1_i, kc1_r, kc1_n, n10, n01, n1514, n1213, n1312, if_true, if_false, not_true_eq_false, not_false_eq_true, and_self, true_and, and_true, false_and, and_false, or_true, true_or, or_false, false_or, Nat.reduceLeDiff, Nat.reduceLT, Nat.reduceEqDiff, Nat.reduceAdd, (show i < 6 by omega), (show i < 2147483648 by omega), (show ¬ 6 ≤ i by omega)]
    have fin : ∀ y, y = foM σ0 k G t row i → Wp (d + 1) 171 2 [.ref 149, .int (Int32.ofNat k), .int (Int32.ofNat row), .int (Int32.ofNat (i + 1))] [] (kv_si τ 182 i y) Φ := by
      intro y hy
      refine outs_loop_m h hk hn hr hv H m (i + 1) (by omega) _ (fr.si rfl) (fun j hj => ?_)
      by_cases c : j = i
      · rw [eq_ess ⟨rfl, c⟩, c, hy]
      · rw [ne_ess (by omega)]; exact hs j (by omega)
    by_cases c : kv_i σ0 174 (6 * k + i) = -3
    · simp only [g_171_8, g_171_9, g_171_12, g_171_13, g_171_14, g_171_17, g_171_19, g_171_20, g_171_21, g_171_22, g_171_23, g_171_24, g_171_26, g_171_29, g_171_31, g_171_34, g_171_35, g_171_36, g_171_39, g_171_41, g_171_42, g_171_43, g_171_44, g_171_45, g_171_46, g_171_47, g_171_50, g_171_51, g_171_54, kv_w8_0, kv_w8_1, kv_w8_2, kv_w8_3, kv_w8_4, ari_aa, ari_al, ari_la, ari_mm, ari_ml, ari_lm, ari_ltl, ari_llt, ari_lt, ari_le, ari_lel, ari_lle, ari_0, ari_eq, ari_eql, ari_leq, ari_cl, Nat.not_lt_zero, Bool.false_eq_true, Option.toList_some, Option.toList_none, List.cons_append, List.nil_append, kv_rv, kc1_i, kc1_r, kc1_n, n10, n01, n1514, n1213, n1312, if_true, if_false, not_true_eq_false, not_false_eq_true, and_self, true_and, and_true, false_and, and_false, or_true, true_or, or_false, false_or, Nat.reduceLeDiff, Nat.reduceLT, Nat.reduceEqDiff, Nat.reduceAdd, s_149 js, s_174 js, r_149_33 js, s_182 js, r_149_43 js, eo, c, (show i < 6 by omega), (show i < 2147483648 by omega), (show 6 * k + i < 48 by omega), (show 6 * k + i < 2147483648 by omega)]
      exact fin _ (by unfold foM; rw [if_pos c])
    · have vx := (hn.o i (by omega)).resolve_left c
      simp only [g_171_8, g_171_9, g_171_12, g_171_13, g_171_14, g_171_17, g_171_19, g_171_20, g_171_21, g_171_22, g_171_23, g_171_24, g_171_26, g_171_29, g_171_31, g_171_34, g_171_35, g_171_36, g_171_39, g_171_41, g_171_42, g_171_43, g_171_44, g_171_45, g_171_46, g_171_47, g_171_50, g_171_51, g_171_54, kv_w8_0, kv_w8_1, kv_w8_2, kv_w8_3, kv_w8_4, ari_aa, ari_al, ari_la, ari_mm, ari_ml, ari_lm, ari_ltl, ari_llt, ari_lt, ari_le, ari_lel, ari_lle, ari_0, ari_eq, ari_eql, ari_leq, ari_cl, Nat.not_lt_zero, Bool.false_eq_true, Option.toList_some, Option.toList_none, List.cons_append, List.nil_append, kv_rv, kc1_i, kc1_r, kc1_n, n10, n01, n1514, n1213, n1312, if_true, if_false, not_true_eq_false, not_false_eq_true, and_self, true_and, and_true, false_and, and_false, or_true, true_or, or_false, false_or, Nat.reduceLeDiff, Nat.reduceLT, Nat.reduceEqDiff, Nat.reduceAdd, s_149 js, s_174 js, r_149_33 js, s_182 js, r_149_43 js, eo, c, m_valueOf js hn.2.1 hG hr hv2 vx, (show i < 6 by omega), (show i < 2147483648 by omega), (show 6 * k + i < 48 by omega), (show 6 * k + i < 2147483648 by omega)]
      exact fin _ (by unfold foM; rw [if_neg c]; rfl)
theorem m_outs_m {σ : kv_S} (h : JS σ) {k w G t row : Nat} (hk : k < 8) (hn : JNm σ k w G) (hr : row < 256) (hv : ∀ g, g < G → kv_i σ 181 g = bI (vlM σ k G t row g)) (H : ∀ τ, FR (fun b _ => b = 182) σ τ → (∀ i, i < 6 → kv_i τ 182 i = foM σ k G t row i) → Φ none τ) : Wc (d + 1) 171 [.ref 149, .int (Int32.ofNat k), .int (Int32.ofNat row)] σ Φ := by
  simp only [c_171, g_171_0, g_171_1, Nat.not_lt_zero, Bool.false_eq_true, Option.toList_some, Option.toList_none, List.cons_append, List.nil_append, kv_rv, kc1_i, kc1_r, kc1_n, n10, n01, n1514, n1213, n1312, if_true, if_false, not_true_eq_false, not_false_eq_true, and_self, true_and, and_true, false_and, and_false, or_true, true_or, or_false, false_or, Nat.reduceLeDiff, Nat.reduceLT, Nat.reduceEqDiff, Nat.reduceAdd]
  exact outs_loop_m h hk hn hr hv H 6 0 (by omega) σ (FR.rf _ σ) (fun j hj => absurd hj (by omega))
theorem caredm_in_m {σ0 : kv_S} (h : JS σ0) {k w G g row : Nat} {a b c : Int32} (hk : k < 8) (hn : JNm σ0 k w G) (hr : row < 256) {ζ : kv_S} (fr : FR (fun b _ => b = 181 ∨ b = 182) σ0 ζ) (h1 : ∀ g', g' < G → kv_i ζ 181 g' = bI (vlM σ0 k G g row g')) (h2 : ∀ i, i < 6 → kv_i ζ 182 i = foM σ0 k G 1000 row i) (H : Wp (d + 1) 176 149 [.ref 149, .int (Int32.ofNat k), .int (Int32.ofNat g), .int a, .int b, .int (Int32.ofNat row), .int c, .int (bI (CPM σ0 k G g 6 row)), .int (Int32.ofNat 6)] [] ζ Φ) : ∀ m i, i + m = 6 → Wp (d + 1) 176 84 [.ref 149, .int (Int32.ofNat k), .int (Int32.ofNat g), .int a, .int b, .int (Int32.ofNat row), .int c, .int (bI (CPM σ0 k G g i row)), .int (Int32.ofNat i)] [] ζ Φ
  | 0, i, e => by
    have e2 : i = 6 := by omega
    subst e2
    simp only [g_176_84, g_176_86, g_176_88, ari_aa, ari_al, ari_la, ari_mm, ari_ml, ari_lm, ari_ltl, ari_llt, ari_lt, ari_le, ari_lel, ari_lle, ari_0, ari_eq, ari_eql, ari_leq, ari_cl, Nat.not_lt_zero, Bool.false_eq_true, Option.toList_some, Option.toList_none, List.cons_append, List.nil_append, kv_rv, kc1_i, kc1_r, kc1_n, n10, n01, n1514, n1213, n1312, if_true, if_false, not_true_eq_false, not_false_eq_true, and_self, true_and, and_true, false_and, and_false, or_true, true_or, or_false, false_or, Nat.reduceLeDiff, Nat.reduceLT, Nat.reduceEqDiff, Nat.reduceAdd]
    exact H
  | m + 1, i, e => by
    have js := fr.js h
    have eo : kv_i ζ 174 (6 * k + i) = kv_i σ0 174 (6 * k + i) := fr.i (by omega)
    have ef := h2 i (by omega)
    have ih := caredm_in_m h hk hn hr fr h1 h2 H m (i + 1) (by omega)
    have st : CPM σ0 k G g (i + 1) row = (CPM σ0 k G g i row || (!(kv_i σ0 174 (6 * k + i) == -3) && (voM σ0 k G g row (kv_i σ0 174 (6 * k + i)) ^^ voM σ0 k G 1000 row (kv_i σ0 174 (6 * k + i))))) := rfl
    simp only [g_176_84, g_176_86, g_176_88, ari_aa, ari_al, ari_la, ari_mm, ari_ml, ari_lm, ari_ltl, ari_llt, ari_lt, ari_le, ari_lel, ari_lle, ari_0, ari_eq, ari_eql, ari_leq, ari_cl, Nat.not_lt_zero, Bool.false_eq_true, Option.toList_some, Option.toList_none, List.cons_append, List.nil_append, kv_rv, kc1_i, kc1_r, kc1_n, n10, n01, n1514, n1213, n1312, if_true, if_false, not_true_eq_false, not_false_eq_true, and_self, true_and, and_true, false_and, and_false, or_true, true_or, or_false, false_or, Nat.reduceLeDiff, Nat.reduceLT, Nat.reduceEqDiff, Nat.reduceAdd, (show i < 6 by omega), (show i < 2147483648 by omega), (show ¬ 6 ≤ i by omega)]
    by_cases c0 : CPM σ0 k G g i row = true
    · have b1 : bI (CPM σ0 k G g i row) = 1 := by rw [c0]; rfl
      have b2 : bI (CPM σ0 k G g (i + 1) row) = 1 := by rw [st, c0]; rfl
      rw [b2] at ih
      simp only [g_176_91, g_176_93, g_176_96, g_176_97, g_176_100, g_176_102, g_176_103, g_176_105, g_176_108, g_176_109, g_176_110, g_176_113, g_176_115, g_176_116, g_176_117, g_176_119, g_176_120, g_176_121, g_176_123, g_176_126, g_176_127, g_176_130, g_176_132, g_176_133, g_176_136, g_176_137, g_176_140, g_176_141, g_176_143, g_176_146, ari_aa, ari_al, ari_la, ari_mm, ari_ml, ari_lm, ari_ltl, ari_llt, ari_lt, ari_le, ari_lel, ari_lle, ari_0, ari_eq, ari_eql, ari_leq, ari_cl, Nat.not_lt_zero, Bool.false_eq_true, Option.toList_some, Option.toList_none, List.cons_append, List.nil_append, kv_rv, kc1_i, kc1_r, kc1_n, n10, n01, n1514, n1213, n1312, if_true, if_false, not_true_eq_false, not_false_eq_true, and_self, true_and, and_true, false_and, and_false, or_true, true_or, or_false, false_or, Nat.reduceLeDiff, Nat.reduceLT, Nat.reduceEqDiff, Nat.reduceAdd, b1]
      exact ih
    · have b1 : bI (CPM σ0 k G g i row) = 0 := by rw [Bool.eq_false_iff.mpr c0]; rfl
      rw [Bool.eq_false_iff.mpr c0, Bool.false_or] at st
      by_cases c1 : kv_i σ0 174 (6 * k + i) = -3
      · have ef' : kv_i ζ 182 i = -3 := by rw [ef]; unfold foM; rw [if_pos c1]
        have b2 : bI (CPM σ0 k G g (i + 1) row) = 0 := by rw [st, c1]; rfl
        rw [b2] at ih
        simp only [g_176_91, g_176_93, g_176_96, g_176_97, g_176_100, g_176_102, g_176_103, g_176_105, g_176_108, g_176_109, g_176_110, g_176_113, g_176_115, g_176_116, g_176_117, g_176_119, g_176_120, g_176_121, g_176_123, g_176_126, g_176_127, g_176_130, g_176_132, g_176_133, g_176_136, g_176_137, g_176_140, g_176_141, g_176_143, g_176_146, ari_aa, ari_al, ari_la, ari_mm, ari_ml, ari_lm, ari_ltl, ari_llt, ari_lt, ari_le, ari_lel, ari_lle, ari_0, ari_eq, ari_eql, ari_leq, ari_cl, Nat.not_lt_zero, Bool.false_eq_true, Option.toList_some, Option.toList_none, List.cons_append, List.nil_append, kv_rv, kc1_i, kc1_r, kc1_n, n10, n01, n1514, n1213, n1312, if_true, if_false, not_true_eq_false, not_false_eq_true, and_self, true_and, and_true, false_and, and_false, or_true, true_or, or_false, false_or, Nat.reduceLeDiff, Nat.reduceLT, Nat.reduceEqDiff, Nat.reduceAdd, b1, ef', s_149 js, s_182 js, r_149_43 js, (show i < 6 by omega), (show i < 2147483648 by omega)]
        exact ih
      · have vx := (hn.o i (by omega)).resolve_left c1
        have ef' : kv_i ζ 182 i = bI (voM σ0 k G 1000 row (kv_i σ0 174 (6 * k + i))) := by rw [ef]; unfold foM; rw [if_neg c1]
        rw [beq_eq_false_iff_ne.mpr c1, Bool.not_false, Bool.true_and] at st
        by_cases c3 : voM σ0 k G g row (kv_i σ0 174 (6 * k + i)) = voM σ0 k G 1000 row (kv_i σ0 174 (6 * k + i))
        · have c4 : (bI (nvo (vlM σ0 k G g row) row (kv_i σ0 174 (6 * k + i))) = bI (voM σ0 k G 1000 row (kv_i σ0 174 (6 * k + i)))) = True := eq_true (bI_inj.mpr c3)
          have b2 : bI (CPM σ0 k G g (i + 1) row) = 0 := by rw [st, c3]; simp [bI]
          rw [b2] at ih
          simp only [g_176_91, g_176_93, g_176_96, g_176_97, g_176_100, g_176_102, g_176_103, g_176_105, g_176_108, g_176_109, g_176_110, g_176_113, g_176_115, g_176_116, g_176_117, g_176_119, g_176_120, g_176_121, g_176_123, g_176_126, g_176_127, g_176_130, g_176_132, g_176_133, g_176_136, g_176_137, g_176_140, g_176_141, g_176_143, g_176_146, kv_w8_0, kv_w8_1, kv_w8_2, kv_w8_3, kv_w8_4, ari_aa, ari_al, ari_la, ari_mm, ari_ml, ari_lm, ari_ltl, ari_llt, ari_lt, ari_le, ari_lel, ari_lle, ari_0, ari_eq, ari_eql, ari_leq, ari_cl, Nat.not_lt_zero, Bool.false_eq_true, Option.toList_some, Option.toList_none, List.cons_append, List.nil_append, kv_rv, kc1_i, kc1_r, kc1_n, n10, n01, n1514, n1213, n1312, if_true, if_false, not_true_eq_false, not_false_eq_true, and_self, true_and, and_true, false_and, and_false, or_true, true_or, or_false, false_or, Nat.reduceLeDiff, Nat.reduceLT, Nat.reduceEqDiff, Nat.reduceAdd, b1, ef', eo, bI_3, m_valueOf js hn.2.1 hn.2.2.1 hr h1 vx, c4, s_149 js, s_174 js, r_149_33 js, s_182 js, r_149_43 js, (show i < 6 by omega), (show i < 2147483648 by omega), (show 6 * k + i < 48 by omega), (show 6 * k + i < 2147483648 by omega)]
          exact ih
        · have c4 : (bI (nvo (vlM σ0 k G g row) row (kv_i σ0 174 (6 * k + i))) = bI (voM σ0 k G 1000 row (kv_i σ0 174 (6 * k + i)))) = False := eq_false (mt bI_inj.mp c3)
          have b2 : bI (CPM σ0 k G g (i + 1) row) = 1 := by
            rw [st]
            revert c3
            cases voM σ0 k G g row (kv_i σ0 174 (6 * k + i)) <;> cases voM σ0 k G 1000 row (kv_i σ0 174 (6 * k + i)) <;> simp [bI]
          rw [b2] at ih
          simp only [g_176_91, g_176_93, g_176_96, g_176_97, g_176_100, g_176_102, g_176_103, g_176_105, g_176_108, g_176_109, g_176_110, g_176_113, g_176_115, g_176_116, g_176_117, g_176_119, g_176_120, g_176_121, g_176_123, g_176_126, g_176_127, g_176_130, g_176_132, g_176_133, g_176_136, g_176_137, g_176_140, g_176_141, g_176_143, g_176_146, kv_w8_0, kv_w8_1, kv_w8_2, kv_w8_3, kv_w8_4, ari_aa, ari_al, ari_la, ari_mm, ari_ml, ari_lm, ari_ltl, ari_llt, ari_lt, ari_le, ari_lel, ari_lle, ari_0, ari_eq, ari_eql, ari_leq, ari_cl, Nat.not_lt_zero, Bool.false_eq_true, Option.toList_some, Option.toList_none, List.cons_append, List.nil_append, kv_rv, kc1_i, kc1_r, kc1_n, n10, n01, n1514, n1213, n1312, if_true, if_false, not_true_eq_false, not_false_eq_true, and_self, true_and, and_true, false_and, and_false, or_true, true_or, or_false, false_or, Nat.reduceLeDiff, Nat.reduceLT, Nat.reduceEqDiff, Nat.reduceAdd, b1, ef', eo, bI_3, m_valueOf js hn.2.1 hn.2.2.1 hr h1 vx, c4, s_149 js, s_174 js, r_149_33 js, s_182 js, r_149_43 js, (show i < 6 by omega), (show i < 2147483648 by omega), (show 6 * k + i < 48 by omega), (show 6 * k + i < 2147483648 by omega)]
          exact ih
theorem caredm_out_m {σ0 : kv_S} (h : JS σ0) {k w G g : Nat} (hk : k < 8) (hg : g < G) (hn : JNm σ0 k w G) (H : ∀ τ, FR (fun b _ => b = 181 ∨ b = 182) σ0 τ → Φ (some (.int (Int32.ofNat (crdM σ0 k G g w)))) τ) : ∀ m row, row + m = 2 ^ w → ∀ τ, FR (fun b _ => b = 181 ∨ b = 182) σ0 τ → ∀ v6 v7 v8 : Value, Wp (d + 2) 176 13 [.ref 149, .int (Int32.ofNat k), .int (Int32.ofNat g), .int (Int32.ofNat (40 * k + g)), .int (Int32.ofNat (q4 (fun b => anyN (fun row => CPM σ0 k G g 6 row && nvb (voM σ0 k G 1000 row (kv_i σ0 171 (40 * k + g))) (voM σ0 k G 1000 row (kv_i σ0 172 (40 * k + g))) == b) row))), .int (Int32.ofNat row), v6, v7, v8] [] τ Φ
  | 0, row, e, τ, fr, v6, v7, v8 => by
    have hW := pw8 hn.2.1
    have e2 : row = 2 ^ w := by omega
    subst e2
    have js := fr.js h
    have e5 : kv_i τ 168 k = Int32.ofNat w := by rw [fr.i (by omega)]; exact hn.2.2.2.2.1
    simp only [g_176_13, g_176_15, g_176_16, g_176_17, g_176_20, g_176_21, g_176_22, g_176_23, g_176_173, g_176_175, ari_aa, ari_al, ari_la, ari_mm, ari_ml, ari_lm, ari_ltl, ari_llt, ari_lt, ari_le, ari_lel, ari_lle, ari_0, ari_eq, ari_eql, ari_leq, ari_cl, Nat.not_lt_zero, Bool.false_eq_true, Option.toList_some, Option.toList_none, List.cons_append, List.nil_append, kv_rv, kc1_i, kc1_r, kc1_n, n10, n01, n1514, n1213, n1312, if_true, if_false, not_true_eq_false, not_false_eq_true, and_self, true_and, and_true, false_and, and_false, or_true, true_or, or_false, false_or, Nat.reduceLeDiff, Nat.reduceLT, Nat.reduceEqDiff, Nat.reduceAdd, s_149 js, s_168 js, r_149_27 js, e5, pow_w w hn.2.1, (show k < 8 by omega), (show k < 2147483648 by omega), (show 2 ^ w < 257 by omega), (show 2 ^ w < 2147483648 by omega), (show 2 ^ w ≤ 2 ^ w by omega)]
    exact H τ fr
  | m + 1, row, e, τ, fr, v6, v7, v8 => by
    have hW := pw8 hn.2.1
    have hG := hn.2.2.1
    have js := fr.js h
    have e5 : kv_i τ 168 k = Int32.ofNat w := by rw [fr.i (by omega)]; exact hn.2.2.2.2.1
    have hn2 : JNm τ k w G := hn.fr fr hk hpM
    simp only [g_176_13, g_176_15, g_176_16, g_176_17, g_176_20, g_176_21, g_176_22, g_176_23, ari_aa, ari_al, ari_la, ari_mm, ari_ml, ari_lm, ari_ltl, ari_llt, ari_lt, ari_le, ari_lel, ari_lle, ari_0, ari_eq, ari_eql, ari_leq, ari_cl, Nat.not_lt_zero, Bool.false_eq_true, Option.toList_some, Option.toList_none, List.cons_append, List.nil_append, kv_rv, kc1_i, kc1_r, kc1_n, n10, n01, n1514, n1213, n1312, if_true, if_false, not_true_eq_false, not_false_eq_true, and_self, true_and, and_true, false_and, and_false, or_true, true_or, or_false, false_or, Nat.reduceLeDiff, Nat.reduceLT, Nat.reduceEqDiff, Nat.reduceAdd, s_149 js, s_168 js, r_149_27 js, e5, pow_w w hn.2.1, (show k < 8 by omega), (show k < 2147483648 by omega), (show row < 257 by omega), (show row < 2147483648 by omega), (show 2 ^ w < 257 by omega), (show 2 ^ w < 2147483648 by omega), (show ¬ 2 ^ w ≤ row by omega)]
    simp only [g_176_26, g_176_27, g_176_28, g_176_30, g_176_31, kv_w8_0, kv_w8_1, kv_w8_2, kv_w8_3, kv_w8_4, Nat.not_lt_zero, Bool.false_eq_true, Option.toList_some, Option.toList_none, List.cons_append, List.nil_append, kv_rv, kc1_i, kc1_r, kc1_n, n10, n01, n1514, n1213, n1312, if_true, if_false, not_true_eq_false, not_false_eq_true, and_self, true_and, and_true, false_and, and_false, or_true, true_or, or_false, false_or, Nat.reduceLeDiff, Nat.reduceLT, Nat.reduceEqDiff, Nat.reduceAdd, s_149 js]
    refine m_work_m js hk hn2 (by omega) (tt_none hG) (fun υ fr2 hv => ?_)
    have fr2' : FR (fun b _ => b = 181 ∨ b = 182) τ υ := fr2.mono (fun b j q => Or.inl q)
    have fr3 := fr.tr fr2'
    have js2 := fr3.js h
    have v := hn.xy g hg
    have ex : kv_i υ 171 (40 * k + g) = kv_i σ0 171 (40 * k + g) := fr3.i (by omega)
    have ey : kv_i υ 172 (40 * k + g) = kv_i σ0 172 (40 * k + g) := fr3.i (by omega)
    have hv' : ∀ g', g' < G → kv_i υ 181 g' = bI (vlM σ0 k G 1000 row g') := fun g' hg' => by rw [hv g' hg', vlM_fr fr hk hpM]
    have hb4 := nvb_4 (voM σ0 k G 1000 row (kv_i σ0 171 (40 * k + g))) (voM σ0 k G 1000 row (kv_i σ0 172 (40 * k + g)))
    have evx : bI (nvo (vlM σ0 k G 1000 row) row (kv_i σ0 171 (40 * k + g))) = bI (voM σ0 k G 1000 row (kv_i σ0 171 (40 * k + g))) := rfl
    have evy : bI (nvo (vlM σ0 k G 1000 row) row (kv_i σ0 172 (40 * k + g))) = bI (voM σ0 k G 1000 row (kv_i σ0 172 (40 * k + g))) := rfl
    simp only [g_176_34, g_176_35, g_176_36, g_176_39, g_176_40, g_176_41, g_176_43, g_176_46, g_176_47, g_176_48, g_176_49, g_176_52, g_176_53, g_176_54, g_176_56, g_176_59, g_176_60, g_176_61, g_176_63, g_176_64, g_176_65, g_176_67, kv_w8_0, kv_w8_1, kv_w8_2, kv_w8_3, kv_w8_4, ari_aa, ari_al, ari_la, ari_mm, ari_ml, ari_lm, ari_ltl, ari_llt, ari_lt, ari_le, ari_lel, ari_lle, ari_0, ari_eq, ari_eql, ari_leq, ari_cl, Nat.not_lt_zero, Bool.false_eq_true, Option.toList_some, Option.toList_none, List.cons_append, List.nil_append, kv_rv, kc1_i, kc1_r, kc1_n, n10, n01, n1514, n1213, n1312, if_true, if_false, not_true_eq_false, not_false_eq_true, and_self, true_and, and_true, false_and, and_false, or_true, true_or, or_false, false_or, Nat.reduceLeDiff, Nat.reduceLT, Nat.reduceEqDiff, Nat.reduceAdd, m_valueOf js2 hn.2.1 hG (show row < 256 by omega) hv' (v.1.mono (Nat.le_of_lt hg)), m_valueOf js2 hn.2.1 hG (show row < 256 by omega) hv' (v.2.mono (Nat.le_of_lt hg)), evx, evy, bI_b, ex, ey, s_149 js2, s_171 js2, r_149_30 js2, s_172 js2, r_149_31 js2, (show 40 * k + g < 320 by omega), (show 40 * k + g < 2147483648 by omega)]
    have hn3 : JNm υ k w G := hn.fr fr3 hk hpM
    refine m_outs_m (t := 1000) js2 hk hn3 (show row < 256 by omega) (fun g' hg' => by rw [hv' g' hg', vlM_fr fr3 hk hpM]) (fun ξ fr4 ho => ?_)
    have fr4' : FR (fun b _ => b = 181 ∨ b = 182) υ ξ := fr4.mono (fun b j q => Or.inr q)
    have fr5 := fr3.tr fr4'
    have js5 := fr5.js h
    have hn5 : JNm ξ k w G := hn.fr fr5 hk hpM
    simp only [g_176_70, g_176_71, g_176_72, g_176_74, g_176_75, kv_w8_0, kv_w8_1, kv_w8_2, kv_w8_3, kv_w8_4, Nat.not_lt_zero, Bool.false_eq_true, Option.toList_some, Option.toList_none, List.cons_append, List.nil_append, kv_rv, kc1_i, kc1_r, kc1_n, n10, n01, n1514, n1213, n1312, if_true, if_false, not_true_eq_false, not_false_eq_true, and_self, true_and, and_true, false_and, and_false, or_true, true_or, or_false, false_or, Nat.reduceLeDiff, Nat.reduceLT, Nat.reduceEqDiff, Nat.reduceAdd, s_149 js5]
    refine m_work_m js5 hk hn5 (show row < 256 by omega) (tt_some hG (show g < 40 by omega)) (fun ζ fr6 hv2 => ?_)
    have fr7 := fr5.tr (fr6.mono (Q := fun b _ => b = 181 ∨ b = 182) (fun b j q => Or.inl q))
    simp only [g_176_78, g_176_79, g_176_81, g_176_82, Nat.not_lt_zero, Bool.false_eq_true, Option.toList_some, Option.toList_none, List.cons_append, List.nil_append, kv_rv, kc1_i, kc1_r, kc1_n, n10, n01, n1514, n1213, n1312, if_true, if_false, not_true_eq_false, not_false_eq_true, and_self, true_and, and_true, false_and, and_false, or_true, true_or, or_false, false_or, Nat.reduceLeDiff, Nat.reduceLT, Nat.reduceEqDiff, Nat.reduceAdd]
    refine caredm_in_m h hk hn (show row < 256 by omega) fr7 (fun g' hg' => by rw [hv2 g' hg', vlM_fr fr5 hk hpM]) (fun i hi => by rw [fr6.i (by omega), ho i hi, foM_fr fr3 hk hpM]) ?_ 6 0 (by omega)
    have nxt := caredm_out_m h hk hg hn H m (row + 1) (by omega) ζ fr7 (.int (Int32.ofNat (nvb (voM σ0 k G 1000 row (kv_i σ0 171 (40 * k + g))) (voM σ0 k G 1000 row (kv_i σ0 172 (40 * k + g)))))) (.int (bI (CPM σ0 k G g 6 row))) (.int (Int32.ofNat 6))
    by_cases c : CPM σ0 k G g 6 row = true
    · rw [c] at nxt ⊢
      simp only [g_176_149, g_176_151, g_176_153, g_176_156, g_176_157, g_176_159, g_176_160, g_176_163, g_176_164, g_176_165, g_176_167, g_176_170, ari_aa, ari_al, ari_la, ari_mm, ari_ml, ari_lm, ari_ltl, ari_llt, ari_lt, ari_le, ari_lel, ari_lle, ari_0, ari_eq, ari_eql, ari_leq, ari_cl, Nat.not_lt_zero, Bool.false_eq_true, Option.toList_some, Option.toList_none, List.cons_append, List.nil_append, kv_rv, kc1_i, kc1_r, kc1_n, n10, n01, n1514, n1213, n1312, if_true, if_false, not_true_eq_false, not_false_eq_true, and_self, true_and, and_true, false_and, and_false, or_true, true_or, or_false, false_or, Nat.reduceLeDiff, Nat.reduceLT, Nat.reduceEqDiff, Nat.reduceAdd, ari_31, ari_1shl, bI, (show nvb (voM σ0 k G 1000 row (kv_i σ0 171 (40 * k + g))) (voM σ0 k G 1000 row (kv_i σ0 172 (40 * k + g))) < 31 by omega), (show nvb (voM σ0 k G 1000 row (kv_i σ0 171 (40 * k + g))) (voM σ0 k G 1000 row (kv_i σ0 172 (40 * k + g))) < 2147483648 by omega), (show nvb (voM σ0 k G 1000 row (kv_i σ0 171 (40 * k + g))) (voM σ0 k G 1000 row (kv_i σ0 172 (40 * k + g))) < 32 by omega), (show nvb (voM σ0 k G 1000 row (kv_i σ0 171 (40 * k + g))) (voM σ0 k G 1000 row (kv_i σ0 172 (40 * k + g))) < 2147483648 by omega)]
      rw [q4_bit _ hb4, q4_or]
      have e7 : (q4 fun b => anyN (fun row => CPM σ0 k G g 6 row && nvb (voM σ0 k G 1000 row (kv_i σ0 171 (40 * k + g))) (voM σ0 k G 1000 row (kv_i σ0 172 (40 * k + g))) == b) (row + 1)) = (q4 fun b => anyN (fun row => CPM σ0 k G g 6 row && nvb (voM σ0 k G 1000 row (kv_i σ0 171 (40 * k + g))) (voM σ0 k G 1000 row (kv_i σ0 172 (40 * k + g))) == b) row || nvb (voM σ0 k G 1000 row (kv_i σ0 171 (40 * k + g))) (voM σ0 k G 1000 row (kv_i σ0 172 (40 * k + g))) == b) := by
        refine q4_congr (fun b hb => ?_)
        show (_ || (CPM σ0 k G g 6 row && _)) = _
        rw [c]; rfl
      rw [e7] at nxt
      exact nxt
    · rw [Bool.eq_false_iff.mpr c] at nxt ⊢
      simp only [g_176_149, g_176_151, g_176_153, g_176_156, g_176_157, g_176_159, g_176_160, g_176_163, g_176_164, g_176_165, g_176_167, g_176_170, ari_aa, ari_al, ari_la, ari_mm, ari_ml, ari_lm, ari_ltl, ari_llt, ari_lt, ari_le, ari_lel, ari_lle, ari_0, ari_eq, ari_eql, ari_leq, ari_cl, Nat.not_lt_zero, Bool.false_eq_true, Option.toList_some, Option.toList_none, List.cons_append, List.nil_append, kv_rv, kc1_i, kc1_r, kc1_n, n10, n01, n1514, n1213, n1312, if_true, if_false, not_true_eq_false, not_false_eq_true, and_self, true_and, and_true, false_and, and_false, or_true, true_or, or_false, false_or, Nat.reduceLeDiff, Nat.reduceLT, Nat.reduceEqDiff, Nat.reduceAdd, bI]
      have e7 : (q4 fun b => anyN (fun row => CPM σ0 k G g 6 row && nvb (voM σ0 k G 1000 row (kv_i σ0 171 (40 * k + g))) (voM σ0 k G 1000 row (kv_i σ0 172 (40 * k + g))) == b) (row + 1)) = (q4 fun b => anyN (fun row => CPM σ0 k G g 6 row && nvb (voM σ0 k G 1000 row (kv_i σ0 171 (40 * k + g))) (voM σ0 k G 1000 row (kv_i σ0 172 (40 * k + g))) == b) row) := by
        refine q4_congr (fun b hb => ?_)
        show (_ || (CPM σ0 k G g 6 row && _)) = _
        rw [Bool.eq_false_iff.mpr c, Bool.false_and, Bool.or_false]
      rw [e7] at nxt
      rw [show ∀ x : Nat, Int32.ofNat x ||| 0 = Int32.ofNat x from fun x => Int32.or_zero]
      exact nxt
end MQ

/-! ===== cared ===== -/
/-- turning gate g changes an output at a row -/
def CP (σ : kv_S) (k G g n row : Nat) : Bool := anyN (fun i => !(kv_i σ (106 + 6 * k) i == -3) && (vo σ k G g row (kv_i σ (106 + 6 * k) i) ^^ vo σ k G 1000 row (kv_i σ (106 + 6 * k) i))) n
def crd (σ : kv_S) (k G g w : Nat) : Nat := q4 (fun b => anyN (fun row => CP σ k G g 6 row && nvb (vo σ k G 1000 row (kv_i σ (103 + 6 * k) g)) (vo σ k G 1000 row (kv_i σ (104 + 6 * k) g)) == b) (2 ^ w))
section CA
variable {d : Nat} {Φ : Option Value → kv_S → Prop}
theorem cared_in {σ0 : kv_S} (hj0 : JS σ0) {k w G g j : Nat} (hk : k < 8) (hn : JN1' σ0 k w G) (hv : vld σ0 k w G) {τ : kv_S} (hI : tnI σ0 k w G g τ G) (hj : j < nwc w) {c : Int32} (H : ∀ z, (∀ r, r < 64 → lb z r = CP σ0 k G g 6 (64 * j + r)) → ∀ v9 : Value, Wp (d + 2) 102 73 [.ref 30, .ref (101 + 6 * k), .ref 26, .int (Int32.ofNat g), .int c, .int (Int32.ofNat j), .long z, .null, .int (Int32.ofNat 6), v9] [] τ Φ) : ∀ m i, i + m = 6 → ∀ z, (∀ r, r < 64 → lb z r = CP σ0 k G g i (64 * j + r)) → ∀ v9 : Value, Wp (d + 2) 102 21 [.ref 30, .ref (101 + 6 * k), .ref 26, .int (Int32.ofNat g), .int c, .int (Int32.ofNat j), .long z, .null, .int (Int32.ofNat i), v9] [] τ Φ
  | 0, i, e, z, hz, v9 => by
    have e2 : i = 6 := by omega
    subst e2
    simp only [g_102_21, g_102_23, g_102_25, ari_aa, ari_al, ari_la, ari_mm, ari_ml, ari_lm, ari_ltl, ari_llt, ari_lt, ari_le, ari_lel, ari_lle, ari_0, ari_eq, ari_eql, ari_leq, ari_cl, Nat.not_lt_zero, Bool.false_eq_true, Option.toList_some, Option.toList_none, List.cons_append, List.nil_append, kv_rv, kc1_i, kc1_r, kc1_n, n10, n01, n1514, n1213, n1312, if_true, if_false, not_true_eq_false, not_false_eq_true, and_self, true_and, and_true, false_and, and_false, or_true, true_or, or_false, false_or, Nat.reduceLeDiff, Nat.reduceLT, Nat.reduceEqDiff, Nat.reduceAdd]
    exact H z hz v9
  | m + 1, i, e, z, hz, v9 => by
    have h4 := (nw_4 w hn.2.1).1
    have js := hI.1.js hj0
    have eo : kv_i τ (106 + 6 * k) i = kv_i σ0 (106 + 6 * k) i := hI.1.i (by omega)
    simp only [g_102_21, g_102_23, g_102_25, ari_aa, ari_al, ari_la, ari_mm, ari_ml, ari_lm, ari_ltl, ari_llt, ari_lt, ari_le, ari_lel, ari_lle, ari_0, ari_eq, ari_eql, ari_leq, ari_cl, Nat.not_lt_zero, Bool.false_eq_true, Option.toList_some, Option.toList_none, List.cons_append, List.nil_append, kv_rv, kc1_i, kc1_r, kc1_n, n10, n01, n1514, n1213, n1312, if_true, if_false, not_true_eq_false, not_false_eq_true, and_self, true_and, and_true, false_and, and_false, or_true, true_or, or_false, false_or, Nat.reduceLeDiff, Nat.reduceLT, Nat.reduceEqDiff, Nat.reduceAdd, (show i < 6 by omega), (show i < 2147483648 by omega), (show ¬ 6 ≤ i by omega)]
    by_cases c1 : kv_i σ0 (106 + 6 * k) i = -3
    · simp only [g_102_28, g_102_29, g_102_32, g_102_34, g_102_35, g_102_37, g_102_39, g_102_41, g_102_67, g_102_70, ari_aa, ari_al, ari_la, ari_mm, ari_ml, ari_lm, ari_ltl, ari_llt, ari_lt, ari_le, ari_lel, ari_lle, ari_0, ari_eq, ari_eql, ari_leq, ari_cl, Nat.not_lt_zero, Bool.false_eq_true, Option.toList_some, Option.toList_none, List.cons_append, List.nil_append, kv_rv, kc1_i, kc1_r, kc1_n, n10, n01, n1514, n1213, n1312, if_true, if_false, not_true_eq_false, not_false_eq_true, and_self, true_and, and_true, false_and, and_false, or_true, true_or, or_false, false_or, Nat.reduceLeDiff, Nat.reduceLT, Nat.reduceEqDiff, Nat.reduceAdd, nN js hk, nO js hk, qO js hk, eo, c1, (show i < 6 by omega), (show i < 2147483648 by omega)]
      refine cared_in hj0 hk hn hv hI hj H m (i + 1) (by omega) z (fun r hr => ?_) _
      rw [hz r hr]
      show _ = (CP σ0 k G g i (64 * j + r) || (!(kv_i σ0 (106 + 6 * k) i == -3) && _))
      rw [c1]; simp
    · have vx := (hn.o i (by omega)).resolve_left c1
      have ox := vx.onn hn.2.1 hn.2.2.1
      simp only [g_102_28, g_102_29, g_102_32, g_102_34, g_102_35, g_102_37, g_102_39, g_102_41, g_102_44, g_102_46, g_102_47, g_102_48, g_102_50, g_102_52, g_102_55, g_102_56, g_102_58, g_102_60, g_102_63, g_102_64, g_102_65, g_102_67, g_102_70, kv_w8_0, kv_w8_1, kv_w8_2, kv_w8_3, kv_w8_4, ari_aa, ari_al, ari_la, ari_mm, ari_ml, ari_lm, ari_ltl, ari_llt, ari_lt, ari_le, ari_lel, ari_lle, ari_0, ari_eq, ari_eql, ari_leq, ari_cl, Nat.not_lt_zero, Bool.false_eq_true, Option.toList_some, Option.toList_none, List.cons_append, List.nil_append, kv_rv, kc1_i, kc1_r, kc1_n, n10, n01, n1514, n1213, n1312, if_true, if_false, not_true_eq_false, not_false_eq_true, and_self, true_and, and_true, false_and, and_false, or_true, true_or, or_false, false_or, Nat.reduceLeDiff, Nat.reduceLT, Nat.reduceEqDiff, Nat.reduceAdd, nN js hk, nO js hk, qO js hk, eo, c1, m_tword js ox.1 ox.2 (show j < 4 by omega), m_word js (show VV 26 from Or.inl rfl) ox.1 ox.2 (show j < 4 by omega), s_30 js, r_8_7 js, s_26 js, r_8_5 js, (show i < 6 by omega), (show i < 2147483648 by omega)]
      refine cared_in hj0 hk hn hv hI hj H m (i + 1) (by omega) _ (fun r hr => ?_) _
      have e1 := hv.2 _ vx j hj r hr
      rw [lb_or, lb_xor, hz r hr, hI.2.1 _ vx j hj r hr, hI.1.l (by omega), e1]
      show _ = (CP σ0 k G g i (64 * j + r) || (!(kv_i σ0 (106 + 6 * k) i == -3) && _))
      rw [beq_eq_false_iff_ne.mpr c1]
      rfl
theorem cared_out {σ0 : kv_S} (hj0 : JS σ0) {k w G g : Nat} (hk : k < 8) (hg : g < G) (hn : JN1' σ0 k w G) (hv : vld σ0 k w G) {τ : kv_S} (hI : tnI σ0 k w G g τ G) (H : Φ (some (.int (Int32.ofNat (q4 (fun b => anyN (fun j => anyN (fun r => CP σ0 k G g 6 (64 * j + r) && nvb (vo σ0 k G 1000 (64 * j + r) (kv_i σ0 (103 + 6 * k) g)) (vo σ0 k G 1000 (64 * j + r) (kv_i σ0 (104 + 6 * k) g)) == b) 64) (nwc w)))))) τ) : ∀ m j, j + m = nwc w → ∀ v6 v7 v8 v9 : Value, Wp (d + 2) 102 6 [.ref 30, .ref (101 + 6 * k), .ref 26, .int (Int32.ofNat g), .int (Int32.ofNat (q4 (fun b => anyN (fun j => anyN (fun r => CP σ0 k G g 6 (64 * j + r) && nvb (vo σ0 k G 1000 (64 * j + r) (kv_i σ0 (103 + 6 * k) g)) (vo σ0 k G 1000 (64 * j + r) (kv_i σ0 (104 + 6 * k) g)) == b) 64) j))), .int (Int32.ofNat j), v6, v7, v8, v9] [] τ Φ
  | 0, j, e, v6, v7, v8, v9 => by
    have h4 := (nw_4 w hn.2.1).1
    have e2 : j = nwc w := by omega
    have js := hI.1.js hj0
    have ew : kv_i τ 26 1 = Int32.ofNat (nwc w) := by rw [hI.1.i (by omega)]; exact hv.1
    simp only [g_102_6, g_102_8, g_102_9, g_102_12, g_102_94, g_102_96, ari_aa, ari_al, ari_la, ari_mm, ari_ml, ari_lm, ari_ltl, ari_llt, ari_lt, ari_le, ari_lel, ari_lle, ari_0, ari_eq, ari_eql, ari_leq, ari_cl, Nat.not_lt_zero, Bool.false_eq_true, Option.toList_some, Option.toList_none, List.cons_append, List.nil_append, kv_rv, kc1_i, kc1_r, kc1_n, n10, n01, n1514, n1213, n1312, if_true, if_false, not_true_eq_false, not_false_eq_true, and_self, true_and, and_true, false_and, and_false, or_true, true_or, or_false, false_or, Nat.reduceLeDiff, Nat.reduceLT, Nat.reduceEqDiff, Nat.reduceAdd, s_26 js, ew, (show j < 5 by omega), (show j < 2147483648 by omega), (show nwc w < 5 by omega), (show nwc w < 2147483648 by omega), (show nwc w ≤ j by omega)]
    rw [e2]
    exact H
  | m + 1, j, e, v6, v7, v8, v9 => by
    have h4 := (nw_4 w hn.2.1).1
    have hG := hn.2.2.1
    have js := hI.1.js hj0
    have ew : kv_i τ 26 1 = Int32.ofNat (nwc w) := by rw [hI.1.i (by omega)]; exact hv.1
    simp only [g_102_6, g_102_8, g_102_9, g_102_12, ari_aa, ari_al, ari_la, ari_mm, ari_ml, ari_lm, ari_ltl, ari_llt, ari_lt, ari_le, ari_lel, ari_lle, ari_0, ari_eq, ari_eql, ari_leq, ari_cl, Nat.not_lt_zero, Bool.false_eq_true, Option.toList_some, Option.toList_none, List.cons_append, List.nil_append, kv_rv, kc1_i, kc1_r, kc1_n, n10, n01, n1514, n1213, n1312, if_true, if_false, not_true_eq_false, not_false_eq_true, and_self, true_and, and_true, false_and, and_false, or_true, true_or, or_false, false_or, Nat.reduceLeDiff, Nat.reduceLT, Nat.reduceEqDiff, Nat.reduceAdd, s_26 js, ew, (show j < 5 by omega), (show j < 2147483648 by omega), (show nwc w < 5 by omega), (show nwc w < 2147483648 by omega), (show ¬ nwc w ≤ j by omega)]
    simp only [g_102_15, g_102_16, g_102_18, g_102_19, Nat.not_lt_zero, Bool.false_eq_true, Option.toList_some, Option.toList_none, List.cons_append, List.nil_append, kv_rv, kc1_i, kc1_r, kc1_n, n10, n01, n1514, n1213, n1312, if_true, if_false, not_true_eq_false, not_false_eq_true, and_self, true_and, and_true, false_and, and_false, or_true, true_or, or_false, false_or, Nat.reduceLeDiff, Nat.reduceLT, Nat.reduceEqDiff, Nat.reduceAdd]
    refine cared_in hj0 hk hn hv hI (by omega) (fun z hz v9 => ?_) 6 0 (by omega) 0 (fun r hr => by rw [lb_0]; rfl) _
    have v := hn.xy g hg
    have vx := v.1.onn hn.2.1 (by omega)
    have vy := v.2.onn hn.2.1 (by omega)
    have ex : kv_i τ (103 + 6 * k) g - -2 = Int32.ofNat (onn (kv_i σ0 (103 + 6 * k) g)) := by rw [hI.1.i (by omega)]; exact vx.1
    have ey : kv_i τ (104 + 6 * k) g - -2 = Int32.ofNat (onn (kv_i σ0 (104 + 6 * k) g)) := by rw [hI.1.i (by omega)]; exact vy.1
    simp only [g_102_73, g_102_75, g_102_76, g_102_77, g_102_78, g_102_80, g_102_82, g_102_85, g_102_86, g_102_88, g_102_91, kv_w8_0, kv_w8_1, kv_w8_2, kv_w8_3, kv_w8_4, ari_aa, ari_al, ari_la, ari_mm, ari_ml, ari_lm, ari_ltl, ari_llt, ari_lt, ari_le, ari_lel, ari_lle, ari_0, ari_eq, ari_eql, ari_leq, ari_cl, Nat.not_lt_zero, Bool.false_eq_true, Option.toList_some, Option.toList_none, List.cons_append, List.nil_append, kv_rv, kc1_i, kc1_r, kc1_n, n10, n01, n1514, n1213, n1312, if_true, if_false, not_true_eq_false, not_false_eq_true, and_self, true_and, and_true, false_and, and_false, or_true, true_or, or_false, false_or, Nat.reduceLeDiff, Nat.reduceLT, Nat.reduceEqDiff, Nat.reduceAdd, s_26 js, m_comingAt js (show VV 26 from Or.inl rfl) hk (show g < 40 by omega) (show j < 4 by omega) ex vx.2 ey vy.2, q4_or]
    have := cared_out hj0 hk hg hn hv hI H m (j + 1) (by omega) (.long z) .null (.int 6) v9
    have e7 : (q4 fun b => anyN (fun j => anyN (fun r => CP σ0 k G g 6 (64 * j + r) && nvb (vo σ0 k G 1000 (64 * j + r) (kv_i σ0 (103 + 6 * k) g)) (vo σ0 k G 1000 (64 * j + r) (kv_i σ0 (104 + 6 * k) g)) == b) 64) (j + 1)) = (q4 fun b => anyN (fun j => anyN (fun r => CP σ0 k G g 6 (64 * j + r) && nvb (vo σ0 k G 1000 (64 * j + r) (kv_i σ0 (103 + 6 * k) g)) (vo σ0 k G 1000 (64 * j + r) (kv_i σ0 (104 + 6 * k) g)) == b) 64) j || anyN (fun r => lb z r && nvb (lb (kv_l τ (26 + 1) (onn (kv_i σ0 (103 + 6 * k) g) * 4 + j)) r) (lb (kv_l τ (26 + 1) (onn (kv_i σ0 (104 + 6 * k) g) * 4 + j)) r) == b) 64) := by
      refine q4_congr (fun b hb => ?_)
      show (anyN _ j || anyN _ 64) = (anyN _ j || anyN _ 64)
      congr 1
      refine anyN_congr 64 (fun r hr => ?_)
      have g1 := hv.2 _ (v.1.mono (show g ≤ G by omega)) j (by omega) r hr
      have g2 := hv.2 _ (v.2.mono (show g ≤ G by omega)) j (by omega) r hr
      rw [hz r hr, hI.1.l (b := 26 + 1) (by omega), hI.1.l (b := 26 + 1) (by omega), g1, g2]
    rw [e7] at this
    exact this
theorem CP_mod {σ : kv_S} {k w G g n : Nat} (hn : JN1' σ k w G) (hn6 : n ≤ 6) (row : Nat) : CP σ k G g n row = CP σ k G g n (row % 2 ^ w) := by
  unfold CP
  refine anyN_congr n (fun i hi => ?_)
  by_cases c1 : kv_i σ (106 + 6 * k) i = -3
  · rw [c1]; rfl
  · have vx := (hn.o i (by omega)).resolve_left c1
    rw [vo_mod hn vx row, vo_mod (t := 1000) hn vx row]
theorem m_caredFor {σ0 : kv_S} (hj0 : JS σ0) {k w G g : Nat} (hk : k < 8) (hg : g < G) (hn : JN1' σ0 k w G) (hv : vld σ0 k w G) {τ : kv_S} (hI : tnI σ0 k w G g τ G) (H : Φ (some (.int (Int32.ofNat (crd σ0 k G g w)))) τ) : Wc (d + 2) 102 [.ref 30, .ref (101 + 6 * k), .ref 26, .int (Int32.ofNat g)] τ Φ := by
  simp only [c_102, g_102_0, g_102_1, g_102_3, g_102_4, Nat.not_lt_zero, Bool.false_eq_true, Option.toList_some, Option.toList_none, List.cons_append, List.nil_append, kv_rv, kc1_i, kc1_r, kc1_n, n10, n01, n1514, n1213, n1312, if_true, if_false, not_true_eq_false, not_false_eq_true, and_self, true_and, and_true, false_and, and_false, or_true, true_or, or_false, false_or, Nat.reduceLeDiff, Nat.reduceLT, Nat.reduceEqDiff, Nat.reduceAdd]
  refine cared_out hj0 hk hg hn hv hI ?_ (nwc w) 0 (by omega) _ _ _ _
  have e : (q4 fun b => anyN (fun j => anyN (fun r => CP σ0 k G g 6 (64 * j + r) && nvb (vo σ0 k G 1000 (64 * j + r) (kv_i σ0 (103 + 6 * k) g)) (vo σ0 k G 1000 (64 * j + r) (kv_i σ0 (104 + 6 * k) g)) == b) 64) (nwc w)) = crd σ0 k G g w := by
    unfold crd
    refine q4_congr (fun b hb => ?_)
    have v := hn.xy g hg
    exact per_any (f := fun row => CP σ0 k G g 6 row && nvb (vo σ0 k G 1000 row (kv_i σ0 (103 + 6 * k) g)) (vo σ0 k G 1000 row (kv_i σ0 (104 + 6 * k) g)) == b) hn.2.1 (fun row => by rw [CP_mod hn (by decide) row, vo_mod hn (v.1.mono (Nat.le_of_lt hg)) row, vo_mod hn (v.2.mono (Nat.le_of_lt hg)) row])
  rw [e]; exact H
/-- the model's inner loop -/
theorem caredm_in {σ0 : kv_S} (h : JS σ0) {k w G g row : Nat} {a b c : Int32} (hk : k < 8) (hn : JN1' σ0 k w G) (hr : row < 256) {ζ : kv_S} (fr : FR (fun b _ => b = 181 ∨ b = 182) σ0 ζ) (h1 : ∀ g', g' < G → kv_i ζ 181 g' = bI (vl σ0 k G g row g')) (h2 : ∀ i, i < 6 → kv_i ζ 182 i = fo σ0 k G 1000 row i) (H : Wp (d + 1) 176 149 [.ref 149, .int (Int32.ofNat k), .int (Int32.ofNat g), .int a, .int b, .int (Int32.ofNat row), .int c, .int (bI (CP σ0 k G g 6 row)), .int (Int32.ofNat 6)] [] ζ Φ) : ∀ m i, i + m = 6 → Wp (d + 1) 176 84 [.ref 149, .int (Int32.ofNat k), .int (Int32.ofNat g), .int a, .int b, .int (Int32.ofNat row), .int c, .int (bI (CP σ0 k G g i row)), .int (Int32.ofNat i)] [] ζ Φ
  | 0, i, e => by
    have e2 : i = 6 := by omega
    subst e2
    simp only [g_176_84, g_176_86, g_176_88, ari_aa, ari_al, ari_la, ari_mm, ari_ml, ari_lm, ari_ltl, ari_llt, ari_lt, ari_le, ari_lel, ari_lle, ari_0, ari_eq, ari_eql, ari_leq, ari_cl, Nat.not_lt_zero, Bool.false_eq_true, Option.toList_some, Option.toList_none, List.cons_append, List.nil_append, kv_rv, kc1_i, kc1_r, kc1_n, n10, n01, n1514, n1213, n1312, if_true, if_false, not_true_eq_false, not_false_eq_true, and_self, true_and, and_true, false_and, and_false, or_true, true_or, or_false, false_or, Nat.reduceLeDiff, Nat.reduceLT, Nat.reduceEqDiff, Nat.reduceAdd]
    exact H
  | m + 1, i, e => by
    have js := fr.js h
    have eo : kv_i ζ 174 (6 * k + i) = kv_i σ0 (106 + 6 * k) i := by rw [fr.i (by omega)]; exact hn.mo i (by omega)
    have ef := h2 i (by omega)
    have ih := caredm_in h hk hn hr fr h1 h2 H m (i + 1) (by omega)
    have st : CP σ0 k G g (i + 1) row = (CP σ0 k G g i row || (!(kv_i σ0 (106 + 6 * k) i == -3) && (vo σ0 k G g row (kv_i σ0 (106 + 6 * k) i) ^^ vo σ0 k G 1000 row (kv_i σ0 (106 + 6 * k) i)))) := rfl
    simp only [g_176_84, g_176_86, g_176_88, ari_aa, ari_al, ari_la, ari_mm, ari_ml, ari_lm, ari_ltl, ari_llt, ari_lt, ari_le, ari_lel, ari_lle, ari_0, ari_eq, ari_eql, ari_leq, ari_cl, Nat.not_lt_zero, Bool.false_eq_true, Option.toList_some, Option.toList_none, List.cons_append, List.nil_append, kv_rv, kc1_i, kc1_r, kc1_n, n10, n01, n1514, n1213, n1312, if_true, if_false, not_true_eq_false, not_false_eq_true, and_self, true_and, and_true, false_and, and_false, or_true, true_or, or_false, false_or, Nat.reduceLeDiff, Nat.reduceLT, Nat.reduceEqDiff, Nat.reduceAdd, (show i < 6 by omega), (show i < 2147483648 by omega), (show ¬ 6 ≤ i by omega)]
    by_cases c0 : CP σ0 k G g i row = true
    · have b1 : bI (CP σ0 k G g i row) = 1 := by rw [c0]; rfl
      have b2 : bI (CP σ0 k G g (i + 1) row) = 1 := by rw [st, c0]; rfl
      rw [b2] at ih
      simp only [g_176_91, g_176_93, g_176_96, g_176_97, g_176_100, g_176_102, g_176_103, g_176_105, g_176_108, g_176_109, g_176_110, g_176_113, g_176_115, g_176_116, g_176_117, g_176_119, g_176_120, g_176_121, g_176_123, g_176_126, g_176_127, g_176_130, g_176_132, g_176_133, g_176_136, g_176_137, g_176_140, g_176_141, g_176_143, g_176_146, ari_aa, ari_al, ari_la, ari_mm, ari_ml, ari_lm, ari_ltl, ari_llt, ari_lt, ari_le, ari_lel, ari_lle, ari_0, ari_eq, ari_eql, ari_leq, ari_cl, Nat.not_lt_zero, Bool.false_eq_true, Option.toList_some, Option.toList_none, List.cons_append, List.nil_append, kv_rv, kc1_i, kc1_r, kc1_n, n10, n01, n1514, n1213, n1312, if_true, if_false, not_true_eq_false, not_false_eq_true, and_self, true_and, and_true, false_and, and_false, or_true, true_or, or_false, false_or, Nat.reduceLeDiff, Nat.reduceLT, Nat.reduceEqDiff, Nat.reduceAdd, b1]
      exact ih
    · have b1 : bI (CP σ0 k G g i row) = 0 := by rw [Bool.eq_false_iff.mpr c0]; rfl
      rw [Bool.eq_false_iff.mpr c0, Bool.false_or] at st
      by_cases c1 : kv_i σ0 (106 + 6 * k) i = -3
      · have ef' : kv_i ζ 182 i = -3 := by rw [ef]; unfold fo; rw [if_pos c1]
        have b2 : bI (CP σ0 k G g (i + 1) row) = 0 := by rw [st, c1]; rfl
        rw [b2] at ih
        simp only [g_176_91, g_176_93, g_176_96, g_176_97, g_176_100, g_176_102, g_176_103, g_176_105, g_176_108, g_176_109, g_176_110, g_176_113, g_176_115, g_176_116, g_176_117, g_176_119, g_176_120, g_176_121, g_176_123, g_176_126, g_176_127, g_176_130, g_176_132, g_176_133, g_176_136, g_176_137, g_176_140, g_176_141, g_176_143, g_176_146, ari_aa, ari_al, ari_la, ari_mm, ari_ml, ari_lm, ari_ltl, ari_llt, ari_lt, ari_le, ari_lel, ari_lle, ari_0, ari_eq, ari_eql, ari_leq, ari_cl, Nat.not_lt_zero, Bool.false_eq_true, Option.toList_some, Option.toList_none, List.cons_append, List.nil_append, kv_rv, kc1_i, kc1_r, kc1_n, n10, n01, n1514, n1213, n1312, if_true, if_false, not_true_eq_false, not_false_eq_true, and_self, true_and, and_true, false_and, and_false, or_true, true_or, or_false, false_or, Nat.reduceLeDiff, Nat.reduceLT, Nat.reduceEqDiff, Nat.reduceAdd, b1, ef', s_149 js, s_182 js, r_149_43 js, (show i < 6 by omega), (show i < 2147483648 by omega)]
        exact ih
      · have vx := (hn.o i (by omega)).resolve_left c1
        have ef' : kv_i ζ 182 i = bI (vo σ0 k G 1000 row (kv_i σ0 (106 + 6 * k) i)) := by rw [ef]; unfold fo; rw [if_neg c1]
        rw [beq_eq_false_iff_ne.mpr c1, Bool.not_false, Bool.true_and] at st
        by_cases c3 : vo σ0 k G g row (kv_i σ0 (106 + 6 * k) i) = vo σ0 k G 1000 row (kv_i σ0 (106 + 6 * k) i)
        · have c4 : (bI (nvo (vl σ0 k G g row) row (kv_i σ0 (106 + 6 * k) i)) = bI (vo σ0 k G 1000 row (kv_i σ0 (106 + 6 * k) i))) = True := eq_true (bI_inj.mpr c3)
          have b2 : bI (CP σ0 k G g (i + 1) row) = 0 := by rw [st, c3]; simp [bI]
          rw [b2] at ih
          simp only [g_176_91, g_176_93, g_176_96, g_176_97, g_176_100, g_176_102, g_176_103, g_176_105, g_176_108, g_176_109, g_176_110, g_176_113, g_176_115, g_176_116, g_176_117, g_176_119, g_176_120, g_176_121, g_176_123, g_176_126, g_176_127, g_176_130, g_176_132, g_176_133, g_176_136, g_176_137, g_176_140, g_176_141, g_176_143, g_176_146, kv_w8_0, kv_w8_1, kv_w8_2, kv_w8_3, kv_w8_4, ari_aa, ari_al, ari_la, ari_mm, ari_ml, ari_lm, ari_ltl, ari_llt, ari_lt, ari_le, ari_lel, ari_lle, ari_0, ari_eq, ari_eql, ari_leq, ari_cl, Nat.not_lt_zero, Bool.false_eq_true, Option.toList_some, Option.toList_none, List.cons_append, List.nil_append, kv_rv, kc1_i, kc1_r, kc1_n, n10, n01, n1514, n1213, n1312, if_true, if_false, not_true_eq_false, not_false_eq_true, and_self, true_and, and_true, false_and, and_false, or_true, true_or, or_false, false_or, Nat.reduceLeDiff, Nat.reduceLT, Nat.reduceEqDiff, Nat.reduceAdd, b1, ef', eo, bI_3, m_valueOf js hn.2.1 hn.2.2.1 hr h1 vx, c4, s_149 js, s_174 js, r_149_33 js, s_182 js, r_149_43 js, (show i < 6 by omega), (show i < 2147483648 by omega), (show 6 * k + i < 48 by omega), (show 6 * k + i < 2147483648 by omega)]
          exact ih
        · have c4 : (bI (nvo (vl σ0 k G g row) row (kv_i σ0 (106 + 6 * k) i)) = bI (vo σ0 k G 1000 row (kv_i σ0 (106 + 6 * k) i))) = False := eq_false (mt bI_inj.mp c3)
          have b2 : bI (CP σ0 k G g (i + 1) row) = 1 := by
            rw [st]
            revert c3
            cases vo σ0 k G g row (kv_i σ0 (106 + 6 * k) i) <;> cases vo σ0 k G 1000 row (kv_i σ0 (106 + 6 * k) i) <;> simp [bI]
          rw [b2] at ih
          simp only [g_176_91, g_176_93, g_176_96, g_176_97, g_176_100, g_176_102, g_176_103, g_176_105, g_176_108, g_176_109, g_176_110, g_176_113, g_176_115, g_176_116, g_176_117, g_176_119, g_176_120, g_176_121, g_176_123, g_176_126, g_176_127, g_176_130, g_176_132, g_176_133, g_176_136, g_176_137, g_176_140, g_176_141, g_176_143, g_176_146, kv_w8_0, kv_w8_1, kv_w8_2, kv_w8_3, kv_w8_4, ari_aa, ari_al, ari_la, ari_mm, ari_ml, ari_lm, ari_ltl, ari_llt, ari_lt, ari_le, ari_lel, ari_lle, ari_0, ari_eq, ari_eql, ari_leq, ari_cl, Nat.not_lt_zero, Bool.false_eq_true, Option.toList_some, Option.toList_none, List.cons_append, List.nil_append, kv_rv, kc1_i, kc1_r, kc1_n, n10, n01, n1514, n1213, n1312, if_true, if_false, not_true_eq_false, not_false_eq_true, and_self, true_and, and_true, false_and, and_false, or_true, true_or, or_false, false_or, Nat.reduceLeDiff, Nat.reduceLT, Nat.reduceEqDiff, Nat.reduceAdd, b1, ef', eo, bI_3, m_valueOf js hn.2.1 hn.2.2.1 hr h1 vx, c4, s_149 js, s_174 js, r_149_33 js, s_182 js, r_149_43 js, (show i < 6 by omega), (show i < 2147483648 by omega), (show 6 * k + i < 48 by omega), (show 6 * k + i < 2147483648 by omega)]
          exact ih
theorem caredm_out {σ0 : kv_S} (h : JS σ0) {k w G g : Nat} (hk : k < 8) (hg : g < G) (hn : JN1' σ0 k w G) (H : ∀ τ, FR (fun b _ => b = 181 ∨ b = 182) σ0 τ → Φ (some (.int (Int32.ofNat (crd σ0 k G g w)))) τ) : ∀ m row, row + m = 2 ^ w → ∀ τ, FR (fun b _ => b = 181 ∨ b = 182) σ0 τ → ∀ v6 v7 v8 : Value, Wp (d + 2) 176 13 [.ref 149, .int (Int32.ofNat k), .int (Int32.ofNat g), .int (Int32.ofNat (40 * k + g)), .int (Int32.ofNat (q4 (fun b => anyN (fun row => CP σ0 k G g 6 row && nvb (vo σ0 k G 1000 row (kv_i σ0 (103 + 6 * k) g)) (vo σ0 k G 1000 row (kv_i σ0 (104 + 6 * k) g)) == b) row))), .int (Int32.ofNat row), v6, v7, v8] [] τ Φ
  | 0, row, e, τ, fr, v6, v7, v8 => by
    have hW := pw8 hn.2.1
    have e2 : row = 2 ^ w := by omega
    subst e2
    have js := fr.js h
    have e5 : kv_i τ 168 k = Int32.ofNat w := by rw [fr.i (by omega)]; exact hn.2.2.2.2.1
    simp only [g_176_13, g_176_15, g_176_16, g_176_17, g_176_20, g_176_21, g_176_22, g_176_23, g_176_173, g_176_175, ari_aa, ari_al, ari_la, ari_mm, ari_ml, ari_lm, ari_ltl, ari_llt, ari_lt, ari_le, ari_lel, ari_lle, ari_0, ari_eq, ari_eql, ari_leq, ari_cl, Nat.not_lt_zero, Bool.false_eq_true, Option.toList_some, Option.toList_none, List.cons_append, List.nil_append, kv_rv, kc1_i, kc1_r, kc1_n, n10, n01, n1514, n1213, n1312, if_true, if_false, not_true_eq_false, not_false_eq_true, and_self, true_and, and_true, false_and, and_false, or_true, true_or, or_false, false_or, Nat.reduceLeDiff, Nat.reduceLT, Nat.reduceEqDiff, Nat.reduceAdd, s_149 js, s_168 js, r_149_27 js, e5, pow_w w hn.2.1, (show k < 8 by omega), (show k < 2147483648 by omega), (show 2 ^ w < 257 by omega), (show 2 ^ w < 2147483648 by omega), (show 2 ^ w ≤ 2 ^ w by omega)]
    exact H τ fr
  | m + 1, row, e, τ, fr, v6, v7, v8 => by
    have hW := pw8 hn.2.1
    have hG := hn.2.2.1
    have js := fr.js h
    have e5 : kv_i τ 168 k = Int32.ofNat w := by rw [fr.i (by omega)]; exact hn.2.2.2.2.1
    have hn2 : JN1' τ k w G := hn.fr fr hk hpP
    simp only [g_176_13, g_176_15, g_176_16, g_176_17, g_176_20, g_176_21, g_176_22, g_176_23, ari_aa, ari_al, ari_la, ari_mm, ari_ml, ari_lm, ari_ltl, ari_llt, ari_lt, ari_le, ari_lel, ari_lle, ari_0, ari_eq, ari_eql, ari_leq, ari_cl, Nat.not_lt_zero, Bool.false_eq_true, Option.toList_some, Option.toList_none, List.cons_append, List.nil_append, kv_rv, kc1_i, kc1_r, kc1_n, n10, n01, n1514, n1213, n1312, if_true, if_false, not_true_eq_false, not_false_eq_true, and_self, true_and, and_true, false_and, and_false, or_true, true_or, or_false, false_or, Nat.reduceLeDiff, Nat.reduceLT, Nat.reduceEqDiff, Nat.reduceAdd, s_149 js, s_168 js, r_149_27 js, e5, pow_w w hn.2.1, (show k < 8 by omega), (show k < 2147483648 by omega), (show row < 257 by omega), (show row < 2147483648 by omega), (show 2 ^ w < 257 by omega), (show 2 ^ w < 2147483648 by omega), (show ¬ 2 ^ w ≤ row by omega)]
    simp only [g_176_26, g_176_27, g_176_28, g_176_30, g_176_31, kv_w8_0, kv_w8_1, kv_w8_2, kv_w8_3, kv_w8_4, Nat.not_lt_zero, Bool.false_eq_true, Option.toList_some, Option.toList_none, List.cons_append, List.nil_append, kv_rv, kc1_i, kc1_r, kc1_n, n10, n01, n1514, n1213, n1312, if_true, if_false, not_true_eq_false, not_false_eq_true, and_self, true_and, and_true, false_and, and_false, or_true, true_or, or_false, false_or, Nat.reduceLeDiff, Nat.reduceLT, Nat.reduceEqDiff, Nat.reduceAdd, s_149 js]
    refine m_work js hk hn2 (by omega) (tt_none hG) (fun υ fr2 hv => ?_)
    have fr2' : FR (fun b _ => b = 181 ∨ b = 182) τ υ := fr2.mono (fun b j q => Or.inl q)
    have fr3 := fr.tr fr2'
    have js2 := fr3.js h
    have v := hn.xy g hg
    have ex : kv_i υ 171 (40 * k + g) = kv_i σ0 (103 + 6 * k) g := by rw [fr3.i (by omega)]; exact (hn.mx g hg).1
    have ey : kv_i υ 172 (40 * k + g) = kv_i σ0 (104 + 6 * k) g := by rw [fr3.i (by omega)]; exact (hn.mx g hg).2
    have hv' : ∀ g', g' < G → kv_i υ 181 g' = bI (vl σ0 k G 1000 row g') := fun g' hg' => by rw [hv g' hg', vl_fr fr hk hpP]
    have hb4 := nvb_4 (vo σ0 k G 1000 row (kv_i σ0 (103 + 6 * k) g)) (vo σ0 k G 1000 row (kv_i σ0 (104 + 6 * k) g))
    have evx : bI (nvo (vl σ0 k G 1000 row) row (kv_i σ0 (103 + 6 * k) g)) = bI (vo σ0 k G 1000 row (kv_i σ0 (103 + 6 * k) g)) := rfl
    have evy : bI (nvo (vl σ0 k G 1000 row) row (kv_i σ0 (104 + 6 * k) g)) = bI (vo σ0 k G 1000 row (kv_i σ0 (104 + 6 * k) g)) := rfl
    simp only [g_176_34, g_176_35, g_176_36, g_176_39, g_176_40, g_176_41, g_176_43, g_176_46, g_176_47, g_176_48, g_176_49, g_176_52, g_176_53, g_176_54, g_176_56, g_176_59, g_176_60, g_176_61, g_176_63, g_176_64, g_176_65, g_176_67, kv_w8_0, kv_w8_1, kv_w8_2, kv_w8_3, kv_w8_4, ari_aa, ari_al, ari_la, ari_mm, ari_ml, ari_lm, ari_ltl, ari_llt, ari_lt, ari_le, ari_lel, ari_lle, ari_0, ari_eq, ari_eql, ari_leq, ari_cl, Nat.not_lt_zero, Bool.false_eq_true, Option.toList_some, Option.toList_none, List.cons_append, List.nil_append, kv_rv, kc1_i, kc1_r, kc1_n, n10, n01, n1514, n1213, n1312, if_true, if_false, not_true_eq_false, not_false_eq_true, and_self, true_and, and_true, false_and, and_false, or_true, true_or, or_false, false_or, Nat.reduceLeDiff, Nat.reduceLT, Nat.reduceEqDiff, Nat.reduceAdd, m_valueOf js2 hn.2.1 hG (show row < 256 by omega) hv' (v.1.mono (Nat.le_of_lt hg)), m_valueOf js2 hn.2.1 hG (show row < 256 by omega) hv' (v.2.mono (Nat.le_of_lt hg)), evx, evy, bI_b, ex, ey, s_149 js2, s_171 js2, r_149_30 js2, s_172 js2, r_149_31 js2, (show 40 * k + g < 320 by omega), (show 40 * k + g < 2147483648 by omega)]
    have hn3 : JN1' υ k w G := hn.fr fr3 hk hpP
    refine m_outs (t := 1000) js2 hk hn3 (show row < 256 by omega) (fun g' hg' => by rw [hv' g' hg', vl_fr fr3 hk hpP]) (fun ξ fr4 ho => ?_)
    have fr4' : FR (fun b _ => b = 181 ∨ b = 182) υ ξ := fr4.mono (fun b j q => Or.inr q)
    have fr5 := fr3.tr fr4'
    have js5 := fr5.js h
    have hn5 : JN1' ξ k w G := hn.fr fr5 hk hpP
    simp only [g_176_70, g_176_71, g_176_72, g_176_74, g_176_75, kv_w8_0, kv_w8_1, kv_w8_2, kv_w8_3, kv_w8_4, Nat.not_lt_zero, Bool.false_eq_true, Option.toList_some, Option.toList_none, List.cons_append, List.nil_append, kv_rv, kc1_i, kc1_r, kc1_n, n10, n01, n1514, n1213, n1312, if_true, if_false, not_true_eq_false, not_false_eq_true, and_self, true_and, and_true, false_and, and_false, or_true, true_or, or_false, false_or, Nat.reduceLeDiff, Nat.reduceLT, Nat.reduceEqDiff, Nat.reduceAdd, s_149 js5]
    refine m_work js5 hk hn5 (show row < 256 by omega) (tt_some hG (show g < 40 by omega)) (fun ζ fr6 hv2 => ?_)
    have fr7 := fr5.tr (fr6.mono (Q := fun b _ => b = 181 ∨ b = 182) (fun b j q => Or.inl q))
    simp only [g_176_78, g_176_79, g_176_81, g_176_82, Nat.not_lt_zero, Bool.false_eq_true, Option.toList_some, Option.toList_none, List.cons_append, List.nil_append, kv_rv, kc1_i, kc1_r, kc1_n, n10, n01, n1514, n1213, n1312, if_true, if_false, not_true_eq_false, not_false_eq_true, and_self, true_and, and_true, false_and, and_false, or_true, true_or, or_false, false_or, Nat.reduceLeDiff, Nat.reduceLT, Nat.reduceEqDiff, Nat.reduceAdd]
    refine caredm_in h hk hn (show row < 256 by omega) fr7 (fun g' hg' => by rw [hv2 g' hg', vl_fr fr5 hk hpP]) (fun i hi => by rw [fr6.i (by omega), ho i hi, fo_fr fr3 hk hpP]) ?_ 6 0 (by omega)
    have nxt := caredm_out h hk hg hn H m (row + 1) (by omega) ζ fr7 (.int (Int32.ofNat (nvb (vo σ0 k G 1000 row (kv_i σ0 (103 + 6 * k) g)) (vo σ0 k G 1000 row (kv_i σ0 (104 + 6 * k) g))))) (.int (bI (CP σ0 k G g 6 row))) (.int (Int32.ofNat 6))
    by_cases c : CP σ0 k G g 6 row = true
    · rw [c] at nxt ⊢
      simp only [g_176_149, g_176_151, g_176_153, g_176_156, g_176_157, g_176_159, g_176_160, g_176_163, g_176_164, g_176_165, g_176_167, g_176_170, ari_aa, ari_al, ari_la, ari_mm, ari_ml, ari_lm, ari_ltl, ari_llt, ari_lt, ari_le, ari_lel, ari_lle, ari_0, ari_eq, ari_eql, ari_leq, ari_cl, Nat.not_lt_zero, Bool.false_eq_true, Option.toList_some, Option.toList_none, List.cons_append, List.nil_append, kv_rv, kc1_i, kc1_r, kc1_n, n10, n01, n1514, n1213, n1312, if_true, if_false, not_true_eq_false, not_false_eq_true, and_self, true_and, and_true, false_and, and_false, or_true, true_or, or_false, false_or, Nat.reduceLeDiff, Nat.reduceLT, Nat.reduceEqDiff, Nat.reduceAdd, ari_31, ari_1shl, bI, (show nvb (vo σ0 k G 1000 row (kv_i σ0 (103 + 6 * k) g)) (vo σ0 k G 1000 row (kv_i σ0 (104 + 6 * k) g)) < 31 by omega), (show nvb (vo σ0 k G 1000 row (kv_i σ0 (103 + 6 * k) g)) (vo σ0 k G 1000 row (kv_i σ0 (104 + 6 * k) g)) < 2147483648 by omega), (show nvb (vo σ0 k G 1000 row (kv_i σ0 (103 + 6 * k) g)) (vo σ0 k G 1000 row (kv_i σ0 (104 + 6 * k) g)) < 32 by omega), (show nvb (vo σ0 k G 1000 row (kv_i σ0 (103 + 6 * k) g)) (vo σ0 k G 1000 row (kv_i σ0 (104 + 6 * k) g)) < 2147483648 by omega)]
      rw [q4_bit _ hb4, q4_or]
      have e7 : (q4 fun b => anyN (fun row => CP σ0 k G g 6 row && nvb (vo σ0 k G 1000 row (kv_i σ0 (103 + 6 * k) g)) (vo σ0 k G 1000 row (kv_i σ0 (104 + 6 * k) g)) == b) (row + 1)) = (q4 fun b => anyN (fun row => CP σ0 k G g 6 row && nvb (vo σ0 k G 1000 row (kv_i σ0 (103 + 6 * k) g)) (vo σ0 k G 1000 row (kv_i σ0 (104 + 6 * k) g)) == b) row || nvb (vo σ0 k G 1000 row (kv_i σ0 (103 + 6 * k) g)) (vo σ0 k G 1000 row (kv_i σ0 (104 + 6 * k) g)) == b) := by
        refine q4_congr (fun b hb => ?_)
        show (_ || (CP σ0 k G g 6 row && _)) = _
        rw [c]; rfl
      rw [e7] at nxt
      exact nxt
    · rw [Bool.eq_false_iff.mpr c] at nxt ⊢
      simp only [g_176_149, g_176_151, g_176_153, g_176_156, g_176_157, g_176_159, g_176_160, g_176_163, g_176_164, g_176_165, g_176_167, g_176_170, ari_aa, ari_al, ari_la, ari_mm, ari_ml, ari_lm, ari_ltl, ari_llt, ari_lt, ari_le, ari_lel, ari_lle, ari_0, ari_eq, ari_eql, ari_leq, ari_cl, Nat.not_lt_zero, Bool.false_eq_true, Option.toList_some, Option.toList_none, List.cons_append, List.nil_append, kv_rv, kc1_i, kc1_r, kc1_n, n10, n01, n1514, n1213, n1312, if_true, if_false, not_true_eq_false, not_false_eq_true, and_self, true_and, and_true, false_and, and_false, or_true, true_or, or_false, false_or, Nat.reduceLeDiff, Nat.reduceLT, Nat.reduceEqDiff, Nat.reduceAdd, bI]
      have e7 : (q4 fun b => anyN (fun row => CP σ0 k G g 6 row && nvb (vo σ0 k G 1000 row (kv_i σ0 (103 + 6 * k) g)) (vo σ0 k G 1000 row (kv_i σ0 (104 + 6 * k) g)) == b) (row + 1)) = (q4 fun b => anyN (fun row => CP σ0 k G g 6 row && nvb (vo σ0 k G 1000 row (kv_i σ0 (103 + 6 * k) g)) (vo σ0 k G 1000 row (kv_i σ0 (104 + 6 * k) g)) == b) row) := by
        refine q4_congr (fun b hb => ?_)
        show (_ || (CP σ0 k G g 6 row && _)) = _
        rw [Bool.eq_false_iff.mpr c, Bool.false_and, Bool.or_false]
      rw [e7] at nxt
      rw [show ∀ x : Nat, Int32.ofNat x ||| 0 = Int32.ofNat x from fun x => Int32.or_zero]
      exact nxt
end CA
theorem okv.fr {P : Nat → Nat → Prop} {σ τ υ : kv_S} (h : FR P σ τ) {k G V j : Nat} {x : Int32} (hk : k < 8) (hp : ∀ b j, P b j → ¬ cN b j) (H : okv σ k G V υ j x) : okv τ k G V υ j x := fun r hr => by rw [vo_fr h hk hp]; exact H r hr
theorem woJ.vld {σ τ : kv_S} {k w G : Nat} (hk : k < 8) (hw : woJ σ k w G 26 (nwc w) τ) : vld τ k w G := ⟨hw.2.1, fun x hx j hj => (hw.2.2 x hx j hj).fr hw.1 hk (fun b i q => by unfold cN; omega)⟩
theorem crd_fr {P : Nat → Nat → Prop} {σ τ : kv_S} (h : FR P σ τ) {k : Nat} (hk : k < 8) (hp : ∀ b j, P b j → ¬ cN b j) (G g w : Nat) : crd τ k G g w = crd σ k G g w := by
  have c : ∀ b j, cN b j → kv_i τ b j = kv_i σ b j := fun b j q => h.i (fun q2 => hp b j q2 q)
  unfold cN at c
  unfold crd CP
  refine q4_congr (fun b hb => anyN_congr _ (fun row hr => ?_))
  rw [c (103 + 6 * k) g (by omega), c (104 + 6 * k) g (by omega), vo_fr h hk hp, vo_fr h hk hp]
  congr 1
  refine anyN_congr _ (fun i hi => ?_)
  rw [c (106 + 6 * k) i (by omega), vo_fr h hk hp, vo_fr h hk hp]
/-- promise 26: cared -/
theorem o_24 (d : Nat) : ob_24 JJ (d + 4) := by
  intro σ h p q
  have h' := h
  obtain ⟨a1, a2, a3, a4, ⟨K, hK, k1, k2, k3⟩, a6, a7⟩ := h'
  by_cases hc : (¬ p < 0 ∧ p < Int32.ofNat K) ∧ (¬ q < 0 ∧ q < kv_i σ (101 + 6 * p.toNatClampNeg) 6)
  · obtain ⟨hp, hq⟩ := hc
    obtain ⟨k, hk, rfl, ec⟩ := i32_nat (by omega) hp.1 hp.2
    obtain ⟨w, G, hn⟩ := k3 k hk
    have hn : JN1' σ k w G := hn
    have hk8 : k < 8 := by omega
    have hG := hn.2.2.1
    rw [ec, hn.2.2.2.2.2.1] at hq
    obtain ⟨g, hg, rfl, eg⟩ := i32_nat (n := G) (by omega) hq.1 hq.2
    simp only [c_98, g_98_0, g_98_1, g_98_2, g_98_3, g_98_6, g_98_9, g_98_10, g_98_11, g_98_12, g_98_15, g_98_16, g_98_19, g_98_20, g_98_21, kv_w8_0, kv_w8_1, kv_w8_2, kv_w8_3, kv_w8_4, ari_aa, ari_al, ari_la, ari_mm, ari_ml, ari_lm, ari_ltl, ari_llt, ari_lt, ari_le, ari_lel, ari_lle, ari_0, ari_eq, ari_eql, ari_leq, ari_cl, Nat.not_lt_zero, Bool.false_eq_true, Option.toList_some, Option.toList_none, List.cons_append, List.nil_append, kv_rv, kc1_i, kc1_r, kc1_n, n10, n01, n1514, n1213, n1312, if_true, if_false, not_true_eq_false, not_false_eq_true, and_self, true_and, and_true, false_and, and_false, or_true, true_or, or_false, false_or, Nat.reduceLeDiff, Nat.reduceLT, Nat.reduceEqDiff, Nat.reduceAdd, m_isGate_c a1 K hK k1, ec, hn.2.2.2.2.2.1, nN a1 hk8, qN a1 hk8, s_8 a1, s_10 a1, r_8_1 a1, s_26 a1, r_8_5 a1, (show k < 8 by omega), (show k < 2147483648 by omega), (show k < K by omega), (show k < 2147483648 by omega), (show K < 9 by omega), (show K < 2147483648 by omega), (show g < G by omega), (show g < 2147483648 by omega), (show g < 40 by omega), (show g < 2147483648 by omega), (show G < 41 by omega), (show G < 2147483648 by omega)]
    refine m_workOut a1 a2 hk8 (Or.inl rfl) hn (fun τ hw => ?_)
    have js := hw.1.js a1
    have fsc : FR SC σ τ := hw.1.sc (fun b j q => by unfold SC kv_ess; omega)
    have hn2 : JN1' τ k w G := hn.fr fsc hk8 sc_cN
    have hv := hw.vld hk8
    simp only [g_98_24, g_98_25, g_98_28, g_98_29, g_98_32, g_98_33, g_98_34, g_98_35, g_98_38, g_98_39, kv_w8_0, kv_w8_1, kv_w8_2, kv_w8_3, kv_w8_4, ari_aa, ari_al, ari_la, ari_mm, ari_ml, ari_lm, ari_ltl, ari_llt, ari_lt, ari_le, ari_lel, ari_lle, ari_0, ari_eq, ari_eql, ari_leq, ari_cl, Nat.not_lt_zero, Bool.false_eq_true, Option.toList_some, Option.toList_none, List.cons_append, List.nil_append, kv_rv, kc1_i, kc1_r, kc1_n, n10, n01, n1514, n1213, n1312, if_true, if_false, not_true_eq_false, not_false_eq_true, and_self, true_and, and_true, false_and, and_false, or_true, true_or, or_false, false_or, Nat.reduceLeDiff, Nat.reduceLT, Nat.reduceEqDiff, Nat.reduceAdd, nN js hk8, qN js hk8, s_8 js, s_10 js, r_8_1 js, s_26 js, r_8_5 js, s_30 js, r_8_7 js, (show k < 8 by omega), (show k < 2147483648 by omega)]
    refine m_turn js hk8 hn2 hv hg (fun υ hI => ?_)
    have js2 := hI.1.js js
    have fsc2 : FR SC τ υ := hI.1.sc (fun b j q => by unfold SC kv_ess; omega)
    have fsc3 := fsc.tr fsc2
    simp only [g_98_42, g_98_43, g_98_46, g_98_47, g_98_50, g_98_51, g_98_52, g_98_53, g_98_56, g_98_57, kv_w8_0, kv_w8_1, kv_w8_2, kv_w8_3, kv_w8_4, ari_aa, ari_al, ari_la, ari_mm, ari_ml, ari_lm, ari_ltl, ari_llt, ari_lt, ari_le, ari_lel, ari_lle, ari_0, ari_eq, ari_eql, ari_leq, ari_cl, Nat.not_lt_zero, Bool.false_eq_true, Option.toList_some, Option.toList_none, List.cons_append, List.nil_append, kv_rv, kc1_i, kc1_r, kc1_n, n10, n01, n1514, n1213, n1312, if_true, if_false, not_true_eq_false, not_false_eq_true, and_self, true_and, and_true, false_and, and_false, or_true, true_or, or_false, false_or, Nat.reduceLeDiff, Nat.reduceLT, Nat.reduceEqDiff, Nat.reduceAdd, nN js2 hk8, qN js2 hk8, s_8 js2, s_10 js2, r_8_1 js2, s_26 js2, r_8_5 js2, s_30 js2, r_8_7 js2, (show k < 8 by omega), (show k < 2147483648 by omega)]
    refine m_caredFor js hk8 hg hn2 hv hI ?_
    simp only [g_98_60, Nat.not_lt_zero, Bool.false_eq_true, Option.toList_some, Option.toList_none, List.cons_append, List.nil_append, kv_rv, kc1_i, kc1_r, kc1_n, n10, n01, n1514, n1213, n1312, if_true, if_false, not_true_eq_false, not_false_eq_true, and_self, true_and, and_true, false_and, and_false, or_true, true_or, or_false, false_or, Nat.reduceLeDiff, Nat.reduceLT, Nat.reduceEqDiff, Nat.reduceAdd]
    refine ⟨_, rfl, ?_⟩
    have hn3 : JN1' υ k w G := hn.fr fsc3 hk8 sc_cN
    have g1 : kv_i υ 149 26 = Int32.ofNat K := by rw [fsc3.ess (by unfold kv_ess; omega)]; exact k2
    simp only [c_175, g_175_0, g_175_1, g_175_2, g_175_3, g_175_6, g_175_9, g_175_10, g_175_11, g_175_12, kv_w8_0, kv_w8_1, kv_w8_2, kv_w8_3, kv_w8_4, ari_aa, ari_al, ari_la, ari_mm, ari_ml, ari_lm, ari_ltl, ari_llt, ari_lt, ari_le, ari_lel, ari_lle, ari_0, ari_eq, ari_eql, ari_leq, ari_cl, Nat.not_lt_zero, Bool.false_eq_true, Option.toList_some, Option.toList_none, List.cons_append, List.nil_append, kv_rv, kc1_i, kc1_r, kc1_n, n10, n01, n1514, n1213, n1312, if_true, if_false, not_true_eq_false, not_false_eq_true, and_self, true_and, and_true, false_and, and_false, or_true, true_or, or_false, false_or, Nat.reduceLeDiff, Nat.reduceLT, Nat.reduceEqDiff, Nat.reduceAdd, m_isGate_m js2 K hK g1, ec, hn3.2.2.2.2.2.2.1, s_149 js2, (show k < 8 by omega), (show k < 2147483648 by omega), (show k < K by omega), (show k < 2147483648 by omega), (show K < 9 by omega), (show K < 2147483648 by omega), (show g < G by omega), (show g < 2147483648 by omega), (show g < 40 by omega), (show g < 2147483648 by omega), (show G < 41 by omega), (show G < 2147483648 by omega)]
    simp only [c_176, g_176_0, g_176_2, g_176_3, g_176_4, g_176_5, g_176_6, g_176_7, g_176_8, g_176_10, g_176_11, ari_aa, ari_al, ari_la, ari_mm, ari_ml, ari_lm, ari_ltl, ari_llt, ari_lt, ari_le, ari_lel, ari_lle, ari_0, ari_eq, ari_eql, ari_leq, ari_cl, Nat.not_lt_zero, Bool.false_eq_true, Option.toList_some, Option.toList_none, List.cons_append, List.nil_append, kv_rv, kc1_i, kc1_r, kc1_n, n10, n01, n1514, n1213, n1312, if_true, if_false, not_true_eq_false, not_false_eq_true, and_self, true_and, and_true, false_and, and_false, or_true, true_or, or_false, false_or, Nat.reduceLeDiff, Nat.reduceLT, Nat.reduceEqDiff, Nat.reduceAdd]
    refine caredm_out js2 hk8 hg hn3 (fun ω fr2 => ?_) (2 ^ w) 0 (by omega) υ (FR.rf _ υ) _ _ _
    simp only [g_175_15, g_175_18, g_175_19, Nat.not_lt_zero, Bool.false_eq_true, Option.toList_some, Option.toList_none, List.cons_append, List.nil_append, kv_rv, kc1_i, kc1_r, kc1_n, n10, n01, n1514, n1213, n1312, if_true, if_false, not_true_eq_false, not_false_eq_true, and_self, true_and, and_true, false_and, and_false, or_true, true_or, or_false, false_or, Nat.reduceLeDiff, Nat.reduceLT, Nat.reduceEqDiff, Nat.reduceAdd]
    refine ⟨?_, JJ.fr (fsc3.tr (fr2.sc sc_rows)) h⟩
    rw [crd_fr fsc2 hk8 sc_cN]
  · simp only [c_98, g_98_0, g_98_1, g_98_2, g_98_3, g_98_6, g_98_9, g_98_10, kv_w8_0, kv_w8_1, kv_w8_2, kv_w8_3, kv_w8_4, Nat.not_lt_zero, Bool.false_eq_true, Option.toList_some, Option.toList_none, List.cons_append, List.nil_append, kv_rv, kc1_i, kc1_r, kc1_n, n10, n01, n1514, n1213, n1312, if_true, if_false, not_true_eq_false, not_false_eq_true, and_self, true_and, and_true, false_and, and_false, or_true, true_or, or_false, false_or, Nat.reduceLeDiff, Nat.reduceLT, Nat.reduceEqDiff, Nat.reduceAdd, m_isGate_c a1 K hK k1, hc, s_8 a1]
    refine ⟨_, rfl, ?_⟩
    have hc2 : ¬ ((¬ p < 0 ∧ p < Int32.ofNat K) ∧ (¬ q < 0 ∧ q < kv_i σ 169 p.toNatClampNeg)) := by
      intro w
      obtain ⟨k, hk, rfl, ec⟩ := i32_nat (by omega) w.1.1 w.1.2
      obtain ⟨w', G, hn⟩ := k3 k hk
      have hn : JN1' σ k w' G := hn
      refine hc ⟨w.1, w.2.1, ?_⟩
      have := w.2.2
      rw [ec, hn.2.2.2.2.2.2.1] at this
      rw [ec, hn.2.2.2.2.2.1]
      exact this
    simp only [c_175, g_175_0, g_175_1, g_175_2, g_175_3, g_175_6, g_175_9, g_175_10, g_175_11, g_175_12, g_175_15, g_175_18, g_175_19, kv_w8_0, kv_w8_1, kv_w8_2, kv_w8_3, kv_w8_4, Nat.not_lt_zero, Bool.false_eq_true, Option.toList_some, Option.toList_none, List.cons_append, List.nil_append, kv_rv, kc1_i, kc1_r, kc1_n, n10, n01, n1514, n1213, n1312, if_true, if_false, not_true_eq_false, not_false_eq_true, and_self, true_and, and_true, false_and, and_false, or_true, true_or, or_false, false_or, Nat.reduceLeDiff, Nat.reduceLT, Nat.reduceEqDiff, Nat.reduceAdd, m_isGate_m a1 K hK k2, hc2, s_149 a1]
    exact h

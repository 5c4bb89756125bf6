/-! ===== sets of operands; told ===== -/
section TL
variable {d : Nat} {σ : kv_S} {Φ : Option Value → kv_S → Prop}
theorem m_bitOf (x : Int32) : Wc d 87 [.int x] σ Φ = Φ (some (.long (lbo x))) σ := by simp only [c_87, g_87_0, g_87_1, g_87_2, g_87_4, g_87_5, g_87_6, lbo]
theorem m_has (s : Int64) {x : Int32} {n : Nat} (hn : x - -2 = Int32.ofNat n) (h : n < 64) : Wc d 88 [.long s, .int x] σ Φ = Φ (some (.int (if lb s n = true then 1 else 0))) σ := by
  by_cases c : lb s n = true
  · simp only [c_88, g_88_0, g_88_1, g_88_2, g_88_4, g_88_5, g_88_6, g_88_7, g_88_8, g_88_9, g_88_10, g_88_13, g_88_14, g_88_17, g_88_18, hn, lsh_k n h, lb_bit s h, c, lg_cmp_eq, (show ¬ (1 : Int64) = 0 by decide), Nat.not_lt_zero, Bool.false_eq_true, Option.toList_some, Option.toList_none, List.cons_append, List.nil_append, kv_rv, kc1_i, kc1_r, kc1_n, n10, n01, n1514, n1213, n1312, if_true, if_false, not_true_eq_false, not_false_eq_true, and_self, true_and, and_true, false_and, and_false, or_true, true_or, or_false, false_or, Nat.reduceLeDiff, Nat.reduceLT, Nat.reduceEqDiff, Nat.reduceAdd]
  · simp only [c_88, g_88_0, g_88_1, g_88_2, g_88_4, g_88_5, g_88_6, g_88_7, g_88_8, g_88_9, g_88_10, g_88_13, g_88_14, g_88_17, g_88_18, hn, lsh_k n h, lb_bit s h, c, lg_cmp_eq, Nat.not_lt_zero, Bool.false_eq_true, Option.toList_some, Option.toList_none, List.cons_append, List.nil_append, kv_rv, kc1_i, kc1_r, kc1_n, n10, n01, n1514, n1213, n1312, if_true, if_false, not_true_eq_false, not_false_eq_true, and_self, true_and, and_true, false_and, and_false, or_true, true_or, or_false, false_or, Nat.reduceLeDiff, Nat.reduceLT, Nat.reduceEqDiff, Nat.reduceAdd]
theorem outOps_loop (h : JS σ) {k w G : Nat} (hk : k < 8) (hw : w ≤ 8) (hG : G ≤ 40) (ho : ∀ i, i < 6 → kv_i σ (106 + 6 * k) i = -3 ∨ vO w G (kv_i σ (106 + 6 * k) i)) (H : ∀ s, (∀ n, n < 64 → (lb s n = true ↔ ∃ i, i < 6 ∧ ¬ kv_i σ (106 + 6 * k) i = -3 ∧ onn (kv_i σ (106 + 6 * k) i) = n)) → Φ (some (.long s)) σ) : ∀ m j s, j + m = 6 → (∀ n, n < 64 → (lb s n = true ↔ ∃ i, i < j ∧ ¬ kv_i σ (106 + 6 * k) i = -3 ∧ onn (kv_i σ (106 + 6 * k) i) = n)) → Wp (d + 1) 86 4 [.ref (101 + 6 * k), .long s, .null, .int (Int32.ofNat j)] [] σ Φ
  | 0, j, s, e, hs => by
    have : j = 6 := by omega
    subst this
    simp only [g_86_4, g_86_5, g_86_7, g_86_39, g_86_40, ari_aa, ari_al, ari_la, ari_mm, ari_ml, ari_lm, ari_ltl, ari_llt, ari_lt, ari_le, ari_lel, ari_lle, ari_0, ari_eq, ari_eql, ari_leq, ari_cl, Nat.not_lt_zero, Bool.false_eq_true, Option.toList_some, Option.toList_none, List.cons_append, List.nil_append, kv_rv, kc1_i, kc1_r, kc1_n, n10, n01, n1514, n1213, n1312, if_true, if_false, not_true_eq_false, not_false_eq_true, and_self, true_and, and_true, false_and, and_false, or_true, true_or, or_false, false_or, Nat.reduceLeDiff, Nat.reduceLT, Nat.reduceEqDiff, Nat.reduceAdd]
    exact H s hs
  | m + 1, j, s, e, hs => by
    simp only [g_86_4, g_86_5, g_86_7, ari_aa, ari_al, ari_la, ari_mm, ari_ml, ari_lm, ari_ltl, ari_llt, ari_lt, ari_le, ari_lel, ari_lle, ari_0, ari_eq, ari_eql, ari_leq, ari_cl, Nat.not_lt_zero, Bool.false_eq_true, Option.toList_some, Option.toList_none, List.cons_append, List.nil_append, kv_rv, kc1_i, kc1_r, kc1_n, n10, n01, n1514, n1213, n1312, if_true, if_false, not_true_eq_false, not_false_eq_true, and_self, true_and, and_true, false_and, and_false, or_true, true_or, or_false, false_or, Nat.reduceLeDiff, Nat.reduceLT, Nat.reduceEqDiff, Nat.reduceAdd, (show j < 6 by omega), (show j < 2147483648 by omega), (show ¬ 6 ≤ j by omega)]
    by_cases c : kv_i σ (106 + 6 * k) j = -3
    · simp only [g_86_10, g_86_11, g_86_14, g_86_15, g_86_16, g_86_18, g_86_21, g_86_22, g_86_23, g_86_26, g_86_27, g_86_28, g_86_31, g_86_32, g_86_33, g_86_36, ari_aa, ari_al, ari_la, ari_mm, ari_ml, ari_lm, ari_ltl, ari_llt, ari_lt, ari_le, ari_lel, ari_lle, ari_0, ari_eq, ari_eql, ari_leq, ari_cl, Nat.not_lt_zero, Bool.false_eq_true, Option.toList_some, Option.toList_none, List.cons_append, List.nil_append, kv_rv, kc1_i, kc1_r, kc1_n, n10, n01, n1514, n1213, n1312, if_true, if_false, not_true_eq_false, not_false_eq_true, and_self, true_and, and_true, false_and, and_false, or_true, true_or, or_false, false_or, Nat.reduceLeDiff, Nat.reduceLT, Nat.reduceEqDiff, Nat.reduceAdd, nN h hk, nO h hk, qO h hk, c, (show j < 6 by omega), (show j < 2147483648 by omega)]
      refine outOps_loop h hk hw hG ho H m (j + 1) s (by omega) (fun n hn => ?_)
      rw [hs n hn, ex_succ]
      exact ⟨Or.inl, fun q => q.resolve_right (fun q => q.1 c)⟩
    · have hv := (ho j (by omega)).resolve_left c
      simp only [g_86_10, g_86_11, g_86_14, g_86_15, g_86_16, g_86_18, g_86_21, g_86_22, g_86_23, g_86_26, g_86_27, g_86_28, g_86_31, g_86_32, g_86_33, g_86_36, kv_w8_0, kv_w8_1, kv_w8_2, kv_w8_3, kv_w8_4, ari_aa, ari_al, ari_la, ari_mm, ari_ml, ari_lm, ari_ltl, ari_llt, ari_lt, ari_le, ari_lel, ari_lle, ari_0, ari_eq, ari_eql, ari_leq, ari_cl, Nat.not_lt_zero, Bool.false_eq_true, Option.toList_some, Option.toList_none, List.cons_append, List.nil_append, kv_rv, kc1_i, kc1_r, kc1_n, n10, n01, n1514, n1213, n1312, if_true, if_false, not_true_eq_false, not_false_eq_true, and_self, true_and, and_true, false_and, and_false, or_true, true_or, or_false, false_or, Nat.reduceLeDiff, Nat.reduceLT, Nat.reduceEqDiff, Nat.reduceAdd, nN h hk, nO h hk, qO h hk, c, m_bitOf, (show j < 6 by omega), (show j < 2147483648 by omega)]
      refine outOps_loop h hk hw hG ho H m (j + 1) _ (by omega) (fun n hn => ?_)
      rw [lb_or, Bool.or_eq_true, hs n hn, ex_succ, lb_lbo (hv.onn hw hG).1 (by have := (hv.onn hw hG).2; omega) hn, decide_eq_true_eq]
      exact or_congr Iff.rfl ⟨fun q => ⟨c, q.symm⟩, fun q => q.2.symm⟩
theorem m_outOps (h : JS σ) {k w G : Nat} (hk : k < 8) (hw : w ≤ 8) (hG : G ≤ 40) (ho : ∀ i, i < 6 → kv_i σ (106 + 6 * k) i = -3 ∨ vO w G (kv_i σ (106 + 6 * k) i)) (H : ∀ s, (∀ n, n < 64 → (lb s n = true ↔ ∃ i, i < 6 ∧ ¬ kv_i σ (106 + 6 * k) i = -3 ∧ onn (kv_i σ (106 + 6 * k) i) = n)) → Φ (some (.long s)) σ) : Wc (d + 1) 86 [.ref (101 + 6 * k)] σ Φ := by
  simp only [c_86, g_86_0, g_86_1, g_86_2, g_86_3, Nat.not_lt_zero, Bool.false_eq_true, Option.toList_some, Option.toList_none, List.cons_append, List.nil_append, kv_rv, kc1_i, kc1_r, kc1_n, n10, n01, n1514, n1213, n1312, if_true, if_false, not_true_eq_false, not_false_eq_true, and_self, true_and, and_true, false_and, and_false, or_true, true_or, or_false, false_or, Nat.reduceLeDiff, Nat.reduceLT, Nat.reduceEqDiff, Nat.reduceAdd]
  exact outOps_loop h hk hw hG ho H 6 0 0 (by omega) (fun n hn => by rw [lb_0]; simp)
theorem readOps_loop (h : JS σ) {k w G : Nat} (hk : k < 8) (hw : w ≤ 8) (hG : G ≤ 40) (e6 : kv_i σ (101 + 6 * k) 6 = Int32.ofNat G) (hx : ∀ g, g < G → vO w g (kv_i σ (103 + 6 * k) g) ∧ vO w g (kv_i σ (104 + 6 * k) g)) (A : Nat → Prop) (H : ∀ s, (∀ n, n < 64 → (lb s n = true ↔ A n ∨ ∃ g, g < G ∧ (onn (kv_i σ (103 + 6 * k) g) = n ∨ onn (kv_i σ (104 + 6 * k) g) = n))) → Φ (some (.long s)) σ) : ∀ m j s, j + m = G → (∀ n, n < 64 → (lb s n = true ↔ A n ∨ ∃ g, g < j ∧ (onn (kv_i σ (103 + 6 * k) g) = n ∨ onn (kv_i σ (104 + 6 * k) g) = n))) → Wp (d + 1) 85 7 [.ref (101 + 6 * k), .long s, .null, .int (Int32.ofNat j)] [] σ Φ
  | 0, j, s, e, hs => by
    have : j = G := by omega
    subst this
    simp only [g_85_7, g_85_8, g_85_9, g_85_12, g_85_43, g_85_44, ari_aa, ari_al, ari_la, ari_mm, ari_ml, ari_lm, ari_ltl, ari_llt, ari_lt, ari_le, ari_lel, ari_lle, ari_0, ari_eq, ari_eql, ari_leq, ari_cl, Nat.not_lt_zero, Bool.false_eq_true, Option.toList_some, Option.toList_none, List.cons_append, List.nil_append, kv_rv, kc1_i, kc1_r, kc1_n, n10, n01, n1514, n1213, n1312, if_true, if_false, not_true_eq_false, not_false_eq_true, and_self, true_and, and_true, false_and, and_false, or_true, true_or, or_false, false_or, Nat.reduceLeDiff, Nat.reduceLT, Nat.reduceEqDiff, Nat.reduceAdd, nN h hk, e6, (show j < 41 by omega), (show j < 2147483648 by omega), (show j ≤ j by omega)]
    exact H s hs
  | m + 1, j, s, e, hs => by
    have hv := hx j (by omega)
    have v1 := hv.1.onn hw (by omega)
    have v2 := hv.2.onn hw (by omega)
    simp only [g_85_7, g_85_8, g_85_9, g_85_12, ari_aa, ari_al, ari_la, ari_mm, ari_ml, ari_lm, ari_ltl, ari_llt, ari_lt, ari_le, ari_lel, ari_lle, ari_0, ari_eq, ari_eql, ari_leq, ari_cl, Nat.not_lt_zero, Bool.false_eq_true, Option.toList_some, Option.toList_none, List.cons_append, List.nil_append, kv_rv, kc1_i, kc1_r, kc1_n, n10, n01, n1514, n1213, n1312, if_true, if_false, not_true_eq_false, not_false_eq_true, and_self, true_and, and_true, false_and, and_false, or_true, true_or, or_false, false_or, Nat.reduceLeDiff, Nat.reduceLT, Nat.reduceEqDiff, Nat.reduceAdd, nN h hk, e6, (show j < 41 by omega), (show j < 2147483648 by omega), (show G < 41 by omega), (show G < 2147483648 by omega), (show ¬ G ≤ j by omega)]
    simp only [g_85_15, g_85_16, g_85_17, g_85_20, g_85_21, g_85_22, g_85_25, g_85_26, g_85_29, g_85_30, g_85_31, g_85_34, g_85_35, g_85_36, g_85_37, g_85_40, kv_w8_0, kv_w8_1, kv_w8_2, kv_w8_3, kv_w8_4, ari_aa, ari_al, ari_la, ari_mm, ari_ml, ari_lm, ari_ltl, ari_llt, ari_lt, ari_le, ari_lel, ari_lle, ari_0, ari_eq, ari_eql, ari_leq, ari_cl, Nat.not_lt_zero, Bool.false_eq_true, Option.toList_some, Option.toList_none, List.cons_append, List.nil_append, kv_rv, kc1_i, kc1_r, kc1_n, n10, n01, n1514, n1213, n1312, if_true, if_false, not_true_eq_false, not_false_eq_true, and_self, true_and, and_true, false_and, and_false, or_true, true_or, or_false, false_or, Nat.reduceLeDiff, Nat.reduceLT, Nat.reduceEqDiff, Nat.reduceAdd, nN h hk, nX h hk, qX h hk, nY h hk, qY h hk, m_bitOf, (show j < 40 by omega), (show j < 2147483648 by omega)]
    refine readOps_loop h hk hw hG e6 hx A H m (j + 1) _ (by omega) (fun n hn => ?_)
    rw [lb_or, lb_or, Bool.or_eq_true, Bool.or_eq_true, hs n hn, ex_succ, lb_lbo v1.1 (by omega) hn, lb_lbo v2.1 (by omega) hn, decide_eq_true_eq, decide_eq_true_eq, or_assoc]
    refine or_congr Iff.rfl (or_congr Iff.rfl (or_congr ⟨Eq.symm, Eq.symm⟩ ⟨Eq.symm, Eq.symm⟩))
theorem m_readOps (h : JS σ) {k w G : Nat} (hk : k < 8) (hw : w ≤ 8) (hG : G ≤ 40) (e6 : kv_i σ (101 + 6 * k) 6 = Int32.ofNat G) (hx : ∀ g, g < G → vO w g (kv_i σ (103 + 6 * k) g) ∧ vO w g (kv_i σ (104 + 6 * k) g)) (ho : ∀ i, i < 6 → kv_i σ (106 + 6 * k) i = -3 ∨ vO w G (kv_i σ (106 + 6 * k) i)) (H : ∀ s, (∀ n, n < 64 → (lb s n = true ↔ (∃ i, i < 6 ∧ ¬ kv_i σ (106 + 6 * k) i = -3 ∧ onn (kv_i σ (106 + 6 * k) i) = n) ∨ ∃ g, g < G ∧ (onn (kv_i σ (103 + 6 * k) g) = n ∨ onn (kv_i σ (104 + 6 * k) g) = n))) → Φ (some (.long s)) σ) : Wc (d + 2) 85 [.ref (101 + 6 * k)] σ Φ := by
  simp only [c_85, g_85_0, g_85_1, kv_w8_0, kv_w8_1, kv_w8_2, kv_w8_3, kv_w8_4, Nat.not_lt_zero, Bool.false_eq_true, Option.toList_some, Option.toList_none, List.cons_append, List.nil_append, kv_rv, kc1_i, kc1_r, kc1_n, n10, n01, n1514, n1213, n1312, if_true, if_false, not_true_eq_false, not_false_eq_true, and_self, true_and, and_true, false_and, and_false, or_true, true_or, or_false, false_or, Nat.reduceLeDiff, Nat.reduceLT, Nat.reduceEqDiff, Nat.reduceAdd, nN h hk]
  refine m_outOps h hk hw hG ho (fun s hs => ?_)
  simp only [g_85_4, g_85_5, g_85_6, Nat.not_lt_zero, Bool.false_eq_true, Option.toList_some, Option.toList_none, List.cons_append, List.nil_append, kv_rv, kc1_i, kc1_r, kc1_n, n10, n01, n1514, n1213, n1312, if_true, if_false, not_true_eq_false, not_false_eq_true, and_self, true_and, and_true, false_and, and_false, or_true, true_or, or_false, false_or, Nat.reduceLeDiff, Nat.reduceLT, Nat.reduceEqDiff, Nat.reduceAdd]
  refine readOps_loop h hk hw hG e6 hx _ H G 0 s (by omega) (fun n hn => ?_)
  rw [hs n hn]
  simp
end TL
/-- gate g is read, in net k of G gates -/
def rdp (σ : kv_S) (k G g : Nat) : Prop := (∃ j, j < G ∧ (kv_i σ (103 + 6 * k) j = Int32.ofNat (8 + g) ∨ kv_i σ (104 + 6 * k) j = Int32.ofNat (8 + g))) ∨ ∃ i, i < 6 ∧ kv_i σ (106 + 6 * k) i = Int32.ofNat (8 + g)
theorem onn_gate {w G : Nat} (hw : w ≤ 8) (hG : G ≤ 40) {x : Int32} (h : vO w G x) {g : Nat} (hg : g < 40) : onn x = 10 + g ↔ x = Int32.ofNat (8 + g) := by
  have e := onn_nat (8 + g)
  have v := h.onn hw hG
  constructor
  · intro q
    rw [q] at v
    exact onn_inj v.1 (e.trans (by rw [show 8 + g + 2 = 10 + g by omega]))
  · rintro rfl
    rw [onn_of e (by omega)]; omega
theorem rdp_iff {σ : kv_S} {k w G g : Nat} (hw : w ≤ 8) (hG : G ≤ 40) (hg : g < 40) (hx : ∀ g, g < G → vO w g (kv_i σ (103 + 6 * k) g) ∧ vO w g (kv_i σ (104 + 6 * k) g)) (ho : ∀ i, i < 6 → kv_i σ (106 + 6 * k) i = -3 ∨ vO w G (kv_i σ (106 + 6 * k) i)) : ((∃ i, i < 6 ∧ ¬ kv_i σ (106 + 6 * k) i = -3 ∧ onn (kv_i σ (106 + 6 * k) i) = 10 + g) ∨ ∃ g1, g1 < G ∧ (onn (kv_i σ (103 + 6 * k) g1) = 10 + g ∨ onn (kv_i σ (104 + 6 * k) g1) = 10 + g)) ↔ rdp σ k G g := by
  unfold rdp
  rw [or_comm]
  refine or_congr (exists_congr fun j => and_congr_right fun hj => or_congr (onn_gate hw (by omega) (hx j hj).1 hg) (onn_gate hw (by omega) (hx j hj).2 hg)) (exists_congr fun i => and_congr_right fun hi => ?_)
  rcases ho i hi with e | e
  · rw [e]
    constructor
    · exact fun q => absurd rfl q.1
    · intro q
      rw [eq_comm, ari_neg (by omega) (by decide) (by decide)] at q
      exact q.elim
  · rw [onn_gate hw hG e hg]
    constructor
    · exact fun q => q.2
    · intro q
      refine ⟨?_, q⟩
      rw [q, ari_neg (by omega) (by decide) (by decide)]
      exact id

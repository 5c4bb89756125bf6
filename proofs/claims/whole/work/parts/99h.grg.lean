/-! ===== graphs: the NODES of a letter, in the class ===== -/
theorem dj_s (t k r : Nat) : dj (k + 1) t r = (dj k t r && !(t.testBit k && r.testBit k)) := by
  unfold dj
  show (!(anyN (fun i => t.testBit i && r.testBit i) k || (t.testBit k && r.testBit k))) = _
  rw [Bool.not_or]
theorem sub_i : ∀ v, v < 64 → ∀ t, t < 64 → (Int32.ofNat v &&& (Int32.ofNat t ^^^ -1) = 0 ↔ v &&& t = v) := by decide +kernel
theorem dc_seen {K : Nat → Int64} {P : Nat → Bool} {τ : kv_S} {v : Nat} (h : ∀ u, u < v → rp K P u = true → kv_l τ 23 (cnt (rp K P) u) = K u) : anyN (fun k => decide (kv_l τ 23 k = K v)) (cnt (rp K P) v) = anyN (fun k => P k && decide (K k = K v)) v := by
  rw [Bool.eq_iff_iff, anyN_iff, anyN_iff]
  constructor
  · rintro ⟨k, h1, h2⟩
    have h2 := of_decide_eq_true h2
    obtain ⟨u, a, b, c⟩ := nth_ex (rp K P) v k h1
    have e := h u a b
    rw [c, h2] at e
    have b2 : (P u && !anyN (fun k => P k && decide (K k = K u)) u) = true := b
    rw [Bool.and_eq_true] at b2
    exact ⟨u, a, by show (P u && decide (K u = K v)) = true; rw [b2.1, decide_eq_true e.symm]; rfl⟩
  · rintro ⟨u, h1, h2⟩
    obtain ⟨i, a, b, c⟩ := first_of (f := fun k => P k && decide (K k = K v)) v ((anyN_iff v).mpr ⟨u, h1, h2⟩)
    have b : (P i && decide (K i = K v)) = true := b
    rw [Bool.and_eq_true, decide_eq_true_eq] at b
    have hr : rp K P i = true := by
      unfold rp
      rw [b.1, Bool.true_and, Bool.not_eq_true']
      refine Bool.eq_false_iff.mpr fun hc => ?_
      obtain ⟨k, q1, q2⟩ := (anyN_iff _).mp hc
      have := c k q1
      rw [← b.2] at this
      rw [this] at q2; cases q2
    exact ⟨cnt (rp K P) i, cnt_lt_of a hr, decide_eq_true ((h i a hr).trans b.2)⟩
section GG
variable {d : Nat} {Φ : Option Value → kv_S → Prop}
theorem no_l1 {τ : kv_S} (hK : JK τ) {t w a : Nat} {z : Int64} {v9 v10 : Value} (ht : t < 64) (hw : w ≤ 6) : ∀ m k, k + m = w → Wp d 70 8 [.ref 22, .long z, .null, .int (Int32.ofNat w), .int (Int32.ofNat t), .int (Int32.ofNat a), .long (lw (dj k t)), .null, .int (Int32.ofNat k), v9, v10, .null] [] τ Φ = Wp d 70 45 [.ref 22, .long z, .null, .int (Int32.ofNat w), .int (Int32.ofNat t), .int (Int32.ofNat a), .long (lw (dj w t)), .null, .int (Int32.ofNat w), v9, v10, .null] [] τ Φ
  | 0, k, e => by
    have e2 : k = w := by omega
    subst e2
    simp only [g_70_8, g_70_10, g_70_11, ari_aa, ari_al, ari_la, ari_mm, ari_ml, ari_lm, ari_ltl, ari_llt, ari_lt, ari_le, ari_lel, ari_lle, ari_0, ari_eq, ari_eql, ari_leq, ari_cl, Nat.not_lt_zero, Bool.false_eq_true, Option.toList_some, Option.toList_none, List.cons_append, List.nil_append, kv_rv, kc1_i, kc1_r, kc1_n, n10, n01, n1514, n1213, n1312, if_true, if_false, not_true_eq_false, not_false_eq_true, and_self, true_and, and_true, false_and, and_false, or_true, true_or, or_false, false_or, Nat.reduceLeDiff, Nat.reduceLT, Nat.reduceEqDiff, Nat.reduceAdd, (show k < 7 by omega), (show k < 2147483648 by omega), (show k ≤ k by omega)]
  | m + 1, k, e => by
    have l0 : kv_l τ 0 k = kv_kL.getD k 0 := hK.2.2.2.2.2.2.1 k
    conv => lhs; simp only [g_70_8, g_70_10, g_70_11, ari_aa, ari_al, ari_la, ari_mm, ari_ml, ari_lm, ari_ltl, ari_llt, ari_lt, ari_le, ari_lel, ari_lle, ari_0, ari_eq, ari_eql, ari_leq, ari_cl, Nat.not_lt_zero, Bool.false_eq_true, Option.toList_some, Option.toList_none, List.cons_append, List.nil_append, kv_rv, kc1_i, kc1_r, kc1_n, n10, n01, n1514, n1213, n1312, if_true, if_false, not_true_eq_false, not_false_eq_true, and_self, true_and, and_true, false_and, and_false, or_true, true_or, or_false, false_or, Nat.reduceLeDiff, Nat.reduceLT, Nat.reduceEqDiff, Nat.reduceAdd, (show k < 7 by omega), (show k < 2147483648 by omega), (show w < 7 by omega), (show w < 2147483648 by omega), (show ¬ w ≤ k by omega)]
    by_cases c : t.testBit k = true
    · have e1 : lw (dj k t) &&& (kv_kL.getD k 0 ^^^ -1) = lw (dj (k + 1) t) := lw_of (fun r hr => by rw [lb_and, lb_lw _ hr, lb_not _ hr, lt_kL k (by omega) r hr, dj_s, c, Bool.true_and])
      simp only [g_70_14, g_70_16, g_70_18, g_70_19, g_70_20, g_70_21, g_70_24, g_70_26, g_70_29, g_70_31, g_70_32, g_70_35, g_70_36, g_70_37, g_70_39, g_70_42, ari_aa, ari_al, ari_la, ari_mm, ari_ml, ari_lm, ari_ltl, ari_llt, ari_lt, ari_le, ari_lel, ari_lle, ari_0, ari_eq, ari_eql, ari_leq, ari_cl, Nat.not_lt_zero, Bool.false_eq_true, Option.toList_some, Option.toList_none, List.cons_append, List.nil_append, kv_rv, kc1_i, kc1_r, kc1_n, n10, n01, n1514, n1213, n1312, if_true, if_false, not_true_eq_false, not_false_eq_true, and_self, true_and, and_true, false_and, and_false, or_true, true_or, or_false, false_or, Nat.reduceLeDiff, Nat.reduceLT, Nat.reduceEqDiff, Nat.reduceAdd, ari_31 (show k < 32 by omega), tsh ht (show k < 7 by omega), c, Bool.toNat_true, hK.1, l0, e1, (show k < 6 by omega), (show k < 2147483648 by omega)]
      exact no_l1 hK ht hw m (k + 1) (by omega)
    · have c : t.testBit k = false := Bool.eq_false_iff.mpr c
      have e1 : lw (dj k t) = lw (dj (k + 1) t) := lw_eq.mpr (fun r hr => by rw [dj_s, c]; simp)
      simp only [g_70_14, g_70_16, g_70_18, g_70_19, g_70_20, g_70_21, g_70_39, g_70_42, ari_aa, ari_al, ari_la, ari_mm, ari_ml, ari_lm, ari_ltl, ari_llt, ari_lt, ari_le, ari_lel, ari_lle, ari_0, ari_eq, ari_eql, ari_leq, ari_cl, Nat.not_lt_zero, Bool.false_eq_true, Option.toList_some, Option.toList_none, List.cons_append, List.nil_append, kv_rv, kc1_i, kc1_r, kc1_n, n10, n01, n1514, n1213, n1312, if_true, if_false, not_true_eq_false, not_false_eq_true, and_self, true_and, and_true, false_and, and_false, or_true, true_or, or_false, false_or, Nat.reduceLeDiff, Nat.reduceLT, Nat.reduceEqDiff, Nat.reduceAdd, ari_31 (show k < 32 by omega), tsh ht (show k < 7 by omega), c, Bool.toNat_false, e1]
      exact no_l1 hK ht hw m (k + 1) (by omega)
end GG

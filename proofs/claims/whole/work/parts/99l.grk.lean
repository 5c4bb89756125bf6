/-! ===== graphs: what remains, in the model ===== -/
theorem spr_s (o : Nat → Nat) (k j : Nat) : spr o k j ||| (j.testBit k).toNat * 2 ^ o k = spr o (k + 1) j := by
  show _ = spr o k j ||| (if j.testBit k = true then 2 ^ o k else 0)
  cases j.testBit k <;> simp
section GK
variable {d : Nat} {σ : kv_S} {Φ : Option Value → kv_S → Prop} {o : Nat → Nat}
theorem re_l1 (js : JS σ) {w k j : Nat} {f : Int32} {v7 v8 v9 v10 : Value} (hw : w ≤ 6) (hk : k ≤ w) (hj : j < 64) (ho : ∀ i, i < w → o i < w) (hO : ∀ i, i < w → kv_i σ 165 i = Int32.ofNat (o i)) : ∀ m i, i + m = k → Wp d 152 14 [.ref 149, .int f, .int (Int32.ofNat k), .int (Int32.ofNat j), .int (Int32.ofNat w), .int (Int32.ofNat (spr o i j)), .int (Int32.ofNat i), v7, v8, v9, v10] [] σ Φ = Wp d 152 45 [.ref 149, .int f, .int (Int32.ofNat k), .int (Int32.ofNat j), .int (Int32.ofNat w), .int (Int32.ofNat (spr o k j)), .int (Int32.ofNat k), v7, v8, v9, v10] [] σ Φ
  | 0, i, e => by
    have e2 : i = k := by omega
    subst e2
    simp only [g_152_14, g_152_16, g_152_17, ari_aa, ari_al, ari_la, ari_mm, ari_ml, ari_lm, ari_ltl, ari_llt, ari_lt, ari_le, ari_lel, ari_lle, ari_0, ari_eq, ari_eql, ari_leq, ari_cl, Nat.not_lt_zero, Bool.false_eq_true, Option.toList_some, Option.toList_none, List.cons_append, List.nil_append, kv_rv, kc1_i, kc1_r, kc1_n, n10, n01, n1514, n1213, n1312, if_true, if_false, not_true_eq_false, not_false_eq_true, and_self, true_and, and_true, false_and, and_false, or_true, true_or, or_false, false_or, Nat.reduceLeDiff, Nat.reduceLT, Nat.reduceEqDiff, Nat.reduceAdd, (show i < 7 by omega), (show i < 2147483648 by omega), (show i ≤ i by omega)]
  | m + 1, i, e => by
    have o1 := ho i (by omega)
    conv => lhs; simp only [g_152_14, g_152_16, g_152_17, ari_aa, ari_al, ari_la, ari_mm, ari_ml, ari_lm, ari_ltl, ari_llt, ari_lt, ari_le, ari_lel, ari_lle, ari_0, ari_eq, ari_eql, ari_leq, ari_cl, Nat.not_lt_zero, Bool.false_eq_true, Option.toList_some, Option.toList_none, List.cons_append, List.nil_append, kv_rv, kc1_i, kc1_r, kc1_n, n10, n01, n1514, n1213, n1312, if_true, if_false, not_true_eq_false, not_false_eq_true, and_self, true_and, and_true, false_and, and_false, or_true, true_or, or_false, false_or, Nat.reduceLeDiff, Nat.reduceLT, Nat.reduceEqDiff, Nat.reduceAdd, (show i < 7 by omega), (show i < 2147483648 by omega), (show k < 7 by omega), (show k < 2147483648 by omega), (show ¬ k ≤ i by omega)]
    simp only [g_152_20, g_152_22, g_152_23, g_152_25, g_152_26, g_152_27, g_152_28, g_152_29, g_152_32, g_152_34, g_152_35, g_152_36, g_152_37, g_152_39, g_152_42, ari_aa, ari_al, ari_la, ari_mm, ari_ml, ari_lm, ari_ltl, ari_llt, ari_lt, ari_le, ari_lel, ari_lle, ari_0, ari_eq, ari_eql, ari_leq, ari_cl, Nat.not_lt_zero, Bool.false_eq_true, Option.toList_some, Option.toList_none, List.cons_append, List.nil_append, kv_rv, kc1_i, kc1_r, kc1_n, n10, n01, n1514, n1213, n1312, if_true, if_false, not_true_eq_false, not_false_eq_true, and_self, true_and, and_true, false_and, and_false, or_true, true_or, or_false, false_or, Nat.reduceLeDiff, Nat.reduceLT, Nat.reduceEqDiff, Nat.reduceAdd, ari_31 (show i < 32 by omega), tsh hj (show i < 7 by omega), hO i (by omega), ari_31 (show o i < 32 by omega), ari_shl _ _ (show o i < 32 by omega), ari_or, spr_s, s_149 js, s_165 js, r_149_23 js, (show i < 8 by omega), (show i < 2147483648 by omega)]
    exact re_l1 js hw hk hj ho hO m (i + 1) (by omega)
theorem re_in (js : JS σ) {w k v row : Nat} {f j : Int32} {r : Int64} (hw : w ≤ 6) (hk : k ≤ w) (hv : v < 64) (ho : ∀ i, i < w → o i < w) (hO : ∀ i, i < w → kv_i σ 165 i = Int32.ofNat (o i)) : ∀ m i, i + m = w - k → Wp d 152 69 [.ref 149, .int f, .int (Int32.ofNat k), .int j, .int (Int32.ofNat w), .int (Int32.ofNat row), .long r, .null, .int (Int32.ofNat v), .int (Int32.ofNat (row ||| spr (fun b => o (k + b)) i v)), .int (Int32.ofNat (k + i))] [] σ Φ = Wp d 152 104 [.ref 149, .int f, .int (Int32.ofNat k), .int j, .int (Int32.ofNat w), .int (Int32.ofNat row), .long r, .null, .int (Int32.ofNat v), .int (Int32.ofNat (row ||| spr (fun b => o (k + b)) (w - k) v)), .int (Int32.ofNat w)] [] σ Φ
  | 0, i, e => by
    have e2 : i = w - k := by omega
    subst e2
    have e3 : k + (w - k) = w := by omega
    simp only [g_152_69, g_152_71, g_152_73, ari_aa, ari_al, ari_la, ari_mm, ari_ml, ari_lm, ari_ltl, ari_llt, ari_lt, ari_le, ari_lel, ari_lle, ari_0, ari_eq, ari_eql, ari_leq, ari_cl, Nat.not_lt_zero, Bool.false_eq_true, Option.toList_some, Option.toList_none, List.cons_append, List.nil_append, kv_rv, kc1_i, kc1_r, kc1_n, n10, n01, n1514, n1213, n1312, if_true, if_false, not_true_eq_false, not_false_eq_true, and_self, true_and, and_true, false_and, and_false, or_true, true_or, or_false, false_or, Nat.reduceLeDiff, Nat.reduceLT, Nat.reduceEqDiff, Nat.reduceAdd, e3, (show w < 7 by omega), (show w < 2147483648 by omega), (show w ≤ w by omega)]
  | m + 1, i, e => by
    have o1 := ho (k + i) (by omega)
    have e3 : Int32.ofNat (k + i) - Int32.ofNat k = Int32.ofNat i := by rw [ari_ss (by omega), show k + i - k = i by omega]
    have e4 : (row ||| spr (fun b => o (k + b)) i v) ||| (v.testBit i).toNat * 2 ^ o (k + i) = row ||| spr (fun b => o (k + b)) (i + 1) v := by
      rw [Nat.or_assoc]; exact congrArg _ (spr_s (fun b => o (k + b)) i v)
    conv => lhs; simp only [g_152_69, g_152_71, g_152_73, ari_aa, ari_al, ari_la, ari_mm, ari_ml, ari_lm, ari_ltl, ari_llt, ari_lt, ari_le, ari_lel, ari_lle, ari_0, ari_eq, ari_eql, ari_leq, ari_cl, Nat.not_lt_zero, Bool.false_eq_true, Option.toList_some, Option.toList_none, List.cons_append, List.nil_append, kv_rv, kc1_i, kc1_r, kc1_n, n10, n01, n1514, n1213, n1312, if_true, if_false, not_true_eq_false, not_false_eq_true, and_self, true_and, and_true, false_and, and_false, or_true, true_or, or_false, false_or, Nat.reduceLeDiff, Nat.reduceLT, Nat.reduceEqDiff, Nat.reduceAdd, (show k + i < 7 by omega), (show k + i < 2147483648 by omega), (show w < 7 by omega), (show w < 2147483648 by omega), (show ¬ w ≤ k + i by omega)]
    simp only [g_152_76, g_152_78, g_152_80, g_152_82, g_152_83, g_152_84, g_152_85, g_152_86, g_152_87, g_152_88, g_152_91, g_152_93, g_152_94, g_152_95, g_152_96, g_152_98, g_152_101, ari_aa, ari_al, ari_la, ari_mm, ari_ml, ari_lm, ari_ltl, ari_llt, ari_lt, ari_le, ari_lel, ari_lle, ari_0, ari_eq, ari_eql, ari_leq, ari_cl, Nat.not_lt_zero, Bool.false_eq_true, Option.toList_some, Option.toList_none, List.cons_append, List.nil_append, kv_rv, kc1_i, kc1_r, kc1_n, n10, n01, n1514, n1213, n1312, if_true, if_false, not_true_eq_false, not_false_eq_true, and_self, true_and, and_true, false_and, and_false, or_true, true_or, or_false, false_or, Nat.reduceLeDiff, Nat.reduceLT, Nat.reduceEqDiff, Nat.reduceAdd, e3, ari_31 (show i < 32 by omega), tsh hv (show i < 7 by omega), hO (k + i) (by omega), ari_31 (show o (k + i) < 32 by omega), ari_shl _ _ (show o (k + i) < 32 by omega), ari_or, e4, s_149 js, s_165 js, r_149_23 js, (show k + i < 8 by omega), (show k + i < 2147483648 by omega)]
    exact re_in js hw hk hv ho hO m (i + 1) (by omega)
theorem pow_k {n : Nat} (hn : n ≤ 6) : (1 : Int32) <<< (Int32.ofNat n &&& 31) = Int32.ofNat (2 ^ n) := pow_w n (by omega)
theorem re_l2 (js : JS σ) {f w k j : Nat} (hf : f < 16) (hF : JF1' σ f w) (hw : w ≤ 6) (hk : k < w) (hP : PO o w) (hO : ∀ i, i < w → kv_i σ 165 i = Int32.ofNat (o i)) {jv : Int32} : ∀ m v, v + m = 2 ^ (w - k) → ∀ v9 v10 : Value, Wp (d + 2) 152 51 [.ref 149, .int (Int32.ofNat f), .int (Int32.ofNat k), .int jv, .int (Int32.ofNat w), .int (Int32.ofNat (spr o k j)), .long (lw (fun s => decide (s < v) && gB σ f w (spr o k j ||| spr (fun b => o (k + b)) (w - k) s))), .null, .int (Int32.ofNat v), v9, v10] [] σ Φ = Φ (some (.long (mk (gB σ f w) w o k j))) σ
  | 0, v, e, v9, v10 => by
    have h7 : 2 ^ (w - k) ≤ 64 := pow6 (by omega)
    have e2 : v = 2 ^ (w - k) := by omega
    subst e2
    have e3 : Int32.ofNat w - Int32.ofNat k = Int32.ofNat (w - k) := ari_ss (by omega)
    simp only [g_152_51, g_152_53, g_152_54, g_152_56, g_152_57, g_152_58, g_152_59, g_152_130, g_152_132, ari_aa, ari_al, ari_la, ari_mm, ari_ml, ari_lm, ari_ltl, ari_llt, ari_lt, ari_le, ari_lel, ari_lle, ari_0, ari_eq, ari_eql, ari_leq, ari_cl, Nat.not_lt_zero, Bool.false_eq_true, Option.toList_some, Option.toList_none, List.cons_append, List.nil_append, kv_rv, kc1_i, kc1_r, kc1_n, n10, n01, n1514, n1213, n1312, if_true, if_false, not_true_eq_false, not_false_eq_true, and_self, true_and, and_true, false_and, and_false, or_true, true_or, or_false, false_or, Nat.reduceLeDiff, Nat.reduceLT, Nat.reduceEqDiff, Nat.reduceAdd, e3, pow_k (show w - k ≤ 6 by omega), (show 2 ^ (w - k) < 65 by omega), (show 2 ^ (w - k) < 2147483648 by omega), (show 2 ^ (w - k) ≤ 2 ^ (w - k) by omega)]
    rfl
  | m + 1, v, e, v9, v10 => by
    have h7 : 2 ^ (w - k) ≤ 64 := pow6 (by omega)
    have e3 : Int32.ofNat w - Int32.ofNat k = Int32.ofNat (w - k) := ari_ss (by omega)
    have l := re_in (d := d + 2) (Φ := Φ) (row := spr o k j) (v := v) (f := Int32.ofNat f) (j := jv) (r := lw (fun s => decide (s < v) && gB σ f w (spr o k j ||| spr (fun b => o (k + b)) (w - k) s))) js hw (show k ≤ w by omega) (by omega) hP.1 hO (w - k) 0 (by omega)
    rw [show spr o k j ||| spr (fun b => o (k + b)) 0 v = spr o k j from Nat.or_zero _, Nat.add_zero] at l
    have l1 : spr o k j < 2 ^ w := spr_lt (fun i hi => hP.1 i (by omega))
    have l2 : spr (fun b => o (k + b)) (w - k) v < 2 ^ w := spr_lt (fun i hi => hP.1 (k + i) (by omega))
    have l3 := Nat.or_lt_two_pow l1 l2
    conv => lhs; simp only [g_152_51, g_152_53, g_152_54, g_152_56, g_152_57, g_152_58, g_152_59, ari_aa, ari_al, ari_la, ari_mm, ari_ml, ari_lm, ari_ltl, ari_llt, ari_lt, ari_le, ari_lel, ari_lle, ari_0, ari_eq, ari_eql, ari_leq, ari_cl, Nat.not_lt_zero, Bool.false_eq_true, Option.toList_some, Option.toList_none, List.cons_append, List.nil_append, kv_rv, kc1_i, kc1_r, kc1_n, n10, n01, n1514, n1213, n1312, if_true, if_false, not_true_eq_false, not_false_eq_true, and_self, true_and, and_true, false_and, and_false, or_true, true_or, or_false, false_or, Nat.reduceLeDiff, Nat.reduceLT, Nat.reduceEqDiff, Nat.reduceAdd, e3, pow_k (show w - k ≤ 6 by omega), (show v < 65 by omega), (show v < 2147483648 by omega), (show 2 ^ (w - k) < 65 by omega), (show 2 ^ (w - k) < 2147483648 by omega), (show ¬ 2 ^ (w - k) ≤ v by omega)]
    simp only [g_152_62, g_152_64, g_152_66, g_152_67, Nat.not_lt_zero, Bool.false_eq_true, Option.toList_some, Option.toList_none, List.cons_append, List.nil_append, kv_rv, kc1_i, kc1_r, kc1_n, n10, n01, n1514, n1213, n1312, if_true, if_false, not_true_eq_false, not_false_eq_true, and_self, true_and, and_true, false_and, and_false, or_true, true_or, or_false, false_or, Nat.reduceLeDiff, Nat.reduceLT, Nat.reduceEqDiff, Nat.reduceAdd]
    refine l.trans ?_
    have hh : hld σ f (spr o k j ||| spr (fun b => o (k + b)) (w - k) v) ≤ 2147483647 := by
      unfold hld; split
      · have := (kv_i σ 151 (256 * f + (spr o k j ||| spr (fun b => o (k + b)) (w - k) v))).toInt_lt
        unfold Int32.toNatClampNeg; omega
      · decide
    by_cases c : hld σ f (spr o k j ||| spr (fun b => o (k + b)) (w - k) v) = 1
    · have e4 : lw (fun s => decide (s < v) && gB σ f w (spr o k j ||| spr (fun b => o (k + b)) (w - k) s)) ||| 1 <<< Int64.ofNat v = lw (fun s => decide (s < v + 1) && gB σ f w (spr o k j ||| spr (fun b => o (k + b)) (w - k) s)) := lw_of (fun r hr => by
        rw [lb_or, lb_lw _ hr, lb_one v (by omega) r hr]
        by_cases q : r = v
        · subst q
          unfold gB
          rw [c, decide_eq_true l3]; simp
        · by_cases q2 : r < v
          · simp [q, q2, show r < v + 1 by omega]
          · simp [q, q2, show ¬ r < v + 1 by omega])
      conv => lhs; simp only [g_152_104, g_152_105, g_152_106, g_152_108, g_152_111, g_152_112, g_152_115, g_152_117, g_152_118, g_152_120, g_152_121, g_152_122, g_152_124, g_152_127, kv_w8_0, kv_w8_1, kv_w8_2, kv_w8_3, kv_w8_4, ari_aa, ari_al, ari_la, ari_mm, ari_ml, ari_lm, ari_ltl, ari_llt, ari_lt, ari_le, ari_lel, ari_lle, ari_0, ari_eq, ari_eql, ari_leq, ari_cl, Nat.not_lt_zero, Bool.false_eq_true, Option.toList_some, Option.toList_none, List.cons_append, List.nil_append, kv_rv, kc1_i, kc1_r, kc1_n, n10, n01, n1514, n1213, n1312, if_true, if_false, not_true_eq_false, not_false_eq_true, and_self, true_and, and_true, false_and, and_false, or_true, true_or, or_false, false_or, Nat.reduceLeDiff, Nat.reduceLT, Nat.reduceEqDiff, Nat.reduceAdd, m_held js hf hF l3, c, lsh_k v (by omega), e4, s_149 js]
      exact re_l2 js hf hF hw hk hP hO m (v + 1) (by omega) _ _
    · have e4 : lw (fun s => decide (s < v) && gB σ f w (spr o k j ||| spr (fun b => o (k + b)) (w - k) s)) = lw (fun s => decide (s < v + 1) && gB σ f w (spr o k j ||| spr (fun b => o (k + b)) (w - k) s)) := lw_eq.mpr (fun r hr => by
        by_cases q : r = v
        · subst q
          unfold gB
          rw [decide_eq_false c]; simp
        · by_cases q2 : r < v
          · simp [q2, show r < v + 1 by omega]
          · simp [q2, show ¬ r < v + 1 by omega])
      conv => lhs; simp only [g_152_104, g_152_105, g_152_106, g_152_108, g_152_111, g_152_112, g_152_124, g_152_127, kv_w8_0, kv_w8_1, kv_w8_2, kv_w8_3, kv_w8_4, ari_aa, ari_al, ari_la, ari_mm, ari_ml, ari_lm, ari_ltl, ari_llt, ari_lt, ari_le, ari_lel, ari_lle, ari_0, ari_eq, ari_eql, ari_leq, ari_cl, Nat.not_lt_zero, Bool.false_eq_true, Option.toList_some, Option.toList_none, List.cons_append, List.nil_append, kv_rv, kc1_i, kc1_r, kc1_n, n10, n01, n1514, n1213, n1312, if_true, if_false, not_true_eq_false, not_false_eq_true, and_self, true_and, and_true, false_and, and_false, or_true, true_or, or_false, false_or, Nat.reduceLeDiff, Nat.reduceLT, Nat.reduceEqDiff, Nat.reduceAdd, m_held js hf hF l3, c, e4, s_149 js, (show hld σ f (spr o k j ||| spr (fun b => o (k + b)) (w - k) v) < 2147483648 by omega)]
      exact re_l2 js hf hF hw hk hP hO m (v + 1) (by omega) _ _
theorem m_rest (js : JS σ) {f w k j : Nat} (hf : f < 16) (hF : JF1' σ f w) (hw : w ≤ 6) (hk : k < w) (hj : j < 64) (hP : PO o w) (hO : ∀ i, i < w → kv_i σ 165 i = Int32.ofNat (o i)) : Wc (d + 2) 152 [.ref 149, .int (Int32.ofNat f), .int (Int32.ofNat k), .int (Int32.ofNat j)] σ Φ = Φ (some (.long (mk (gB σ f w) w o k j))) σ := by
  have l1 := re_l1 (d := d + 2) (Φ := Φ) (f := Int32.ofNat f) (v7 := .null) (v8 := .null) (v9 := .null) (v10 := .null) js hw (show k ≤ w by omega) hj hP.1 hO k 0 (by omega)
  have l2 := re_l2 (d := d) (Φ := Φ) (j := j) (jv := Int32.ofNat j) js hf hF hw hk hP hO (2 ^ (w - k)) 0 (by omega) .null .null
  have e0 : (0 : Int64) = lw (fun s => decide (s < 0) && gB σ f w (spr o k j ||| spr (fun b => o (k + b)) (w - k) s)) := lw_of (fun r hr => by rw [lb_0]; simp)
  have ew := hF.2.2.2.1
  simp only [c_152, g_152_0, g_152_1, g_152_4, g_152_5, g_152_6, g_152_8, g_152_9, g_152_11, g_152_12, ari_aa, ari_al, ari_la, ari_mm, ari_ml, ari_lm, ari_ltl, ari_llt, ari_lt, ari_le, ari_lel, ari_lle, ari_0, ari_eq, ari_eql, ari_leq, ari_cl, Nat.not_lt_zero, Bool.false_eq_true, Option.toList_some, Option.toList_none, List.cons_append, List.nil_append, kv_rv, kc1_i, kc1_r, kc1_n, n10, n01, n1514, n1213, n1312, if_true, if_false, not_true_eq_false, not_false_eq_true, and_self, true_and, and_true, false_and, and_false, or_true, true_or, or_false, false_or, Nat.reduceLeDiff, Nat.reduceLT, Nat.reduceEqDiff, Nat.reduceAdd, ew, s_149 js, s_150 js, r_149_2 js, (show f < 16 by omega), (show f < 2147483648 by omega)]
  refine l1.trans ?_
  simp only [g_152_45, g_152_46, g_152_48, g_152_49, Nat.not_lt_zero, Bool.false_eq_true, Option.toList_some, Option.toList_none, List.cons_append, List.nil_append, kv_rv, kc1_i, kc1_r, kc1_n, n10, n01, n1514, n1213, n1312, if_true, if_false, not_true_eq_false, not_false_eq_true, and_self, true_and, and_true, false_and, and_false, or_true, true_or, or_false, false_or, Nat.reduceLeDiff, Nat.reduceLT, Nat.reduceEqDiff, Nat.reduceAdd]
  rw [e0]
  exact l2
end GK

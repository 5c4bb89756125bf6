/-! ===== graphs: what hangs on a letter ===== -/
theorem lb_ushr (x : Int64) {n : Nat} (hn : n < 64) (r : Nat) : lb (kv_lshr x (Int32.ofNat n)) r = lb x (n + r) := by
  unfold kv_lshr
  rw [lshr_k n hn]
  show (x.toUInt64.toBitVec >>> ((UInt64.ofNat n).toBitVec % 64)).getLsbD r = x.toBitVec.getLsbD (n + r)
  have e : ((UInt64.ofNat n).toBitVec % 64).toNat = n := by
    have : ∀ n, n < 64 → ((UInt64.ofNat n).toBitVec % 64).toNat = n := by decide
    exact this n hn
  rw [BitVec.ushiftRight_eq', e, BitVec.getLsbD_ushiftRight]
  rfl
section GE
variable {d : Nat} {τ : kv_S} {Φ : Option Value → kv_S → Prop}
theorem m_hangsOn (hK : JK τ) (z : Int64) {a : Nat} (ha : a < 6) : Wc d 71 [.long z, .int (Int32.ofNat a)] τ Φ = Φ (some (.int (if hg a z = true then 1 else 0))) τ := by
  have h2 : 2 ^ a < 64 := by
    have : ∀ a, a < 6 → 2 ^ a < 64 := by decide
    exact this a ha
  have e1 : (1 : Int32) <<< Int32.ofNat a = Int32.ofNat (2 ^ a) := by
    have : ∀ l, l < 6 → (1 : Int32) <<< Int32.ofNat l = Int32.ofNat (2 ^ l) := by decide
    exact this a ha
  have l0 : kv_l τ 0 a = kv_kL.getD a 0 := hK.2.2.2.2.2.2.1 a
  have hz : anyN (lb ((kv_lshr z (Int32.ofNat (2 ^ a)) ^^^ z) &&& (kv_kL.getD a 0 ^^^ -1))) 64 = hg a z := anyN_congr 64 (fun r hr => by
    rw [lb_and, lb_xor, lb_not _ hr, lt_kL a ha r hr, lb_ushr z h2, Nat.add_comm (2 ^ a) r]
    cases lb z r <;> cases lb z (r + 2 ^ a) <;> cases r.testBit a <;> rfl)
  by_cases c : hg a z = true
  · have hne : ¬ (kv_lshr z (Int32.ofNat (2 ^ a)) ^^^ z) &&& (kv_kL.getD a 0 ^^^ -1) = 0 := lne.mpr (by rw [hz]; exact c)
    simp only [c_71, g_71_0, g_71_1, g_71_2, g_71_3, g_71_4, g_71_5, g_71_6, g_71_7, g_71_10, g_71_11, g_71_12, g_71_15, g_71_16, g_71_17, g_71_18, g_71_19, g_71_22, g_71_23, g_71_26, g_71_27, kv_w8_0, kv_w8_1, kv_w8_2, kv_w8_3, kv_w8_4, ari_aa, ari_al, ari_la, ari_mm, ari_ml, ari_lm, ari_ltl, ari_llt, ari_lt, ari_le, ari_lel, ari_lle, ari_0, ari_eq, ari_eql, ari_leq, ari_cl, Nat.not_lt_zero, Bool.false_eq_true, Option.toList_some, Option.toList_none, List.cons_append, List.nil_append, kv_rv, kc1_i, kc1_r, kc1_n, n10, n01, n1514, n1213, n1312, if_true, if_false, not_true_eq_false, not_false_eq_true, and_self, true_and, and_true, false_and, and_false, or_true, true_or, or_false, false_or, Nat.reduceLeDiff, Nat.reduceLT, Nat.reduceEqDiff, Nat.reduceAdd, ari_31 (show a < 32 by omega), e1, hK.1, l0, lg_cmp_eq, hne, c, (show a < 6 by omega), (show a < 2147483648 by omega)]
  · have hne : (kv_lshr z (Int32.ofNat (2 ^ a)) ^^^ z) &&& (kv_kL.getD a 0 ^^^ -1) = 0 := Classical.byContradiction fun q => c (by rw [← hz]; exact lne.mp q)
    simp only [c_71, g_71_0, g_71_1, g_71_2, g_71_3, g_71_4, g_71_5, g_71_6, g_71_7, g_71_10, g_71_11, g_71_12, g_71_15, g_71_16, g_71_17, g_71_18, g_71_19, g_71_22, g_71_23, g_71_26, g_71_27, kv_w8_0, kv_w8_1, kv_w8_2, kv_w8_3, kv_w8_4, ari_aa, ari_al, ari_la, ari_mm, ari_ml, ari_lm, ari_ltl, ari_llt, ari_lt, ari_le, ari_lel, ari_lle, ari_0, ari_eq, ari_eql, ari_leq, ari_cl, Nat.not_lt_zero, Bool.false_eq_true, Option.toList_some, Option.toList_none, List.cons_append, List.nil_append, kv_rv, kc1_i, kc1_r, kc1_n, n10, n01, n1514, n1213, n1312, if_true, if_false, not_true_eq_false, not_false_eq_true, and_self, true_and, and_true, false_and, and_false, or_true, true_or, or_false, false_or, Nat.reduceLeDiff, Nat.reduceLT, Nat.reduceEqDiff, Nat.reduceAdd, ari_31 (show a < 32 by omega), e1, hK.1, l0, lg_cmp_eq, hne, c, (show a < 6 by omega), (show a < 2147483648 by omega)]
end GE

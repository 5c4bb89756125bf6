/-! ===== what the class works out: the words of a net's operands ===== -/
theorem gm0 : ∀ t, t < 16 → -((Int32.ofNat t).toInt64 &&& 1) = if t.testBit 0 = true then -1 else 0 := by decide
theorem gm1 : ∀ t, t < 16 → -((Int32.ofNat t >>> ((1 : Int32) &&& 31)).toInt64 &&& 1) = if t.testBit 1 = true then -1 else 0 := by decide
theorem gm2 : ∀ t, t < 16 → -((Int32.ofNat t >>> ((2 : Int32) &&& 31)).toInt64 &&& 1) = if t.testBit 2 = true then -1 else 0 := by decide
theorem gm3 : ∀ t, t < 16 → -((Int32.ofNat t >>> ((3 : Int32) &&& 31)).toInt64 &&& 1) = if t.testBit 3 = true then -1 else 0 := by decide
theorem lb_if (b : Bool) {r : Nat} (hr : r < 64) : lb (if b = true then -1 else 0) r = b := by
  cases b
  · exact lb_0 r
  · exact lb_m1 hr
theorem lt_kL : ∀ k, k < 6 → ∀ r, r < 64 → lb (kv_kL.getD k 0) r = r.testBit k := by decide +kernel
/-- the objects that hold values: their words stand behind them -/
def VV (V : Nat) : Prop := V = 26 ∨ V = 28
section VA
variable {d : Nat} {σ : kv_S} {Φ : Option Value → kv_S → Prop}
theorem sV (h : JS σ) {V : Nat} (hv : VV V) : kv_sh σ V = (7, 2) := by rcases hv with rfl | rfl; exact s_26 h; exact s_28 h
theorem sW (h : JS σ) {V : Nat} (hv : VV V) : kv_sh σ (V + 1) = (11, 200) := by rcases hv with rfl | rfl; exact s_27 h; exact s_29 h
theorem rV (h : JS σ) {V : Nat} (hv : VV V) : kv_r σ V 0 = some (V + 1) := by rcases hv with rfl | rfl; exact r_26_0 h; exact r_28_0 h
theorem m_gateWord {t : Nat} (ht : t < 16) (x y : Int64) (HΦ : ∀ z, (∀ r, r < 64 → lb z r = t.testBit (nvb (lb x r) (lb y r))) → Φ (some (.long z)) σ) : Wc d 39 [.int (Int32.ofNat t), .long x, .long y] σ Φ := by
  simp only [c_39, g_39_0, g_39_1, g_39_2, g_39_3, g_39_4, g_39_5, g_39_6, g_39_9, g_39_10, g_39_11, g_39_12, g_39_15, g_39_16, g_39_17, g_39_18, g_39_19, g_39_20, g_39_21, g_39_22, g_39_23, g_39_24, g_39_25, g_39_26, g_39_27, g_39_30, g_39_31, g_39_32, g_39_33, g_39_34, g_39_35, g_39_36, g_39_37, g_39_38, g_39_39, g_39_40, g_39_41, g_39_44, g_39_45, g_39_46, g_39_47, g_39_48, g_39_49, g_39_50, g_39_51, g_39_52, g_39_53, g_39_54, g_39_55, g_39_56, g_39_57, g_39_58, g_39_59, g_39_60, g_39_61, gm0 t ht, gm1 t ht, gm2 t ht, gm3 t ht]
  refine HΦ _ (fun r hr => ?_)
  simp only [lb_or, lb_and, lb_not _ hr, lb_if _ hr]
  unfold nvb
  cases lb x r <;> cases lb y r <;> simp
theorem m_start (x : Int32) {n : Nat} (hn : x - -2 = Int32.ofNat n) : Wc d 37 [.int x] σ Φ = Φ (some (.int (Int32.ofNat (n * 4)))) σ := by
  simp only [c_37, g_37_0, g_37_1, g_37_3, g_37_4, g_37_5, g_37_6, hn, ari_aa, ari_al, ari_la, ari_mm, ari_ml, ari_lm, ari_ltl, ari_llt, ari_lt, ari_le, ari_lel, ari_lle, ari_0, ari_eq, ari_eql, ari_leq, ari_cl]
theorem m_word (h : JS σ) {V : Nat} (hv : VV V) {x : Int32} {n j : Nat} (hn : x - -2 = Int32.ofNat n) (hn5 : n < 50) (hj : j < 4) : Wc d 38 [.ref V, .int x, .int (Int32.ofNat j)] σ Φ = Φ (some (.long (kv_l σ (V + 1) (n * 4 + j)))) σ := by
  simp only [c_38, g_38_0, g_38_1, g_38_4, g_38_5, g_38_7, g_38_8, g_38_9, g_38_10, g_38_11, g_38_12, g_38_13, hn, ari_aa, ari_al, ari_la, ari_mm, ari_ml, ari_lm, ari_ltl, ari_llt, ari_lt, ari_le, ari_lel, ari_lle, ari_0, ari_eq, ari_eql, ari_leq, ari_cl, Nat.not_lt_zero, Bool.false_eq_true, Option.toList_some, Option.toList_none, List.cons_append, List.nil_append, kv_rv, kc1_i, kc1_r, kc1_n, n10, n01, n1514, n1213, n1312, if_true, if_false, not_true_eq_false, not_false_eq_true, and_self, true_and, and_true, false_and, and_false, or_true, true_or, or_false, false_or, Nat.reduceLeDiff, Nat.reduceLT, Nat.reduceEqDiff, Nat.reduceAdd, sV h hv, sW h hv, rV h hv, (show n * 4 + j < 200 by omega), (show n * 4 + j < 2147483648 by omega)]
end VA
/-- the tables of net k; its gates at a row, gate t turned; an operand there -/
def tbN (σ : kv_S) (k : Nat) : Nat → Nat := fun g => (kv_i σ (102 + 6 * k) g).toNatClampNeg
def vl (σ : kv_S) (k G t row : Nat) : Nat → Bool := nv (tbN σ k) (kv_i σ (103 + 6 * k)) (kv_i σ (104 + 6 * k)) t row G
def vo (σ : kv_S) (k G t row : Nat) (x : Int32) : Bool := nvo (vl σ k G t row) row x
/-- word j of operand x is right -/
def okv (σ0 : kv_S) (k G V : Nat) (τ : kv_S) (j : Nat) (x : Int32) : Prop := ∀ r, r < 64 → lb (kv_l τ (V + 1) (onn x * 4 + j)) r = vo σ0 k G 1000 (64 * j + r) x
def nwc (w : Nat) : Nat := if w ≤ 6 then 1 else 2 ^ (w - 6)
theorem nw_w : ∀ w, w ≤ 8 → (1 : Int32) <<< ((if (0 : Int32) < Int32.ofNat w - 6 then Int32.ofNat w - 6 else 0) &&& 31) = Int32.ofNat (nwc w) := by decide
theorem nw_4 : ∀ w, w ≤ 8 → nwc w ≤ 4 ∧ 1 ≤ nwc w := by decide
theorem ne_l {σ : kv_S} {a k : Nat} {x : Int64} {b j : Nat} (h : ¬ (b = a ∧ j = k)) : kv_l (kv_sl σ a k x) b j = kv_l σ b j := by rw [l_sl, if_neg h]
theorem eq_l {σ : kv_S} {a k : Nat} {x : Int64} {b j : Nat} (h : b = a ∧ j = k) : kv_l (kv_sl σ a k x) b j = x := by rw [l_sl, if_pos h]
/-- a word is written: the others stay right -/
theorem okv.ne {σ0 τ : kv_S} {k G V j j' n : Nat} {x : Int32} {y : Int64} (hj : j < 4) (hj' : j' < 4) (h : ¬ (onn x = n ∧ j' = j)) (H : okv σ0 k G V τ j' x) : okv σ0 k G V (kv_sl τ (V + 1) (n * 4 + j) y) j' x := fun r hr => by
  rw [ne_l (by omega)]; exact H r hr
theorem okv.eq {σ0 τ : kv_S} {k G V j n : Nat} {x : Int32} {y : Int64} (h : onn x = n) (H : ∀ r, r < 64 → lb y r = vo σ0 k G 1000 (64 * j + r) x) : okv σ0 k G V (kv_sl τ (V + 1) (n * 4 + j) y) j x := fun r hr => by
  rw [eq_l (by omega)]; exact H r hr
theorem bit_hi : ∀ j, j < 4 → ∀ k, k < 8 → 6 ≤ k → -((Int32.ofNat j >>> (Int32.ofNat (k - 6) &&& 31)).toInt64 &&& 1) = if j.testBit (k - 6) = true then -1 else 0 := by decide
theorem row_lo {j r k : Nat} (hr : r < 64) (hk : k < 6) : (64 * j + r).testBit k = r.testBit k := by
  have := Nat.testBit_two_pow_mul_add j (show r < 2 ^ 6 from hr) k
  rw [show 2 ^ 6 * j + r = 64 * j + r from rfl] at this
  rw [this, if_pos hk]
theorem row_hi {j r k : Nat} (hr : r < 64) (hk : 6 ≤ k) : (64 * j + r).testBit k = j.testBit (k - 6) := by
  have := Nat.testBit_two_pow_mul_add j (show r < 2 ^ 6 from hr) k
  rw [show 2 ^ 6 * j + r = 64 * j + r from rfl] at this
  rw [this, if_neg (by omega)]
section VB
variable {d : Nat} {Φ : Option Value → kv_S → Prop}
/-- what is known within word j of the working out -/
def woI (σ0 : kv_S) (k w G V j : Nat) (τ : kv_S) (w1 g1 : Nat) : Prop := FR (fun b i => b = V + 1 ∨ b = V ∧ i = 1) σ0 τ ∧ kv_i τ V 1 = Int32.ofNat (nwc w) ∧ (∀ x, vO w G x → ∀ j', j' < j → okv σ0 k G V τ j' x) ∧ ∀ x, vO w1 g1 x → okv σ0 k G V τ j x
theorem wo_let {σ0 : kv_S} (h : JS σ0) (hK : JK σ0) {k w G V j : Nat} (hk : k < 8) (hv : VV V) (hn : JN1' σ0 k w G) (hj : j < nwc w) (H : ∀ τ, woI σ0 k w G V j τ w 0 → Wp (d + 1) 36 111 [.ref V, .ref (101 + 6 * k), .int (Int32.ofNat j), .int (Int32.ofNat w)] [] τ Φ) : ∀ m c, c + m = w → ∀ τ, woI σ0 k w G V j τ c 0 → Wp (d + 1) 36 58 [.ref V, .ref (101 + 6 * k), .int (Int32.ofNat j), .int (Int32.ofNat c)] [] τ Φ
  | 0, c, e, τ, hI => by
    have e2 : c = w := by omega
    subst e2
    have hv2 : V = 26 ∨ V = 28 := hv
    have w2 := hn.2.1
    have e5 : kv_i τ (101 + 6 * k) 5 = Int32.ofNat c := by rw [hI.1.i (by omega)]; exact hn.2.2.2.1
    simp only [g_36_58, g_36_59, g_36_60, g_36_63, ari_aa, ari_al, ari_la, ari_mm, ari_ml, ari_lm, ari_ltl, ari_llt, ari_lt, ari_le, ari_lel, ari_lle, ari_0, ari_eq, ari_eql, ari_leq, ari_cl, Nat.not_lt_zero, Bool.false_eq_true, Option.toList_some, Option.toList_none, List.cons_append, List.nil_append, kv_rv, kc1_i, kc1_r, kc1_n, n10, n01, n1514, n1213, n1312, if_true, if_false, not_true_eq_false, not_false_eq_true, and_self, true_and, and_true, false_and, and_false, or_true, true_or, or_false, false_or, Nat.reduceLeDiff, Nat.reduceLT, Nat.reduceEqDiff, Nat.reduceAdd, nN (hI.1.js h) hk, e5, (show c < 9 by omega), (show c < 2147483648 by omega), (show c ≤ c by omega)]
    exact H τ hI
  | m + 1, c, e, τ, hI => by
    have hv2 : V = 26 ∨ V = 28 := hv
    have w2 := hn.2.1
    have hj4 := (nw_4 w w2).1
    have js := hI.1.js h
    have e5 : kv_i τ (101 + 6 * k) 5 = Int32.ofNat w := by rw [hI.1.i (by omega)]; exact hn.2.2.2.1
    have sh0 : kv_sh τ 0 = (11, 6) := by unfold kv_sh; rw [hI.1.1]; exact hK.1
    have l0 : kv_l τ 0 c = kv_kL.getD c 0 := by rw [hI.1.l (by omega)]; exact hK.2.2.2.2.2.2.1 c
    have eo := onn_nat c
    have step : ∀ y, (∀ r, r < 64 → lb y r = vo σ0 k G 1000 (64 * j + r) (Int32.ofNat c)) → woI σ0 k w G V j (kv_sl τ (V + 1) ((c + 2) * 4 + j) y) (c + 1) 0 := by
      intro y hy
      refine ⟨hI.1.sl (Or.inl rfl), hI.2.1, fun x hx j' hj' => (hI.2.2.1 x hx j' hj').ne (by omega) (by omega) (by omega), fun x hx => ?_⟩
      by_cases e : x = Int32.ofNat c
      · subst e
        exact okv.eq (onn_of eo (by omega)) hy
      · refine (hI.2.2.2 x ?_).ne (by omega) (by omega) ?_
        · rcases hx with q | q | ⟨i, hi, q⟩ | ⟨i, hi, q⟩
          · exact Or.inl q
          · exact Or.inr (Or.inl q)
          · refine Or.inr (Or.inr (Or.inl ⟨i, ?_, q⟩))
            have : i ≠ c := fun e2 => e (by rw [q, e2])
            omega
          · omega
        · intro q
          have hx2 := (hx.onn (by omega) (by decide)).1
          rw [q.1] at hx2
          exact e (onn_inj hx2 eo)
    simp only [g_36_58, g_36_59, g_36_60, g_36_63, ari_aa, ari_al, ari_la, ari_mm, ari_ml, ari_lm, ari_ltl, ari_llt, ari_lt, ari_le, ari_lel, ari_lle, ari_0, ari_eq, ari_eql, ari_leq, ari_cl, Nat.not_lt_zero, Bool.false_eq_true, Option.toList_some, Option.toList_none, List.cons_append, List.nil_append, kv_rv, kc1_i, kc1_r, kc1_n, n10, n01, n1514, n1213, n1312, if_true, if_false, not_true_eq_false, not_false_eq_true, and_self, true_and, and_true, false_and, and_false, or_true, true_or, or_false, false_or, Nat.reduceLeDiff, Nat.reduceLT, Nat.reduceEqDiff, Nat.reduceAdd, nN js hk, e5, (show c < 9 by omega), (show c < 2147483648 by omega), (show w < 9 by omega), (show w < 2147483648 by omega), (show ¬ w ≤ c by omega)]
    by_cases c6 : c < 6
    · simp only [g_36_66, g_36_67, g_36_70, g_36_71, g_36_74, g_36_75, g_36_76, g_36_77, g_36_80, g_36_81, g_36_84, g_36_87, g_36_88, g_36_89, g_36_92, g_36_93, g_36_94, g_36_97, g_36_98, g_36_99, g_36_100, g_36_101, g_36_102, g_36_103, g_36_104, g_36_105, g_36_108, kv_w8_0, kv_w8_1, kv_w8_2, kv_w8_3, kv_w8_4, ari_aa, ari_al, ari_la, ari_mm, ari_ml, ari_lm, ari_ltl, ari_llt, ari_lt, ari_le, ari_lel, ari_lle, ari_0, ari_eq, ari_eql, ari_leq, ari_cl, Nat.not_lt_zero, Bool.false_eq_true, Option.toList_some, Option.toList_none, List.cons_append, List.nil_append, kv_rv, kc1_i, kc1_r, kc1_n, n10, n01, n1514, n1213, n1312, if_true, if_false, not_true_eq_false, not_false_eq_true, and_self, true_and, and_true, false_and, and_false, or_true, true_or, or_false, false_or, Nat.reduceLeDiff, Nat.reduceLT, Nat.reduceEqDiff, Nat.reduceAdd, sV js hv, sW js hv, rV js hv, m_start _ eo, sh0, l0, (show c < 6 by omega), (show c < 2147483648 by omega), (show ¬ 6 ≤ c by omega), (show (c + 2) * 4 + j < 200 by omega), (show (c + 2) * 4 + j < 2147483648 by omega), (show 8 ≤ V + 1 by omega)]
      refine wo_let h hK hk hv hn hj H m (c + 1) (by omega) _ (step _ (fun r hr => ?_))
      rw [lt_kL c c6 r hr]
      unfold vo
      rw [nvo_l _ _ (by omega), row_lo hr c6]
    · have bh := bit_hi j (by omega) c (by omega) (by omega)
      simp only [g_36_66, g_36_67, g_36_70, g_36_71, g_36_74, g_36_75, g_36_76, g_36_77, g_36_80, g_36_81, g_36_84, g_36_87, g_36_88, g_36_89, g_36_92, g_36_93, g_36_94, g_36_97, g_36_98, g_36_99, g_36_100, g_36_101, g_36_102, g_36_103, g_36_104, g_36_105, g_36_108, kv_w8_0, kv_w8_1, kv_w8_2, kv_w8_3, kv_w8_4, ari_aa, ari_al, ari_la, ari_mm, ari_ml, ari_lm, ari_ltl, ari_llt, ari_lt, ari_le, ari_lel, ari_lle, ari_0, ari_eq, ari_eql, ari_leq, ari_cl, Nat.not_lt_zero, Bool.false_eq_true, Option.toList_some, Option.toList_none, List.cons_append, List.nil_append, kv_rv, kc1_i, kc1_r, kc1_n, n10, n01, n1514, n1213, n1312, if_true, if_false, not_true_eq_false, not_false_eq_true, and_self, true_and, and_true, false_and, and_false, or_true, true_or, or_false, false_or, Nat.reduceLeDiff, Nat.reduceLT, Nat.reduceEqDiff, Nat.reduceAdd, ari_ss, sV js hv, sW js hv, rV js hv, m_start _ eo, sh0, bh, (show c < 8 by omega), (show c < 2147483648 by omega), (show 6 ≤ c by omega), (show (c + 2) * 4 + j < 200 by omega), (show (c + 2) * 4 + j < 2147483648 by omega), (show 8 ≤ V + 1 by omega)]
      refine wo_let h hK hk hv hn hj H m (c + 1) (by omega) _ (step _ (fun r hr => ?_))
      rw [lb_if _ hr]
      unfold vo
      rw [nvo_l _ _ (by omega), row_hi hr (by omega)]
end VB

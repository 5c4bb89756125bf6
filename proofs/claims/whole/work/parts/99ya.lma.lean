/-! ===== least sums, the model: small methods ===== -/
theorem rkf_l32 {f : Nat → Bool} {i r0 : Nat} (h32 : r0 < 32) (hf : f r0 = true) (hc : cnt f r0 = i) : (wd (rkf f i) 32).testBit r0 = true ∧ (∀ r, r < r0 → (wd (rkf f i) 32).testBit r = false) := by
  refine ⟨?_, fun r hr => ?_⟩
  · rw [wd_tb, decide_eq_true h32]
    unfold rkf
    rw [hf, decide_eq_true (by omega)]; rfl
  · rw [wd_tb]
    unfold rkf
    cases e : f r with
    | false => simp
    | true =>
      have := cnt_lt_of hr e
      rw [decide_eq_false (show ¬ i ≤ cnt f r by omega)]; simp
section LA
variable {d : Nat} {σ : kv_S} {Φ : Option Value → kv_S → Prop}
theorem bof_loop (f : Nat → Bool) {x : Int32} : ∀ m i, i + m = cnt f 32 → Wp d 145 4 [.int x, .int (Int32.ofNat i), .int (iw (rkf f i))] [] σ Φ = Φ (some (.int (Int32.ofNat (cnt f 32)))) σ
  | 0, i, e => by
    have e2 : i = cnt f 32 := by omega
    have ez : iw (rkf f i) = 0 := iw_0.mpr (fun r hr => by
      unfold rkf
      cases c : f r with
      | false => rfl
      | true =>
        have := cnt_lt_of hr c
        rw [decide_eq_false (by omega)]; rfl)
    simp only [g_145_4, g_145_5, g_145_20, g_145_21, Nat.not_lt_zero, Bool.false_eq_true, Option.toList_some, Option.toList_none, List.cons_append, List.nil_append, kv_rv, kc1_i, kc1_r, kc1_n, n10, n01, n1514, n1213, n1312, if_true, if_false, not_true_eq_false, not_false_eq_true, and_self, true_and, and_true, false_and, and_false, or_true, true_or, or_false, false_or, Nat.reduceLeDiff, Nat.reduceLT, Nat.reduceEqDiff, Nat.reduceAdd, ez]
    rw [e2]
  | m + 1, i, e => by
    obtain ⟨r0, q1, q2, q3⟩ := nth_ex f 32 i (by omega)
    obtain ⟨l1, l2⟩ := rkf_l32 q1 q2 q3
    have hpos : 1 ≤ wd (rkf f i) 32 := by
      refine Nat.pos_of_ne_zero fun h => ?_
      rw [h, Nat.zero_testBit] at l1; cases l1
    have ez : ¬ iw (rkf f i) = 0 := iw_n0.mpr ⟨r0, q1, by unfold rkf; rw [q2, decide_eq_true (by omega)]; rfl⟩
    have eand : iw (rkf f i) &&& (iw (rkf f i) - 1) = iw (rkf f (i + 1)) := by
      unfold iw
      rw [ari_sl (n := 1) hpos, ari_and]
      refine congrArg Int32.ofNat (Nat.eq_of_testBit_eq fun r => ?_)
      rw [low_clr l1 l2, wd_tb, wd_tb]
      by_cases cr : r < 32
      · rw [decide_eq_true cr, Bool.true_and, Bool.true_and]
        unfold rkf
        by_cases c0 : r = r0
        · rw [c0, q2, q3]; simp
        · cases ef : f r with
          | false => simp
          | true =>
            have hne : cnt f r ≠ i := by
              intro q
              rcases Nat.lt_or_gt_of_ne c0 with z | z
              · have := cnt_lt_of z ef; omega
              · have := cnt_lt_of z q2; omega
            rw [decide_eq_true c0, Bool.true_and, Bool.true_and, Bool.true_and]
            by_cases c4 : i ≤ cnt f r
            · rw [decide_eq_true c4, decide_eq_true (by omega)]
            · rw [decide_eq_false c4, decide_eq_false (by omega)]
      · simp [cr]
    conv => lhs; simp only [g_145_4, g_145_5, Nat.not_lt_zero, Bool.false_eq_true, Option.toList_some, Option.toList_none, List.cons_append, List.nil_append, kv_rv, kc1_i, kc1_r, kc1_n, n10, n01, n1514, n1213, n1312, if_true, if_false, not_true_eq_false, not_false_eq_true, and_self, true_and, and_true, false_and, and_false, or_true, true_or, or_false, false_or, Nat.reduceLeDiff, Nat.reduceLT, Nat.reduceEqDiff, Nat.reduceAdd, ez]
    simp only [g_145_8, g_145_11, g_145_12, g_145_13, g_145_14, g_145_15, g_145_16, g_145_17, eand, ari_aa, ari_al, ari_la, ari_mm, ari_ml, ari_lm, ari_ltl, ari_llt, ari_lt, ari_le, ari_lel, ari_lle, ari_0, ari_eq, ari_eql, ari_leq, ari_cl, Nat.not_lt_zero, Bool.false_eq_true, Option.toList_some, Option.toList_none, List.cons_append, List.nil_append, kv_rv, kc1_i, kc1_r, kc1_n, n10, n01, n1514, n1213, n1312, if_true, if_false, not_true_eq_false, not_false_eq_true, and_self, true_and, and_true, false_and, and_false, or_true, true_or, or_false, false_or, Nat.reduceLeDiff, Nat.reduceLT, Nat.reduceEqDiff, Nat.reduceAdd]
    exact bof_loop f m (i + 1) (by omega)
theorem m_bitsOf (f : Nat → Bool) : Wc d 145 [.int (iw f)] σ Φ = Φ (some (.int (Int32.ofNat (cnt f 32)))) σ := by
  have l := bof_loop (d := d) (σ := σ) (Φ := Φ) f (x := iw f) (cnt f 32) 0 (by omega)
  have e0 : iw (rkf f 0) = iw f := iw_eq.mpr (fun r _ => by unfold rkf; rw [decide_eq_true (Nat.zero_le _), Bool.and_true])
  rw [e0] at l
  simp only [c_145, g_145_0, g_145_1, g_145_2, g_145_3, Nat.not_lt_zero, Bool.false_eq_true, Option.toList_some, Option.toList_none, List.cons_append, List.nil_append, kv_rv, kc1_i, kc1_r, kc1_n, n10, n01, n1514, n1213, n1312, if_true, if_false, not_true_eq_false, not_false_eq_true, and_self, true_and, and_true, false_and, and_false, or_true, true_or, or_false, false_or, Nat.reduceLeDiff, Nat.reduceLT, Nat.reduceEqDiff, Nat.reduceAdd]
  exact l
theorem rar_loop (js : JS σ) {N : Nat → Bool} (H0 : (∀ r, r < 32 → N r = false) → Φ (some (.int (-1))) σ) (H1 : ∀ ρ, ρ < 32 → N ρ = true → Φ (some (.int (Int32.ofNat ρ))) σ) : ∀ m row, row + m = 32 → ∀ b : Int32, ((b = -1 ∧ ∀ r, r < row → N r = false) ∨ ∃ ρ, ρ < 32 ∧ N ρ = true ∧ b = Int32.ofNat ρ) → Wp d 143 4 [.ref 149, .int (iw N), .int b, .int (Int32.ofNat row)] [] σ Φ
  | 0, row, e, b, hI => by
    have e2 : row = 32 := by omega
    subst e2
    simp only [g_143_4, g_143_5, g_143_7, g_143_46, g_143_47, ari_aa, ari_al, ari_la, ari_mm, ari_ml, ari_lm, ari_ltl, ari_llt, ari_lt, ari_le, ari_lel, ari_lle, ari_0, ari_eq, ari_eql, ari_leq, ari_cl, Nat.not_lt_zero, Bool.false_eq_true, Option.toList_some, Option.toList_none, List.cons_append, List.nil_append, kv_rv, kc1_i, kc1_r, kc1_n, n10, n01, n1514, n1213, n1312, if_true, if_false, not_true_eq_false, not_false_eq_true, and_self, true_and, and_true, false_and, and_false, or_true, true_or, or_false, false_or, Nat.reduceLeDiff, Nat.reduceLT, Nat.reduceEqDiff, Nat.reduceAdd]
    rcases hI with ⟨z1, z2⟩ | ⟨ρ, z1, z2, z3⟩
    · rw [z1]; exact H0 z2
    · rw [z3]; exact H1 ρ z1 z2
  | m + 1, row, e, b, hI => by
    simp only [g_143_4, g_143_5, g_143_7, ari_aa, ari_al, ari_la, ari_mm, ari_ml, ari_lm, ari_ltl, ari_llt, ari_lt, ari_le, ari_lel, ari_lle, ari_0, ari_eq, ari_eql, ari_leq, ari_cl, Nat.not_lt_zero, Bool.false_eq_true, Option.toList_some, Option.toList_none, List.cons_append, List.nil_append, kv_rv, kc1_i, kc1_r, kc1_n, n10, n01, n1514, n1213, n1312, if_true, if_false, not_true_eq_false, not_false_eq_true, and_self, true_and, and_true, false_and, and_false, or_true, true_or, or_false, false_or, Nat.reduceLeDiff, Nat.reduceLT, Nat.reduceEqDiff, Nat.reduceAdd, (show row < 32 by omega), (show row < 2147483648 by omega), (show ¬ 32 ≤ row by omega)]
    cases cN : N row with
    | false =>
      simp only [g_143_10, g_143_11, g_143_12, g_143_13, g_143_14, g_143_15, g_143_16, g_143_40, g_143_43, ari_aa, ari_al, ari_la, ari_mm, ari_ml, ari_lm, ari_ltl, ari_llt, ari_lt, ari_le, ari_lel, ari_lle, ari_0, ari_eq, ari_eql, ari_leq, ari_cl, Nat.not_lt_zero, Bool.false_eq_true, Option.toList_some, Option.toList_none, List.cons_append, List.nil_append, kv_rv, kc1_i, kc1_r, kc1_n, n10, n01, n1514, n1213, n1312, if_true, if_false, not_true_eq_false, not_false_eq_true, and_self, true_and, and_true, false_and, and_false, or_true, true_or, or_false, false_or, Nat.reduceLeDiff, Nat.reduceLT, Nat.reduceEqDiff, Nat.reduceAdd, ari_31 (show row < 32 by omega), iw_bit N (show row < 32 by omega), cN, bI_f]
      refine rar_loop js H0 H1 m (row + 1) (by omega) b ?_
      rcases hI with ⟨z1, z2⟩ | z
      · refine Or.inl ⟨z1, fun r hr => ?_⟩
        by_cases c : r = row
        · rw [c]; exact cN
        · exact z2 r (by omega)
      · exact Or.inr z
    | true =>
      rcases hI with ⟨z1, z2⟩ | ⟨ρ, z1, z2, z3⟩
      · subst z1
        simp only [g_143_10, g_143_11, g_143_12, g_143_13, g_143_14, g_143_15, g_143_16, g_143_19, g_143_20, g_143_38, g_143_39, g_143_40, g_143_43, ari_aa, ari_al, ari_la, ari_mm, ari_ml, ari_lm, ari_ltl, ari_llt, ari_lt, ari_le, ari_lel, ari_lle, ari_0, ari_eq, ari_eql, ari_leq, ari_cl, Nat.not_lt_zero, Bool.false_eq_true, Option.toList_some, Option.toList_none, List.cons_append, List.nil_append, kv_rv, kc1_i, kc1_r, kc1_n, n10, n01, n1514, n1213, n1312, if_true, if_false, not_true_eq_false, not_false_eq_true, and_self, true_and, and_true, false_and, and_false, or_true, true_or, or_false, false_or, Nat.reduceLeDiff, Nat.reduceLT, Nat.reduceEqDiff, Nat.reduceAdd, ari_31 (show row < 32 by omega), iw_bit N (show row < 32 by omega), cN, bI_t, (show (-1 : Int32) < 0 by decide)]
        exact rar_loop js H0 H1 m (row + 1) (by omega) _ (Or.inr ⟨row, by omega, cN, rfl⟩)
      · subst z3
        by_cases c : kv_i σ 162 ρ ≤ kv_i σ 162 row
        · simp only [g_143_10, g_143_11, g_143_12, g_143_13, g_143_14, g_143_15, g_143_16, g_143_19, g_143_20, g_143_23, g_143_24, g_143_27, g_143_28, g_143_29, g_143_30, g_143_33, g_143_34, g_143_35, g_143_40, g_143_43, ari_aa, ari_al, ari_la, ari_mm, ari_ml, ari_lm, ari_ltl, ari_llt, ari_lt, ari_le, ari_lel, ari_lle, ari_0, ari_eq, ari_eql, ari_leq, ari_cl, Nat.not_lt_zero, Bool.false_eq_true, Option.toList_some, Option.toList_none, List.cons_append, List.nil_append, kv_rv, kc1_i, kc1_r, kc1_n, n10, n01, n1514, n1213, n1312, if_true, if_false, not_true_eq_false, not_false_eq_true, and_self, true_and, and_true, false_and, and_false, or_true, true_or, or_false, false_or, Nat.reduceLeDiff, Nat.reduceLT, Nat.reduceEqDiff, Nat.reduceAdd, ari_31 (show row < 32 by omega), iw_bit N (show row < 32 by omega), cN, bI_t, c, s_149 js, s_162 js, r_149_20 js, (show row < 32 by omega), (show row < 2147483648 by omega), (show ρ < 32 by omega), (show ρ < 2147483648 by omega)]
          exact rar_loop js H0 H1 m (row + 1) (by omega) _ (Or.inr ⟨ρ, z1, z2, rfl⟩)
        · simp only [g_143_10, g_143_11, g_143_12, g_143_13, g_143_14, g_143_15, g_143_16, g_143_19, g_143_20, g_143_23, g_143_24, g_143_27, g_143_28, g_143_29, g_143_30, g_143_33, g_143_34, g_143_35, g_143_38, g_143_39, g_143_40, g_143_43, ari_aa, ari_al, ari_la, ari_mm, ari_ml, ari_lm, ari_ltl, ari_llt, ari_lt, ari_le, ari_lel, ari_lle, ari_0, ari_eq, ari_eql, ari_leq, ari_cl, Nat.not_lt_zero, Bool.false_eq_true, Option.toList_some, Option.toList_none, List.cons_append, List.nil_append, kv_rv, kc1_i, kc1_r, kc1_n, n10, n01, n1514, n1213, n1312, if_true, if_false, not_true_eq_false, not_false_eq_true, and_self, true_and, and_true, false_and, and_false, or_true, true_or, or_false, false_or, Nat.reduceLeDiff, Nat.reduceLT, Nat.reduceEqDiff, Nat.reduceAdd, ari_31 (show row < 32 by omega), iw_bit N (show row < 32 by omega), cN, bI_t, c, s_149 js, s_162 js, r_149_20 js, (show row < 32 by omega), (show row < 2147483648 by omega), (show ρ < 32 by omega), (show ρ < 2147483648 by omega)]
          exact rar_loop js H0 H1 m (row + 1) (by omega) _ (Or.inr ⟨row, by omega, cN, rfl⟩)
theorem m_rarest (js : JS σ) {N : Nat → Bool} (H0 : (∀ r, r < 32 → N r = false) → Φ (some (.int (-1))) σ) (H1 : ∀ ρ, ρ < 32 → N ρ = true → Φ (some (.int (Int32.ofNat ρ))) σ) : Wc d 143 [.ref 149, .int (iw N)] σ Φ := by
  have l := rar_loop (d := d) js H0 H1 32 0 (by omega) (-1) (Or.inl ⟨rfl, fun r hr => absurd hr (by omega)⟩)
  simp only [c_143, g_143_0, g_143_1, g_143_2, g_143_3, Nat.not_lt_zero, Bool.false_eq_true, Option.toList_some, Option.toList_none, List.cons_append, List.nil_append, kv_rv, kc1_i, kc1_r, kc1_n, n10, n01, n1514, n1213, n1312, if_true, if_false, not_true_eq_false, not_false_eq_true, and_self, true_and, and_true, false_and, and_false, or_true, true_or, or_false, false_or, Nat.reduceLeDiff, Nat.reduceLT, Nat.reduceEqDiff, Nat.reduceAdd]
  exact l
/-- rows are counted by the primes that hold there -/
theorem cov_cnt {P : Nat} {C : Nat → Nat → Bool} {N X : Nat → Bool} {n : Nat} : ∀ k, k ≤ n → (∀ r, r < n → N r = true → ∃ p, p < P ∧ X p = true ∧ C p r = true) → cnt N k ≤ PRs (fun p => cnt (fun r => C p r && N r) k) P X
  | 0, _, _ => Nat.zero_le _
  | k + 1, hk, h => by
    have ih := cov_cnt k (by omega) h
    rw [cnt_s]
    cases cN : N k with
    | false =>
      refine Nat.le_trans ih (sm_le P (fun p _ => ?_))
      show cond (X p) (cnt (fun r => C p r && N r) k) 0 ≤ cond (X p) (cnt (fun r => C p r && N r) (k + 1)) 0
      rw [cnt_s, cN]; simp
    | true =>
      obtain ⟨p, h1, h2, h3⟩ := h k (by omega) cN
      refine Nat.le_trans (Nat.add_le_add_right ih _) (sm_lt (q := p) P (fun q _ => ?_) h1 ?_)
      · show cond (X q) (cnt (fun r => C q r && N r) k) 0 ≤ cond (X q) (cnt (fun r => C q r && N r) (k + 1)) 0
        cases X q with
        | false => exact Nat.le_refl _
        | true => exact cnt_mono _ (by omega)
      · show cond (X p) (cnt (fun r => C p r && N r) k) 0 + 1 ≤ cond (X p) (cnt (fun r => C p r && N r) (k + 1)) 0
        rw [h2, cnt_s, h3, cN]
        exact Nat.le_refl _
theorem PRs_c (c : Nat) (X : Nat → Bool) : ∀ P, PRs (fun _ => c) P X = c * cnt X P
  | 0 => rfl
  | P + 1 => by
    rw [PRs_s, PRs_c c X P, cnt_s, Nat.mul_add]
    cases X P
    · rfl
    · show _ + c = _ + c * 1; omega
theorem nee_loop (js : JS σ) {P : Nat} {C : Nat → Nat → Bool} {N : Nat → Bool} (hP : P ≤ 40) (h7 : kv_i σ 149 7 = Int32.ofNat P) (hC : ∀ p, p < P → kv_i σ 161 p = iw (C p)) (H : ∀ v : Nat, v ≤ 64 → (∀ X : Nat → Bool, (∀ r, r < 32 → N r = true → ∃ p, p < P ∧ X p = true ∧ C p r = true) → v ≤ cnt X P) → Φ (some (.int (Int32.ofNat v))) σ) : ∀ m k, k + m = P → ∀ t : Nat, t ≤ 32 → (∀ q, q < k → cnt (fun r => C q r && N r) 32 ≤ t) → Wp (d + 1) 144 4 [.ref 149, .int (iw N), .int (Int32.ofNat t), .int (Int32.ofNat k)] [] σ Φ
  | 0, k, e, t, ht, hI => by
    have e2 : k = P := by omega
    subst e2
    simp only [g_144_4, g_144_5, g_144_6, g_144_9, ari_aa, ari_al, ari_la, ari_mm, ari_ml, ari_lm, ari_ltl, ari_llt, ari_lt, ari_le, ari_lel, ari_lle, ari_0, ari_eq, ari_eql, ari_leq, ari_cl, Nat.not_lt_zero, Bool.false_eq_true, Option.toList_some, Option.toList_none, List.cons_append, List.nil_append, kv_rv, kc1_i, kc1_r, kc1_n, n10, n01, n1514, n1213, n1312, if_true, if_false, not_true_eq_false, not_false_eq_true, and_self, true_and, and_true, false_and, and_false, or_true, true_or, or_false, false_or, Nat.reduceLeDiff, Nat.reduceLT, Nat.reduceEqDiff, Nat.reduceAdd, h7, s_149 js, (show k < 41 by omega), (show k < 2147483648 by omega), (show k ≤ k by omega)]
    by_cases c : t = 0
    · subst c
      simp only [g_144_49, g_144_50, g_144_53, g_144_54, g_144_67, Nat.not_lt_zero, Bool.false_eq_true, Option.toList_some, Option.toList_none, List.cons_append, List.nil_append, kv_rv, kc1_i, kc1_r, kc1_n, n10, n01, n1514, n1213, n1312, if_true, if_false, not_true_eq_false, not_false_eq_true, and_self, true_and, and_true, false_and, and_false, or_true, true_or, or_false, false_or, Nat.reduceLeDiff, Nat.reduceLT, Nat.reduceEqDiff, Nat.reduceAdd, (show Int32.ofNat 0 = 0 from rfl)]
      exact H 0 (by decide) (fun X _ => Nat.zero_le _)
    · have hcl := cnt_le N 32
      have e3 : Int32.ofNat (cnt N 32 + t) - 1 = Int32.ofNat (cnt N 32 + t - 1) := ari_sl (n := 1) (by omega)
      have e4 : Int32.ofNat (cnt N 32 + t - 1) / Int32.ofNat t = Int32.ofNat ((cnt N 32 + t - 1) / t) := ari_dd (by omega) (by omega)
      simp only [g_144_49, g_144_50, g_144_57, g_144_58, g_144_61, g_144_62, g_144_63, g_144_64, g_144_65, g_144_66, g_144_67, kv_w8_0, kv_w8_1, kv_w8_2, kv_w8_3, kv_w8_4, ari_aa, ari_al, ari_la, ari_mm, ari_ml, ari_lm, ari_ltl, ari_llt, ari_lt, ari_le, ari_lel, ari_lle, ari_0, ari_eq, ari_eql, ari_leq, ari_cl, Nat.not_lt_zero, Bool.false_eq_true, Option.toList_some, Option.toList_none, List.cons_append, List.nil_append, kv_rv, kc1_i, kc1_r, kc1_n, n10, n01, n1514, n1213, n1312, if_true, if_false, not_true_eq_false, not_false_eq_true, and_self, true_and, and_true, false_and, and_false, or_true, true_or, or_false, false_or, Nat.reduceLeDiff, Nat.reduceLT, Nat.reduceEqDiff, Nat.reduceAdd, m_bitsOf N, e3, e4, c, (show t < 33 by omega), (show t < 2147483648 by omega)]
      refine H _ (Nat.le_trans (Nat.div_le_self _ _) (by omega)) (fun X hX => ?_)
      have h1 := cov_cnt (P := k) (C := C) (N := N) (X := X) (n := 32) 32 (Nat.le_refl _) hX
      have h2 : PRs (fun p => cnt (fun r => C p r && N r) 32) k X ≤ PRs (fun _ => t) k X := sm_le k (fun p hp => by
        show cond (X p) (cnt (fun r => C p r && N r) 32) 0 ≤ cond (X p) t 0
        cases X p with
        | false => exact Nat.le_refl _
        | true => exact hI p hp)
      rw [PRs_c] at h2
      have h3 : (cnt N 32 + t - 1) / t < cnt X k + 1 := Nat.div_lt_of_lt_mul (by rw [Nat.mul_add]; omega)
      omega
  | m + 1, k, e, t, ht, hI => by
    have hcl := cnt_le (fun r => C k r && N r) 32
    simp only [g_144_4, g_144_5, g_144_6, g_144_9, ari_aa, ari_al, ari_la, ari_mm, ari_ml, ari_lm, ari_ltl, ari_llt, ari_lt, ari_le, ari_lel, ari_lle, ari_0, ari_eq, ari_eql, ari_leq, ari_cl, Nat.not_lt_zero, Bool.false_eq_true, Option.toList_some, Option.toList_none, List.cons_append, List.nil_append, kv_rv, kc1_i, kc1_r, kc1_n, n10, n01, n1514, n1213, n1312, if_true, if_false, not_true_eq_false, not_false_eq_true, and_self, true_and, and_true, false_and, and_false, or_true, true_or, or_false, false_or, Nat.reduceLeDiff, Nat.reduceLT, Nat.reduceEqDiff, Nat.reduceAdd, h7, s_149 js, (show k < 41 by omega), (show k < 2147483648 by omega), (show P < 41 by omega), (show P < 2147483648 by omega), (show ¬ P ≤ k by omega)]
    simp only [g_144_12, g_144_13, g_144_16, g_144_17, g_144_18, g_144_19, g_144_20, kv_w8_0, kv_w8_1, kv_w8_2, kv_w8_3, kv_w8_4, ari_aa, ari_al, ari_la, ari_mm, ari_ml, ari_lm, ari_ltl, ari_llt, ari_lt, ari_le, ari_lel, ari_lle, ari_0, ari_eq, ari_eql, ari_leq, ari_cl, Nat.not_lt_zero, Bool.false_eq_true, Option.toList_some, Option.toList_none, List.cons_append, List.nil_append, kv_rv, kc1_i, kc1_r, kc1_n, n10, n01, n1514, n1213, n1312, if_true, if_false, not_true_eq_false, not_false_eq_true, and_self, true_and, and_true, false_and, and_false, or_true, true_or, or_false, false_or, Nat.reduceLeDiff, Nat.reduceLT, Nat.reduceEqDiff, Nat.reduceAdd, hC k (by omega), iw_and, m_bitsOf, s_149 js, s_161 js, r_149_19 js, (show k < 243 by omega), (show k < 2147483648 by omega)]
    by_cases c : cnt (fun r => C k r && N r) 32 ≤ t
    · simp only [g_144_23, g_144_24, g_144_41, g_144_42, g_144_43, g_144_46, ari_aa, ari_al, ari_la, ari_mm, ari_ml, ari_lm, ari_ltl, ari_llt, ari_lt, ari_le, ari_lel, ari_lle, ari_0, ari_eq, ari_eql, ari_leq, ari_cl, Nat.not_lt_zero, Bool.false_eq_true, Option.toList_some, Option.toList_none, List.cons_append, List.nil_append, kv_rv, kc1_i, kc1_r, kc1_n, n10, n01, n1514, n1213, n1312, if_true, if_false, not_true_eq_false, not_false_eq_true, and_self, true_and, and_true, false_and, and_false, or_true, true_or, or_false, false_or, Nat.reduceLeDiff, Nat.reduceLT, Nat.reduceEqDiff, Nat.reduceAdd, c, (show cnt (fun r => C k r && N r) 32 < 33 by omega), (show cnt (fun r => C k r && N r) 32 < 2147483648 by omega), (show t < 33 by omega), (show t < 2147483648 by omega)]
      refine nee_loop js hP h7 hC H m (k + 1) (by omega) t ht (fun q hq => ?_)
      by_cases z : q = k
      · rw [z]; exact c
      · exact hI q (by omega)
    · simp only [g_144_23, g_144_24, g_144_27, g_144_28, g_144_31, g_144_32, g_144_33, g_144_34, g_144_35, g_144_38, g_144_41, g_144_42, g_144_43, g_144_46, kv_w8_0, kv_w8_1, kv_w8_2, kv_w8_3, kv_w8_4, ari_aa, ari_al, ari_la, ari_mm, ari_ml, ari_lm, ari_ltl, ari_llt, ari_lt, ari_le, ari_lel, ari_lle, ari_0, ari_eq, ari_eql, ari_leq, ari_cl, Nat.not_lt_zero, Bool.false_eq_true, Option.toList_some, Option.toList_none, List.cons_append, List.nil_append, kv_rv, kc1_i, kc1_r, kc1_n, n10, n01, n1514, n1213, n1312, if_true, if_false, not_true_eq_false, not_false_eq_true, and_self, true_and, and_true, false_and, and_false, or_true, true_or, or_false, false_or, Nat.reduceLeDiff, Nat.reduceLT, Nat.reduceEqDiff, Nat.reduceAdd, c, hC k (by omega), iw_and, m_bitsOf, s_149 js, s_161 js, r_149_19 js, (show k < 243 by omega), (show k < 2147483648 by omega), (show cnt (fun r => C k r && N r) 32 < 33 by omega), (show cnt (fun r => C k r && N r) 32 < 2147483648 by omega), (show t < 33 by omega), (show t < 2147483648 by omega)]
      refine nee_loop js hP h7 hC H m (k + 1) (by omega) _ hcl (fun q hq => ?_)
      by_cases z : q = k
      · rw [z]; exact Nat.le_refl _
      · have := hI q (by omega); omega
theorem m_needed (js : JS σ) {P : Nat} {C : Nat → Nat → Bool} {N : Nat → Bool} (hP : P ≤ 40) (h7 : kv_i σ 149 7 = Int32.ofNat P) (hC : ∀ p, p < P → kv_i σ 161 p = iw (C p)) (H : ∀ v : Nat, v ≤ 64 → (∀ X : Nat → Bool, (∀ r, r < 32 → N r = true → ∃ p, p < P ∧ X p = true ∧ C p r = true) → v ≤ cnt X P) → Φ (some (.int (Int32.ofNat v))) σ) : Wc (d + 1) 144 [.ref 149, .int (iw N)] σ Φ := by
  have l := nee_loop (d := d) js hP h7 hC H P 0 (by omega) 0 (by omega) (fun q hq => absurd hq (by omega))
  simp only [c_144, g_144_0, g_144_1, g_144_2, g_144_3, Nat.not_lt_zero, Bool.false_eq_true, Option.toList_some, Option.toList_none, List.cons_append, List.nil_append, kv_rv, kc1_i, kc1_r, kc1_n, n10, n01, n1514, n1213, n1312, if_true, if_false, not_true_eq_false, not_false_eq_true, and_self, true_and, and_true, false_and, and_false, or_true, true_or, or_false, false_or, Nat.reduceLeDiff, Nat.reduceLT, Nat.reduceEqDiff, Nat.reduceAdd]
  exact l
theorem hld_loop (js : JS σ) (h3 : J3 σ) {x n r : Nat} (hx : x < 6561) (hn : n ≤ 6) (hr : r < 64) : ∀ m k, k + m = n → hol k x r = true → ∀ v5 : Value, Wp (d + 1) 140 3 [.ref 149, .int (Int32.ofNat x), .int (Int32.ofNat n), .int (Int32.ofNat r), .int (Int32.ofNat k), v5] [] σ Φ = Φ (some (.int (bI (hol n x r)))) σ
  | 0, k, e, hI, v5 => by
    have e2 : k = n := by omega
    subst e2
    simp only [g_140_3, g_140_5, g_140_6, g_140_43, g_140_44, ari_aa, ari_al, ari_la, ari_mm, ari_ml, ari_lm, ari_ltl, ari_llt, ari_lt, ari_le, ari_lel, ari_lle, ari_0, ari_eq, ari_eql, ari_leq, ari_cl, Nat.not_lt_zero, Bool.false_eq_true, Option.toList_some, Option.toList_none, List.cons_append, List.nil_append, kv_rv, kc1_i, kc1_r, kc1_n, n10, n01, n1514, n1213, n1312, if_true, if_false, not_true_eq_false, not_false_eq_true, and_self, true_and, and_true, false_and, and_false, or_true, true_or, or_false, false_or, Nat.reduceLeDiff, Nat.reduceLT, Nat.reduceEqDiff, Nat.reduceAdd, hI, bI_t, (show k < 7 by omega), (show k < 2147483648 by omega), (show k ≤ k by omega)]
  | m + 1, k, e, hI, v5 => by
    have hd : dgf x k < 3 := Nat.mod_lt _ (by decide)
    have hb := Bool.toNat_le (r.testBit k)
    conv => lhs; simp only [g_140_3, g_140_5, g_140_6, ari_aa, ari_al, ari_la, ari_mm, ari_ml, ari_lm, ari_ltl, ari_llt, ari_lt, ari_le, ari_lel, ari_lle, ari_0, ari_eq, ari_eql, ari_leq, ari_cl, Nat.not_lt_zero, Bool.false_eq_true, Option.toList_some, Option.toList_none, List.cons_append, List.nil_append, kv_rv, kc1_i, kc1_r, kc1_n, n10, n01, n1514, n1213, n1312, if_true, if_false, not_true_eq_false, not_false_eq_true, and_self, true_and, and_true, false_and, and_false, or_true, true_or, or_false, false_or, Nat.reduceLeDiff, Nat.reduceLT, Nat.reduceEqDiff, Nat.reduceAdd, (show k < 7 by omega), (show k < 2147483648 by omega), (show n < 7 by omega), (show n < 2147483648 by omega), (show ¬ n ≤ k by omega)]
    by_cases c2 : dgf x k = 2
    · have nx := hld_loop js h3 hx hn hr m (k + 1) (by omega) (by rw [hol_s, hI, c2]; rfl)
      conv => lhs; simp only [g_140_9, g_140_10, g_140_11, g_140_13, g_140_16, g_140_18, g_140_20, g_140_21, g_140_37, g_140_40, kv_w8_0, kv_w8_1, kv_w8_2, kv_w8_3, kv_w8_4, ari_aa, ari_al, ari_la, ari_mm, ari_ml, ari_lm, ari_ltl, ari_llt, ari_lt, ari_le, ari_lel, ari_lle, ari_0, ari_eq, ari_eql, ari_leq, ari_cl, Nat.not_lt_zero, Bool.false_eq_true, Option.toList_some, Option.toList_none, List.cons_append, List.nil_append, kv_rv, kc1_i, kc1_r, kc1_n, n10, n01, n1514, n1213, n1312, if_true, if_false, not_true_eq_false, not_false_eq_true, and_self, true_and, and_true, false_and, and_false, or_true, true_or, or_false, false_or, Nat.reduceLeDiff, Nat.reduceLT, Nat.reduceEqDiff, Nat.reduceAdd, m_digit js h3 hx (show k ≤ 8 by omega), c2, s_149 js]
      exact nx _
    · by_cases c1 : dgf x k = (r.testBit k).toNat
      · have nx := hld_loop js h3 hx hn hr m (k + 1) (by omega) (by rw [hol_s, hI, c1]; simp)
        conv => lhs; simp only [g_140_9, g_140_10, g_140_11, g_140_13, g_140_16, g_140_18, g_140_20, g_140_21, g_140_24, g_140_26, g_140_27, g_140_29, g_140_30, g_140_31, g_140_32, g_140_37, g_140_40, kv_w8_0, kv_w8_1, kv_w8_2, kv_w8_3, kv_w8_4, ari_aa, ari_al, ari_la, ari_mm, ari_ml, ari_lm, ari_ltl, ari_llt, ari_lt, ari_le, ari_lel, ari_lle, ari_0, ari_eq, ari_eql, ari_leq, ari_cl, Nat.not_lt_zero, Bool.false_eq_true, Option.toList_some, Option.toList_none, List.cons_append, List.nil_append, kv_rv, kc1_i, kc1_r, kc1_n, n10, n01, n1514, n1213, n1312, if_true, if_false, not_true_eq_false, not_false_eq_true, and_self, true_and, and_true, false_and, and_false, or_true, true_or, or_false, false_or, Nat.reduceLeDiff, Nat.reduceLT, Nat.reduceEqDiff, Nat.reduceAdd, m_digit js h3 hx (show k ≤ 8 by omega), c2, ari_31 (show k < 32 by omega), tsh hr (show k < 7 by omega), c1, s_149 js, (show dgf x k < 3 by omega), (show dgf x k < 2147483648 by omega), (show (r.testBit k).toNat < 3 by omega), (show (r.testBit k).toNat < 2147483648 by omega), (show ¬ (r.testBit k).toNat = 2 by omega)]
        exact nx _
      · have hf : hol n x r = false := Bool.eq_false_iff.mpr fun h => by
          rcases hol_iff.mp h k (by omega) with z | z
          · exact c2 z
          · exact c1 z
        conv => lhs; simp only [g_140_9, g_140_10, g_140_11, g_140_13, g_140_16, g_140_18, g_140_20, g_140_21, g_140_24, g_140_26, g_140_27, g_140_29, g_140_30, g_140_31, g_140_32, g_140_35, g_140_36, kv_w8_0, kv_w8_1, kv_w8_2, kv_w8_3, kv_w8_4, ari_aa, ari_al, ari_la, ari_mm, ari_ml, ari_lm, ari_ltl, ari_llt, ari_lt, ari_le, ari_lel, ari_lle, ari_0, ari_eq, ari_eql, ari_leq, ari_cl, Nat.not_lt_zero, Bool.false_eq_true, Option.toList_some, Option.toList_none, List.cons_append, List.nil_append, kv_rv, kc1_i, kc1_r, kc1_n, n10, n01, n1514, n1213, n1312, if_true, if_false, not_true_eq_false, not_false_eq_true, and_self, true_and, and_true, false_and, and_false, or_true, true_or, or_false, false_or, Nat.reduceLeDiff, Nat.reduceLT, Nat.reduceEqDiff, Nat.reduceAdd, m_digit js h3 hx (show k ≤ 8 by omega), c2, ari_31 (show k < 32 by omega), tsh hr (show k < 7 by omega), c1, s_149 js, (show dgf x k < 3 by omega), (show dgf x k < 2147483648 by omega), (show (r.testBit k).toNat < 3 by omega), (show (r.testBit k).toNat < 2147483648 by omega)]
        rw [hf]; rfl
theorem m_holds (js : JS σ) (h3 : J3 σ) {x n r : Nat} (hx : x < 6561) (hn : n ≤ 6) (hr : r < 64) : Wc (d + 1) 140 [.ref 149, .int (Int32.ofNat x), .int (Int32.ofNat n), .int (Int32.ofNat r)] σ Φ = Φ (some (.int (bI (hol n x r)))) σ := by
  have l := hld_loop (d := d) (Φ := Φ) js h3 hx hn hr n 0 (by omega) rfl .null
  simp only [c_140, g_140_0, g_140_1, Nat.not_lt_zero, Bool.false_eq_true, Option.toList_some, Option.toList_none, List.cons_append, List.nil_append, kv_rv, kc1_i, kc1_r, kc1_n, n10, n01, n1514, n1213, n1312, if_true, if_false, not_true_eq_false, not_false_eq_true, and_self, true_and, and_true, false_and, and_false, or_true, true_or, or_false, false_or, Nat.reduceLeDiff, Nat.reduceLT, Nat.reduceEqDiff, Nat.reduceAdd]
  exact l
theorem tol_loop (js : JS σ) (h3 : J3 σ) {x n : Nat} (hx : x < 6561) (hn : n ≤ 6) : ∀ m k, k + m = n → Wp (d + 1) 142 5 [.ref 149, .int (Int32.ofNat x), .int (Int32.ofNat n), .int (Int32.ofNat (tcf k x)), .int (Int32.ofNat k)] [] σ Φ = Φ (some (.int (Int32.ofNat (tcf n x)))) σ
  | 0, k, e => by
    have e2 : k = n := by omega
    subst e2
    simp only [g_142_5, g_142_7, g_142_8, g_142_36, g_142_37, ari_aa, ari_al, ari_la, ari_mm, ari_ml, ari_lm, ari_ltl, ari_llt, ari_lt, ari_le, ari_lel, ari_lle, ari_0, ari_eq, ari_eql, ari_leq, ari_cl, Nat.not_lt_zero, Bool.false_eq_true, Option.toList_some, Option.toList_none, List.cons_append, List.nil_append, kv_rv, kc1_i, kc1_r, kc1_n, n10, n01, n1514, n1213, n1312, if_true, if_false, not_true_eq_false, not_false_eq_true, and_self, true_and, and_true, false_and, and_false, or_true, true_or, or_false, false_or, Nat.reduceLeDiff, Nat.reduceLT, Nat.reduceEqDiff, Nat.reduceAdd, (show k < 7 by omega), (show k < 2147483648 by omega), (show k ≤ k by omega)]
  | m + 1, k, e => by
    have hd : dgf x k < 3 := Nat.mod_lt _ (by decide)
    have et : tcf (k + 1) x = tcf k x + (!(dgf x k == 2)).toNat := rfl
    have nx := tol_loop js h3 hx hn m (k + 1) (by omega)
    conv => lhs; simp only [g_142_5, g_142_7, g_142_8, ari_aa, ari_al, ari_la, ari_mm, ari_ml, ari_lm, ari_ltl, ari_llt, ari_lt, ari_le, ari_lel, ari_lle, ari_0, ari_eq, ari_eql, ari_leq, ari_cl, Nat.not_lt_zero, Bool.false_eq_true, Option.toList_some, Option.toList_none, List.cons_append, List.nil_append, kv_rv, kc1_i, kc1_r, kc1_n, n10, n01, n1514, n1213, n1312, if_true, if_false, not_true_eq_false, not_false_eq_true, and_self, true_and, and_true, false_and, and_false, or_true, true_or, or_false, false_or, Nat.reduceLeDiff, Nat.reduceLT, Nat.reduceEqDiff, Nat.reduceAdd, (show k < 7 by omega), (show k < 2147483648 by omega), (show n < 7 by omega), (show n < 2147483648 by omega), (show ¬ n ≤ k by omega)]
    by_cases c2 : dgf x k = 2
    · rw [et, c2] at nx
      conv => lhs; simp only [g_142_11, g_142_12, g_142_13, g_142_14, g_142_16, g_142_19, g_142_20, g_142_27, g_142_28, g_142_29, g_142_30, g_142_33, kv_w8_0, kv_w8_1, kv_w8_2, kv_w8_3, kv_w8_4, ari_aa, ari_al, ari_la, ari_mm, ari_ml, ari_lm, ari_ltl, ari_llt, ari_lt, ari_le, ari_lel, ari_lle, ari_0, ari_eq, ari_eql, ari_leq, ari_cl, Nat.not_lt_zero, Bool.false_eq_true, Option.toList_some, Option.toList_none, List.cons_append, List.nil_append, kv_rv, kc1_i, kc1_r, kc1_n, n10, n01, n1514, n1213, n1312, if_true, if_false, not_true_eq_false, not_false_eq_true, and_self, true_and, and_true, false_and, and_false, or_true, true_or, or_false, false_or, Nat.reduceLeDiff, Nat.reduceLT, Nat.reduceEqDiff, Nat.reduceAdd, m_digit js h3 hx (show k ≤ 8 by omega), c2, s_149 js, Int32.add_zero]
      exact nx
    · rw [et, beq_false_of_ne c2] at nx
      conv => lhs; simp only [g_142_11, g_142_12, g_142_13, g_142_14, g_142_16, g_142_19, g_142_20, g_142_23, g_142_24, g_142_27, g_142_28, g_142_29, g_142_30, g_142_33, kv_w8_0, kv_w8_1, kv_w8_2, kv_w8_3, kv_w8_4, ari_aa, ari_al, ari_la, ari_mm, ari_ml, ari_lm, ari_ltl, ari_llt, ari_lt, ari_le, ari_lel, ari_lle, ari_0, ari_eq, ari_eql, ari_leq, ari_cl, Nat.not_lt_zero, Bool.false_eq_true, Option.toList_some, Option.toList_none, List.cons_append, List.nil_append, kv_rv, kc1_i, kc1_r, kc1_n, n10, n01, n1514, n1213, n1312, if_true, if_false, not_true_eq_false, not_false_eq_true, and_self, true_and, and_true, false_and, and_false, or_true, true_or, or_false, false_or, Nat.reduceLeDiff, Nat.reduceLT, Nat.reduceEqDiff, Nat.reduceAdd, m_digit js h3 hx (show k ≤ 8 by omega), c2, s_149 js, (show dgf x k < 3 by omega), (show dgf x k < 2147483648 by omega)]
      exact nx
theorem m_toldL (js : JS σ) (h3 : J3 σ) {x n : Nat} (hx : x < 6561) (hn : n ≤ 6) : Wc (d + 1) 142 [.ref 149, .int (Int32.ofNat x), .int (Int32.ofNat n)] σ Φ = Φ (some (.int (Int32.ofNat (tcf n x)))) σ := by
  have l := tol_loop (d := d) (Φ := Φ) js h3 hx hn n 0 (by omega)
  simp only [c_142, g_142_0, g_142_1, g_142_2, g_142_3, Nat.not_lt_zero, Bool.false_eq_true, Option.toList_some, Option.toList_none, List.cons_append, List.nil_append, kv_rv, kc1_i, kc1_r, kc1_n, n10, n01, n1514, n1213, n1312, if_true, if_false, not_true_eq_false, not_false_eq_true, and_self, true_and, and_true, false_and, and_false, or_true, true_or, or_false, false_or, Nat.reduceLeDiff, Nat.reduceLT, Nat.reduceEqDiff, Nat.reduceAdd]
  exact l
end LA

theorem dgf_blk (j k x : Nat) : dgf (j * (3 * 3 ^ k) + x) k = x / 3 ^ k % 3 := by
  unfold dgf
  rw [show j * (3 * 3 ^ k) + x = x + 3 ^ k * (3 * j) by rw [Nat.mul_comm j, Nat.mul_right_comm, Nat.mul_comm (3 * j), Nat.add_comm]]
  rw [Nat.add_mul_div_left _ _ (pw3 k), Nat.add_mul_mod_self_left]
/-- the cells up to c are done: those that leave out letter k -/
def flI (g : Nat → Int32) (k m c : Nat) (τ : kv_S) : Prop := ∀ q, q < 3 ^ m → kv_i τ 12 q = if dgf q k = 2 ∧ q < c then g (q - 3 ^ k) &&& g (q - 2 * 3 ^ k) else g q
section PE
variable {d : Nat} {Φ : Option Value → kv_S → Prop}
theorem flo_in {τ0 : kv_S} (js0 : JS τ0) {k m j : Nat} (hk : k < m) (hm : m ≤ 5) (hj : j < 3 ^ (m - k - 1)) (H : ∀ τ, FR (fun b _ => b = 12) τ0 τ → flI (kv_i τ0 12) k m (j * (3 * 3 ^ k) + 2 * 3 ^ k + 3 ^ k) τ → ∀ x, Wp d 45 63 [.ref 11, .int (Int32.ofNat k), .int (Int32.ofNat (3 ^ k)), .int (Int32.ofNat (j * (3 * 3 ^ k) + 2 * 3 ^ k)), .int x] [] τ Φ) : ∀ mm i, i + mm = 3 ^ k → ∀ τ, FR (fun b _ => b = 12) τ0 τ → flI (kv_i τ0 12) k m (j * (3 * 3 ^ k) + 2 * 3 ^ k + i) τ → Wp d 45 21 [.ref 11, .int (Int32.ofNat k), .int (Int32.ofNat (3 ^ k)), .int (Int32.ofNat (j * (3 * 3 ^ k) + 2 * 3 ^ k)), .int (Int32.ofNat (j * (3 * 3 ^ k) + 2 * 3 ^ k + i))] [] τ Φ := by
  have h0 := pw3 k
  have hw : j * (3 * 3 ^ k) + 3 * 3 ^ k ≤ 3 ^ m := by
    have e : 3 ^ m = 3 ^ (m - k - 1) * (3 * 3 ^ k) := by rw [Nat.mul_comm 3, ← Nat.pow_succ, ← Nat.pow_add]; congr 1; omega
    rw [e, ← Nat.succ_mul]; exact Nat.mul_le_mul_right _ hj
  have h243 : 3 ^ m ≤ 243 := by
    have : ∀ m, m ≤ 5 → 3 ^ m ≤ 243 := by decide
    exact this m hm
  intro mm
  induction mm with
  | zero =>
    intro i e τ fr hI
    have e2 : i = 3 ^ k := by omega
    subst e2
    generalize j * (3 * 3 ^ k) = a at *
    simp only [g_45_21, g_45_23, g_45_24, g_45_25, g_45_26, ari_aa, ari_al, ari_la, ari_mm, ari_ml, ari_lm, ari_ltl, ari_llt, ari_lt, ari_le, ari_lel, ari_lle, ari_0, ari_eq, ari_eql, ari_leq, ari_cl, Nat.not_lt_zero, Bool.false_eq_true, Option.toList_some, Option.toList_none, List.cons_append, List.nil_append, kv_rv, kc1_i, kc1_r, kc1_n, n10, n01, n1514, n1213, n1312, if_true, if_false, not_true_eq_false, not_false_eq_true, and_self, true_and, and_true, false_and, and_false, or_true, true_or, or_false, false_or, Nat.reduceLeDiff, Nat.reduceLT, Nat.reduceEqDiff, Nat.reduceAdd, (show a + 2 * 3 ^ k + 3 ^ k < 300 by omega), (show a + 2 * 3 ^ k + 3 ^ k < 2147483648 by omega), (show a + 2 * 3 ^ k + 3 ^ k ≤ a + 2 * 3 ^ k + 3 ^ k by omega)]
    exact H τ fr hI _
  | succ mm ih =>
    intro i e τ fr hI
    have js := fr.js js0
    have d0 := dgf_blk j k (2 * 3 ^ k + i)
    have d1 := dgf_blk j k (3 ^ k + i)
    have d2 := dgf_blk j k i
    have q2 : (2 * 3 ^ k + i) / 3 ^ k = 2 := by rw [Nat.mul_comm, Nat.mul_add_div h0, Nat.div_eq_of_lt (by omega)]
    have q1 : (3 ^ k + i) / 3 ^ k = 1 := by rw [show 3 ^ k + i = 3 ^ k * 1 + i by omega, Nat.mul_add_div h0, Nat.div_eq_of_lt (by omega)]
    have q0 : i / 3 ^ k = 0 := Nat.div_eq_of_lt (by omega)
    rw [q2] at d0
    rw [q1] at d1
    rw [q0] at d2
    have ih' := ih (i + 1) (by omega)
    generalize ha : j * (3 * 3 ^ k) = a at *
    have r1 := hI (a + (3 ^ k + i)) (by omega)
    have r2 := hI (a + i) (by omega)
    rw [if_neg (by rw [d1]; omega)] at r1
    rw [if_neg (by rw [d2]; omega)] at r2
    have e1 : a + 2 * 3 ^ k + i - 3 ^ k = a + (3 ^ k + i) := by omega
    have e2 : a + 2 * 3 ^ k + i - 2 * 3 ^ k = a + i := by omega
    simp only [g_45_21, g_45_23, g_45_24, g_45_25, g_45_26, ari_aa, ari_al, ari_la, ari_mm, ari_ml, ari_lm, ari_ltl, ari_llt, ari_lt, ari_le, ari_lel, ari_lle, ari_0, ari_eq, ari_eql, ari_leq, ari_cl, Nat.not_lt_zero, Bool.false_eq_true, Option.toList_some, Option.toList_none, List.cons_append, List.nil_append, kv_rv, kc1_i, kc1_r, kc1_n, n10, n01, n1514, n1213, n1312, if_true, if_false, not_true_eq_false, not_false_eq_true, and_self, true_and, and_true, false_and, and_false, or_true, true_or, or_false, false_or, Nat.reduceLeDiff, Nat.reduceLT, Nat.reduceEqDiff, Nat.reduceAdd, (show a + 2 * 3 ^ k + i < 300 by omega), (show a + 2 * 3 ^ k + i < 2147483648 by omega), (show a + 2 * 3 ^ k + 3 ^ k < 300 by omega), (show a + 2 * 3 ^ k + 3 ^ k < 2147483648 by omega), (show ¬ a + 2 * 3 ^ k + 3 ^ k ≤ a + 2 * 3 ^ k + i by omega)]
    simp only [g_45_29, g_45_30, g_45_33, g_45_35, g_45_36, g_45_39, g_45_41, g_45_42, g_45_43, g_45_44, g_45_45, g_45_48, g_45_50, g_45_51, g_45_52, g_45_53, g_45_54, g_45_55, g_45_56, g_45_57, g_45_60, ari_aa, ari_al, ari_la, ari_mm, ari_ml, ari_lm, ari_ltl, ari_llt, ari_lt, ari_le, ari_lel, ari_lle, ari_0, ari_eq, ari_eql, ari_leq, ari_cl, Nat.not_lt_zero, Bool.false_eq_true, Option.toList_some, Option.toList_none, List.cons_append, List.nil_append, kv_rv, kc1_i, kc1_r, kc1_n, n10, n01, n1514, n1213, n1312, if_true, if_false, not_true_eq_false, not_false_eq_true, and_self, true_and, and_true, false_and, and_false, or_true, true_or, or_false, false_or, Nat.reduceLeDiff, Nat.reduceLT, Nat.reduceEqDiff, Nat.reduceAdd, ari_ss, e1, e2, r1, r2, s_11 js, r_8_2 js, s_12 js, r_11_0 js, (show a + 2 * 3 ^ k + i < 243 by omega), (show a + 2 * 3 ^ k + i < 2147483648 by omega), (show a + (3 ^ k + i) < 243 by omega), (show a + (3 ^ k + i) < 2147483648 by omega), (show a + i < 243 by omega), (show a + i < 2147483648 by omega), (show 3 ^ k ≤ a + 2 * 3 ^ k + i by omega), (show 2 * 3 ^ k ≤ a + 2 * 3 ^ k + i by omega)]
    refine ih' _ (fr.si rfl) (fun q hq => ?_)
    by_cases c : q = a + 2 * 3 ^ k + i
    · rw [eq_ess ⟨rfl, c⟩, if_pos ⟨by rw [c, Nat.add_assoc]; exact d0, by omega⟩, c, e1, e2]
    · rw [ne_ess (by omega), hI q hq]
      by_cases c2 : dgf q k = 2 ∧ q < a + 2 * 3 ^ k + i
      · rw [if_pos c2, if_pos ⟨c2.1, by omega⟩]
      · rw [if_neg c2, if_neg (fun w => c2 ⟨w.1, by omega⟩)]
theorem flo_out {τ0 : kv_S} (js0 : JS τ0) (hK : JK τ0) {k m : Nat} (hk : k < m) (hm : m ≤ 5) (ew : kv_i τ0 11 2 = Int32.ofNat (3 ^ m)) (H : ∀ τ, FR (fun b _ => b = 12) τ0 τ → (∀ q, q < 3 ^ m → kv_i τ 12 q = if dgf q k = 2 then kv_i τ0 12 (q - 3 ^ k) &&& kv_i τ0 12 (q - 2 * 3 ^ k) else kv_i τ0 12 q) → Φ none τ) : ∀ mm j, j + mm = 3 ^ (m - k - 1) → ∀ τ, FR (fun b _ => b = 12) τ0 τ → flI (kv_i τ0 12) k m (j * (3 * 3 ^ k) + 2 * 3 ^ k) τ → ∀ v4 : Value, Wp d 45 10 [.ref 11, .int (Int32.ofNat k), .int (Int32.ofNat (3 ^ k)), .int (Int32.ofNat (j * (3 * 3 ^ k) + 2 * 3 ^ k)), v4] [] τ Φ := by
  have h0 := pw3 k
  have e3 : 3 ^ m = 3 ^ (m - k - 1) * (3 * 3 ^ k) := by rw [Nat.mul_comm 3, ← Nat.pow_succ, ← Nat.pow_add]; congr 1; omega
  have h243 : 3 ^ m ≤ 243 := by
    have : ∀ m, m ≤ 5 → 3 ^ m ≤ 243 := by decide
    exact this m hm
  intro mm
  induction mm with
  | zero =>
    intro j e τ fr hI v4
    have e2 : j = 3 ^ (m - k - 1) := by omega
    subst e2
    have js := fr.js js0
    have ew' : kv_i τ 11 2 = Int32.ofNat (3 ^ m) := by rw [fr.i (by omega)]; exact ew
    rw [← e3] at hI ⊢
    have hP : 3 ^ k ≤ 3 ^ m := Nat.pow_le_pow_right (by decide) (by omega)
    simp only [g_45_10, g_45_11, g_45_12, g_45_15, g_45_76, ari_aa, ari_al, ari_la, ari_mm, ari_ml, ari_lm, ari_ltl, ari_llt, ari_lt, ari_le, ari_lel, ari_lle, ari_0, ari_eq, ari_eql, ari_leq, ari_cl, Nat.not_lt_zero, Bool.false_eq_true, Option.toList_some, Option.toList_none, List.cons_append, List.nil_append, kv_rv, kc1_i, kc1_r, kc1_n, n10, n01, n1514, n1213, n1312, if_true, if_false, not_true_eq_false, not_false_eq_true, and_self, true_and, and_true, false_and, and_false, or_true, true_or, or_false, false_or, Nat.reduceLeDiff, Nat.reduceLT, Nat.reduceEqDiff, Nat.reduceAdd, s_11 js, r_8_2 js, ew', (show 3 ^ m < 300 by omega), (show 3 ^ m < 2147483648 by omega), (show 3 ^ m + 2 * 3 ^ k < 1000 by omega), (show 3 ^ m + 2 * 3 ^ k < 2147483648 by omega), (show 3 ^ m ≤ 3 ^ m + 2 * 3 ^ k by omega)]
    refine H τ fr (fun q hq => ?_)
    rw [hI q hq]
    by_cases c : dgf q k = 2
    · rw [if_pos ⟨c, by omega⟩, if_pos c]
    · rw [if_neg (fun w => c w.1), if_neg c]
  | succ mm ih =>
    intro j e τ fr hI v4
    have js := fr.js js0
    have ew' : kv_i τ 11 2 = Int32.ofNat (3 ^ m) := by rw [fr.i (by omega)]; exact ew
    have hw : j * (3 * 3 ^ k) + 3 * 3 ^ k ≤ 3 ^ m := by rw [e3, ← Nat.succ_mul]; exact Nat.mul_le_mul_right _ (by omega)
    have en : (j + 1) * (3 * 3 ^ k) = j * (3 * 3 ^ k) + 3 * 3 ^ k := Nat.succ_mul _ _
    have ih' := ih (j + 1) (by omega)
    rw [en] at ih'
    have blk : ∀ x, x < 2 * 3 ^ k → dgf (j * (3 * 3 ^ k) + 3 * 3 ^ k + x) k ≠ 2 := by
      intro x hx
      rw [← en, dgf_blk (j + 1) k x]
      have : x / 3 ^ k < 2 := Nat.div_lt_of_lt_mul (by omega)
      generalize x / 3 ^ k = y at this ⊢
      omega
    have fin : ∀ τ, FR (fun b _ => b = 12) τ0 τ → flI (kv_i τ0 12) k m (j * (3 * 3 ^ k) + 2 * 3 ^ k + 3 ^ k) τ → ∀ x, Wp d 45 63 [.ref 11, .int (Int32.ofNat k), .int (Int32.ofNat (3 ^ k)), .int (Int32.ofNat (j * (3 * 3 ^ k) + 2 * 3 ^ k)), .int x] [] τ Φ := by
      intro υ fr2 hI2 x
      have hK2 : JK υ := hK.fr fr2 (fun b i q => by omega)
      have s1 : kv_sh υ 1 = (10, 6) := hK2.2.1
      have p1 : kv_i υ 1 (k + 1) = Int32.ofNat (3 * 3 ^ k) := ((hK2.2.2.2.2.2.2.2 1 _ (by decide) (by decide)).trans (kP _ (by omega))).trans (by rw [Nat.pow_succ, Nat.mul_comm])
      generalize j * (3 * 3 ^ k) = a at *
      simp only [g_45_63, g_45_64, g_45_67, g_45_68, g_45_69, g_45_70, g_45_71, g_45_72, g_45_73, ari_aa, ari_al, ari_la, ari_mm, ari_ml, ari_lm, ari_ltl, ari_llt, ari_lt, ari_le, ari_lel, ari_lle, ari_0, ari_eq, ari_eql, ari_leq, ari_cl, Nat.not_lt_zero, Bool.false_eq_true, Option.toList_some, Option.toList_none, List.cons_append, List.nil_append, kv_rv, kc1_i, kc1_r, kc1_n, n10, n01, n1514, n1213, n1312, if_true, if_false, not_true_eq_false, not_false_eq_true, and_self, true_and, and_true, false_and, and_false, or_true, true_or, or_false, false_or, Nat.reduceLeDiff, Nat.reduceLT, Nat.reduceEqDiff, Nat.reduceAdd, s1, p1, (show k + 1 < 6 by omega), (show k + 1 < 2147483648 by omega)]
      rw [show a + 2 * 3 ^ k + 3 * 3 ^ k = a + 3 * 3 ^ k + 2 * 3 ^ k by omega]
      refine ih' υ fr2 (fun q hq => ?_) _
      rw [hI2 q hq]
      by_cases c : dgf q k = 2 ∧ q < a + 2 * 3 ^ k + 3 ^ k
      · rw [if_pos c, if_pos ⟨c.1, by omega⟩]
      · rw [if_neg c, if_neg]
        rintro ⟨w1, w2⟩
        by_cases c3 : q < a + 3 * 3 ^ k
        · exact c ⟨w1, by omega⟩
        · have := blk (q - (a + 3 * 3 ^ k)) (by omega)
          rw [show a + 3 * 3 ^ k + (q - (a + 3 * 3 ^ k)) = q by omega] at this
          exact this w1
    have inn := flo_in (d := d) (Φ := Φ) js0 hk hm (show j < 3 ^ (m - k - 1) by omega) fin (3 ^ k) 0 (by omega) τ fr (by rw [Nat.add_zero]; exact hI)
    rw [Nat.add_zero] at inn
    generalize j * (3 * 3 ^ k) = a at *
    simp only [g_45_10, g_45_11, g_45_12, g_45_15, g_45_18, g_45_19, ari_aa, ari_al, ari_la, ari_mm, ari_ml, ari_lm, ari_ltl, ari_llt, ari_lt, ari_le, ari_lel, ari_lle, ari_0, ari_eq, ari_eql, ari_leq, ari_cl, Nat.not_lt_zero, Bool.false_eq_true, Option.toList_some, Option.toList_none, List.cons_append, List.nil_append, kv_rv, kc1_i, kc1_r, kc1_n, n10, n01, n1514, n1213, n1312, if_true, if_false, not_true_eq_false, not_false_eq_true, and_self, true_and, and_true, false_and, and_false, or_true, true_or, or_false, false_or, Nat.reduceLeDiff, Nat.reduceLT, Nat.reduceEqDiff, Nat.reduceAdd, s_11 js, r_8_2 js, ew', (show 3 ^ m < 300 by omega), (show 3 ^ m < 2147483648 by omega), (show a + 2 * 3 ^ k < 300 by omega), (show a + 2 * 3 ^ k < 2147483648 by omega), (show ¬ 3 ^ m ≤ a + 2 * 3 ^ k by omega)]
    exact inn
theorem m_flo {τ0 : kv_S} (js0 : JS τ0) (hK : JK τ0) {k m : Nat} (hk : k < m) (hm : m ≤ 5) (ew : kv_i τ0 11 2 = Int32.ofNat (3 ^ m)) (H : ∀ τ, FR (fun b _ => b = 12) τ0 τ → (∀ q, q < 3 ^ m → kv_i τ 12 q = if dgf q k = 2 then kv_i τ0 12 (q - 3 ^ k) &&& kv_i τ0 12 (q - 2 * 3 ^ k) else kv_i τ0 12 q) → Φ none τ) : Wc d 45 [.ref 11, .int (Int32.ofNat k)] τ0 Φ := by
  have s1 : kv_sh τ0 1 = (10, 6) := hK.2.1
  have p1 : kv_i τ0 1 k = Int32.ofNat (3 ^ k) := (hK.2.2.2.2.2.2.2 1 _ (by decide) (by decide)).trans (kP _ (by omega))
  have l1 := flo_out (d := d) (Φ := Φ) js0 hK hk hm ew H (3 ^ (m - k - 1)) 0 (by omega) τ0 (FR.rf _ τ0) (fun q hq => by
    rw [if_neg]
    rintro ⟨w1, w2⟩
    have := dgf_blk 0 k q
    rw [Nat.zero_mul, Nat.zero_add] at this w2
    have h2 : q / 3 ^ k < 2 := Nat.div_lt_of_lt_mul (by omega)
    rw [this] at w1
    generalize q / 3 ^ k = y at w1 h2
    omega) .null
  rw [Nat.zero_mul, Nat.zero_add] at l1
  simp only [c_45, g_45_0, g_45_3, g_45_4, g_45_5, g_45_6, g_45_7, g_45_8, g_45_9, ari_aa, ari_al, ari_la, ari_mm, ari_ml, ari_lm, ari_ltl, ari_llt, ari_lt, ari_le, ari_lel, ari_lle, ari_0, ari_eq, ari_eql, ari_leq, ari_cl, Nat.not_lt_zero, Bool.false_eq_true, Option.toList_some, Option.toList_none, List.cons_append, List.nil_append, kv_rv, kc1_i, kc1_r, kc1_n, n10, n01, n1514, n1213, n1312, if_true, if_false, not_true_eq_false, not_false_eq_true, and_self, true_and, and_true, false_and, and_false, or_true, true_or, or_false, false_or, Nat.reduceLeDiff, Nat.reduceLT, Nat.reduceEqDiff, Nat.reduceAdd, s1, p1, (show k < 6 by omega), (show k < 2147483648 by omega)]
  exact l1
end PE

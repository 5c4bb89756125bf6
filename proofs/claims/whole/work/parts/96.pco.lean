/-- the cells whose wider product lies below c are done -/
def wlI (W F : Nat → Int32) (k m c : Nat) (τ : kv_S) : Prop := ∀ q, q < 3 ^ m → kv_i τ 13 q = if dgf q k ≠ 2 ∧ q + (2 - dgf q k) * 3 ^ k < c then W q ||| F (q + (2 - dgf q k) * 3 ^ k) else W q
section PF
variable {d : Nat} {Φ : Option Value → kv_S → Prop}
theorem wlo_in {τ0 : kv_S} (js0 : JS τ0) {k m j : Nat} (hk : k < m) (hm : m ≤ 5) (hj : j < 3 ^ (m - k - 1)) (H : ∀ τ, FR (fun b _ => b = 13) τ0 τ → wlI (kv_i τ0 13) (kv_i τ0 12) k m (j * (3 * 3 ^ k) + 2 * 3 ^ k + 3 ^ k) τ → ∀ x, Wp d 47 75 [.ref 11, .int (Int32.ofNat k), .int (Int32.ofNat (3 ^ k)), .int (Int32.ofNat (j * (3 * 3 ^ k) + 2 * 3 ^ k)), .int x] [] τ Φ) : ∀ mm i, i + mm = 3 ^ k → ∀ τ, FR (fun b _ => b = 13) τ0 τ → wlI (kv_i τ0 13) (kv_i τ0 12) k m (j * (3 * 3 ^ k) + 2 * 3 ^ k + i) τ → Wp d 47 21 [.ref 11, .int (Int32.ofNat k), .int (Int32.ofNat (3 ^ k)), .int (Int32.ofNat (j * (3 * 3 ^ k) + 2 * 3 ^ k)), .int (Int32.ofNat (j * (3 * 3 ^ k) + 2 * 3 ^ k + i))] [] τ Φ := by
  have h0 := pw3 k
  have hw : j * (3 * 3 ^ k) + 3 * 3 ^ k ≤ 3 ^ m := by
    have e : 3 ^ m = 3 ^ (m - k - 1) * (3 * 3 ^ k) := by rw [Nat.mul_comm 3, ← Nat.pow_succ, ← Nat.pow_add]; congr 1; omega
    rw [e, ← Nat.succ_mul]; exact Nat.mul_le_mul_right _ hj
  have h243 : 3 ^ m ≤ 243 := by
    have : ∀ m, m ≤ 5 → 3 ^ m ≤ 243 := by decide
    exact this m hm
  intro mm
  induction mm with
  | zero =>
    intro i e τ fr hI
    have e2 : i = 3 ^ k := by omega
    subst e2
    generalize j * (3 * 3 ^ k) = a at *
    simp only [g_47_21, g_47_23, g_47_24, g_47_25, g_47_26, ari_aa, ari_al, ari_la, ari_mm, ari_ml, ari_lm, ari_ltl, ari_llt, ari_lt, ari_le, ari_lel, ari_lle, ari_0, ari_eq, ari_eql, ari_leq, ari_cl, Nat.not_lt_zero, Bool.false_eq_true, Option.toList_some, Option.toList_none, List.cons_append, List.nil_append, kv_rv, kc1_i, kc1_r, kc1_n, n10, n01, n1514, n1213, n1312, if_true, if_false, not_true_eq_false, not_false_eq_true, and_self, true_and, and_true, false_and, and_false, or_true, true_or, or_false, false_or, Nat.reduceLeDiff, Nat.reduceLT, Nat.reduceEqDiff, Nat.reduceAdd, (show a + 2 * 3 ^ k + 3 ^ k < 300 by omega), (show a + 2 * 3 ^ k + 3 ^ k < 2147483648 by omega), (show a + 2 * 3 ^ k + 3 ^ k ≤ a + 2 * 3 ^ k + 3 ^ k by omega)]
    exact H τ fr hI _
  | succ mm ih =>
    intro i e τ fr hI
    have js := fr.js js0
    have d1 := dgf_blk j k (3 ^ k + i)
    have d2 := dgf_blk j k i
    have q1 : (3 ^ k + i) / 3 ^ k = 1 := by rw [show 3 ^ k + i = 3 ^ k * 1 + i by omega, Nat.mul_add_div h0, Nat.div_eq_of_lt (by omega)]
    have q0 : i / 3 ^ k = 0 := Nat.div_eq_of_lt (by omega)
    rw [q1] at d1
    rw [q0] at d2
    have ih' := ih (i + 1) (by omega)
    generalize ha : j * (3 * 3 ^ k) = a at *
    have d1' : dgf (a + (3 ^ k + i)) k = 1 := d1
    have d2' : dgf (a + i) k = 0 := d2
    have r1 := hI (a + (3 ^ k + i)) (by omega)
    have r2 := hI (a + i) (by omega)
    rw [d1', if_neg (by omega)] at r1
    rw [d2', if_neg (by omega)] at r2
    have f0 : kv_i τ 12 (a + 2 * 3 ^ k + i) = kv_i τ0 12 (a + 2 * 3 ^ k + i) := fr.i (by omega)
    have e1 : a + 2 * 3 ^ k + i - 3 ^ k = a + (3 ^ k + i) := by omega
    have e2 : a + 2 * 3 ^ k + i - 2 * 3 ^ k = a + i := by omega
    simp only [g_47_21, g_47_23, g_47_24, g_47_25, g_47_26, ari_aa, ari_al, ari_la, ari_mm, ari_ml, ari_lm, ari_ltl, ari_llt, ari_lt, ari_le, ari_lel, ari_lle, ari_0, ari_eq, ari_eql, ari_leq, ari_cl, Nat.not_lt_zero, Bool.false_eq_true, Option.toList_some, Option.toList_none, List.cons_append, List.nil_append, kv_rv, kc1_i, kc1_r, kc1_n, n10, n01, n1514, n1213, n1312, if_true, if_false, not_true_eq_false, not_false_eq_true, and_self, true_and, and_true, false_and, and_false, or_true, true_or, or_false, false_or, Nat.reduceLeDiff, Nat.reduceLT, Nat.reduceEqDiff, Nat.reduceAdd, (show a + 2 * 3 ^ k + i < 300 by omega), (show a + 2 * 3 ^ k + i < 2147483648 by omega), (show a + 2 * 3 ^ k + 3 ^ k < 300 by omega), (show a + 2 * 3 ^ k + 3 ^ k < 2147483648 by omega), (show ¬ a + 2 * 3 ^ k + 3 ^ k ≤ a + 2 * 3 ^ k + i by omega)]
    simp only [g_47_29, g_47_30, g_47_33, g_47_35, g_47_36, g_47_37, g_47_38, g_47_39, g_47_40, g_47_43, g_47_45, g_47_46, g_47_47, g_47_48, g_47_49, g_47_52, g_47_54, g_47_55, g_47_56, g_47_57, g_47_58, g_47_59, g_47_60, g_47_61, g_47_64, g_47_66, g_47_67, g_47_68, g_47_69, g_47_72, n_si, n_sl, n_sr, n_mk, sh_si, sh_sl, sh_sr, sh_mk, i_si, i_sl, i_sr, i_mk, l_si, l_sl, l_sr, l_mk, r_si, r_sl, r_sr, r_mk, ari_aa, ari_al, ari_la, ari_mm, ari_ml, ari_lm, ari_ltl, ari_llt, ari_lt, ari_le, ari_lel, ari_lle, ari_0, ari_eq, ari_eql, ari_leq, ari_cl, Nat.not_lt_zero, Bool.false_eq_true, Option.toList_some, Option.toList_none, List.cons_append, List.nil_append, kv_rv, kc1_i, kc1_r, kc1_n, n10, n01, n1514, n1213, n1312, if_true, if_false, not_true_eq_false, not_false_eq_true, and_self, true_and, and_true, false_and, and_false, or_true, true_or, or_false, false_or, Nat.reduceLeDiff, Nat.reduceLT, Nat.reduceEqDiff, Nat.reduceAdd, ari_ss, e1, e2, r1, r2, f0, s_11 js, r_8_2 js, s_12 js, r_11_0 js, s_13 js, r_11_1 js, (show ¬ (12 = 13) by decide), (show a + 2 * 3 ^ k + i < 243 by omega), (show a + 2 * 3 ^ k + i < 2147483648 by omega), (show a + (3 ^ k + i) < 243 by omega), (show a + (3 ^ k + i) < 2147483648 by omega), (show a + i < 243 by omega), (show a + i < 2147483648 by omega), (show 3 ^ k ≤ a + 2 * 3 ^ k + i by omega), (show 2 * 3 ^ k ≤ a + 2 * 3 ^ k + i by omega), (show ¬ (a + i = a + (3 ^ k + i)) by omega)]
    refine ih' _ ((fr.si rfl).si rfl) (fun q hq => ?_)
    by_cases c0 : q = a + i
    · rw [eq_ess ⟨rfl, c0⟩, c0, d2', if_pos ⟨by decide, by omega⟩, show a + i + (2 - 0) * 3 ^ k = a + 2 * 3 ^ k + i by omega]
    · by_cases c1 : q = a + (3 ^ k + i)
      · rw [ne_ess (by omega), eq_ess ⟨rfl, c1⟩, c1, d1', if_pos ⟨by decide, by omega⟩, show a + (3 ^ k + i) + (2 - 1) * 3 ^ k = a + 2 * 3 ^ k + i by omega]
      · rw [ne_ess (by omega), ne_ess (by omega), hI q hq]
        have hd : dgf q k < 3 := Nat.mod_lt _ (by decide)
        by_cases c2 : dgf q k ≠ 2 ∧ q + (2 - dgf q k) * 3 ^ k < a + 2 * 3 ^ k + i
        · rw [if_pos c2, if_pos ⟨c2.1, by omega⟩]
        · rw [if_neg c2, if_neg]
          rintro ⟨w1, w2⟩
          refine c2 ⟨w1, ?_⟩
          rcases (show dgf q k = 0 ∨ dgf q k = 1 by omega) with z | z <;> rw [z] at w2 ⊢ <;> omega
theorem wlo_out {τ0 : kv_S} (js0 : JS τ0) (hK : JK τ0) {k m : Nat} (hk : k < m) (hm : m ≤ 5) (ew : kv_i τ0 11 2 = Int32.ofNat (3 ^ m)) (H : ∀ τ, FR (fun b _ => b = 13) τ0 τ → (∀ q, q < 3 ^ m → kv_i τ 13 q = if dgf q k ≠ 2 then kv_i τ0 13 q ||| kv_i τ0 12 (q + (2 - dgf q k) * 3 ^ k) else kv_i τ0 13 q) → Φ none τ) : ∀ mm j, j + mm = 3 ^ (m - k - 1) → ∀ τ, FR (fun b _ => b = 13) τ0 τ → wlI (kv_i τ0 13) (kv_i τ0 12) k m (j * (3 * 3 ^ k) + 2 * 3 ^ k) τ → ∀ v4 : Value, Wp d 47 10 [.ref 11, .int (Int32.ofNat k), .int (Int32.ofNat (3 ^ k)), .int (Int32.ofNat (j * (3 * 3 ^ k) + 2 * 3 ^ k)), v4] [] τ Φ := by
  have h0 := pw3 k
  have e3 : 3 ^ m = 3 ^ (m - k - 1) * (3 * 3 ^ k) := by rw [Nat.mul_comm 3, ← Nat.pow_succ, ← Nat.pow_add]; congr 1; omega
  have h243 : 3 ^ m ≤ 243 := by
    have : ∀ m, m ≤ 5 → 3 ^ m ≤ 243 := by decide
    exact this m hm
  intro mm
  induction mm with
  | zero =>
    intro j e τ fr hI v4
    have e2 : j = 3 ^ (m - k - 1) := by omega
    subst e2
    have js := fr.js js0
    have ew' : kv_i τ 11 2 = Int32.ofNat (3 ^ m) := by rw [fr.i (by omega)]; exact ew
    rw [← e3] at hI ⊢
    have hP : 3 ^ k ≤ 3 ^ m := Nat.pow_le_pow_right (by decide) (by omega)
    simp only [g_47_10, g_47_11, g_47_12, g_47_15, g_47_88, ari_aa, ari_al, ari_la, ari_mm, ari_ml, ari_lm, ari_ltl, ari_llt, ari_lt, ari_le, ari_lel, ari_lle, ari_0, ari_eq, ari_eql, ari_leq, ari_cl, Nat.not_lt_zero, Bool.false_eq_true, Option.toList_some, Option.toList_none, List.cons_append, List.nil_append, kv_rv, kc1_i, kc1_r, kc1_n, n10, n01, n1514, n1213, n1312, if_true, if_false, not_true_eq_false, not_false_eq_true, and_self, true_and, and_true, false_and, and_false, or_true, true_or, or_false, false_or, Nat.reduceLeDiff, Nat.reduceLT, Nat.reduceEqDiff, Nat.reduceAdd, s_11 js, r_8_2 js, ew', (show 3 ^ m < 300 by omega), (show 3 ^ m < 2147483648 by omega), (show 3 ^ m + 2 * 3 ^ k < 1000 by omega), (show 3 ^ m + 2 * 3 ^ k < 2147483648 by omega), (show 3 ^ m ≤ 3 ^ m + 2 * 3 ^ k by omega)]
    refine H τ fr (fun q hq => ?_)
    rw [hI q hq]
    by_cases c : dgf q k ≠ 2
    · have := dgf_add_lt (p := q) (k := k) (n := m) hk hq
      rw [if_pos ⟨c, by omega⟩, if_pos c]
    · rw [if_neg (fun w => c w.1), if_neg c]
  | succ mm ih =>
    intro j e τ fr hI v4
    have js := fr.js js0
    have ew' : kv_i τ 11 2 = Int32.ofNat (3 ^ m) := by rw [fr.i (by omega)]; exact ew
    have hw : j * (3 * 3 ^ k) + 3 * 3 ^ k ≤ 3 ^ m := by rw [e3, ← Nat.succ_mul]; exact Nat.mul_le_mul_right _ (by omega)
    have en : (j + 1) * (3 * 3 ^ k) = j * (3 * 3 ^ k) + 3 * 3 ^ k := Nat.succ_mul _ _
    have ih' := ih (j + 1) (by omega)
    rw [en] at ih'
    have blk : ∀ x, x < 2 * 3 ^ k → dgf (j * (3 * 3 ^ k) + 3 * 3 ^ k + x) k ≠ 2 := by
      intro x hx
      rw [← en, dgf_blk (j + 1) k x]
      have : x / 3 ^ k < 2 := Nat.div_lt_of_lt_mul (by omega)
      generalize x / 3 ^ k = y at this ⊢
      omega
    have fin : ∀ τ, FR (fun b _ => b = 13) τ0 τ → wlI (kv_i τ0 13) (kv_i τ0 12) k m (j * (3 * 3 ^ k) + 2 * 3 ^ k + 3 ^ k) τ → ∀ x, Wp d 47 75 [.ref 11, .int (Int32.ofNat k), .int (Int32.ofNat (3 ^ k)), .int (Int32.ofNat (j * (3 * 3 ^ k) + 2 * 3 ^ k)), .int x] [] τ Φ := by
      intro υ fr2 hI2 x
      have hK2 : JK υ := hK.fr fr2 (fun b i q => by omega)
      have s1 : kv_sh υ 1 = (10, 6) := hK2.2.1
      have p1 : kv_i υ 1 (k + 1) = Int32.ofNat (3 * 3 ^ k) := ((hK2.2.2.2.2.2.2.2 1 _ (by decide) (by decide)).trans (kP _ (by omega))).trans (by rw [Nat.pow_succ, Nat.mul_comm])
      generalize j * (3 * 3 ^ k) = a at *
      simp only [g_47_75, g_47_76, g_47_79, g_47_80, g_47_81, g_47_82, g_47_83, g_47_84, g_47_85, ari_aa, ari_al, ari_la, ari_mm, ari_ml, ari_lm, ari_ltl, ari_llt, ari_lt, ari_le, ari_lel, ari_lle, ari_0, ari_eq, ari_eql, ari_leq, ari_cl, Nat.not_lt_zero, Bool.false_eq_true, Option.toList_some, Option.toList_none, List.cons_append, List.nil_append, kv_rv, kc1_i, kc1_r, kc1_n, n10, n01, n1514, n1213, n1312, if_true, if_false, not_true_eq_false, not_false_eq_true, and_self, true_and, and_true, false_and, and_false, or_true, true_or, or_false, false_or, Nat.reduceLeDiff, Nat.reduceLT, Nat.reduceEqDiff, Nat.reduceAdd, s1, p1, (show k + 1 < 6 by omega), (show k + 1 < 2147483648 by omega)]
      rw [show a + 2 * 3 ^ k + 3 * 3 ^ k = a + 3 * 3 ^ k + 2 * 3 ^ k by omega]
      refine ih' υ fr2 (fun q hq => ?_) _
      rw [hI2 q hq]
      by_cases c : dgf q k ≠ 2 ∧ q + (2 - dgf q k) * 3 ^ k < a + 2 * 3 ^ k + 3 ^ k
      · rw [if_pos c, if_pos ⟨c.1, by omega⟩]
      · rw [if_neg c, if_neg]
        rintro ⟨w1, w2⟩
        have hq2 : dgf (q + (2 - dgf q k) * 3 ^ k) k = 2 := by rw [dgf_add w1 k, if_pos rfl]
        by_cases c3 : q + (2 - dgf q k) * 3 ^ k < a + 3 * 3 ^ k
        · exact c ⟨w1, by omega⟩
        · have := blk (q + (2 - dgf q k) * 3 ^ k - (a + 3 * 3 ^ k)) (by omega)
          rw [show a + 3 * 3 ^ k + (q + (2 - dgf q k) * 3 ^ k - (a + 3 * 3 ^ k)) = q + (2 - dgf q k) * 3 ^ k by omega] at this
          exact this hq2
    have inn := wlo_in (d := d) (Φ := Φ) js0 hk hm (show j < 3 ^ (m - k - 1) by omega) fin (3 ^ k) 0 (by omega) τ fr (by rw [Nat.add_zero]; exact hI)
    rw [Nat.add_zero] at inn
    generalize j * (3 * 3 ^ k) = a at *
    simp only [g_47_10, g_47_11, g_47_12, g_47_15, g_47_18, g_47_19, ari_aa, ari_al, ari_la, ari_mm, ari_ml, ari_lm, ari_ltl, ari_llt, ari_lt, ari_le, ari_lel, ari_lle, ari_0, ari_eq, ari_eql, ari_leq, ari_cl, Nat.not_lt_zero, Bool.false_eq_true, Option.toList_some, Option.toList_none, List.cons_append, List.nil_append, kv_rv, kc1_i, kc1_r, kc1_n, n10, n01, n1514, n1213, n1312, if_true, if_false, not_true_eq_false, not_false_eq_true, and_self, true_and, and_true, false_and, and_false, or_true, true_or, or_false, false_or, Nat.reduceLeDiff, Nat.reduceLT, Nat.reduceEqDiff, Nat.reduceAdd, s_11 js, r_8_2 js, ew', (show 3 ^ m < 300 by omega), (show 3 ^ m < 2147483648 by omega), (show a + 2 * 3 ^ k < 300 by omega), (show a + 2 * 3 ^ k < 2147483648 by omega), (show ¬ 3 ^ m ≤ a + 2 * 3 ^ k by omega)]
    exact inn
theorem m_wlo {τ0 : kv_S} (js0 : JS τ0) (hK : JK τ0) {k m : Nat} (hk : k < m) (hm : m ≤ 5) (ew : kv_i τ0 11 2 = Int32.ofNat (3 ^ m)) (H : ∀ τ, FR (fun b _ => b = 13) τ0 τ → (∀ q, q < 3 ^ m → kv_i τ 13 q = if dgf q k ≠ 2 then kv_i τ0 13 q ||| kv_i τ0 12 (q + (2 - dgf q k) * 3 ^ k) else kv_i τ0 13 q) → Φ none τ) : Wc d 47 [.ref 11, .int (Int32.ofNat k)] τ0 Φ := by
  have s1 : kv_sh τ0 1 = (10, 6) := hK.2.1
  have p1 : kv_i τ0 1 k = Int32.ofNat (3 ^ k) := (hK.2.2.2.2.2.2.2 1 _ (by decide) (by decide)).trans (kP _ (by omega))
  have l1 := wlo_out (d := d) (Φ := Φ) js0 hK hk hm ew H (3 ^ (m - k - 1)) 0 (by omega) τ0 (FR.rf _ τ0) (fun q hq => by
    rw [if_neg]
    rintro ⟨w1, w2⟩
    have hq2 : dgf (q + (2 - dgf q k) * 3 ^ k) k = 2 := by rw [dgf_add w1 k, if_pos rfl]
    have := dgf_blk 0 k (q + (2 - dgf q k) * 3 ^ k)
    rw [Nat.zero_mul, Nat.zero_add] at this w2
    have h2 : (q + (2 - dgf q k) * 3 ^ k) / 3 ^ k < 2 := Nat.div_lt_of_lt_mul (by omega)
    rw [this] at hq2
    generalize (q + (2 - dgf q k) * 3 ^ k) / 3 ^ k = y at hq2 h2
    omega) .null
  rw [Nat.zero_mul, Nat.zero_add] at l1
  simp only [c_47, g_47_0, g_47_3, g_47_4, g_47_5, g_47_6, g_47_7, g_47_8, g_47_9, ari_aa, ari_al, ari_la, ari_mm, ari_ml, ari_lm, ari_ltl, ari_llt, ari_lt, ari_le, ari_lel, ari_lle, ari_0, ari_eq, ari_eql, ari_leq, ari_cl, Nat.not_lt_zero, Bool.false_eq_true, Option.toList_some, Option.toList_none, List.cons_append, List.nil_append, kv_rv, kc1_i, kc1_r, kc1_n, n10, n01, n1514, n1213, n1312, if_true, if_false, not_true_eq_false, not_false_eq_true, and_self, true_and, and_true, false_and, and_false, or_true, true_or, or_false, false_or, Nat.reduceLeDiff, Nat.reduceLT, Nat.reduceEqDiff, Nat.reduceAdd, s1, p1, (show k < 6 by omega), (show k < 2147483648 by omega)]
  exact l1
/-- widerWithin -/
def wwb (f : Nat → Bool) (k r : Nat) : Bool := anyN (fun k => !(dgf r k == 2) && (decide (r + (2 - dgf r k) * 3 ^ k < 27) && f (r + (2 - dgf r k) * 3 ^ k))) k
theorem lot_up : ∀ k, k < 3 → ∀ r, r < 27 → ((decide (r + 3 ^ k < 27) && lot k (r + 3 ^ k)) = (dgf r k == 1)) ∧ ((decide (r + 2 * 3 ^ k < 27) && lot k (r + 2 * 3 ^ k)) = (dgf r k == 0)) := by decide +kernel
theorem ww_step {f : Nat → Bool} {k : Nat} (hk : k < 3) : Int32.ofNat (wd (fun r => f r && lot k r) 27 / 2 ^ (3 ^ k)) ||| Int32.ofNat (wd (fun r => f r && lot k r) 27 / 2 ^ (2 * 3 ^ k)) = Int32.ofNat (wd (fun r => !(dgf r k == 2) && (decide (r + (2 - dgf r k) * 3 ^ k < 27) && f (r + (2 - dgf r k) * 3 ^ k))) 27) := by
  rw [ari_or]
  refine congrArg Int32.ofNat (Nat.eq_of_testBit_eq fun r => ?_)
  rw [Nat.testBit_or, Nat.testBit_div_two_pow, Nat.testBit_div_two_pow, wd_tb, wd_tb, wd_tb]
  by_cases hr : r < 27
  · obtain ⟨l1, l2⟩ := lot_up k hk r hr
    have hd : dgf r k < 3 := Nat.mod_lt _ (by decide)
    rw [show (decide (r + 3 ^ k < 27) && (f (r + 3 ^ k) && lot k (r + 3 ^ k))) = ((decide (r + 3 ^ k < 27) && lot k (r + 3 ^ k)) && f (r + 3 ^ k)) by cases decide (r + 3 ^ k < 27) <;> cases f (r + 3 ^ k) <;> cases lot k (r + 3 ^ k) <;> rfl, show (decide (r + 2 * 3 ^ k < 27) && (f (r + 2 * 3 ^ k) && lot k (r + 2 * 3 ^ k))) = ((decide (r + 2 * 3 ^ k < 27) && lot k (r + 2 * 3 ^ k)) && f (r + 2 * 3 ^ k)) by cases decide (r + 2 * 3 ^ k < 27) <;> cases f (r + 2 * 3 ^ k) <;> cases lot k (r + 2 * 3 ^ k) <;> rfl]
    rw [decide_eq_true hr, Bool.true_and]
    rcases (show dgf r k = 0 ∨ dgf r k = 1 ∨ dgf r k = 2 by omega) with e | e | e
    · rw [e] at l1 l2 ⊢
      rw [l1, l2, show r + (2 - 0) * 3 ^ k = r + 2 * 3 ^ k by omega]
      have : decide (r + 2 * 3 ^ k < 27) = true := by
        cases q : decide (r + 2 * 3 ^ k < 27) with
        | true => rfl
        | false => rw [q] at l2; simp at l2
      rw [this]; simp
    · rw [e] at l1 l2 ⊢
      rw [l1, l2, show r + (2 - 1) * 3 ^ k = r + 3 ^ k by omega]
      have : decide (r + 3 ^ k < 27) = true := by
        cases q : decide (r + 3 ^ k < 27) with
        | true => rfl
        | false => rw [q] at l1; simp at l1
      rw [this]; simp
    · rw [e] at l1 l2 ⊢
      rw [l1, l2]; simp
  · have h0 := pw3 k
    simp [hr, show ¬ r + 3 ^ k < 27 by omega, show ¬ r + 2 * 3 ^ k < 27 by omega]
theorem ww_loop {τ : kv_S} (hK : JK τ) {f : Nat → Bool} {l : Nat} (hl : l ≤ 3) (H : Φ (some (.int (Int32.ofNat (wd (wwb f l) 27)))) τ) : ∀ m k, k + m = l → ∀ v4 : Value, Wp d 46 4 [.int (Int32.ofNat (wd f 27)), .int (Int32.ofNat l), .int (Int32.ofNat (wd (wwb f k) 27)), .int (Int32.ofNat k), v4] [] τ Φ
  | 0, k, e, v4 => by
    have e2 : k = l := by omega
    subst e2
    simp only [g_46_4, g_46_5, g_46_6, g_46_46, g_46_47, ari_aa, ari_al, ari_la, ari_mm, ari_ml, ari_lm, ari_ltl, ari_llt, ari_lt, ari_le, ari_lel, ari_lle, ari_0, ari_eq, ari_eql, ari_leq, ari_cl, Nat.not_lt_zero, Bool.false_eq_true, Option.toList_some, Option.toList_none, List.cons_append, List.nil_append, kv_rv, kc1_i, kc1_r, kc1_n, n10, n01, n1514, n1213, n1312, if_true, if_false, not_true_eq_false, not_false_eq_true, and_self, true_and, and_true, false_and, and_false, or_true, true_or, or_false, false_or, Nat.reduceLeDiff, Nat.reduceLT, Nat.reduceEqDiff, Nat.reduceAdd, (show k < 4 by omega), (show k < 2147483648 by omega), (show k ≤ k by omega)]
    exact H
  | m + 1, k, e, v4 => by
    have s1 : kv_sh τ 1 = (10, 6) := hK.2.1
    have s3 : kv_sh τ 3 = (10, 3) := hK.2.2.2.1
    have p1 : kv_i τ 1 k = Int32.ofNat (3 ^ k) := (hK.2.2.2.2.2.2.2 1 _ (by decide) (by decide)).trans (kP _ (by omega))
    have p3 : kv_i τ 3 k = Int32.ofNat (wd (lot k) 27) := (hK.2.2.2.2.2.2.2 3 _ (by decide) (by decide)).trans (kLO _ (by omega))
    have hb := wd_lt (fun r => f r && lot k r) 27
    have pk : 3 ^ k ≤ 9 := by
      have : ∀ k, k < 3 → 3 ^ k ≤ 9 := by decide
      exact this k (by omega)
    have ws := ww_step (f := f) (show k < 3 by omega)
    simp only [g_46_4, g_46_5, g_46_6, ari_aa, ari_al, ari_la, ari_mm, ari_ml, ari_lm, ari_ltl, ari_llt, ari_lt, ari_le, ari_lel, ari_lle, ari_0, ari_eq, ari_eql, ari_leq, ari_cl, Nat.not_lt_zero, Bool.false_eq_true, Option.toList_some, Option.toList_none, List.cons_append, List.nil_append, kv_rv, kc1_i, kc1_r, kc1_n, n10, n01, n1514, n1213, n1312, if_true, if_false, not_true_eq_false, not_false_eq_true, and_self, true_and, and_true, false_and, and_false, or_true, true_or, or_false, false_or, Nat.reduceLeDiff, Nat.reduceLT, Nat.reduceEqDiff, Nat.reduceAdd, (show k < 4 by omega), (show k < 2147483648 by omega), (show l < 4 by omega), (show l < 2147483648 by omega), (show ¬ l ≤ k by omega)]
    simp only [g_46_9, g_46_10, g_46_13, g_46_14, g_46_15, g_46_16, g_46_18, g_46_19, g_46_21, g_46_24, g_46_25, g_46_26, g_46_27, g_46_29, g_46_30, g_46_33, g_46_34, g_46_35, g_46_36, g_46_37, g_46_38, g_46_39, g_46_40, g_46_43, ari_aa, ari_al, ari_la, ari_mm, ari_ml, ari_lm, ari_ltl, ari_llt, ari_lt, ari_le, ari_lel, ari_lle, ari_0, ari_eq, ari_eql, ari_leq, ari_cl, Nat.not_lt_zero, Bool.false_eq_true, Option.toList_some, Option.toList_none, List.cons_append, List.nil_append, kv_rv, kc1_i, kc1_r, kc1_n, n10, n01, n1514, n1213, n1312, if_true, if_false, not_true_eq_false, not_false_eq_true, and_self, true_and, and_true, false_and, and_false, or_true, true_or, or_false, false_or, Nat.reduceLeDiff, Nat.reduceLT, Nat.reduceEqDiff, Nat.reduceAdd, s1, s3, p1, p3, wd_and, ari_31, ari_sh, ws, wd_or, (show k < 3 by omega), (show k < 2147483648 by omega), (show k < 6 by omega), (show k < 2147483648 by omega), (show 3 ^ k < 32 by omega), (show 3 ^ k < 2147483648 by omega), (show 2 * 3 ^ k < 32 by omega), (show 2 * 3 ^ k < 2147483648 by omega), (show wd (fun r => f r && lot k r) 27 < 2147483648 by omega)]
    exact ww_loop hK hl H m (k + 1) (by omega) _
theorem m_ww {τ : kv_S} (hK : JK τ) {f : Nat → Bool} {l : Nat} (hl : l ≤ 3) (H : Φ (some (.int (Int32.ofNat (wd (wwb f l) 27)))) τ) : Wc d 46 [.int (Int32.ofNat (wd f 27)), .int (Int32.ofNat l)] τ Φ := by
  simp only [c_46, g_46_0, g_46_1, g_46_2, g_46_3, Nat.not_lt_zero, Bool.false_eq_true, Option.toList_some, Option.toList_none, List.cons_append, List.nil_append, kv_rv, kc1_i, kc1_r, kc1_n, n10, n01, n1514, n1213, n1312, if_true, if_false, not_true_eq_false, not_false_eq_true, and_self, true_and, and_true, false_and, and_false, or_true, true_or, or_false, false_or, Nat.reduceLeDiff, Nat.reduceLT, Nat.reduceEqDiff, Nat.reduceAdd]
  have e0 : wd (wwb f 0) 27 = 0 := by
    apply Nat.eq_of_testBit_eq
    intro r
    rw [wd_tb, Nat.zero_testBit]
    show (_ && false) = false
    rw [Bool.and_false]
  have := ww_loop (d := d) hK hl H l 0 (by omega) .null
  rw [e0] at this
  exact this
end PF

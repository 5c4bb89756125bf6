theorem fD_base {D : Nat → Nat} {B1 B2 : Nat → Bool} : ∀ n off, (∀ i, i < 2 ^ n → B1 (off + i) = B2 (off + i)) → fD D B1 n off = fD D B2 n off
  | 0, off, h => by have := h 0 (by decide); exact this
  | n + 1, off, h => by
    have hp : 2 ^ (n + 1) = 2 ^ n + 2 ^ n := by rw [Nat.pow_succ]; omega
    show ((D n == 1 || fD D B1 n off) && (D n == 0 || fD D B1 n (off + 2 ^ n))) = ((D n == 1 || fD D B2 n off) && (D n == 0 || fD D B2 n (off + 2 ^ n)))
    rw [fD_base (B2 := B2) n off (fun i hi => h i (by omega)), fD_base (B2 := B2) n (off + 2 ^ n) (fun i hi => by have := h (2 ^ n + i) (by omega); rw [← Nat.add_assoc] at this; exact this)]
theorem fD_shift {D : Nat → Nat} {B : Nat → Bool} {a : Nat} : ∀ n off, fD D (fun i => B (a + i)) n off = fD D B n (a + off)
  | 0, off => rfl
  | n + 1, off => by
    show ((D n == 1 || fD D _ n off) && (D n == 0 || fD D _ n (off + 2 ^ n))) = ((D n == 1 || fD D B n (a + off)) && (D n == 0 || fD D B n (a + off + 2 ^ n)))
    rw [fD_shift n off, fD_shift n (off + 2 ^ n), Nat.add_assoc]
theorem fD_high {D : Nat → Nat} {B : Nat → Bool} : ∀ m s, fD D B (3 + m) (8 * s) = fD (fun i => D (3 + i)) (fun s => fD D B 3 (8 * s)) m s
  | 0, s => rfl
  | m + 1, s => by
    show ((D (3 + m) == 1 || fD D B (3 + m) (8 * s)) && (D (3 + m) == 0 || fD D B (3 + m) (8 * s + 2 ^ (3 + m)))) = ((D (3 + m) == 1 || fD (fun i => D (3 + i)) (fun s => fD D B 3 (8 * s)) m s) && (D (3 + m) == 0 || fD (fun i => D (3 + i)) (fun s => fD D B 3 (8 * s)) m (s + 2 ^ m)))
    rw [fD_high m s, show 8 * s + 2 ^ (3 + m) = 8 * (s + 2 ^ m) by rw [Nat.pow_add]; omega, fD_high m (s + 2 ^ m)]
theorem dgf_27 {q r : Nat} (hr : r < 27) (k : Nat) : dgf (27 * q + r) k = if k < 3 then dgf r k else dgf q (k - 3) := by
  have := dgf_form (a := r) (k := 3) (m := q) hr k
  rw [show r + 3 ^ 3 * q = 27 * q + r by omega] at this
  exact this
/-- FIT, its number in two pieces -/
theorem FIT_27 {B : Nat → Bool} {m q r : Nat} (hr : r < 27) : FIT B (3 + m) (27 * q + r) = fD (dgf q) (fun s => fD (dgf r) B 3 (8 * s)) m 0 := by
  unfold FIT
  have := fD_high (D := dgf (27 * q + r)) (B := B) m 0
  rw [Nat.mul_zero] at this
  rw [this]
  have e1 : ∀ s, fD (dgf (27 * q + r)) B 3 (8 * s) = fD (dgf r) B 3 (8 * s) := fun s => fD_congr 3 _ (fun k hk => by rw [dgf_27 hr, if_pos hk])
  rw [show (fun s => fD (dgf (27 * q + r)) B 3 (8 * s)) = fun s => fD (dgf r) B 3 (8 * s) from funext e1]
  exact fD_congr m 0 (fun k hk => by rw [dgf_27 hr, if_neg (by omega), show 3 + k - 3 = k by omega])
def wb (B : Nat → Bool) (w q r : Nat) : Bool := decide (27 * q + r < 3 ^ w) && FIT B w (27 * q + r)
def qn (s : Nat) : Nat := rnb (s % 8) + 27 * rnb (s / 8)
theorem qn_inj : ∀ s, s < 32 → ∀ t, t < 32 → qn s = qn t → s = t := by decide +kernel
theorem qn_lt : ∀ m, m ≤ 5 → ∀ s, s < 2 ^ m → qn s < 3 ^ m := by decide +kernel
theorem qn_sur : ∀ m, m ≤ 5 → ∀ q, q < 3 ^ m → (∀ j, j < m → dgf q j ≠ 2) → ∃ s, s < 2 ^ m ∧ q = qn s ∧ ∀ j, j < m → dgf q j = s / 2 ^ j % 2 := by decide +kernel
/-- the sheet's word -/
def swd (B : Nat → Bool) (low s r : Nat) : Bool := decide (r < 3 ^ low) && fD (dgf r) B low (8 * s)
theorem swd_wb {B : Nat → Bool} {w s : Nat} (hw1 : 1 ≤ w) (hw : w ≤ 8) (hs : s < 2 ^ (w - min w 3)) (hd : ∀ j, j < w - min w 3 → dgf (qn s) j = s / 2 ^ j % 2) : ∀ r, r < 27 → swd B (min w 3) s r = wb B w (qn s) r := by
  intro r hr
  unfold swd wb
  by_cases c : 3 ≤ w
  · obtain ⟨m, e⟩ : ∃ m, w = 3 + m := ⟨w - 3, by omega⟩
    subst e
    rw [show min (3 + m) 3 = 3 by omega] at *
    rw [show 3 + m - 3 = m by omega] at *
    have hq := qn_lt m (by omega) s hs
    have e3 : 3 ^ (3 + m) = 27 * 3 ^ m := by rw [Nat.pow_add]
    rw [FIT_27 hr, fD_bits (s := s) m 0 hd, Nat.zero_add, Nat.mod_eq_of_lt hs, decide_eq_true (show 27 * qn s + r < 3 ^ (3 + m) by omega), decide_eq_true (show r < 3 ^ 3 from hr)]
  · have ew : min w 3 = w := by omega
    rw [ew, Nat.sub_self] at hs
    rw [ew]
    have : s = 0 := by simp at hs; exact hs
    subst this
    rw [show qn 0 = 0 by decide, Nat.mul_zero, Nat.zero_add]
    rfl
section PD
variable {d : Nat} {Φ : Option Value → kv_S → Prop}
/-- the first s sheets are worked out -/
theorem wp_l1 {σ0 : kv_S} (js0 : JS σ0) (hK0 : JK σ0) {f w high : Nat} (hf : f < 16) (hj : JF1' σ0 f w) (hh : high = w - min w 3) (H : ∀ τ, FR (fun b _ => b = 12) σ0 τ → (∀ s, s < max 1 (2 ^ w / 8) → kv_i τ 12 (qn s) = Int32.ofNat (wd (swd (mB σ0 f) (min w 3) s) 27)) → ∀ x v5, Wp (d + 3) 42 83 [.ref 11, .ref (37 + 4 * f), .int (Int32.ofNat (min w 3)), .int (Int32.ofNat high), .int x, v5] [] τ Φ) : ∀ m s, s + m = max 1 (2 ^ w / 8) → ∀ τ, FR (fun b _ => b = 12) σ0 τ → (∀ s', s' < s → kv_i τ 12 (qn s') = Int32.ofNat (wd (swd (mB σ0 f) (min w 3) s') 27)) → ∀ v5 : Value, Wp (d + 3) 42 28 [.ref 11, .ref (37 + 4 * f), .int (Int32.ofNat (min w 3)), .int (Int32.ofNat high), .int (Int32.ofNat s), v5] [] τ Φ
  | 0, s, e, τ, fr, hs, v5 => by
    have hW := pw8 hj.2.1
    have js := fr.js js0
    have hj2 : JF1' τ f w := hj.fr fr (fun b j q => by omega) hf
    have e2 : s = max 1 (2 ^ w / 8) := by omega
    have hsc : ∀ {d : Nat} {Ψ : Option Value → kv_S → Prop}, Wc (d + 1) 24 [.ref (37 + 4 * f)] τ Ψ = Ψ (some (.int (Int32.ofNat s))) τ := by intro d Ψ; rw [m_sheetCount js hf hj.2.1 hj2.2.2.1, ← e2]
    simp only [g_42_28, g_42_30, g_42_31, g_42_34, kv_w8_0, kv_w8_1, kv_w8_2, kv_w8_3, kv_w8_4, ari_aa, ari_al, ari_la, ari_mm, ari_ml, ari_lm, ari_ltl, ari_llt, ari_lt, ari_le, ari_lel, ari_lle, ari_0, ari_eq, ari_eql, ari_leq, ari_cl, Nat.not_lt_zero, Bool.false_eq_true, Option.toList_some, Option.toList_none, List.cons_append, List.nil_append, kv_rv, kc1_i, kc1_r, kc1_n, n10, n01, n1514, n1213, n1312, if_true, if_false, not_true_eq_false, not_false_eq_true, and_self, true_and, and_true, false_and, and_false, or_true, true_or, or_false, false_or, Nat.reduceLeDiff, Nat.reduceLT, Nat.reduceEqDiff, Nat.reduceAdd, hsc, sT js hf, (show s < 40 by omega), (show s < 2147483648 by omega), (show s ≤ s by omega)]
    rw [e2] at hs
    exact H τ fr hs _ _
  | m + 1, s, e, τ, fr, hs, v5 => by
    have hW := pw8 hj.2.1
    have js := fr.js js0
    have hj2 : JF1' τ f w := hj.fr fr (fun b j q => by omega) hf
    have hK : JK τ := hK0.fr fr (fun b j q => by omega)
    obtain ⟨s32, s8⟩ := (scn_w w hj.2.1 hj.1).2 s (by omega)
    obtain ⟨S, hS⟩ : ∃ S, S = max 1 (2 ^ w / 8) := ⟨_, rfl⟩
    rw [← hS] at e
    have hS40 : S < 40 := by omega
    have hsc : ∀ {d : Nat} {Ψ : Option Value → kv_S → Prop}, Wc (d + 1) 24 [.ref (37 + 4 * f)] τ Ψ = Ψ (some (.int (Int32.ofNat S))) τ := by intro d Ψ; rw [m_sheetCount js hf hj.2.1 hj2.2.2.1, ← hS]
    simp only [g_42_28, g_42_30, g_42_31, g_42_34, kv_w8_0, kv_w8_1, kv_w8_2, kv_w8_3, kv_w8_4, ari_aa, ari_al, ari_la, ari_mm, ari_ml, ari_lm, ari_ltl, ari_llt, ari_lt, ari_le, ari_lel, ari_lle, ari_0, ari_eq, ari_eql, ari_leq, ari_cl, Nat.not_lt_zero, Bool.false_eq_true, Option.toList_some, Option.toList_none, List.cons_append, List.nil_append, kv_rv, kc1_i, kc1_r, kc1_n, n10, n01, n1514, n1213, n1312, if_true, if_false, not_true_eq_false, not_false_eq_true, and_self, true_and, and_true, false_and, and_false, or_true, true_or, or_false, false_or, Nat.reduceLeDiff, Nat.reduceLT, Nat.reduceEqDiff, Nat.reduceAdd, hsc, sT js hf, (show s < 40 by omega), (show s < 2147483648 by omega), (show S < 41 by omega), (show S < 2147483648 by omega), (show ¬ S ≤ s by omega)]
    have s2 : kv_sh τ 2 = (10, 8) := hK.2.2.1
    have r1 : kv_i τ 2 (s % 8) = Int32.ofNat (rnb (s % 8)) := (hK.2.2.2.2.2.2.2 2 _ (by decide) (by decide)).trans (kRN _ (by omega))
    have r2 : kv_i τ 2 (s / 8) = Int32.ofNat (rnb (s / 8)) := (hK.2.2.2.2.2.2.2 2 _ (by decide) (by decide)).trans (kRN _ (by omega))
    have qlt : qn s < 243 := by
      have : ∀ s, s < 32 → qn s < 243 := by decide
      exact this s s32
    simp only [g_42_37, g_42_40, g_42_42, g_42_44, g_42_45, g_42_46, g_42_48, g_42_51, g_42_53, g_42_54, g_42_55, g_42_56, g_42_57, g_42_58, g_42_60, g_42_61, g_42_64, g_42_66, g_42_67, g_42_69, kv_w8_0, kv_w8_1, kv_w8_2, kv_w8_3, kv_w8_4, ari_aa, ari_al, ari_la, ari_mm, ari_ml, ari_lm, ari_ltl, ari_llt, ari_lt, ari_le, ari_lel, ari_lle, ari_0, ari_eq, ari_eql, ari_leq, ari_cl, Nat.not_lt_zero, Bool.false_eq_true, Option.toList_some, Option.toList_none, List.cons_append, List.nil_append, kv_rv, kc1_i, kc1_r, kc1_n, n10, n01, n1514, n1213, n1312, if_true, if_false, not_true_eq_false, not_false_eq_true, and_self, true_and, and_true, false_and, and_false, or_true, true_or, or_false, false_or, Nat.reduceLeDiff, Nat.reduceLT, Nat.reduceEqDiff, Nat.reduceAdd, ari_7, ari_l31, ari_sh, Nat.reducePow, s2, r1, r2, s_11 js, r_8_2 js, s_12 js, r_11_0 js, sT js hf, (show s < 40 by omega), (show s < 2147483648 by omega), (show s % 8 < 8 by omega), (show s % 8 < 2147483648 by omega), (show s / 8 < 8 by omega), (show s / 8 < 2147483648 by omega)]
    refine m_notZero js hf hj2 s32 s8 (fun z hz1 hz2 => ?_)
    have hwd : fw2 (fw1 (Int32.ofNat z) 8) (min w 3) = Int32.ofNat (wd (swd (mB σ0 f) (min w 3) s) 27) := by
      have hB : ∀ p, p < min 8 (2 ^ w) → z.testBit p = mB σ0 f (8 * s + p) := fun p hp => by rw [hz2 p hp]; unfold mB; rw [hld_fr fr (fun b j q => by omega)]
      have key : ∀ low, low = min w 3 → 2 ^ low = min 8 (2 ^ w) → ∀ r, fD (dgf r) z.testBit low 0 = fD (dgf r) (mB σ0 f) low (8 * s) := by
        intro low hl h2 r
        rw [fD_base (B2 := fun i => mB σ0 f (8 * s + i)) low 0 (fun i hi => by rw [Nat.zero_add]; exact hB i (by omega)), fD_shift, Nat.add_zero]
      have hwc : w = 1 ∨ w = 2 ∨ 3 ≤ w := by have := hj.1; omega
      rcases hwc with rfl | rfl | h3
      · have hz : z < 4 := hz1
        rw [show min 1 3 = 1 by decide, fw_ok1 z hz]
        refine congrArg Int32.ofNat (wd_ext (fun r hr => ?_))
        unfold swd
        rw [key 1 (by decide) (by decide)]
      · have hz : z < 16 := hz1
        rw [show min 2 3 = 2 by decide, fw_ok2 z hz]
        refine congrArg Int32.ofNat (wd_ext (fun r hr => ?_))
        unfold swd
        rw [key 2 (by decide) (by decide)]
      · have h8 : 8 ≤ 2 ^ w := Nat.pow_le_pow_right (n := 2) (by decide) h3
        rw [show min 8 (2 ^ w) = 8 by omega] at hz1
        have hz : z < 256 := hz1
        rw [show min w 3 = 3 by omega, fw_ok3 z hz]
        refine congrArg Int32.ofNat (wd_ext (fun r hr => ?_))
        unfold swd
        rw [key 3 (by omega) (by rw [show min 8 (2 ^ w) = 8 by omega]), decide_eq_true (show r < 3 ^ 3 from hr), Bool.true_and]
    have eq1 : rnb (s % 8) + 27 * rnb (s / 8) = qn s := rfl
    simp only [g_42_72, g_42_73, g_42_76, g_42_77, g_42_80, kv_w8_0, kv_w8_1, kv_w8_2, kv_w8_3, kv_w8_4, ari_aa, ari_al, ari_la, ari_mm, ari_ml, ari_lm, ari_ltl, ari_llt, ari_lt, ari_le, ari_lel, ari_lle, ari_0, ari_eq, ari_eql, ari_leq, ari_cl, Nat.not_lt_zero, Bool.false_eq_true, Option.toList_some, Option.toList_none, List.cons_append, List.nil_append, kv_rv, kc1_i, kc1_r, kc1_n, n10, n01, n1514, n1213, n1312, if_true, if_false, not_true_eq_false, not_false_eq_true, and_self, true_and, and_true, false_and, and_false, or_true, true_or, or_false, false_or, Nat.reduceLeDiff, Nat.reduceLT, Nat.reduceEqDiff, Nat.reduceAdd, m_fitW hK (show min w 3 ≤ 3 by omega), hwd, eq1, s_12 js, r_11_0 js, (show qn s < 243 by omega), (show qn s < 2147483648 by omega)]
    refine wp_l1 js0 hK0 hf hj hh H m (s + 1) (by omega) _ (fr.si rfl) (fun s' hs' => ?_) _
    by_cases c : s' = s
    · rw [c, eq_ess ⟨rfl, rfl⟩]
    · have hne : qn s' ≠ qn s := fun q => c (qn_inj s' (by omega) s s32 q)
      rw [ne_ess (by omega)]; exact hs s' (by omega)
end PD

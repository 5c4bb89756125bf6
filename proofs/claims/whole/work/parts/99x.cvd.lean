/-! ===== least sums, the class: primes are gathered and compared ===== -/
/-- prime k of a function -/
def pnm (B : Nat → Bool) (w k : Nat) : Nat := fnd (fun x => PRM B w x && cnt (PRM B w) x == k) (3 ^ w) 0
theorem pnm_ok {B : Nat → Bool} {w x : Nat} (hx : x < 3 ^ w) (h : PRM B w x = true) : pnm B w (cnt (PRM B w) x) = x := by
  obtain ⟨a, b⟩ := fnd_ok (p := fun y => PRM B w y && cnt (PRM B w) y == cnt (PRM B w) x) (r := x) (by rw [h]; simp) (3 ^ w) 0 (by omega) (by omega)
  have a : (PRM B w (pnm B w (cnt (PRM B w) x)) && cnt (PRM B w) (pnm B w (cnt (PRM B w) x)) == cnt (PRM B w) x) = true := a
  have b : pnm B w (cnt (PRM B w) x) ≤ x := b
  rw [Bool.and_eq_true, beq_iff_eq] at a
  refine Classical.byContradiction fun hne => ?_
  have := cnt_lt_of (show pnm B w (cnt (PRM B w) x) < x by omega) a.1
  omega
theorem pnm_sp {B : Nat → Bool} {w k : Nat} (hk : k < cnt (PRM B w) (3 ^ w)) : pnm B w k < 3 ^ w ∧ PRM B w (pnm B w k) = true ∧ cnt (PRM B w) (pnm B w k) = k := by
  obtain ⟨x, h1, h2, h3⟩ := nth_ex (PRM B w) (3 ^ w) k hk
  have := pnm_ok h1 h2
  rw [h3] at this
  rw [this]
  exact ⟨h1, h2, h3⟩
theorem pnm_mon {B : Nat → Bool} {w p q : Nat} (h : p < q) (hq : q < cnt (PRM B w) (3 ^ w)) : pnm B w p < pnm B w q := by
  obtain ⟨-, -, a⟩ := pnm_sp (show p < cnt (PRM B w) (3 ^ w) by omega)
  obtain ⟨-, -, b⟩ := pnm_sp hq
  refine Nat.lt_of_not_le fun hc => ?_
  have := cnt_mono (PRM B w) hc
  omega
/-- how many letters a product tells; at which rows a prime holds -/
def tcf (n x : Nat) : Nat := cnt (fun k => !(dgf x k == 2)) n
def tcp (B : Nat → Bool) (w p : Nat) : Nat := tcf w (pnm B w p)
def Rp (B : Nat → Bool) (w p r : Nat) : Bool := decide (r < 2 ^ w) && hol w (pnm B w p) r
theorem tcp_le (B : Nat → Bool) {w : Nat} (hw : w ≤ 5) (p : Nat) : tcp B w p ≤ 5 := Nat.le_trans (cnt_le _ _) hw
theorem l1sh : ∀ n, n < 40 → (1 : Int64) <<< Int64.ofNat n = Int64.ofNat (2 ^ n) := by decide +kernel
theorem lall : ∀ n, n < 41 → (1 : Int64) <<< Int64.ofNat n - 1 = lw (fun q => decide (q < n)) := by decide +kernel
theorem pW.fr {Q : Nat → Nat → Prop} {σ τ : kv_S} (h : FR Q σ τ) {B : Nat → Bool} {w : Nat} (hq : ∀ b k, Q b k → ¬ (b = 11 ∧ k = 2 ∨ b = 12 ∨ b = 13)) (H : pW B w σ) : pW B w τ := by
  refine ⟨(h.i (fun q => hq _ _ q (by omega))).trans H.1, fun q hqq => ?_⟩
  rw [h.i (b := 12) (fun q => hq _ _ q (by omega)), h.i (b := 13) (fun q => hq _ _ q (by omega))]
  exact H.2 q hqq
section CD
variable {d : Nat} {σ : kv_S} {Φ : Option Value → kv_S → Prop}
theorem ga_in (js : JS σ) (hK : JK σ) {f w p x : Nat} (hf : f < 16) (hw : w ≤ 5) (hx : x < 243) (hp : p < 40) (ew : kv_i σ (37 + 4 * f) 3 = Int32.ofNat w) (H : ∀ τ, FR (fun b k => b = 17 ∧ k = p) σ τ → kv_i τ 17 p = Int32.ofNat (tcf w x) → ∀ v6 v7 v8 : Value, Wp d 54 141 [.ref 14, .ref (37 + 4 * f), .ref 11, .int (Int32.ofNat p), .long (lw (fun r => decide (r < 2 ^ w) && hol w x r)), .null, v6, v7, v8] [] τ Φ) : ∀ m k, k + m = w → ∀ τ, FR (fun b k => b = 17 ∧ k = p) σ τ → kv_i τ 17 p = Int32.ofNat (tcf k x) → ∀ v8 : Value, Wp d 54 62 [.ref 14, .ref (37 + 4 * f), .ref 11, .int (Int32.ofNat p), .long (lw (fun r => decide (r < 2 ^ w) && hol k x r)), .null, .int (Int32.ofNat (x / 3 ^ k)), .int (Int32.ofNat k), v8] [] τ Φ
  | 0, k, e, τ, fr, hI, v8 => by
    have js2 := fr.js js
    have ew2 : kv_i τ (37 + 4 * f) 3 = Int32.ofNat w := by rw [fr.i (by omega)]; exact ew
    have e2 : k = w := by omega
    subst e2
    simp only [g_54_62, g_54_64, g_54_65, g_54_68, ari_aa, ari_al, ari_la, ari_mm, ari_ml, ari_lm, ari_ltl, ari_llt, ari_lt, ari_le, ari_lel, ari_lle, ari_0, ari_eq, ari_eql, ari_leq, ari_cl, Nat.not_lt_zero, Bool.false_eq_true, Option.toList_some, Option.toList_none, List.cons_append, List.nil_append, kv_rv, kc1_i, kc1_r, kc1_n, n10, n01, n1514, n1213, n1312, if_true, if_false, not_true_eq_false, not_false_eq_true, and_self, true_and, and_true, false_and, and_false, or_true, true_or, or_false, false_or, Nat.reduceLeDiff, Nat.reduceLT, Nat.reduceEqDiff, Nat.reduceAdd, ew2, sT js2 hf, (show k < 6 by omega), (show k < 2147483648 by omega), (show k ≤ k by omega)]
    exact H τ fr hI _ _ _
  | m + 1, k, e, τ, fr, hI, v8 => by
    have js2 := fr.js js
    have hK2 : JK τ := hK.fr fr (fun b k q => by omega)
    have ew2 : kv_i τ (37 + 4 * f) 3 = Int32.ofNat w := by rw [fr.i (by omega)]; exact ew
    have hx2 : x / 3 ^ k ≤ x := Nat.div_le_self _ _
    have e3 : x / 3 ^ k / 3 = x / 3 ^ (k + 1) := by rw [Nat.div_div_eq_div_mul, Nat.pow_succ]
    have l0 : kv_l τ 0 k = kv_kL.getD k 0 := hK2.2.2.2.2.2.2.1 k
    have er : Int32.ofNat (x / 3 ^ k) - Int32.ofNat (x / 3 ^ (k + 1) * 3) = Int32.ofNat (dgf x k) := by rw [← e3]; exact ari_rem _ _
    have hd : dgf x k < 3 := Nat.mod_lt _ (by decide)
    have et : tcf (k + 1) x = tcf k x + (!(dgf x k == 2)).toNat := rfl
    simp only [g_54_62, g_54_64, g_54_65, g_54_68, g_54_71, g_54_73, g_54_74, ari_aa, ari_al, ari_la, ari_mm, ari_ml, ari_lm, ari_ltl, ari_llt, ari_lt, ari_le, ari_lel, ari_lle, ari_0, ari_eq, ari_eql, ari_leq, ari_cl, Nat.not_lt_zero, Bool.false_eq_true, Option.toList_some, Option.toList_none, List.cons_append, List.nil_append, kv_rv, kc1_i, kc1_r, kc1_n, n10, n01, n1514, n1213, n1312, if_true, if_false, not_true_eq_false, not_false_eq_true, and_self, true_and, and_true, false_and, and_false, or_true, true_or, or_false, false_or, Nat.reduceLeDiff, Nat.reduceLT, Nat.reduceEqDiff, Nat.reduceAdd, ew2, sT js2 hf, (show k < 6 by omega), (show k < 2147483648 by omega), (show w < 6 by omega), (show w < 2147483648 by omega), (show ¬ w ≤ k by omega), (show ¬ 5 ≤ k by omega)]
    simp only [g_54_77, g_54_79, g_54_80, g_54_81, g_54_83, g_54_85, g_54_86, g_54_87, g_54_89, g_54_91, g_54_92, ari_aa, ari_al, ari_la, ari_mm, ari_ml, ari_lm, ari_ltl, ari_llt, ari_lt, ari_le, ari_lel, ari_lle, ari_0, ari_eq, ari_eql, ari_leq, ari_cl, Nat.not_lt_zero, Bool.false_eq_true, Option.toList_some, Option.toList_none, List.cons_append, List.nil_append, kv_rv, kc1_i, kc1_r, kc1_n, n10, n01, n1514, n1213, n1312, if_true, if_false, not_true_eq_false, not_false_eq_true, and_self, true_and, and_true, false_and, and_false, or_true, true_or, or_false, false_or, Nat.reduceLeDiff, Nat.reduceLT, Nat.reduceEqDiff, Nat.reduceAdd, ari_div, e3, er, (show ¬ (3 : Int32) = 0 by decide), (show x / 3 ^ k < 2147483648 by omega), (show dgf x k < 3 by omega), (show dgf x k < 2147483648 by omega)]
    by_cases c2 : dgf x k = 2
    · have eh : lw (fun r => decide (r < 2 ^ w) && hol k x r) = lw (fun r => decide (r < 2 ^ w) && hol (k + 1) x r) := lw_eq.mpr (fun r _ => by rw [hol_s, c2]; simp)
      have nx := ga_in js hK hf hw hx hp ew H m (k + 1) (by omega) τ fr (by rw [hI, et, c2]; rfl)
      rw [← eh] at nx
      simp only [g_54_135, g_54_138, ari_aa, ari_al, ari_la, ari_mm, ari_ml, ari_lm, ari_ltl, ari_llt, ari_lt, ari_le, ari_lel, ari_lle, ari_0, ari_eq, ari_eql, ari_leq, ari_cl, Nat.not_lt_zero, Bool.false_eq_true, Option.toList_some, Option.toList_none, List.cons_append, List.nil_append, kv_rv, kc1_i, kc1_r, kc1_n, n10, n01, n1514, n1213, n1312, if_true, if_false, not_true_eq_false, not_false_eq_true, and_self, true_and, and_true, false_and, and_false, or_true, true_or, or_false, false_or, Nat.reduceLeDiff, Nat.reduceLT, Nat.reduceEqDiff, Nat.reduceAdd, c2]
      exact nx _
    · have c2' : (dgf x k == 2) = false := beq_false_of_ne c2
      have upd : ∀ τ', FR (fun b k => b = 17 ∧ k = p) σ τ' → kv_i τ' 17 p = Int32.ofNat (tcf k x + 1) → ∀ v8 : Value, Wp d 54 135 [.ref 14, .ref (37 + 4 * f), .ref 11, .int (Int32.ofNat p), .long (lw (fun r => decide (r < 2 ^ w) && hol (k + 1) x r)), .null, .int (Int32.ofNat (x / 3 ^ (k + 1))), .int (Int32.ofNat k), v8] [] τ' Φ := fun τ' fr' h' v8 => by
        simp only [g_54_135, g_54_138, ari_aa, ari_al, ari_la, ari_mm, ari_ml, ari_lm, ari_ltl, ari_llt, ari_lt, ari_le, ari_lel, ari_lle, ari_0, ari_eq, ari_eql, ari_leq, ari_cl, Nat.not_lt_zero, Bool.false_eq_true, Option.toList_some, Option.toList_none, List.cons_append, List.nil_append, kv_rv, kc1_i, kc1_r, kc1_n, n10, n01, n1514, n1213, n1312, if_true, if_false, not_true_eq_false, not_false_eq_true, and_self, true_and, and_true, false_and, and_false, or_true, true_or, or_false, false_or, Nat.reduceLeDiff, Nat.reduceLT, Nat.reduceEqDiff, Nat.reduceAdd]
        exact ga_in js hK hf hw hx hp ew H m (k + 1) (by omega) τ' fr' (by rw [h', et, c2']; rfl) _
      have fr' : FR (fun b k => b = 17 ∧ k = p) σ (kv_si τ 17 p (Int32.ofNat (tcf k x + 1))) := fr.si ⟨rfl, rfl⟩
      have h' : kv_i (kv_si τ 17 p (Int32.ofNat (tcf k x + 1))) 17 p = Int32.ofNat (tcf k x + 1) := by rw [i_si, if_pos ⟨rfl, rfl⟩]
      have hKs : kv_sh (kv_si τ 17 p (Int32.ofNat (tcf k x + 1))) 0 = (11, 6) := hK2.1
      have l0s : kv_l (kv_si τ 17 p (Int32.ofNat (tcf k x + 1))) 0 k = kv_kL.getD k 0 := l0
      by_cases c1 : dgf x k = 1
      · have eh : lw (fun r => decide (r < 2 ^ w) && hol k x r) &&& kv_kL.getD k 0 = lw (fun r => decide (r < 2 ^ w) && hol (k + 1) x r) := lw_of (fun r hr => by
          rw [lb_and, lb_lw _ hr, lt_kL k (by omega) r hr, hol_s, c1]
          cases r.testBit k <;> simp)
        simp only [g_54_95, g_54_96, g_54_99, g_54_100, g_54_101, g_54_102, g_54_103, g_54_104, g_54_105, g_54_107, g_54_109, g_54_110, g_54_113, g_54_116, g_54_118, g_54_119, g_54_132, g_54_133, ari_aa, ari_al, ari_la, ari_mm, ari_ml, ari_lm, ari_ltl, ari_llt, ari_lt, ari_le, ari_lel, ari_lle, ari_0, ari_eq, ari_eql, ari_leq, ari_cl, Nat.not_lt_zero, Bool.false_eq_true, Option.toList_some, Option.toList_none, List.cons_append, List.nil_append, kv_rv, kc1_i, kc1_r, kc1_n, n10, n01, n1514, n1213, n1312, if_true, if_false, not_true_eq_false, not_false_eq_true, and_self, true_and, and_true, false_and, and_false, or_true, true_or, or_false, false_or, Nat.reduceLeDiff, Nat.reduceLT, Nat.reduceEqDiff, Nat.reduceAdd, c2, c1, hI, hKs, l0s, eh, s_14 js2, r_8_3 js2, s_17 js2, r_14_4 js2, (show p < 40 by omega), (show p < 2147483648 by omega), (show k < 6 by omega), (show k < 2147483648 by omega), (show dgf x k < 3 by omega), (show dgf x k < 2147483648 by omega)]
        exact upd _ fr' h' _
      · have c0 : dgf x k = 0 := by omega
        have eh : lw (fun r => decide (r < 2 ^ w) && hol k x r) &&& (kv_kL.getD k 0 ^^^ -1) = lw (fun r => decide (r < 2 ^ w) && hol (k + 1) x r) := lw_of (fun r hr => by
          rw [lb_and, lb_lw _ hr, lb_not _ hr, lt_kL k (by omega) r hr, hol_s, c0]
          cases r.testBit k <;> simp)
        simp only [g_54_95, g_54_96, g_54_99, g_54_100, g_54_101, g_54_102, g_54_103, g_54_104, g_54_105, g_54_107, g_54_109, g_54_110, g_54_122, g_54_125, g_54_127, g_54_128, g_54_131, g_54_132, g_54_133, ari_aa, ari_al, ari_la, ari_mm, ari_ml, ari_lm, ari_ltl, ari_llt, ari_lt, ari_le, ari_lel, ari_lle, ari_0, ari_eq, ari_eql, ari_leq, ari_cl, Nat.not_lt_zero, Bool.false_eq_true, Option.toList_some, Option.toList_none, List.cons_append, List.nil_append, kv_rv, kc1_i, kc1_r, kc1_n, n10, n01, n1514, n1213, n1312, if_true, if_false, not_true_eq_false, not_false_eq_true, and_self, true_and, and_true, false_and, and_false, or_true, true_or, or_false, false_or, Nat.reduceLeDiff, Nat.reduceLT, Nat.reduceEqDiff, Nat.reduceAdd, c2, c1, hI, hKs, l0s, eh, s_14 js2, r_8_3 js2, s_17 js2, r_14_4 js2, (show p < 40 by omega), (show p < 2147483648 by omega), (show k < 6 by omega), (show k < 2147483648 by omega), (show dgf x k < 3 by omega), (show dgf x k < 2147483648 by omega)]
        exact upd _ fr' h' _
/-- the primes as the class gathers them -/
def GA (B : Nat → Bool) (w P : Nat) (τ : kv_S) : Prop := ∀ p, p < P → kv_i τ 16 p = Int32.ofNat (pnm B w p) ∧ kv_i τ 17 p = Int32.ofNat (tcp B w p) ∧ kv_i τ 18 p = iw (Rp B w p) ∧ kv_l τ 19 p = Int64.ofNat (prc (tcp B w) p)
def FG (b k : Nat) : Prop := b = 14 ∧ k = 9 ∨ 16 ≤ b ∧ b ≤ 19
theorem rowc {w : Nat} (hw : w ≤ 5) : (1 : Int64) <<< Int64.ofNat (2 ^ w) - 1 = lw (fun r => decide (r < 2 ^ w) && true) := by
  have h : 2 ^ w < 41 := Nat.lt_of_le_of_lt (Nat.pow_le_pow_right (n := 2) (by decide) hw) (by decide)
  rw [lall _ h]
  exact lw_eq.mpr (fun r _ => by rw [Bool.and_true])
theorem ga_loop (js : JS σ) (hK : JK σ) {B : Nat → Bool} {f w P : Nat} (hf : f < 16) (hw1 : 1 ≤ w) (hw : w ≤ 5) (ew : kv_i σ (37 + 4 * f) 3 = Int32.ofNat w) (hpw : pW B w σ) (hP : P = cnt (PRM B w) (3 ^ w)) (hP4 : P ≤ 40) (H : ∀ τ, FR FG σ τ → kv_i τ 14 9 = Int32.ofNat P → GA B w P τ → Φ none τ) : ∀ m p, p + m = P → ∀ τ, FR FG σ τ → kv_i τ 14 9 = Int32.ofNat P → GA B w p τ → ∀ v4 v5 v6 v7 v8 : Value, Wp (d + 3) 54 15 [.ref 14, .ref (37 + 4 * f), .ref 11, .int (Int32.ofNat p), v4, v5, v6, v7, v8] [] τ Φ
  | 0, p, e, τ, fr, h9, hG, v4, v5, v6, v7, v8 => by
    have js2 := fr.js js
    have e2 : p = P := by omega
    subst e2
    simp only [g_54_15, g_54_16, g_54_17, g_54_20, g_54_184, ari_aa, ari_al, ari_la, ari_mm, ari_ml, ari_lm, ari_ltl, ari_llt, ari_lt, ari_le, ari_lel, ari_lle, ari_0, ari_eq, ari_eql, ari_leq, ari_cl, Nat.not_lt_zero, Bool.false_eq_true, Option.toList_some, Option.toList_none, List.cons_append, List.nil_append, kv_rv, kc1_i, kc1_r, kc1_n, n10, n01, n1514, n1213, n1312, if_true, if_false, not_true_eq_false, not_false_eq_true, and_self, true_and, and_true, false_and, and_false, or_true, true_or, or_false, false_or, Nat.reduceLeDiff, Nat.reduceLT, Nat.reduceEqDiff, Nat.reduceAdd, h9, s_14 js2, r_8_3 js2, (show p < 41 by omega), (show p < 2147483648 by omega), (show p ≤ p by omega)]
    exact H τ fr h9 hG
  | m + 1, p, e, τ, fr, h9, hG, v4, v5, v6, v7, v8 => by
    have js2 := fr.js js
    have hK2 : JK τ := hK.fr fr (fun b k q => by unfold FG at q; omega)
    have ew2 : kv_i τ (37 + 4 * f) 3 = Int32.ofNat w := by rw [fr.i (by unfold FG; omega)]; exact ew
    have hpw2 : pW B w τ := hpw.fr fr (fun b k q => by unfold FG at q; omega)
    obtain ⟨q1, q2, q3⟩ := pnm_sp (B := B) (w := w) (k := p) (by omega)
    have h243 : 3 ^ w ≤ 243 := Nat.pow_le_pow_right (n := 3) (by decide) hw
    simp only [g_54_15, g_54_16, g_54_17, g_54_20, ari_aa, ari_al, ari_la, ari_mm, ari_ml, ari_lm, ari_ltl, ari_llt, ari_lt, ari_le, ari_lel, ari_lle, ari_0, ari_eq, ari_eql, ari_leq, ari_cl, Nat.not_lt_zero, Bool.false_eq_true, Option.toList_some, Option.toList_none, List.cons_append, List.nil_append, kv_rv, kc1_i, kc1_r, kc1_n, n10, n01, n1514, n1213, n1312, if_true, if_false, not_true_eq_false, not_false_eq_true, and_self, true_and, and_true, false_and, and_false, or_true, true_or, or_false, false_or, Nat.reduceLeDiff, Nat.reduceLT, Nat.reduceEqDiff, Nat.reduceAdd, h9, s_14 js2, r_8_3 js2, (show p < 41 by omega), (show p < 2147483648 by omega), (show P < 41 by omega), (show P < 2147483648 by omega), (show ¬ P ≤ p by omega)]
    simp only [g_54_23, g_54_24, g_54_27, g_54_28, g_54_29, g_54_30, kv_w8_0, kv_w8_1, kv_w8_2, kv_w8_3, kv_w8_4, Nat.not_lt_zero, Bool.false_eq_true, Option.toList_some, Option.toList_none, List.cons_append, List.nil_append, kv_rv, kc1_i, kc1_r, kc1_n, n10, n01, n1514, n1213, n1312, if_true, if_false, not_true_eq_false, not_false_eq_true, and_self, true_and, and_true, false_and, and_false, or_true, true_or, or_false, false_or, Nat.reduceLeDiff, Nat.reduceLT, Nat.reduceEqDiff, Nat.reduceAdd, s_11 js2, r_8_2 js2, s_14 js2, r_8_3 js2, s_16 js2, r_14_3 js2]
    refine m_primeNum js2 hw1 (by omega) (show p < 2147483648 by omega) hpw2 (fun x hx hx2 hx3 => ?_) (fun hle => absurd hle (by omega))
    have ex : x = pnm B w p := by rw [← hx3]; exact (pnm_ok hx hx2).symm
    subst ex
    have h2w : 2 ^ w ≤ 32 := Nat.pow_le_pow_right (n := 2) (by decide) hw
    have e0 : lw (fun r => decide (r < 2 ^ w) && true) = lw (fun r => decide (r < 2 ^ w) && hol 0 (pnm B w p) r) := rfl
    have js3 : JS (kv_si (kv_si τ 16 p (Int32.ofNat (pnm B w p))) 17 p 0) := js2.of rfl rfl
    have mrc := fun Ψ => m_rowCount (d := d + 2) (σ := kv_si (kv_si τ 16 p (Int32.ofNat (pnm B w p))) 17 p 0) (Φ := Ψ) js3 hf (show w ≤ 8 by omega) (by rw [i_si, if_neg (by omega), i_si, if_neg (by omega)]; exact ew2)
    have i16 : kv_i (kv_si (kv_si τ 16 p (Int32.ofNat (pnm B w p))) 17 p 0) 16 p = Int32.ofNat (pnm B w p) := by rw [i_si, if_neg (by omega), i_si, if_pos ⟨rfl, rfl⟩]
    simp only [g_54_33, g_54_34, g_54_35, g_54_38, g_54_39, g_54_40, g_54_41, g_54_42, g_54_43, g_54_46, g_54_47, g_54_48, g_54_49, g_54_51, g_54_52, g_54_55, g_54_56, g_54_57, g_54_59, g_54_60, kv_w8_0, kv_w8_1, kv_w8_2, kv_w8_3, kv_w8_4, ari_aa, ari_al, ari_la, ari_mm, ari_ml, ari_lm, ari_ltl, ari_llt, ari_lt, ari_le, ari_lel, ari_lle, ari_0, ari_eq, ari_eql, ari_leq, ari_cl, Nat.not_lt_zero, Bool.false_eq_true, Option.toList_some, Option.toList_none, List.cons_append, List.nil_append, kv_rv, kc1_i, kc1_r, kc1_n, n10, n01, n1514, n1213, n1312, if_true, if_false, not_true_eq_false, not_false_eq_true, and_self, true_and, and_true, false_and, and_false, or_true, true_or, or_false, false_or, Nat.reduceLeDiff, Nat.reduceLT, Nat.reduceEqDiff, Nat.reduceAdd, sh_si, r_si, mrc, sT js2 hf, i16, lsh_k (2 ^ w) (by omega), rowc hw, e0, s_14 js2, r_8_3 js2, s_16 js2, r_14_3 js2, s_17 js2, r_14_4 js2, (show p < 40 by omega), (show p < 2147483648 by omega)]
    have fr3 : FR FG σ (kv_si (kv_si τ 16 p (Int32.ofNat (pnm B w p))) 17 p 0) := (fr.si (Or.inr (by omega))).si (Or.inr (by omega))
    have hK3 : JK (kv_si (kv_si τ 16 p (Int32.ofNat (pnm B w p))) 17 p 0) := hK.fr fr3 (fun b k q => by unfold FG at q; omega)
    have l := ga_in (d := d + 3) (Φ := Φ) (σ := kv_si (kv_si τ 16 p (Int32.ofNat (pnm B w p))) 17 p 0) (x := pnm B w p) js3 hK3 hf hw (by omega) (show p < 40 by omega) (by rw [i_si, if_neg (by omega), i_si, if_neg (by omega)]; exact ew2) (fun υ fr4 ht v6 v7 v8 => ?_) w 0 (by omega) _ (FR.rf _ _) (by rw [i_si, if_pos ⟨rfl, rfl⟩]; rfl) v8
    · rw [Nat.pow_zero, Nat.div_one] at l
      exact l
    · have js4 := fr4.js js3
      have fr5 : FR FG σ υ := fr3.tr (fr4.mono (fun b k q => Or.inr (by omega)))
      have ep : Int64.ofNat 1125899906842624 + Int64.ofNat (tcf w (pnm B w p)) * Int64.ofNat 1099511627776 - Int64.ofNat (2 ^ (39 - p)) = Int64.ofNat (prc (tcp B w) p) := by
        have := p39 p
        rw [lar_mul, lar_add, lar_sub (by omega)]; rfl
      have c1 : (1125899906842624 : Int64) = Int64.ofNat 1125899906842624 := rfl
      have c2 : (1099511627776 : Int64) = Int64.ofNat 1099511627776 := rfl
      have hsm : tcf w (pnm B w p) ≤ 5 := tcp_le B hw p
      have u17 : kv_i (kv_si υ 18 p (iw (fun r => decide (r < 2 ^ w) && hol w (pnm B w p) r))) 17 p = Int32.ofNat (tcf w (pnm B w p)) := by rw [i_si, if_neg (by omega)]; exact ht
      have e39 : (39 : Int32) - Int32.ofNat p = Int32.ofNat (39 - p) := ari_ls (n := 39) (by omega)
      simp only [g_54_141, g_54_142, g_54_145, g_54_146, g_54_148, g_54_149, g_54_150, g_54_151, g_54_154, g_54_155, g_54_158, g_54_159, g_54_162, g_54_163, g_54_164, g_54_165, g_54_168, g_54_169, g_54_170, g_54_171, g_54_173, g_54_174, g_54_175, g_54_176, g_54_177, g_54_178, g_54_181, ari_aa, ari_al, ari_la, ari_mm, ari_ml, ari_lm, ari_ltl, ari_llt, ari_lt, ari_le, ari_lel, ari_lle, ari_0, ari_eq, ari_eql, ari_leq, ari_cl, Nat.not_lt_zero, Bool.false_eq_true, Option.toList_some, Option.toList_none, List.cons_append, List.nil_append, kv_rv, kc1_i, kc1_r, kc1_n, n10, n01, n1514, n1213, n1312, if_true, if_false, not_true_eq_false, not_false_eq_true, and_self, true_and, and_true, false_and, and_false, or_true, true_or, or_false, false_or, Nat.reduceLeDiff, Nat.reduceLT, Nat.reduceEqDiff, Nat.reduceAdd, sh_si, r_si, lw_i, u17, i2l_s (show tcf w (pnm B w p) < 2147483648 by omega), c1, c2, e39, lsh_k (39 - p) (by omega), l1sh (39 - p) (by omega), ep, s_14 js4, r_8_3 js4, s_17 js4, r_14_4 js4, s_18 js4, r_14_5 js4, s_19 js4, r_14_6 js4, (show p < 40 by omega), (show p < 2147483648 by omega)]
      refine ga_loop js hK hf hw1 hw ew hpw hP hP4 H m (p + 1) (by omega) _ ((fr5.si (Or.inr (by omega))).sl (Or.inr (by omega))) ?_ (fun q hq => ?_) _ _ _ _ _
      · rw [i_sl, i_si, if_neg (by omega), fr4.i (by omega), i_si, if_neg (by omega), i_si, if_neg (by omega)]
        exact h9
      · by_cases c : q = p
        · subst c
          refine ⟨?_, ?_, ?_, ?_⟩
          · rw [i_sl, i_si, if_neg (by omega), fr4.i (by omega)]; exact i16
          · rw [i_sl, u17]; rfl
          · rw [i_sl, i_si, if_pos ⟨rfl, rfl⟩]; rfl
          · rw [l_sl, if_pos ⟨rfl, rfl⟩]
        · obtain ⟨g1, g2, g3, g4⟩ := hG q (by omega)
          refine ⟨?_, ?_, ?_, ?_⟩
          · rw [i_sl, i_si, if_neg (by omega), fr4.i (by omega), i_si, if_neg (by omega), i_si, if_neg (by omega)]; exact g1
          · rw [i_sl, i_si, if_neg (by omega), fr4.i (by omega), i_si, if_neg (by omega), i_si, if_neg (by omega)]; exact g2
          · rw [i_sl, i_si, if_neg (by omega), fr4.i (by omega), i_si, if_neg (by omega), i_si, if_neg (by omega)]; exact g3
          · rw [l_sl, if_neg (by omega)]
            show kv_l υ 19 q = _
            rw [fr4.l (by omega)]; exact g4
theorem m_gather (js : JS σ) (hK : JK σ) {B : Nat → Bool} {f w P : Nat} (hf : f < 16) (hw1 : 1 ≤ w) (hw : w ≤ 5) (ew : kv_i σ (37 + 4 * f) 3 = Int32.ofNat w) (hpw : pW B w σ) (hP : P = cnt (PRM B w) (3 ^ w)) (H : ∀ τ, FR FG σ τ → kv_i τ 14 9 = Int32.ofNat P → GA B w P τ → Φ none τ) : Wc (d + 3) 54 [.ref 14, .ref (37 + 4 * f), .ref 11] σ Φ := by
  have hP4 : P ≤ 40 := by rw [hP]; exact PRM_40 B hw
  have em : (if (40 : Int32) < Int32.ofNat P then (40 : Int32) else Int32.ofNat P) = Int32.ofNat P := by
    rw [if_neg (by rw [ari_llt (n := 40) (by omega) (by decide)]; omega)]
  have h48 := fun Ψ => m_primeCount (d := d + 1) (τ := σ) (Φ := Ψ) js hw1 (show w ≤ 8 by omega) hpw
  rw [← hP] at h48
  have l := ga_loop (d := d) (Φ := Φ) (σ := kv_si σ 14 9 (Int32.ofNat P)) (js.of rfl rfl) (hK.fr ((FR.rf FG σ).si (Or.inl ⟨rfl, rfl⟩)) (fun b k q => by unfold FG at q; omega)) hf hw1 hw (by rw [i_si, if_neg (by omega)]; exact ew) (hpw.fr ((FR.rf FG σ).si (Or.inl ⟨rfl, rfl⟩)) (fun b k q => by unfold FG at q; omega)) hP hP4 (fun τ fr h9 hG => H τ (((FR.rf FG σ).si (Or.inl ⟨rfl, rfl⟩)).tr fr) h9 hG) P 0 (by omega) _ (FR.rf _ _) (by rw [i_si, if_pos ⟨rfl, rfl⟩]) (fun p hp => absurd hp (by omega)) .null .null .null .null .null
  simp only [c_54, g_54_0, g_54_1, g_54_2, g_54_5, kv_w8_0, kv_w8_1, kv_w8_2, kv_w8_3, kv_w8_4, Nat.not_lt_zero, Bool.false_eq_true, Option.toList_some, Option.toList_none, List.cons_append, List.nil_append, kv_rv, kc1_i, kc1_r, kc1_n, n10, n01, n1514, n1213, n1312, if_true, if_false, not_true_eq_false, not_false_eq_true, and_self, true_and, and_true, false_and, and_false, or_true, true_or, or_false, false_or, Nat.reduceLeDiff, Nat.reduceLT, Nat.reduceEqDiff, Nat.reduceAdd, h48, s_11 js, r_8_2 js, s_14 js, r_8_3 js]
  simp only [g_54_7, kv_w8_0, kv_w8_1, kv_w8_2, kv_w8_3, kv_w8_4, Nat.not_lt_zero, Bool.false_eq_true, Option.toList_some, Option.toList_none, List.cons_append, List.nil_append, kv_rv, kc1_i, kc1_r, kc1_n, n10, n01, n1514, n1213, n1312, if_true, if_false, not_true_eq_false, not_false_eq_true, and_self, true_and, and_true, false_and, and_false, or_true, true_or, or_false, false_or, Nat.reduceLeDiff, Nat.reduceLT, Nat.reduceEqDiff, Nat.reduceAdd]
  rw [em]
  simp only [g_54_10, g_54_13, g_54_14, Nat.not_lt_zero, Bool.false_eq_true, Option.toList_some, Option.toList_none, List.cons_append, List.nil_append, kv_rv, kc1_i, kc1_r, kc1_n, n10, n01, n1514, n1213, n1312, if_true, if_false, not_true_eq_false, not_false_eq_true, and_self, true_and, and_true, false_and, and_false, or_true, true_or, or_false, false_or, Nat.reduceLeDiff, Nat.reduceLT, Nat.reduceEqDiff, Nat.reduceAdd, s_14 js, r_8_3 js]
  exact l
end CD

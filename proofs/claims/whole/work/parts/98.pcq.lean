/-! ===== primes and prime ===== -/
theorem anyN_add (f : Nat → Bool) (a : Nat) : ∀ b, anyN f (a + b) = (anyN f a || anyN (fun j => f (a + j)) b)
  | 0 => by show anyN f a = (_ || false); rw [Bool.or_false]
  | b + 1 => by
    show (anyN f (a + b) || f (a + b)) = (anyN f a || (anyN (fun j => f (a + j)) b || f (a + b)))
    rw [anyN_add f a b, Bool.or_assoc]
theorem pp_eq {B : Nat → Bool} {w q r : Nat} (hw1 : 1 ≤ w) (hq : q < 3 ^ (w - min w 3)) (hr : r < 27) : (wb B w q r && !wid B w q (w - min w 3) r) = (decide (27 * q + r < 3 ^ w) && PRM B w (27 * q + r)) := by
  by_cases c : 3 ≤ w
  · obtain ⟨m, e⟩ : ∃ m, w = 3 + m := ⟨w - 3, by omega⟩
    subst e
    rw [show min (3 + m) 3 = 3 by omega, show 3 + m - 3 = m by omega] at hq
    have e3 : 3 ^ (3 + m) = 27 * 3 ^ m := by rw [Nat.pow_add]
    unfold wid wwb PRM
    rw [show min (3 + m) 3 = 3 by omega, show 3 + m - 3 = m by omega, anyN_add]
    have h1 : wb B (3 + m) q r = FIT B (3 + m) (27 * q + r) := by unfold wb; rw [decide_eq_true (show 27 * q + r < 3 ^ (3 + m) by omega), Bool.true_and]
    have h2 : anyN (fun k => !(dgf r k == 2) && (decide (r + (2 - dgf r k) * 3 ^ k < 27) && wb B (3 + m) q (r + (2 - dgf r k) * 3 ^ k))) 3 = anyN (fun k => !(dgf (27 * q + r) k == 2) && FIT B (3 + m) (27 * q + r + (2 - dgf (27 * q + r) k) * 3 ^ k)) 3 := by
      refine anyN_congr 3 (fun k hk => ?_)
      have hlt : r + (2 - dgf r k) * 3 ^ k < 27 := dgf_add_lt (p := r) (k := k) (n := 3) hk hr
      rw [dgf_27 hr, if_pos hk, decide_eq_true hlt, Bool.true_and]
      unfold wb
      rw [decide_eq_true (show 27 * q + (r + (2 - dgf r k) * 3 ^ k) < 3 ^ (3 + m) by omega), Bool.true_and, ← Nat.add_assoc]
    have h3 : anyN (fun j => !(dgf q j == 2) && wb B (3 + m) (q + (2 - dgf q j) * 3 ^ j) r) m = anyN (fun j => !(dgf (27 * q + r) (3 + j) == 2) && FIT B (3 + m) (27 * q + r + (2 - dgf (27 * q + r) (3 + j)) * 3 ^ (3 + j))) m := by
      refine anyN_congr m (fun j hj => ?_)
      have hlt := dgf_add_lt (p := q) (k := j) (n := m) hj hq
      rw [dgf_27 hr, if_neg (by omega), show 3 + j - 3 = j by omega]
      unfold wb
      rw [decide_eq_true (show 27 * (q + (2 - dgf q j) * 3 ^ j) + r < 3 ^ (3 + m) by omega), Bool.true_and, show 27 * (q + (2 - dgf q j) * 3 ^ j) + r = 27 * q + r + (2 - dgf q j) * 3 ^ (3 + j) by rw [Nat.pow_add, Nat.mul_add, ← Nat.mul_assoc, ← Nat.mul_assoc, Nat.mul_comm 27 (2 - dgf q j)]; show _ = 27 * q + r + (2 - dgf q j) * 27 * 3 ^ j; omega]
    rw [h1, h2, h3, decide_eq_true (show 27 * q + r < 3 ^ (3 + m) by omega), Bool.true_and]
  · have ew : min w 3 = w := by omega
    rw [ew, Nat.sub_self] at hq
    have : q = 0 := by simp at hq; exact hq
    subst this
    rw [ew, Nat.sub_self, Nat.mul_zero, Nat.zero_add]
    unfold wid wwb PRM
    rw [ew]
    have h1 : wb B w 0 r = (decide (r < 3 ^ w) && FIT B w r) := by unfold wb; rw [Nat.mul_zero, Nat.zero_add]
    rw [h1]
    by_cases cr : r < 3 ^ w
    · have h2 : anyN (fun k => !(dgf r k == 2) && (decide (r + (2 - dgf r k) * 3 ^ k < 27) && wb B w 0 (r + (2 - dgf r k) * 3 ^ k))) w = anyN (fun k => !(dgf r k == 2) && FIT B w (r + (2 - dgf r k) * 3 ^ k)) w := by
        refine anyN_congr w (fun k hk => ?_)
        have hlt := dgf_add_lt (p := r) (k := k) (n := w) hk cr
        have h27 : 3 ^ w ≤ 27 := by
          have : ∀ w, w ≤ 3 → 3 ^ w ≤ 27 := by decide
          exact this w (by omega)
        unfold wb
        rw [Nat.mul_zero, Nat.zero_add, decide_eq_true hlt, decide_eq_true (show r + (2 - dgf r k) * 3 ^ k < 27 by omega), Bool.true_and, Bool.true_and]
      rw [h2, decide_eq_true cr, Bool.true_and, Bool.true_and]
      show (_ && !(_ || false)) = _
      rw [Bool.or_false]
    · rw [decide_eq_false cr]; simp
theorem gl32 (n i : Nat) : (Int32.ofNat n).toBitVec.getLsbD i = (n % 2 ^ 32).testBit i := rfl
/-- a word without another's bits -/
theorem wd_not (f g : Nat → Bool) : Int32.ofNat (wd f 27) &&& (Int32.ofNat (wd g 27) ^^^ -1) = Int32.ofNat (wd (fun r => f r && !g r) 27) := by
  rw [← Int32.toBitVec_inj]
  apply BitVec.eq_of_getLsbD_eq
  intro i hi
  rw [Int32.toBitVec_and, BitVec.getLsbD_and, Int32.toBitVec_xor, BitVec.getLsbD_xor]
  have hb : ∀ h : Nat → Bool, (Int32.ofNat (wd h 27)).toBitVec.getLsbD i = (decide (i < 27) && h i) := by
    intro h
    rw [gl32, Nat.testBit_mod_two_pow, wd_tb, decide_eq_true hi, Bool.true_and]
  have hm : (-1 : Int32).toBitVec.getLsbD i = true := by
    have : ∀ i, i < 32 → (-1 : Int32).toBitVec.getLsbD i = true := by decide
    exact this i hi
  rw [hb, hb, hb, hm]
  cases decide (i < 27) <;> cases f i <;> cases g i <;> rfl
theorem wd_cnt (f : Nat → Bool) : pcn 32 (wd f 27) = cnt f 27 := by
  rw [pcn_cnt, cnt_ext (a := 27) (b := 32) (by decide) (fun r h1 _ => by rw [wd_tb, decide_eq_false (by omega)]; rfl)]
  exact cnt_congr 27 (fun r hr => by rw [wd_tb, decide_eq_true hr, Bool.true_and])
def PP (B : Nat → Bool) (w p : Nat) : Bool := decide (p < 3 ^ w) && PRM B w p
section PH
variable {d : Nat} {τ : kv_S} {Φ : Option Value → kv_S → Prop}
theorem pw_word {B : Nat → Bool} {w q : Nat} (hw1 : 1 ≤ w) (h : pW B w τ) (hq : q < 3 ^ (w - min w 3)) : kv_i τ 12 q &&& (kv_i τ 13 q ^^^ -1) = Int32.ofNat (wd (fun r => PP B w (27 * q + r)) 27) := by
  rw [(h.2 q hq).1, (h.2 q hq).2, wd_not]
  exact congrArg Int32.ofNat (wd_ext (fun r hr => pp_eq hw1 hq hr))
theorem pw5 {w : Nat} (hw : w ≤ 8) : 3 ^ (w - min w 3) ≤ 243 := by
  have : ∀ m, m ≤ 5 → 3 ^ m ≤ 243 := by decide
  exact this _ (by omega)
theorem pc_loop (js : JS τ) {B : Nat → Bool} {w : Nat} (hw1 : 1 ≤ w) (hw : w ≤ 8) (h : pW B w τ) : ∀ m q, q + m = 3 ^ (w - min w 3) → Wp (d + 1) 48 4 [.ref 11, .int (Int32.ofNat (cnt (PP B w) (27 * q))), .int (Int32.ofNat q)] [] τ Φ = Φ (some (.int (Int32.ofNat (cnt (PP B w) (27 * 3 ^ (w - min w 3)))))) τ
  | 0, q, e => by
    have h2 := pw5 hw
    have e2 : q = 3 ^ (w - min w 3) := by omega
    subst e2
    simp only [g_48_4, g_48_5, g_48_6, g_48_9, g_48_39, g_48_40, ari_aa, ari_al, ari_la, ari_mm, ari_ml, ari_lm, ari_ltl, ari_llt, ari_lt, ari_le, ari_lel, ari_lle, ari_0, ari_eq, ari_eql, ari_leq, ari_cl, Nat.not_lt_zero, Bool.false_eq_true, Option.toList_some, Option.toList_none, List.cons_append, List.nil_append, kv_rv, kc1_i, kc1_r, kc1_n, n10, n01, n1514, n1213, n1312, if_true, if_false, not_true_eq_false, not_false_eq_true, and_self, true_and, and_true, false_and, and_false, or_true, true_or, or_false, false_or, Nat.reduceLeDiff, Nat.reduceLT, Nat.reduceEqDiff, Nat.reduceAdd, s_11 js, r_8_2 js, h.1, (show 3 ^ (w - min w 3) < 300 by omega), (show 3 ^ (w - min w 3) < 2147483648 by omega), (show 3 ^ (w - min w 3) ≤ 3 ^ (w - min w 3) by omega)]
  | m + 1, q, e => by
    have h2 := pw5 hw
    have hwd := wd_lt (fun r => PP B w (27 * q + r)) 27
    have e7 : cnt (PP B w) (27 * (q + 1)) = cnt (PP B w) (27 * q) + cnt (fun r => PP B w (27 * q + r)) 27 := by rw [show 27 * (q + 1) = 27 * q + 27 by omega, cnt_add]
    simp only [g_48_4, g_48_5, g_48_6, g_48_9, ari_aa, ari_al, ari_la, ari_mm, ari_ml, ari_lm, ari_ltl, ari_llt, ari_lt, ari_le, ari_lel, ari_lle, ari_0, ari_eq, ari_eql, ari_leq, ari_cl, Nat.not_lt_zero, Bool.false_eq_true, Option.toList_some, Option.toList_none, List.cons_append, List.nil_append, kv_rv, kc1_i, kc1_r, kc1_n, n10, n01, n1514, n1213, n1312, if_true, if_false, not_true_eq_false, not_false_eq_true, and_self, true_and, and_true, false_and, and_false, or_true, true_or, or_false, false_or, Nat.reduceLeDiff, Nat.reduceLT, Nat.reduceEqDiff, Nat.reduceAdd, s_11 js, r_8_2 js, h.1, (show q < 300 by omega), (show q < 2147483648 by omega), (show 3 ^ (w - min w 3) < 300 by omega), (show 3 ^ (w - min w 3) < 2147483648 by omega), (show ¬ 3 ^ (w - min w 3) ≤ q by omega)]
    simp only [g_48_12, g_48_13, g_48_14, g_48_17, g_48_18, g_48_19, g_48_20, g_48_23, g_48_24, g_48_25, g_48_26, g_48_27, g_48_28, g_48_31, g_48_32, g_48_33, g_48_36, kv_w8_0, kv_w8_1, kv_w8_2, kv_w8_3, kv_w8_4, ari_aa, ari_al, ari_la, ari_mm, ari_ml, ari_lm, ari_ltl, ari_llt, ari_lt, ari_le, ari_lel, ari_lle, ari_0, ari_eq, ari_eql, ari_leq, ari_cl, Nat.not_lt_zero, Bool.false_eq_true, Option.toList_some, Option.toList_none, List.cons_append, List.nil_append, kv_rv, kc1_i, kc1_r, kc1_n, n10, n01, n1514, n1213, n1312, if_true, if_false, not_true_eq_false, not_false_eq_true, and_self, true_and, and_true, false_and, and_false, or_true, true_or, or_false, false_or, Nat.reduceLeDiff, Nat.reduceLT, Nat.reduceEqDiff, Nat.reduceAdd, s_11 js, r_8_2 js, s_12 js, r_11_0 js, s_13 js, r_11_1 js, pw_word hw1 h (show q < 3 ^ (w - min w 3) by omega), m_bitCount (show wd (fun r => PP B w (27 * q + r)) 27 < 4294967296 by omega), wd_cnt, ← e7, (show q < 243 by omega), (show q < 2147483648 by omega)]
    exact pc_loop js hw1 hw h m (q + 1) (by omega)
theorem PP_all {B : Nat → Bool} {w : Nat} (hw : w ≤ 8) : cnt (PP B w) (27 * 3 ^ (w - min w 3)) = cnt (PRM B w) (3 ^ w) := by
  have hle : 3 ^ w ≤ 27 * 3 ^ (w - min w 3) := by
    have : ∀ w, w ≤ 8 → 3 ^ w ≤ 27 * 3 ^ (w - min w 3) := by decide
    exact this w hw
  rw [cnt_ext hle (fun r h1 _ => by unfold PP; rw [decide_eq_false (by omega)]; rfl)]
  exact cnt_congr _ (fun r hr => by unfold PP; rw [decide_eq_true hr, Bool.true_and])
theorem m_primeCount (js : JS τ) {B : Nat → Bool} {w : Nat} (hw1 : 1 ≤ w) (hw : w ≤ 8) (h : pW B w τ) : Wc (d + 1) 48 [.ref 11] τ Φ = Φ (some (.int (Int32.ofNat (cnt (PRM B w) (3 ^ w))))) τ := by
  have l := pc_loop (d := d) (Φ := Φ) js hw1 hw h (3 ^ (w - min w 3)) 0 (by omega)
  rw [PP_all hw] at l
  simp only [c_48, g_48_0, g_48_1, g_48_2, g_48_3, Nat.not_lt_zero, Bool.false_eq_true, Option.toList_some, Option.toList_none, List.cons_append, List.nil_append, kv_rv, kc1_i, kc1_r, kc1_n, n10, n01, n1514, n1213, n1312, if_true, if_false, not_true_eq_false, not_false_eq_true, and_self, true_and, and_true, false_and, and_false, or_true, true_or, or_false, false_or, Nat.reduceLeDiff, Nat.reduceLT, Nat.reduceEqDiff, Nat.reduceAdd]
  exact l
end PH
/-- promise 9: primes -/
theorem o_7 (d : Nat) : ob_7 JJ (d + 4) := by
  intro σ h p
  have h' := h
  obtain ⟨a1, a2, a3, ⟨F, hF, f1, f2, f3⟩, a5, a6, a7⟩ := h'
  by_cases hp : ¬ p < 0 ∧ p < Int32.ofNat F
  · obtain ⟨f, hf, rfl, ec⟩ := i32_nat (by omega) hp.1 hp.2
    obtain ⟨w, hj⟩ := f3 f hf
    have hj : JF1' σ f w := hj
    have hf16 : f < 16 := by omega
    simp only [c_41, g_41_0, g_41_1, g_41_2, g_41_5, g_41_8, g_41_9, g_41_10, g_41_11, g_41_14, g_41_15, g_41_18, g_41_19, g_41_20, kv_w8_0, kv_w8_1, kv_w8_2, kv_w8_3, kv_w8_4, ari_aa, ari_al, ari_la, ari_mm, ari_ml, ari_lm, ari_ltl, ari_llt, ari_lt, ari_le, ari_lel, ari_lle, ari_0, ari_eq, ari_eql, ari_leq, ari_cl, Nat.not_lt_zero, Bool.false_eq_true, Option.toList_some, Option.toList_none, List.cons_append, List.nil_append, kv_rv, kc1_i, kc1_r, kc1_n, n10, n01, n1514, n1213, n1312, if_true, if_false, not_true_eq_false, not_false_eq_true, and_self, true_and, and_true, false_and, and_false, or_true, true_or, or_false, false_or, Nat.reduceLeDiff, Nat.reduceLT, Nat.reduceEqDiff, Nat.reduceAdd, m_isFunction_c a1, f1, sT a1 hf16, rT a1 hf16, s_8 a1, s_9 a1, r_8_0 a1, s_11 a1, r_8_2 a1, (show f < 16 by omega), (show f < 2147483648 by omega), (show f < F by omega), (show f < 2147483648 by omega), (show F < 17 by omega), (show F < 2147483648 by omega)]
    refine m_pworkOut a1 a2 hf16 hj (fun τ fr hpw => ?_)
    have js := fr.js a1
    simp only [g_41_23, g_41_24, g_41_27, g_41_30, kv_w8_0, kv_w8_1, kv_w8_2, kv_w8_3, kv_w8_4, Nat.not_lt_zero, Bool.false_eq_true, Option.toList_some, Option.toList_none, List.cons_append, List.nil_append, kv_rv, kc1_i, kc1_r, kc1_n, n10, n01, n1514, n1213, n1312, if_true, if_false, not_true_eq_false, not_false_eq_true, and_self, true_and, and_true, false_and, and_false, or_true, true_or, or_false, false_or, Nat.reduceLeDiff, Nat.reduceLT, Nat.reduceEqDiff, Nat.reduceAdd, s_8 js, s_11 js, r_8_2 js, m_primeCount js hj.1 hj.2.1 hpw]
    refine ⟨_, rfl, ?_⟩
    have fsc : FR SC σ τ := fr.sc (fun b i q => by unfold SC kv_ess; omega)
    have h2 := JJ.fr fsc h
    have hj2 : JF1' τ f w := hj.fr fr (fun b i q => by omega) hf16
    have g1 : kv_i τ 149 1 = Int32.ofNat F := by rw [fr.i (by omega)]; exact f2
    have eB : mB τ f = mB σ f := by funext r; unfold mB; rw [hld_fr fr (fun b j q => by omega)]
    simp only [c_135, g_135_0, g_135_1, g_135_2, g_135_5, g_135_8, g_135_9, g_135_10, g_135_11, g_135_12, kv_w8_0, kv_w8_1, kv_w8_2, kv_w8_3, kv_w8_4, ari_aa, ari_al, ari_la, ari_mm, ari_ml, ari_lm, ari_ltl, ari_llt, ari_lt, ari_le, ari_lel, ari_lle, ari_0, ari_eq, ari_eql, ari_leq, ari_cl, Nat.not_lt_zero, Bool.false_eq_true, Option.toList_some, Option.toList_none, List.cons_append, List.nil_append, kv_rv, kc1_i, kc1_r, kc1_n, n10, n01, n1514, n1213, n1312, if_true, if_false, not_true_eq_false, not_false_eq_true, and_self, true_and, and_true, false_and, and_false, or_true, true_or, or_false, false_or, Nat.reduceLeDiff, Nat.reduceLT, Nat.reduceEqDiff, Nat.reduceAdd, m_isFunction_m js, g1, s_149 js, (show f < F by omega), (show f < 2147483648 by omega), (show F < 17 by omega), (show F < 2147483648 by omega), (show f < 17 by omega), (show f < 2147483648 by omega)]
    refine m_findPrimes js h2.2.2.1 hf16 hj2 (fun υ hm => ?_)
    have js2 := hm.1.js js
    have e7 := hm.2.1
    rw [eB] at e7
    simp only [g_135_15, g_135_16, g_135_19, Nat.not_lt_zero, Bool.false_eq_true, Option.toList_some, Option.toList_none, List.cons_append, List.nil_append, kv_rv, kc1_i, kc1_r, kc1_n, n10, n01, n1514, n1213, n1312, if_true, if_false, not_true_eq_false, not_false_eq_true, and_self, true_and, and_true, false_and, and_false, or_true, true_or, or_false, false_or, Nat.reduceLeDiff, Nat.reduceLT, Nat.reduceEqDiff, Nat.reduceAdd, s_149 js2, e7]
    exact JJ.fr (hm.1.sc (fun b i q => by unfold SC kv_ess; omega)) h2
  · simp only [c_41, g_41_0, g_41_1, g_41_2, g_41_5, g_41_8, g_41_9, kv_w8_0, kv_w8_1, kv_w8_2, kv_w8_3, kv_w8_4, Nat.not_lt_zero, Bool.false_eq_true, Option.toList_some, Option.toList_none, List.cons_append, List.nil_append, kv_rv, kc1_i, kc1_r, kc1_n, n10, n01, n1514, n1213, n1312, if_true, if_false, not_true_eq_false, not_false_eq_true, and_self, true_and, and_true, false_and, and_false, or_true, true_or, or_false, false_or, Nat.reduceLeDiff, Nat.reduceLT, Nat.reduceEqDiff, Nat.reduceAdd, m_isFunction_c a1, f1, hp, s_8 a1]
    refine ⟨_, rfl, ?_⟩
    simp only [c_135, g_135_0, g_135_1, g_135_2, g_135_5, g_135_8, g_135_9, kv_w8_0, kv_w8_1, kv_w8_2, kv_w8_3, kv_w8_4, Nat.not_lt_zero, Bool.false_eq_true, Option.toList_some, Option.toList_none, List.cons_append, List.nil_append, kv_rv, kc1_i, kc1_r, kc1_n, n10, n01, n1514, n1213, n1312, if_true, if_false, not_true_eq_false, not_false_eq_true, and_self, true_and, and_true, false_and, and_false, or_true, true_or, or_false, false_or, Nat.reduceLeDiff, Nat.reduceLT, Nat.reduceEqDiff, Nat.reduceAdd, m_isFunction_m a1, f2, hp, s_149 a1]
    exact h

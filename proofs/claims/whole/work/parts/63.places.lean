/-! ===== places ===== -/
/-- how many of the first n have it -/
def cnt (P : Nat → Bool) : Nat → Nat
  | 0 => 0
  | n + 1 => cnt P n + (P n).toNat
theorem cnt_congr {P Q : Nat → Bool} : ∀ n, (∀ r, r < n → P r = Q r) → cnt P n = cnt Q n
  | 0, _ => rfl
  | n + 1, h => by
    show cnt P n + _ = cnt Q n + _
    rw [cnt_congr n (fun r hr => h r (by omega)), h n (by omega)]
theorem cnt_add (P : Nat → Bool) (a : Nat) : ∀ b, cnt P (a + b) = cnt P a + cnt (fun i => P (a + i)) b
  | 0 => rfl
  | b + 1 => by
    show cnt P (a + b) + (P (a + b)).toNat = cnt P a + (cnt (fun i => P (a + i)) b + (P (a + b)).toNat)
    rw [cnt_add P a b]; omega
theorem cnt_le (P : Nat → Bool) : ∀ n, cnt P n ≤ n
  | 0 => Nat.le_refl 0
  | n + 1 => by
    show cnt P n + _ ≤ n + 1
    have := cnt_le P n
    have := Bool.toNat_le (P n)
    omega
theorem cnt_false {P : Nat → Bool} : ∀ n, (∀ r, r < n → P r = false) → cnt P n = 0
  | 0, _ => rfl
  | n + 1, h => by
    show cnt P n + _ = 0
    rw [cnt_false n (fun r hr => h r (by omega)), h n (by omega)]; rfl
theorem cnt_ext {P : Nat → Bool} {a b : Nat} (h : a ≤ b) (hf : ∀ r, a ≤ r → r < b → P r = false) : cnt P b = cnt P a := by
  have := cnt_add P a (b - a)
  rw [show a + (b - a) = b by omega] at this
  rw [this, cnt_false (b - a) (fun r hr => hf (a + r) (by omega) (by omega))]; rfl
theorem cnt_lt (l : Nat) : ∀ n, cnt (fun p => decide (p < l)) n = min l n
  | 0 => by simp [cnt]
  | n + 1 => by
    show cnt _ n + (decide (n < l)).toNat = _
    rw [cnt_lt l n]
    by_cases h : n < l
    · rw [decide_eq_true h]; show min l n + 1 = _; omega
    · rw [decide_eq_false h]; show min l n + 0 = _; omega
theorem pcn_cnt : ∀ n x, pcn n x = cnt x.testBit n
  | 0, _ => rfl
  | n + 1, x => by
    rw [pcn_add n 1 x, pcn_cnt n x]
    show _ + ((x / 2 ^ n) % 2 + 0) = cnt _ n + _
    rw [nat_bit]; rfl
theorem pcn_32b {o : Nat} (ho : o < 256) : pcn 32 o = cnt o.testBit 8 := by
  rw [pcn_cnt]
  exact cnt_ext (by decide) (fun r h1 _ => tb8 ho h1)
/-- there; there and 1; there and 2 -/
def cp0 (L : Nat → Nat) (r : Nat) : Bool := decide (r % 8 < L (r / 8))
def cpv (L H : Nat → Nat) (v r : Nat) : Bool := decide (r % 8 < L (r / 8)) && decide (H r = v)
theorem cp_sheet {L H : Nat → Nat} {s o v : Nat} (hb : ∀ p, o.testBit p = (decide (p < L s) && decide (H (8 * s + p) = v))) : cnt (cpv L H v) (8 * (s + 1)) = cnt (cpv L H v) (8 * s) + cnt o.testBit 8 := by
  rw [show 8 * (s + 1) = 8 * s + 8 by omega, cnt_add]
  congr 1
  refine cnt_congr 8 (fun p hp => ?_)
  rw [hb p]
  unfold cpv
  rw [show (8 * s + p) % 8 = p by omega, show (8 * s + p) / 8 = s by omega]
theorem cp0_sheet {L : Nat → Nat} {s : Nat} (hl : L s ≤ 8) : cnt (cp0 L) (8 * (s + 1)) = cnt (cp0 L) (8 * s) + L s := by
  rw [show 8 * (s + 1) = 8 * s + 8 by omega, cnt_add]
  congr 1
  have : cnt (fun i => cp0 L (8 * s + i)) 8 = cnt (fun p => decide (p < L s)) 8 := cnt_congr 8 (fun p hp => by
    unfold cp0
    rw [show (8 * s + p) % 8 = p by omega, show (8 * s + p) / 8 = s by omega])
  rw [this, cnt_lt]; omega
theorem scn_8 : ∀ w, w ≤ 8 → 1 ≤ w → (2 ^ w ≤ 8 * max 1 (2 ^ w / 8)) ∧ (8 * max 1 (2 ^ w / 8) = 2 ^ w ∨ 2 ^ w < 8 ∧ max 1 (2 ^ w / 8) = 1) := by decide +kernel
theorem cp_end {w : Nat} {L H : Nat → Nat} (h : LH w L H) (P : Nat → Bool) (hP : ∀ r, P r = true → r % 8 < L (r / 8)) : cnt P (8 * max 1 (2 ^ w / 8)) = cnt P (2 ^ w) := by
  obtain ⟨h1, h2⟩ := scn_8 w h.2.1 h.1
  have hW := pw1 w
  refine cnt_ext h1 (fun r ha hb => ?_)
  rcases h2 with h2 | ⟨h2, h3⟩
  · omega
  · have := (h.2.2 0 (by decide) (by omega)).2.1
    cases hc : P r with
    | false => rfl
    | true =>
      have := hP r hc
      rw [show r / 8 = 0 by omega] at this
      omega
section PL
variable {d : Nat} {σ : kv_S} {Φ : Option Value → kv_S → Prop}
theorem countOf_loop (h : JS σ) {f w : Nat} {L H : Nat → Nat} {q : Int32} (hf : f < 16) (hLH : LH w L H) (hC : CF σ f w L H) (S : Nat) (hS : S = max 1 (2 ^ w / 8)) : ∀ m s, s + m = S → Wp (d + 2) 30 10 [.ref (37 + 4 * f), .int q, .int (Int32.ofNat (cnt (cpv L H 1) (8 * s))), .int (Int32.ofNat (cnt (cpv L H 2) (8 * s))), .int (Int32.ofNat (cnt (cp0 L) (8 * s))), .int (Int32.ofNat s)] [] σ Φ = Wp (d + 2) 30 63 [.ref (37 + 4 * f), .int q, .int (Int32.ofNat (cnt (cpv L H 1) (8 * S))), .int (Int32.ofNat (cnt (cpv L H 2) (8 * S))), .int (Int32.ofNat (cnt (cp0 L) (8 * S))), .int (Int32.ofNat S)] [] σ Φ
  | 0, s, e => by
    have e3 : s = S := by omega
    subst e3
    have hW := pw8 hLH.2.1
    simp only [g_30_10, g_30_12, g_30_13, g_30_16, kv_w8_0, kv_w8_1, kv_w8_2, kv_w8_3, kv_w8_4, ari_aa, ari_al, ari_la, ari_mm, ari_ml, ari_lm, ari_ltl, ari_llt, ari_lt, ari_le, ari_lel, ari_lle, ari_0, ari_eq, ari_eql, ari_leq, ari_cl, Nat.not_lt_zero, Bool.false_eq_true, Option.toList_some, Option.toList_none, List.cons_append, List.nil_append, kv_rv, kc1_i, kc1_r, kc1_n, n10, n01, n1514, n1213, n1312, if_true, if_false, not_true_eq_false, not_false_eq_true, and_self, true_and, and_true, false_and, and_false, or_true, true_or, or_false, false_or, Nat.reduceLeDiff, Nat.reduceLT, Nat.reduceEqDiff, Nat.reduceAdd, m_sheetCount h hf hLH.2.1 hC.1, ← hS, sT h hf, (show s < 40 by omega), (show s < 2147483648 by omega), (show s ≤ s by omega)]
  | m + 1, s, e => by
    have hW := pw8 hLH.2.1
    obtain ⟨s32, s8⟩ := (scn_w w hLH.2.1 hLH.1).2 s (by omega)
    obtain ⟨o, u, ho, hu, c1, c2, c3, c4⟩ := hC.2 s s32 s8
    have hl := hLH.le s s32 s8
    simp only [g_30_10, g_30_12, g_30_13, g_30_16, kv_w8_0, kv_w8_1, kv_w8_2, kv_w8_3, kv_w8_4, ari_aa, ari_al, ari_la, ari_mm, ari_ml, ari_lm, ari_ltl, ari_llt, ari_lt, ari_le, ari_lel, ari_lle, ari_0, ari_eq, ari_eql, ari_leq, ari_cl, Nat.not_lt_zero, Bool.false_eq_true, Option.toList_some, Option.toList_none, List.cons_append, List.nil_append, kv_rv, kc1_i, kc1_r, kc1_n, n10, n01, n1514, n1213, n1312, if_true, if_false, not_true_eq_false, not_false_eq_true, and_self, true_and, and_true, false_and, and_false, or_true, true_or, or_false, false_or, Nat.reduceLeDiff, Nat.reduceLT, Nat.reduceEqDiff, Nat.reduceAdd, m_sheetCount h hf hLH.2.1 hC.1, ← hS, sT h hf, (show s < 40 by omega), (show s < 2147483648 by omega), (show S < 40 by omega), (show S < 2147483648 by omega), (show ¬ S ≤ s by omega)]
    simp only [g_30_19, g_30_20, g_30_21, g_30_24, g_30_26, g_30_27, g_30_30, g_30_31, g_30_32, g_30_33, g_30_34, g_30_37, g_30_39, g_30_40, g_30_43, g_30_44, g_30_45, g_30_47, g_30_48, g_30_51, g_30_53, g_30_54, g_30_55, g_30_57, g_30_60, kv_w8_0, kv_w8_1, kv_w8_2, kv_w8_3, kv_w8_4, ari_aa, ari_al, ari_la, ari_mm, ari_ml, ari_lm, ari_ltl, ari_llt, ari_lt, ari_le, ari_lel, ari_lle, ari_0, ari_eq, ari_eql, ari_leq, ari_cl, Nat.not_lt_zero, Bool.false_eq_true, Option.toList_some, Option.toList_none, List.cons_append, List.nil_append, kv_rv, kc1_i, kc1_r, kc1_n, n10, n01, n1514, n1213, n1312, if_true, if_false, not_true_eq_false, not_false_eq_true, and_self, true_and, and_true, false_and, and_false, or_true, true_or, or_false, false_or, Nat.reduceLeDiff, Nat.reduceLT, Nat.reduceEqDiff, Nat.reduceAdd, sT h hf, sO h hf, rO h hf, sF h hf, rF h hf, sL h hf, rL h hf, c1, c2, c3, m_bitCount (show o < 4294967296 by omega), m_bitCount (show u < 4294967296 by omega), pcn_32b ho, pcn_32b hu, ← cp_sheet (fun p => (c4 p).1), ← cp_sheet (fun p => (c4 p).2), ← cp0_sheet hl, (show s < 32 by omega), (show s < 2147483648 by omega)]
    exact countOf_loop h hf hLH hC S hS m (s + 1) (by omega)
/-- how many places, as the class counts -/
def cpl (w : Nat) (L H : Nat → Nat) (q : Nat) : Nat := if q = 0 then cnt (cp0 L) (2 ^ w) - cnt (cpv L H 1) (2 ^ w) - cnt (cpv L H 2) (2 ^ w) else if q = 1 then cnt (cpv L H 1) (2 ^ w) else if q = 2 then cnt (cpv L H 2) (2 ^ w) + (2 ^ w - cnt (cp0 L) (2 ^ w)) else 2 ^ w - cnt (cp0 L) (2 ^ w)
theorem cp_sum {L H : Nat → Nat} : ∀ n, (∀ r, r < n → r % 8 < L (r / 8) → H r ≤ 2) → cnt (cpv L H 0) n + cnt (cpv L H 1) n + cnt (cpv L H 2) n = cnt (cp0 L) n
  | 0, _ => rfl
  | n + 1, h => by
    have ih := cp_sum (L := L) (H := H) n (fun r hr => h r (by omega))
    show cnt _ n + _ + (cnt _ n + _) + (cnt _ n + _) = cnt _ n + _
    have : (cpv L H 0 n).toNat + (cpv L H 1 n).toNat + (cpv L H 2 n).toNat = (cp0 L n).toNat := by
      unfold cpv cp0
      by_cases c : n % 8 < L (n / 8)
      · have := h n (by omega) c
        rw [decide_eq_true c]
        match hH : H n, this with
        | 0, _ => rfl
        | 1, _ => rfl
        | 2, _ => rfl
      · rw [decide_eq_false c]; rfl
    omega
theorem LH.all {w : Nat} {L H : Nat → Nat} (h : LH w L H) : ∀ r, r < 2 ^ w → r % 8 < L (r / 8) → H r ≤ 2 := fun r hr hc => by
  have hW := pw8 h.2.1
  have := (h.2.2 (r / 8) (by omega) (by omega)).2.2 (r % 8) hc
  rw [show 8 * (r / 8) + r % 8 = r by omega] at this
  exact this
theorem m_countOf (h : JS σ) {f w q : Nat} {L H : Nat → Nat} (hf : f < 16) (hLH : LH w L H) (hC : CF σ f w L H) (hq : q ≤ 3) : Wc (d + 2) 30 [.ref (37 + 4 * f), .int (Int32.ofNat q)] σ Φ = Φ (some (.int (Int32.ofNat (cpl w L H q)))) σ := by
  have hW := pw8 hLH.2.1
  have hl := countOf_loop (d := d) (Φ := Φ) (q := Int32.ofNat q) h hf hLH hC (max 1 (2 ^ w / 8)) rfl (max 1 (2 ^ w / 8)) 0 (by omega)
  rw [cp_end hLH (cpv L H 1) (fun r hr => by unfold cpv at hr; simp at hr; exact hr.1), cp_end hLH (cpv L H 2) (fun r hr => by unfold cpv at hr; simp at hr; exact hr.1), cp_end hLH (cp0 L) (fun r hr => by unfold cp0 at hr; simp at hr; exact hr)] at hl
  have b0 := cnt_le (cp0 L) (2 ^ w)
  have b1 := cp_sum (2 ^ w) hLH.all
  simp only [c_30, g_30_0, g_30_1, g_30_2, g_30_3, g_30_4, g_30_5, g_30_7, g_30_8, Nat.not_lt_zero, Bool.false_eq_true, Option.toList_some, Option.toList_none, List.cons_append, List.nil_append, kv_rv, kc1_i, kc1_r, kc1_n, n10, n01, n1514, n1213, n1312, if_true, if_false, not_true_eq_false, not_false_eq_true, and_self, true_and, and_true, false_and, and_false, or_true, true_or, or_false, false_or, Nat.reduceLeDiff, Nat.reduceLT, Nat.reduceEqDiff, Nat.reduceAdd]
  refine hl.trans ?_
  unfold cpl
  have hq4 : q = 0 ∨ q = 1 ∨ q = 2 ∨ q = 3 := by omega
  simp only [g_30_63, g_30_64, g_30_67, g_30_69, g_30_70, g_30_72, kv_w8_0, kv_w8_1, kv_w8_2, kv_w8_3, kv_w8_4, ari_aa, ari_al, ari_la, ari_mm, ari_ml, ari_lm, ari_ltl, ari_llt, ari_lt, ari_le, ari_lel, ari_lle, ari_0, ari_eq, ari_eql, ari_leq, ari_cl, Nat.not_lt_zero, Bool.false_eq_true, Option.toList_some, Option.toList_none, List.cons_append, List.nil_append, kv_rv, kc1_i, kc1_r, kc1_n, n10, n01, n1514, n1213, n1312, if_true, if_false, not_true_eq_false, not_false_eq_true, and_self, true_and, and_true, false_and, and_false, or_true, true_or, or_false, false_or, Nat.reduceLeDiff, Nat.reduceLT, Nat.reduceEqDiff, Nat.reduceAdd, ari_ss, m_rowCount h hf hLH.2.1 hC.1, sT h hf, (show cnt (cp0 L) (2 ^ w) ≤ 2 ^ w by omega)]
  rcases hq4 with rfl | rfl | rfl | rfl
  · rw [show Int32.ofNat 0 = (0 : Int32) from rfl, g_30_73_0]
    simp only [g_30_100, g_30_102, g_30_103, g_30_104, g_30_105, g_30_106, g_30_107, g_30_108, g_30_109, g_30_110, g_30_112, g_30_113, g_30_114, g_30_116, ari_aa, ari_al, ari_la, ari_mm, ari_ml, ari_lm, ari_ltl, ari_llt, ari_lt, ari_le, ari_lel, ari_lle, ari_0, ari_eq, ari_eql, ari_leq, ari_cl, Nat.not_lt_zero, Bool.false_eq_true, Option.toList_some, Option.toList_none, List.cons_append, List.nil_append, kv_rv, kc1_i, kc1_r, kc1_n, n10, n01, n1514, n1213, n1312, if_true, if_false, not_true_eq_false, not_false_eq_true, and_self, true_and, and_true, false_and, and_false, or_true, true_or, or_false, false_or, Nat.reduceLeDiff, Nat.reduceLT, Nat.reduceEqDiff, Nat.reduceAdd, ari_ss, (show cnt (cpv L H 1) (2 ^ w) ≤ cnt (cp0 L) (2 ^ w) by omega), (show cnt (cpv L H 2) (2 ^ w) ≤ cnt (cp0 L) (2 ^ w) - cnt (cpv L H 1) (2 ^ w) by omega)]
  · rw [show Int32.ofNat 1 = (1 : Int32) from rfl, g_30_73_1]
    simp only [g_30_100, g_30_102, g_30_103, g_30_104, g_30_105, g_30_106, g_30_107, g_30_108, g_30_109, g_30_110, g_30_112, g_30_113, g_30_114, g_30_116, ari_aa, ari_al, ari_la, ari_mm, ari_ml, ari_lm, ari_ltl, ari_llt, ari_lt, ari_le, ari_lel, ari_lle, ari_0, ari_eq, ari_eql, ari_leq, ari_cl, Nat.not_lt_zero, Bool.false_eq_true, Option.toList_some, Option.toList_none, List.cons_append, List.nil_append, kv_rv, kc1_i, kc1_r, kc1_n, n10, n01, n1514, n1213, n1312, if_true, if_false, not_true_eq_false, not_false_eq_true, and_self, true_and, and_true, false_and, and_false, or_true, true_or, or_false, false_or, Nat.reduceLeDiff, Nat.reduceLT, Nat.reduceEqDiff, Nat.reduceAdd]
  · rw [show Int32.ofNat 2 = (2 : Int32) from rfl, g_30_73_2]
    simp only [g_30_100, g_30_102, g_30_103, g_30_104, g_30_105, g_30_106, g_30_107, g_30_108, g_30_109, g_30_110, g_30_112, g_30_113, g_30_114, g_30_116, ari_aa, ari_al, ari_la, ari_mm, ari_ml, ari_lm, ari_ltl, ari_llt, ari_lt, ari_le, ari_lel, ari_lle, ari_0, ari_eq, ari_eql, ari_leq, ari_cl, Nat.not_lt_zero, Bool.false_eq_true, Option.toList_some, Option.toList_none, List.cons_append, List.nil_append, kv_rv, kc1_i, kc1_r, kc1_n, n10, n01, n1514, n1213, n1312, if_true, if_false, not_true_eq_false, not_false_eq_true, and_self, true_and, and_true, false_and, and_false, or_true, true_or, or_false, false_or, Nat.reduceLeDiff, Nat.reduceLT, Nat.reduceEqDiff, Nat.reduceAdd]
  · rw [g_30_73_x (by decide)]
    simp only [g_30_100, g_30_102, g_30_103, g_30_104, g_30_105, g_30_106, g_30_107, g_30_108, g_30_109, g_30_110, g_30_112, g_30_113, g_30_114, g_30_116, ari_aa, ari_al, ari_la, ari_mm, ari_ml, ari_lm, ari_ltl, ari_llt, ari_lt, ari_le, ari_lel, ari_lle, ari_0, ari_eq, ari_eql, ari_leq, ari_cl, Nat.not_lt_zero, Bool.false_eq_true, Option.toList_some, Option.toList_none, List.cons_append, List.nil_append, kv_rv, kc1_i, kc1_r, kc1_n, n10, n01, n1514, n1213, n1312, if_true, if_false, not_true_eq_false, not_false_eq_true, and_self, true_and, and_true, false_and, and_false, or_true, true_or, or_false, false_or, Nat.reduceLeDiff, Nat.reduceLT, Nat.reduceEqDiff, Nat.reduceAdd]
/-- how many rows, as the model counts -/
def mpl (σ : kv_S) (f q : Nat) : Nat → Bool := fun r => if q = 3 then decide (¬ lck σ f r = 0) else decide (hld σ f r = q)
theorem places_loop (h : JS σ) {f w q : Nat} (hf : f < 16) (hj : JF1' σ f w) (hq : q ≤ 3) : ∀ m r, r + m = 2 ^ w → Wp (d + 2) 134 24 [.ref 149, .int (Int32.ofNat f), .int (Int32.ofNat q), .int (Int32.ofNat (cnt (mpl σ f q) r)), .int (Int32.ofNat r)] [] σ Φ = Φ (some (.int (Int32.ofNat (cnt (mpl σ f q) (2 ^ w))))) σ
  | 0, r, e => by
    have hW := pw8 hj.2.1
    have e3 : r = 2 ^ w := by omega
    subst e3
    simp only [g_134_24, g_134_26, g_134_27, g_134_28, g_134_31, g_134_77, g_134_78, kv_w8_0, kv_w8_1, kv_w8_2, kv_w8_3, kv_w8_4, ari_aa, ari_al, ari_la, ari_mm, ari_ml, ari_lm, ari_ltl, ari_llt, ari_lt, ari_le, ari_lel, ari_lle, ari_0, ari_eq, ari_eql, ari_leq, ari_cl, Nat.not_lt_zero, Bool.false_eq_true, Option.toList_some, Option.toList_none, List.cons_append, List.nil_append, kv_rv, kc1_i, kc1_r, kc1_n, n10, n01, n1514, n1213, n1312, if_true, if_false, not_true_eq_false, not_false_eq_true, and_self, true_and, and_true, false_and, and_false, or_true, true_or, or_false, false_or, Nat.reduceLeDiff, Nat.reduceLT, Nat.reduceEqDiff, Nat.reduceAdd, m_rows_m h hf hj.2.1 hj.2.2.2.1, s_149 h, (show 2 ^ w < 257 by omega), (show 2 ^ w < 2147483648 by omega), (show 2 ^ w ≤ 2 ^ w by omega)]
  | m + 1, r, e => by
    have hW := pw8 hj.2.1
    have hr : r < 2 ^ w := by omega
    simp only [g_134_24, g_134_26, g_134_27, g_134_28, g_134_31, kv_w8_0, kv_w8_1, kv_w8_2, kv_w8_3, kv_w8_4, ari_aa, ari_al, ari_la, ari_mm, ari_ml, ari_lm, ari_ltl, ari_llt, ari_lt, ari_le, ari_lel, ari_lle, ari_0, ari_eq, ari_eql, ari_leq, ari_cl, Nat.not_lt_zero, Bool.false_eq_true, Option.toList_some, Option.toList_none, List.cons_append, List.nil_append, kv_rv, kc1_i, kc1_r, kc1_n, n10, n01, n1514, n1213, n1312, if_true, if_false, not_true_eq_false, not_false_eq_true, and_self, true_and, and_true, false_and, and_false, or_true, true_or, or_false, false_or, Nat.reduceLeDiff, Nat.reduceLT, Nat.reduceEqDiff, Nat.reduceAdd, m_rows_m h hf hj.2.1 hj.2.2.2.1, s_149 h, (show 2 ^ w < 257 by omega), (show 2 ^ w < 2147483648 by omega), (show r < 257 by omega), (show r < 2147483648 by omega), (show ¬ 2 ^ w ≤ r by omega)]
    have ih := places_loop h hf hj hq m (r + 1) (by omega)
    have e4 : cnt (mpl σ f q) (r + 1) = cnt (mpl σ f q) r + (mpl σ f q r).toNat := rfl
    have hb : hld σ f r ≤ 2 := by
      obtain ⟨h32, l, o, u, hl, hl2, ho, hu, el, el2, eo, eu, hp, hq'⟩ := hj.at hr
      unfold hld
      rw [lft_of hl el2]
      by_cases c2 : r % 8 < l
      · rw [if_pos c2]
        have er : 8 * (r / 8) + r % 8 = r := by omega
        rcases hp (r % 8) c2 with ⟨p1, -⟩ | ⟨p1, -⟩ | ⟨p1, -⟩ <;> rw [er] at p1 <;> rw [p1] <;> decide
      · rw [if_neg c2]; decide
    by_cases c3 : q = 3
    · by_cases c : lck σ f r = 0
      · have e5 : mpl σ f q r = false := by unfold mpl; rw [if_pos c3]; exact decide_eq_false (fun w => w c)
        rw [e4, e5] at ih
        simp only [g_134_34, g_134_35, g_134_36, g_134_37, g_134_40, g_134_41, g_134_42, g_134_44, g_134_47, g_134_50, g_134_53, g_134_54, g_134_55, g_134_57, g_134_60, g_134_61, g_134_64, g_134_65, g_134_68, g_134_69, g_134_70, g_134_71, g_134_74, kv_w8_0, kv_w8_1, kv_w8_2, kv_w8_3, kv_w8_4, ari_aa, ari_al, ari_la, ari_mm, ari_ml, ari_lm, ari_ltl, ari_llt, ari_lt, ari_le, ari_lel, ari_lle, ari_0, ari_eq, ari_eql, ari_leq, ari_cl, Nat.not_lt_zero, Bool.false_eq_true, Option.toList_some, Option.toList_none, List.cons_append, List.nil_append, kv_rv, kc1_i, kc1_r, kc1_n, n10, n01, n1514, n1213, n1312, if_true, if_false, not_true_eq_false, not_false_eq_true, and_self, true_and, and_true, false_and, and_false, or_true, true_or, or_false, false_or, Nat.reduceLeDiff, Nat.reduceLT, Nat.reduceEqDiff, Nat.reduceAdd, m_lacks h hf hj hr, s_149 h, c3, c]
        rw [c3] at ih
        exact ih
      · have e5 : mpl σ f q r = true := by unfold mpl; rw [if_pos c3]; exact decide_eq_true c
        rw [e4, e5] at ih
        simp only [g_134_34, g_134_35, g_134_36, g_134_37, g_134_40, g_134_41, g_134_42, g_134_44, g_134_47, g_134_50, g_134_53, g_134_54, g_134_55, g_134_57, g_134_60, g_134_61, g_134_64, g_134_65, g_134_68, g_134_69, g_134_70, g_134_71, g_134_74, kv_w8_0, kv_w8_1, kv_w8_2, kv_w8_3, kv_w8_4, ari_aa, ari_al, ari_la, ari_mm, ari_ml, ari_lm, ari_ltl, ari_llt, ari_lt, ari_le, ari_lel, ari_lle, ari_0, ari_eq, ari_eql, ari_leq, ari_cl, Nat.not_lt_zero, Bool.false_eq_true, Option.toList_some, Option.toList_none, List.cons_append, List.nil_append, kv_rv, kc1_i, kc1_r, kc1_n, n10, n01, n1514, n1213, n1312, if_true, if_false, not_true_eq_false, not_false_eq_true, and_self, true_and, and_true, false_and, and_false, or_true, true_or, or_false, false_or, Nat.reduceLeDiff, Nat.reduceLT, Nat.reduceEqDiff, Nat.reduceAdd, m_lacks h hf hj hr, s_149 h, c3, c]
        rw [c3] at ih
        exact ih
    · by_cases c : hld σ f r = q
      · have e5 : mpl σ f q r = true := by unfold mpl; rw [if_neg c3]; exact decide_eq_true c
        rw [e4, e5] at ih
        simp only [g_134_34, g_134_35, g_134_36, g_134_37, g_134_40, g_134_41, g_134_42, g_134_44, g_134_47, g_134_50, g_134_53, g_134_54, g_134_55, g_134_57, g_134_60, g_134_61, g_134_64, g_134_65, g_134_68, g_134_69, g_134_70, g_134_71, g_134_74, kv_w8_0, kv_w8_1, kv_w8_2, kv_w8_3, kv_w8_4, ari_aa, ari_al, ari_la, ari_mm, ari_ml, ari_lm, ari_ltl, ari_llt, ari_lt, ari_le, ari_lel, ari_lle, ari_0, ari_eq, ari_eql, ari_leq, ari_cl, Nat.not_lt_zero, Bool.false_eq_true, Option.toList_some, Option.toList_none, List.cons_append, List.nil_append, kv_rv, kc1_i, kc1_r, kc1_n, n10, n01, n1514, n1213, n1312, if_true, if_false, not_true_eq_false, not_false_eq_true, and_self, true_and, and_true, false_and, and_false, or_true, true_or, or_false, false_or, Nat.reduceLeDiff, Nat.reduceLT, Nat.reduceEqDiff, Nat.reduceAdd, m_held h hf hj hr, s_149 h, c3, c, (show q < 4 by omega), (show q < 2147483648 by omega)]
        exact ih
      · have e5 : mpl σ f q r = false := by unfold mpl; rw [if_neg c3]; exact decide_eq_false c
        rw [e4, e5] at ih
        simp only [g_134_34, g_134_35, g_134_36, g_134_37, g_134_40, g_134_41, g_134_42, g_134_44, g_134_47, g_134_50, g_134_53, g_134_54, g_134_55, g_134_57, g_134_60, g_134_61, g_134_64, g_134_65, g_134_68, g_134_69, g_134_70, g_134_71, g_134_74, kv_w8_0, kv_w8_1, kv_w8_2, kv_w8_3, kv_w8_4, ari_aa, ari_al, ari_la, ari_mm, ari_ml, ari_lm, ari_ltl, ari_llt, ari_lt, ari_le, ari_lel, ari_lle, ari_0, ari_eq, ari_eql, ari_leq, ari_cl, Nat.not_lt_zero, Bool.false_eq_true, Option.toList_some, Option.toList_none, List.cons_append, List.nil_append, kv_rv, kc1_i, kc1_r, kc1_n, n10, n01, n1514, n1213, n1312, if_true, if_false, not_true_eq_false, not_false_eq_true, and_self, true_and, and_true, false_and, and_false, or_true, true_or, or_false, false_or, Nat.reduceLeDiff, Nat.reduceLT, Nat.reduceEqDiff, Nat.reduceAdd, m_held h hf hj hr, s_149 h, c3, c, (show q < 4 by omega), (show q < 2147483648 by omega), (show hld σ f r < 4 by omega), (show hld σ f r < 2147483648 by omega)]
        exact ih
/-- both count the same -/
theorem cpl_eq {f w q : Nat} {L H : Nat → Nat} (hLH : LH w L H) (hM : MF σ f w L H) (hq : q ≤ 3) : cpl w L H q = cnt (mpl σ f q) (2 ^ w) := by
  have hl : ∀ r, r < 2 ^ w → lft σ f r = L (r / 8) := fun r hr => hM.lft hLH.2.1 hLH.le hr
  have hh : ∀ r, r < 2 ^ w → hld σ f r = if r % 8 < L (r / 8) then H r else 2 := fun r hr => by
    have hW := pw8 hLH.2.1
    unfold hld
    rw [hl r hr]
    by_cases c : r % 8 < L (r / 8)
    · rw [if_pos c, if_pos c]
      have e2 := (hM.2 (r / 8) (by omega) (by omega)).2 (r % 8) c
      rw [show 8 * (r / 8) + r % 8 = r by omega] at e2
      have := hLH.all r hr c
      rw [e2, ari_cl (by omega)]
    · rw [if_neg c, if_neg c]
  have b1 := cp_sum (2 ^ w) hLH.all
  have neg : ∀ n, cnt (fun r => !cp0 L r) n + cnt (cp0 L) n = n := by
    intro n
    induction n with
    | zero => rfl
    | succ n ih =>
      show cnt _ n + (!cp0 L n).toNat + (cnt _ n + (cp0 L n).toNat) = n + 1
      cases cp0 L n <;> simp <;> omega
  have two : ∀ n, cnt (fun r => !cp0 L r || decide (H r = 2)) n = cnt (cpv L H 2) n + cnt (fun r => !cp0 L r) n := by
    intro n
    induction n with
    | zero => rfl
    | succ n ih =>
      show cnt _ n + (!cp0 L n || decide (H n = 2)).toNat = cnt _ n + (cpv L H 2 n).toNat + (cnt _ n + (!cp0 L n).toNat)
      have : (!cp0 L n || decide (H n = 2)).toNat = (cpv L H 2 n).toNat + (!cp0 L n).toNat := by
        unfold cpv cp0
        by_cases c : n % 8 < L (n / 8) <;> simp [c]
      omega
  unfold cpl
  have hq4 : q = 0 ∨ q = 1 ∨ q = 2 ∨ q = 3 := by omega
  have n2 := neg (2 ^ w)
  rcases hq4 with rfl | rfl | rfl | rfl
  · rw [if_pos rfl, cnt_congr (P := mpl σ f 0) (Q := cpv L H 0) (2 ^ w) (fun r hr => ?_)]
    · omega
    · unfold mpl cpv
      rw [if_neg (by decide), hh r hr]
      by_cases c : r % 8 < L (r / 8) <;> simp [c]
  · rw [if_neg (by decide), if_pos rfl]
    refine cnt_congr (2 ^ w) (fun r hr => ?_)
    unfold mpl cpv
    rw [if_neg (by decide), hh r hr]
    by_cases c : r % 8 < L (r / 8) <;> simp [c]
  · rw [if_neg (by decide), if_neg (by decide), if_pos rfl, cnt_congr (P := mpl σ f 2) (Q := fun r => !cp0 L r || decide (H r = 2)) (2 ^ w) (fun r hr => ?_), two]
    · omega
    · unfold mpl cp0
      rw [if_neg (by decide), hh r hr]
      by_cases c : r % 8 < L (r / 8) <;> simp [c]
  · rw [if_neg (by decide), if_neg (by decide), if_neg (by decide), cnt_congr (P := mpl σ f 3) (Q := fun r => !cp0 L r) (2 ^ w) (fun r hr => ?_)]
    · omega
    · unfold mpl cp0
      rw [if_pos rfl]
      have := lck_0 (σ := σ) (f := f) (row := r)
      rw [hl r hr] at this
      by_cases c : r % 8 < L (r / 8)
      · simp [c, this.mpr c]
      · simp [c, mt this.mp c]
end PL
/-- promise 7: places -/
theorem o_5 (d : Nat) : ob_5 JJ (d + 3) := by
  intro σ h p q
  have h' := h
  obtain ⟨a1, a2, a3, ⟨F, hF, f1, f2, f3⟩, a5, a6, a7⟩ := h'
  by_cases hp : ¬ p < 0 ∧ p < Int32.ofNat F
  · by_cases hq : ¬ q < 0 ∧ q ≤ 3
    · obtain ⟨f, hf, rfl, ec⟩ := i32_nat (by omega) hp.1 hp.2
      obtain ⟨q, hq2, rfl⟩ := i32_le_nat (n := 3) (by decide) hq
      obtain ⟨w, hj⟩ := f3 f hf
      have hj : JF1' σ f w := hj
      have hf16 : f < 16 := by omega
      obtain ⟨L, H, hLH, hC, hM⟩ := hj.fv
      simp only [c_29, g_29_0, g_29_1, g_29_2, g_29_5, g_29_8, g_29_9, g_29_12, g_29_13, g_29_14, g_29_17, g_29_18, g_29_21, g_29_22, g_29_23, g_29_24, g_29_27, g_29_30, g_29_31, kv_w8_0, kv_w8_1, kv_w8_2, kv_w8_3, kv_w8_4, ari_aa, ari_al, ari_la, ari_mm, ari_ml, ari_lm, ari_ltl, ari_llt, ari_lt, ari_le, ari_lel, ari_lle, ari_0, ari_eq, ari_eql, ari_leq, ari_cl, Nat.not_lt_zero, Bool.false_eq_true, Option.toList_some, Option.toList_none, List.cons_append, List.nil_append, kv_rv, kc1_i, kc1_r, kc1_n, n10, n01, n1514, n1213, n1312, if_true, if_false, not_true_eq_false, not_false_eq_true, and_self, true_and, and_true, false_and, and_false, or_true, true_or, or_false, false_or, Nat.reduceLeDiff, Nat.reduceLT, Nat.reduceEqDiff, Nat.reduceAdd, m_isFunction_c a1, f1, m_countOf a1 hf16 hLH hC hq2, sT a1 hf16, rT a1 hf16, s_8 a1, s_9 a1, r_8_0 a1, (show f < 16 by omega), (show f < 2147483648 by omega), (show f < F by omega), (show f < 2147483648 by omega), (show F < 17 by omega), (show F < 2147483648 by omega), (show q < 4 by omega), (show q < 2147483648 by omega), (show ¬ 3 < q by omega)]
      refine ⟨_, rfl, ?_⟩
      have hl := places_loop (d := d + 1) (Φ := fun r2 τ2 => r2 = some (Value.int (Int32.ofNat (cpl w L H q))) ∧ JJ τ2) a1 hf16 hj hq2 (2 ^ w) 0 (by omega)
      simp only [c_134, g_134_0, g_134_1, g_134_2, g_134_5, g_134_8, g_134_9, g_134_12, g_134_13, g_134_14, g_134_17, g_134_18, g_134_19, g_134_20, g_134_21, g_134_22, kv_w8_0, kv_w8_1, kv_w8_2, kv_w8_3, kv_w8_4, ari_aa, ari_al, ari_la, ari_mm, ari_ml, ari_lm, ari_ltl, ari_llt, ari_lt, ari_le, ari_lel, ari_lle, ari_0, ari_eq, ari_eql, ari_leq, ari_cl, Nat.not_lt_zero, Bool.false_eq_true, Option.toList_some, Option.toList_none, List.cons_append, List.nil_append, kv_rv, kc1_i, kc1_r, kc1_n, n10, n01, n1514, n1213, n1312, if_true, if_false, not_true_eq_false, not_false_eq_true, and_self, true_and, and_true, false_and, and_false, or_true, true_or, or_false, false_or, Nat.reduceLeDiff, Nat.reduceLT, Nat.reduceEqDiff, Nat.reduceAdd, m_isFunction_m a1, f2, s_149 a1, (show f < F by omega), (show f < 2147483648 by omega), (show F < 17 by omega), (show F < 2147483648 by omega), (show f < 17 by omega), (show f < 2147483648 by omega), (show q < 4 by omega), (show q < 2147483648 by omega), (show q ≤ 3 by omega)]
      refine hl.mpr ⟨?_, h⟩
      rw [cpl_eq hLH hM hq2]
    · have hp' : ∀ {A B : Prop}, (if ¬ p < 0 ∧ p < Int32.ofNat F then A else B) = A := fun {A B} => if_pos hp
      by_cases c : q < 0
      · simp only [c_29, g_29_0, g_29_1, g_29_2, g_29_5, g_29_8, g_29_9, g_29_12, g_29_13, g_29_14, g_29_17, g_29_18, g_29_21, g_29_22, g_29_23, g_29_24, g_29_27, g_29_30, g_29_31, kv_w8_0, kv_w8_1, kv_w8_2, kv_w8_3, kv_w8_4, Nat.not_lt_zero, Bool.false_eq_true, Option.toList_some, Option.toList_none, List.cons_append, List.nil_append, kv_rv, kc1_i, kc1_r, kc1_n, n10, n01, n1514, n1213, n1312, if_true, if_false, not_true_eq_false, not_false_eq_true, and_self, true_and, and_true, false_and, and_false, or_true, true_or, or_false, false_or, Nat.reduceLeDiff, Nat.reduceLT, Nat.reduceEqDiff, Nat.reduceAdd, m_isFunction_c a1, f1, hp, c, s_8 a1]
        refine ⟨_, rfl, ?_⟩
        simp only [c_134, g_134_0, g_134_1, g_134_2, g_134_5, g_134_8, g_134_9, g_134_12, g_134_13, g_134_14, g_134_17, g_134_18, kv_w8_0, kv_w8_1, kv_w8_2, kv_w8_3, kv_w8_4, Nat.not_lt_zero, Bool.false_eq_true, Option.toList_some, Option.toList_none, List.cons_append, List.nil_append, kv_rv, kc1_i, kc1_r, kc1_n, n10, n01, n1514, n1213, n1312, if_true, if_false, not_true_eq_false, not_false_eq_true, and_self, true_and, and_true, false_and, and_false, or_true, true_or, or_false, false_or, Nat.reduceLeDiff, Nat.reduceLT, Nat.reduceEqDiff, Nat.reduceAdd, m_isFunction_m a1, f2, hp, c, s_149 a1]
        exact h
      · have c2 : ¬ q ≤ 3 := fun w => hq ⟨c, w⟩
        have c3 : (3 : Int32) < q := by rw [← Int32.not_le]; exact c2
        simp only [c_29, g_29_0, g_29_1, g_29_2, g_29_5, g_29_8, g_29_9, g_29_12, g_29_13, g_29_14, g_29_17, g_29_18, g_29_21, g_29_22, g_29_23, g_29_24, g_29_27, g_29_30, g_29_31, kv_w8_0, kv_w8_1, kv_w8_2, kv_w8_3, kv_w8_4, Nat.not_lt_zero, Bool.false_eq_true, Option.toList_some, Option.toList_none, List.cons_append, List.nil_append, kv_rv, kc1_i, kc1_r, kc1_n, n10, n01, n1514, n1213, n1312, if_true, if_false, not_true_eq_false, not_false_eq_true, and_self, true_and, and_true, false_and, and_false, or_true, true_or, or_false, false_or, Nat.reduceLeDiff, Nat.reduceLT, Nat.reduceEqDiff, Nat.reduceAdd, m_isFunction_c a1, f1, hp, c, c3, s_8 a1]
        refine ⟨_, rfl, ?_⟩
        simp only [c_134, g_134_0, g_134_1, g_134_2, g_134_5, g_134_8, g_134_9, g_134_12, g_134_13, g_134_14, g_134_17, g_134_18, kv_w8_0, kv_w8_1, kv_w8_2, kv_w8_3, kv_w8_4, Nat.not_lt_zero, Bool.false_eq_true, Option.toList_some, Option.toList_none, List.cons_append, List.nil_append, kv_rv, kc1_i, kc1_r, kc1_n, n10, n01, n1514, n1213, n1312, if_true, if_false, not_true_eq_false, not_false_eq_true, and_self, true_and, and_true, false_and, and_false, or_true, true_or, or_false, false_or, Nat.reduceLeDiff, Nat.reduceLT, Nat.reduceEqDiff, Nat.reduceAdd, m_isFunction_m a1, f2, hp, c, c2, s_149 a1]
        exact h
  · simp only [c_29, g_29_0, g_29_1, g_29_2, g_29_5, g_29_8, g_29_9, g_29_12, g_29_13, g_29_14, g_29_17, g_29_18, g_29_21, g_29_22, g_29_23, g_29_24, g_29_27, g_29_30, g_29_31, kv_w8_0, kv_w8_1, kv_w8_2, kv_w8_3, kv_w8_4, Nat.not_lt_zero, Bool.false_eq_true, Option.toList_some, Option.toList_none, List.cons_append, List.nil_append, kv_rv, kc1_i, kc1_r, kc1_n, n10, n01, n1514, n1213, n1312, if_true, if_false, not_true_eq_false, not_false_eq_true, and_self, true_and, and_true, false_and, and_false, or_true, true_or, or_false, false_or, Nat.reduceLeDiff, Nat.reduceLT, Nat.reduceEqDiff, Nat.reduceAdd, m_isFunction_c a1, f1, hp, s_8 a1]
    refine ⟨_, rfl, ?_⟩
    simp only [c_134, g_134_0, g_134_1, g_134_2, g_134_5, g_134_8, g_134_9, g_134_12, g_134_13, g_134_14, g_134_17, g_134_18, kv_w8_0, kv_w8_1, kv_w8_2, kv_w8_3, kv_w8_4, Nat.not_lt_zero, Bool.false_eq_true, Option.toList_some, Option.toList_none, List.cons_append, List.nil_append, kv_rv, kc1_i, kc1_r, kc1_n, n10, n01, n1514, n1213, n1312, if_true, if_false, not_true_eq_false, not_false_eq_true, and_self, true_and, and_true, false_and, and_false, or_true, true_or, or_false, false_or, Nat.reduceLeDiff, Nat.reduceLT, Nat.reduceEqDiff, Nat.reduceAdd, m_isFunction_m a1, f2, hp, s_149 a1]
    exact h

/-! ===== weight ===== -/
theorem gt_eq {w G g h : Nat} (hG : G ≤ 40) {x : Int32} (hx : vO w G x) (hw : w ≤ 8) (hh : G ≤ h) (hh2 : h < 1000) : (x == Int32.ofNat (8 + h)) = false := by
  rw [beq_eq_false_iff_ne]
  intro e
  rcases hx with q | q | ⟨k, hk, q⟩ | ⟨g, hg, q⟩
  · rw [q, eq_comm, ari_neg (by omega) (by decide) (by decide)] at e; exact e
  · rw [q, eq_comm, ari_neg (by omega) (by decide) (by decide)] at e; exact e
  · rw [q, ari_eq (by omega) (by omega)] at e; omega
  · rw [q, ari_eq (by omega) (by omega)] at e; omega
/-- gates that the first i outputs read -/
def wo (O : Nat → Int32) : Nat → Nat → Bool
  | 0, _ => false
  | i + 1, g => wo O i g || O i == Int32.ofNat (8 + g)
/-- gates that weigh, the last m gates being gone through -/
def wst (X Y O : Nat → Int32) (G : Nat) : Nat → Nat → Bool
  | 0, g => wo O 6 g
  | m + 1, g => wst X Y O G m g || (wst X Y O G m (G - 1 - m) && (X (G - 1 - m) == Int32.ofNat (8 + g) || Y (G - 1 - m) == Int32.ofNat (8 + g)))
theorem wo_iff {O : Nat → Int32} {g : Nat} : ∀ n, wo O n g = true ↔ ∃ i, i < n ∧ O i = Int32.ofNat (8 + g)
  | 0 => by simp [wo]
  | n + 1 => by
    show (wo O n g || O n == Int32.ofNat (8 + g)) = true ↔ _
    rw [Bool.or_eq_true, wo_iff n, beq_iff_eq, ex_succ]
theorem wst_big {X Y O : Nat → Int32} {w G : Nat} (hw : w ≤ 8) (hG : G ≤ 40) (hx : ∀ g, g < G → vO w g (X g) ∧ vO w g (Y g)) (ho : ∀ i, i < 6 → O i = -3 ∨ vO w G (O i)) : ∀ m, m ≤ G → ∀ g, G ≤ g → g < 60 → wst X Y O G m g = false
  | 0, _, g, h1, h2 => by
    show wo O 6 g = false
    cases hc : wo O 6 g with
    | false => rfl
    | true =>
      obtain ⟨i, hi, e⟩ := (wo_iff 6).mp hc
      rcases ho i hi with q | q
      · rw [q, eq_comm, ari_neg (by omega) (by decide) (by decide)] at e; exact e.elim
      · have := gt_eq (g := 0) hG q hw h1 (by omega)
        rw [e, beq_self_eq_true] at this; cases this
  | m + 1, hm, g, h1, h2 => by
    show (wst X Y O G m g || _) = false
    have v := hx (G - 1 - m) (by omega)
    rw [wst_big hw hG hx ho m (by omega) g h1 h2, gt_eq (g := 0) (by omega) v.1 hw (by omega) (by omega), gt_eq (g := 0) (by omega) v.2 hw (by omega) (by omega)]
    simp
theorem wst_st {X Y O : Nat → Int32} {w G : Nat} (hw : w ≤ 8) (hG : G ≤ 40) (hx : ∀ g, g < G → vO w g (X g) ∧ vO w g (Y g)) : ∀ n m g, m + n ≤ G → G ≤ g + m + 1 → g < 60 → wst X Y O G (m + n) g = wst X Y O G m g
  | 0, m, g, _, _, _ => rfl
  | n + 1, m, g, h1, h2, h3 => by
    show (wst X Y O G (m + n) g || (wst X Y O G (m + n) (G - 1 - (m + n)) && (X (G - 1 - (m + n)) == Int32.ofNat (8 + g) || Y (G - 1 - (m + n)) == Int32.ofNat (8 + g)))) = _
    have v := hx (G - 1 - (m + n)) (by omega)
    rw [gt_eq (g := 0) (by omega) v.1 hw (by omega) (by omega), gt_eq (g := 0) (by omega) v.2 hw (by omega) (by omega), wst_st hw hG hx n m g (by omega) h2 h3]
    simp
theorem lb_hi : ∀ n, n < 64 → lb (-lbo 8) n = decide (10 ≤ n) := by decide +kernel
theorem lb_nat (x : Int64) : x = Int64.ofNat x.toBitVec.toNat ∧ x.toBitVec.toNat < 18446744073709551616 := by
  refine ⟨?_, x.toBitVec.isLt⟩
  rw [← Int64.toBitVec_inj]
  show x.toBitVec = BitVec.ofNat 64 _
  rw [BitVec.ofNat_toNat, BitVec.setWidth_eq]
section WT
variable {d : Nat} {σ : kv_S} {Φ : Option Value → kv_S → Prop}
/-- counting the bits of a long -/
theorem m_lbc (x : Int64) : Wc d 62 [.long x] σ Φ = Φ (some (.int (Int32.ofNat (cnt (lb x) 64)))) σ := by
  obtain ⟨e, hb⟩ := lb_nat x
  have : Wc d 62 [.long x] σ Φ = Wc d 62 [.long (Int64.ofNat x.toBitVec.toNat)] σ Φ := by rw [← e]
  rw [this, m_lbitCount hb, pcn_cnt]
  rfl
theorem reach_loop (h : JS σ) {k w G : Nat} (hk : k < 8) (hn : JN1' σ k w G) (H : ∀ s, (∀ g, g < 54 → lb s (10 + g) = wst (kv_i σ (103 + 6 * k)) (kv_i σ (104 + 6 * k)) (kv_i σ (106 + 6 * k)) G G g) → Wp (d + 1) 119 55 [.ref (101 + 6 * k), .long s, .null, .int (-1)] [] σ Φ) : ∀ j m s, j + m = G → (∀ g, g < 54 → lb s (10 + g) = wst (kv_i σ (103 + 6 * k)) (kv_i σ (104 + 6 * k)) (kv_i σ (106 + 6 * k)) G m g) → Wp (d + 1) 119 12 [.ref (101 + 6 * k), .long s, .null, .int (Int32.ofNat j - 1)] [] σ Φ
  | 0, m, s, e, hs => by
    have e2 : m = G := by omega
    subst e2
    rw [show Int32.ofNat 0 - 1 = -1 by decide]
    simp only [g_119_12, g_119_13, Nat.not_lt_zero, Bool.false_eq_true, Option.toList_some, Option.toList_none, List.cons_append, List.nil_append, kv_rv, kc1_i, kc1_r, kc1_n, n10, n01, n1514, n1213, n1312, if_true, if_false, not_true_eq_false, not_false_eq_true, and_self, true_and, and_true, false_and, and_false, or_true, true_or, or_false, false_or, Nat.reduceLeDiff, Nat.reduceLT, Nat.reduceEqDiff, Nat.reduceAdd, (show (-1 : Int32) < 0 by decide)]
    exact H s hs
  | j + 1, m, s, e, hs => by
    have hG := hn.2.2.1
    have ej : G - 1 - m = j := by omega
    have v := hn.xy j (by omega)
    have v1 := v.1.onn hn.2.1 (by omega)
    have v2 := v.2.onn hn.2.1 (by omega)
    have e1 : Int32.ofNat (j + 1) - 1 = Int32.ofNat j := nI_pred j
    have eo := onn_nat (8 + j)
    rw [show 8 + j + 2 = 10 + j by omega] at eo
    rw [e1]
    by_cases c : lb s (10 + j) = true
    · simp only [g_119_12, g_119_13, g_119_16, g_119_17, g_119_19, g_119_20, g_119_21, g_119_24, g_119_27, g_119_28, g_119_29, g_119_32, g_119_33, g_119_34, g_119_37, g_119_38, g_119_41, g_119_42, g_119_43, g_119_46, g_119_47, g_119_48, g_119_49, kv_w8_0, kv_w8_1, kv_w8_2, kv_w8_3, kv_w8_4, ari_aa, ari_al, ari_la, ari_mm, ari_ml, ari_lm, ari_ltl, ari_llt, ari_lt, ari_le, ari_lel, ari_lle, ari_0, ari_eq, ari_eql, ari_leq, ari_cl, Nat.not_lt_zero, Bool.false_eq_true, Option.toList_some, Option.toList_none, List.cons_append, List.nil_append, kv_rv, kc1_i, kc1_r, kc1_n, n10, n01, n1514, n1213, n1312, if_true, if_false, not_true_eq_false, not_false_eq_true, and_self, true_and, and_true, false_and, and_false, or_true, true_or, or_false, false_or, Nat.reduceLeDiff, Nat.reduceLT, Nat.reduceEqDiff, Nat.reduceAdd, m_has s eo (by omega), c, m_bitOf, nN h hk, nX h hk, qX h hk, nY h hk, qY h hk, (show j < 40 by omega), (show j < 2147483648 by omega)]
      simp only [g_119_52]
      rw [show Int32.ofNat j + -1 = Int32.ofNat j - 1 from (Int32.sub_eq_add_neg _ _).symm]
      refine reach_loop h hk hn H j (m + 1) _ (by omega) (fun g hg => ?_)
      show _ = (wst _ _ _ G m g || (wst _ _ _ G m (G - 1 - m) && _))
      rw [lb_or, lb_or, hs g hg, ej, ← hs j (by omega), c, Bool.true_and, lb_lbo v1.1 (by omega) (by omega), lb_lbo v2.1 (by omega) (by omega)]
      have k1 : decide (10 + g = onn (kv_i σ (103 + 6 * k) j)) = (kv_i σ (103 + 6 * k) j == Int32.ofNat (8 + g)) := by
        by_cases hg40 : g < 40
        · rw [Bool.eq_iff_iff, decide_eq_true_eq, beq_iff_eq, eq_comm, onn_gate hn.2.1 (show j ≤ 40 by omega) v.1 hg40]
        · rw [gt_eq (g := 0) (show j ≤ 40 by omega) v.1 hn.2.1 (by omega) (by omega), decide_eq_false (by omega)]
      have k2 : decide (10 + g = onn (kv_i σ (104 + 6 * k) j)) = (kv_i σ (104 + 6 * k) j == Int32.ofNat (8 + g)) := by
        by_cases hg40 : g < 40
        · rw [Bool.eq_iff_iff, decide_eq_true_eq, beq_iff_eq, eq_comm, onn_gate hn.2.1 (show j ≤ 40 by omega) v.2 hg40]
        · rw [gt_eq (g := 0) (show j ≤ 40 by omega) v.2 hn.2.1 (by omega) (by omega), decide_eq_false (by omega)]
      rw [k1, k2]
    · simp only [g_119_12, g_119_13, g_119_16, g_119_17, g_119_19, g_119_20, g_119_21, g_119_24, g_119_27, g_119_28, g_119_29, g_119_32, g_119_33, g_119_34, g_119_37, g_119_38, g_119_41, g_119_42, g_119_43, g_119_46, g_119_47, g_119_48, g_119_49, kv_w8_0, kv_w8_1, kv_w8_2, kv_w8_3, kv_w8_4, ari_aa, ari_al, ari_la, ari_mm, ari_ml, ari_lm, ari_ltl, ari_llt, ari_lt, ari_le, ari_lel, ari_lle, ari_0, ari_eq, ari_eql, ari_leq, ari_cl, Nat.not_lt_zero, Bool.false_eq_true, Option.toList_some, Option.toList_none, List.cons_append, List.nil_append, kv_rv, kc1_i, kc1_r, kc1_n, n10, n01, n1514, n1213, n1312, if_true, if_false, not_true_eq_false, not_false_eq_true, and_self, true_and, and_true, false_and, and_false, or_true, true_or, or_false, false_or, Nat.reduceLeDiff, Nat.reduceLT, Nat.reduceEqDiff, Nat.reduceAdd, m_has s eo (by omega), c, (show j < 40 by omega), (show j < 2147483648 by omega)]
      simp only [g_119_52]
      rw [show Int32.ofNat j + -1 = Int32.ofNat j - 1 from (Int32.sub_eq_add_neg _ _).symm]
      refine reach_loop h hk hn H j (m + 1) _ (by omega) (fun g hg => ?_)
      show _ = (wst _ _ _ G m g || (wst _ _ _ G m (G - 1 - m) && _))
      rw [hs g hg, ej, ← hs j (by omega), Bool.eq_false_iff.mpr c]
      simp
theorem m_reach (h : JS σ) {k w G : Nat} (hk : k < 8) (hn : JN1' σ k w G) (H : Φ (some (.int (Int32.ofNat (cnt (wst (kv_i σ (103 + 6 * k)) (kv_i σ (104 + 6 * k)) (kv_i σ (106 + 6 * k)) G G) G)))) σ) : Wc (d + 2) 119 [.ref (101 + 6 * k)] σ Φ := by
  have hG := hn.2.2.1
  simp only [c_119, g_119_0, g_119_1, kv_w8_0, kv_w8_1, kv_w8_2, kv_w8_3, kv_w8_4, Nat.not_lt_zero, Bool.false_eq_true, Option.toList_some, Option.toList_none, List.cons_append, List.nil_append, kv_rv, kc1_i, kc1_r, kc1_n, n10, n01, n1514, n1213, n1312, if_true, if_false, not_true_eq_false, not_false_eq_true, and_self, true_and, and_true, false_and, and_false, or_true, true_or, or_false, false_or, Nat.reduceLeDiff, Nat.reduceLT, Nat.reduceEqDiff, Nat.reduceAdd, nN h hk]
  refine m_outOps h hk hn.2.1 hG hn.o (fun s hs => ?_)
  simp only [g_119_4, g_119_5, g_119_6, g_119_9, g_119_10, g_119_11, Nat.not_lt_zero, Bool.false_eq_true, Option.toList_some, Option.toList_none, List.cons_append, List.nil_append, kv_rv, kc1_i, kc1_r, kc1_n, n10, n01, n1514, n1213, n1312, if_true, if_false, not_true_eq_false, not_false_eq_true, and_self, true_and, and_true, false_and, and_false, or_true, true_or, or_false, false_or, Nat.reduceLeDiff, Nat.reduceLT, Nat.reduceEqDiff, Nat.reduceAdd, nN h hk, hn.2.2.2.2.2.1]
  refine reach_loop h hk hn (fun s hs => ?_) G 0 s (by omega) (fun g hg => ?_)
  · simp only [g_119_55, g_119_56, g_119_58, g_119_61, g_119_62, g_119_63, g_119_66, kv_w8_0, kv_w8_1, kv_w8_2, kv_w8_3, kv_w8_4, Nat.not_lt_zero, Bool.false_eq_true, Option.toList_some, Option.toList_none, List.cons_append, List.nil_append, kv_rv, kc1_i, kc1_r, kc1_n, n10, n01, n1514, n1213, n1312, if_true, if_false, not_true_eq_false, not_false_eq_true, and_self, true_and, and_true, false_and, and_false, or_true, true_or, or_false, false_or, Nat.reduceLeDiff, Nat.reduceLT, Nat.reduceEqDiff, Nat.reduceAdd, m_bitOf, m_lbc]
    have e : cnt (lb (s &&& -lbo 8)) 64 = cnt (wst (kv_i σ (103 + 6 * k)) (kv_i σ (104 + 6 * k)) (kv_i σ (106 + 6 * k)) G G) G := by
      rw [show (64 : Nat) = 10 + 54 by rfl, cnt_add, cnt_false 10 (fun r hr => by rw [lb_and, lb_hi r (by omega), decide_eq_false (by omega), Bool.and_false]), Nat.zero_add]
      rw [cnt_congr 54 (Q := wst (kv_i σ (103 + 6 * k)) (kv_i σ (104 + 6 * k)) (kv_i σ (106 + 6 * k)) G G) (fun r hr => by rw [lb_and, lb_hi _ (by omega), decide_eq_true (by omega), Bool.and_true, hs r hr])]
      exact cnt_ext (by omega) (fun r h1 h2 => wst_big hn.2.1 hG hn.xy hn.o G (Nat.le_refl _) r h1 (by omega))
    rw [e]
    exact H
  · show _ = wo _ 6 g
    by_cases hg40 : g < 40
    · rw [Bool.eq_iff_iff, hs (10 + g) (by omega), wo_iff]
      refine exists_congr fun i => and_congr_right fun hi => ?_
      rcases hn.o i hi with q | q
      · rw [q]
        constructor
        · exact fun w => absurd rfl w.1
        · intro w; rw [eq_comm, ari_neg (by omega) (by decide) (by decide)] at w; exact w.elim
      · rw [onn_gate hn.2.1 hG q hg40]
        constructor
        · exact fun w => w.2
        · intro w
          refine ⟨?_, w⟩
          rw [w, ari_neg (by omega) (by decide) (by decide)]; exact id
    · have f1 : lb s (10 + g) = false := by
        cases hc : lb s (10 + g) with
        | false => rfl
        | true =>
          obtain ⟨i, hi, q1, q2⟩ := (hs (10 + g) (by omega)).mp hc
          have := (((hn.o i hi).resolve_left q1).onn hn.2.1 hG).2
          omega
      have f2 : wo (kv_i σ (106 + 6 * k)) 6 g = false := wst_big hn.2.1 hG hn.xy hn.o 0 (by omega) g (by omega) (by omega)
      rw [f1, f2]
theorem m_weigh (h : JS σ) {w G : Nat} {x : Int32} (hw : w ≤ 8) (hG : G ≤ 40) (hx : x = -3 ∨ vO w G x) (HΦ : ∀ υ, FR (fun b _ => b = 183) σ υ → (∀ g, g < 40 → kv_i υ 183 g = if (x == Int32.ofNat (8 + g)) = true then 1 else kv_i σ 183 g) → Φ none υ) : Wc d 184 [.ref 149, .int x] σ Φ := by
  have no : ∀ y : Int32, x = y → (∀ g, g < 40 → ¬ y = Int32.ofNat (8 + g)) → x < 8 → Wc d 184 [.ref 149, .int x] σ Φ := by
    intro y e hy h8
    simp only [c_184, g_184_0, g_184_1, g_184_3, g_184_6, g_184_7, g_184_10, g_184_11, g_184_13, g_184_14, g_184_15, g_184_16, Nat.not_lt_zero, Bool.false_eq_true, Option.toList_some, Option.toList_none, List.cons_append, List.nil_append, kv_rv, kc1_i, kc1_r, kc1_n, n10, n01, n1514, n1213, n1312, if_true, if_false, not_true_eq_false, not_false_eq_true, and_self, true_and, and_true, false_and, and_false, or_true, true_or, or_false, false_or, Nat.reduceLeDiff, Nat.reduceLT, Nat.reduceEqDiff, Nat.reduceAdd, h8]
    refine HΦ σ (FR.rf _ σ) (fun g hg => ?_)
    rw [if_neg]
    rw [beq_iff_eq, e]; exact hy g hg
  rcases hx with q | q | q | ⟨k, hk, q⟩ | ⟨g, hg, q⟩
  · exact no _ q (fun g hg e => by rw [eq_comm, ari_neg (by omega) (by decide) (by decide)] at e; exact e) (by rw [q]; decide)
  · exact no _ q (fun g hg e => by rw [eq_comm, ari_neg (by omega) (by decide) (by decide)] at e; exact e) (by rw [q]; decide)
  · exact no _ q (fun g hg e => by rw [eq_comm, ari_neg (by omega) (by decide) (by decide)] at e; exact e) (by rw [q]; decide)
  · exact no _ q (fun g hg e => by rw [ari_eq (by omega) (by omega)] at e; omega) (by rw [q, ari_ltl (by omega) (by decide)]; show k < 8; omega)
  · subst q
    simp only [c_184, g_184_0, g_184_1, g_184_3, g_184_6, g_184_7, g_184_10, g_184_11, g_184_13, g_184_14, g_184_15, g_184_16, ari_aa, ari_al, ari_la, ari_mm, ari_ml, ari_lm, ari_ltl, ari_llt, ari_lt, ari_le, ari_lel, ari_lle, ari_0, ari_eq, ari_eql, ari_leq, ari_cl, Nat.not_lt_zero, Bool.false_eq_true, Option.toList_some, Option.toList_none, List.cons_append, List.nil_append, kv_rv, kc1_i, kc1_r, kc1_n, n10, n01, n1514, n1213, n1312, if_true, if_false, not_true_eq_false, not_false_eq_true, and_self, true_and, and_true, false_and, and_false, or_true, true_or, or_false, false_or, Nat.reduceLeDiff, Nat.reduceLT, Nat.reduceEqDiff, Nat.reduceAdd, ari_sl, Nat.add_sub_cancel_left, nar01 (Or.inr rfl), s_149 h, s_183 h, r_149_46 h, (show 8 + g < 48 by omega), (show 8 + g < 2147483648 by omega), (show ¬ 8 + g < 8 by omega), (show 8 ≤ 8 + g by omega), (show g < 40 by omega), (show g < 2147483648 by omega)]
    refine HΦ _ ((FR.rf _ σ).si rfl) (fun g2 hg2 => ?_)
    by_cases e : g2 = g
    · rw [eq_ess ⟨rfl, e⟩, e, if_pos (beq_self_eq_true _)]
    · rw [ne_ess (by omega), if_neg]
      rw [beq_iff_eq, ari_eq (by omega) (by omega)]; omega
theorem weight_l1 (h : JS σ) {k : Nat} {x : Value} : ∀ m n, n + m = 40 → Wp d 183 12 [.ref 149, .int (Int32.ofNat k), .int (Int32.ofNat n), x] [] (kv_fil σ 183 n 0) Φ = Wp d 183 31 [.ref 149, .int (Int32.ofNat k), .int (Int32.ofNat 40), x] [] (kv_fil σ 183 40 0) Φ
  | 0, n, e => by
    have e2 : n = 40 := by omega
    subst e2
    simp only [g_183_12, g_183_13, g_183_15, ari_aa, ari_al, ari_la, ari_mm, ari_ml, ari_lm, ari_ltl, ari_llt, ari_lt, ari_le, ari_lel, ari_lle, ari_0, ari_eq, ari_eql, ari_leq, ari_cl, Nat.not_lt_zero, Bool.false_eq_true, Option.toList_some, Option.toList_none, List.cons_append, List.nil_append, kv_rv, kc1_i, kc1_r, kc1_n, n10, n01, n1514, n1213, n1312, if_true, if_false, not_true_eq_false, not_false_eq_true, and_self, true_and, and_true, false_and, and_false, or_true, true_or, or_false, false_or, Nat.reduceLeDiff, Nat.reduceLT, Nat.reduceEqDiff, Nat.reduceAdd]
  | m + 1, n, e => by
    simp only [g_183_12, g_183_13, g_183_15, ari_aa, ari_al, ari_la, ari_mm, ari_ml, ari_lm, ari_ltl, ari_llt, ari_lt, ari_le, ari_lel, ari_lle, ari_0, ari_eq, ari_eql, ari_leq, ari_cl, Nat.not_lt_zero, Bool.false_eq_true, Option.toList_some, Option.toList_none, List.cons_append, List.nil_append, kv_rv, kc1_i, kc1_r, kc1_n, n10, n01, n1514, n1213, n1312, if_true, if_false, not_true_eq_false, not_false_eq_true, and_self, true_and, and_true, false_and, and_false, or_true, true_or, or_false, false_or, Nat.reduceLeDiff, Nat.reduceLT, Nat.reduceEqDiff, Nat.reduceAdd, (show n < 40 by omega), (show n < 2147483648 by omega), (show ¬ 40 ≤ n by omega)]
    simp only [g_183_18, g_183_19, g_183_22, g_183_23, g_183_24, g_183_25, g_183_28, ari_aa, ari_al, ari_la, ari_mm, ari_ml, ari_lm, ari_ltl, ari_llt, ari_lt, ari_le, ari_lel, ari_lle, ari_0, ari_eq, ari_eql, ari_leq, ari_cl, Nat.not_lt_zero, Bool.false_eq_true, Option.toList_some, Option.toList_none, List.cons_append, List.nil_append, kv_rv, kc1_i, kc1_r, kc1_n, n10, n01, n1514, n1213, n1312, if_true, if_false, not_true_eq_false, not_false_eq_true, and_self, true_and, and_true, false_and, and_false, or_true, true_or, or_false, false_or, Nat.reduceLeDiff, Nat.reduceLT, Nat.reduceEqDiff, Nat.reduceAdd, fil_sh, fil_r, s_149 h, s_183 h, r_149_46 h, nar01 (Or.inl rfl), (show n < 40 by omega), (show n < 2147483648 by omega), fil_s]
    exact weight_l1 h m (n + 1) (by omega)
theorem weight_l2 {k w G : Nat} {x : Value} (σ0 : kv_S) (h : JS σ0) (hk : k < 8) (hn : JN1' σ0 k w G) (H : ∀ τ, FR (fun b _ => b = 183) σ0 τ → (∀ g, g < 40 → kv_i τ 183 g = if wo (kv_i σ0 (106 + 6 * k)) 6 g = true then 1 else 0) → Wp (d + 1) 183 60 [.ref 149, .int (Int32.ofNat k), .int (Int32.ofNat 6), x] [] τ Φ) : ∀ m i, i + m = 6 → ∀ τ, FR (fun b _ => b = 183) σ0 τ → (∀ g, g < 40 → kv_i τ 183 g = if wo (kv_i σ0 (106 + 6 * k)) i g = true then 1 else 0) → Wp (d + 1) 183 33 [.ref 149, .int (Int32.ofNat k), .int (Int32.ofNat i), x] [] τ Φ
  | 0, i, e, τ, fr, hs => by
    have e2 : i = 6 := by omega
    subst e2
    simp only [g_183_33, g_183_34, g_183_36, ari_aa, ari_al, ari_la, ari_mm, ari_ml, ari_lm, ari_ltl, ari_llt, ari_lt, ari_le, ari_lel, ari_lle, ari_0, ari_eq, ari_eql, ari_leq, ari_cl, Nat.not_lt_zero, Bool.false_eq_true, Option.toList_some, Option.toList_none, List.cons_append, List.nil_append, kv_rv, kc1_i, kc1_r, kc1_n, n10, n01, n1514, n1213, n1312, if_true, if_false, not_true_eq_false, not_false_eq_true, and_self, true_and, and_true, false_and, and_false, or_true, true_or, or_false, false_or, Nat.reduceLeDiff, Nat.reduceLT, Nat.reduceEqDiff, Nat.reduceAdd]
    exact H τ fr hs
  | m + 1, i, e, τ, fr, hs => by
    simp only [g_183_33, g_183_34, g_183_36, ari_aa, ari_al, ari_la, ari_mm, ari_ml, ari_lm, ari_ltl, ari_llt, ari_lt, ari_le, ari_lel, ari_lle, ari_0, ari_eq, ari_eql, ari_leq, ari_cl, Nat.not_lt_zero, Bool.false_eq_true, Option.toList_some, Option.toList_none, List.cons_append, List.nil_append, kv_rv, kc1_i, kc1_r, kc1_n, n10, n01, n1514, n1213, n1312, if_true, if_false, not_true_eq_false, not_false_eq_true, and_self, true_and, and_true, false_and, and_false, or_true, true_or, or_false, false_or, Nat.reduceLeDiff, Nat.reduceLT, Nat.reduceEqDiff, Nat.reduceAdd, (show i < 6 by omega), (show i < 2147483648 by omega), (show ¬ 6 ≤ i by omega)]
    have eo : kv_i τ 174 (6 * k + i) = kv_i σ0 (106 + 6 * k) i := by rw [fr.i (by omega)]; exact hn.mo i (by omega)
    simp only [g_183_39, g_183_40, g_183_41, g_183_44, g_183_46, g_183_47, g_183_48, g_183_49, g_183_50, g_183_51, kv_w8_0, kv_w8_1, kv_w8_2, kv_w8_3, kv_w8_4, ari_aa, ari_al, ari_la, ari_mm, ari_ml, ari_lm, ari_ltl, ari_llt, ari_lt, ari_le, ari_lel, ari_lle, ari_0, ari_eq, ari_eql, ari_leq, ari_cl, Nat.not_lt_zero, Bool.false_eq_true, Option.toList_some, Option.toList_none, List.cons_append, List.nil_append, kv_rv, kc1_i, kc1_r, kc1_n, n10, n01, n1514, n1213, n1312, if_true, if_false, not_true_eq_false, not_false_eq_true, and_self, true_and, and_true, false_and, and_false, or_true, true_or, or_false, false_or, Nat.reduceLeDiff, Nat.reduceLT, Nat.reduceEqDiff, Nat.reduceAdd, s_149 (fr.js h), s_174 (fr.js h), r_149_33 (fr.js h), eo, (show 6 * k + i < 48 by omega), (show 6 * k + i < 2147483648 by omega)]
    refine m_weigh (fr.js h) hn.2.1 hn.2.2.1 (hn.o i (by omega)) (fun υ fr2 hv => ?_)
    simp only [g_183_54, g_183_57, ari_aa, ari_al, ari_la, ari_mm, ari_ml, ari_lm, ari_ltl, ari_llt, ari_lt, ari_le, ari_lel, ari_lle, ari_0, ari_eq, ari_eql, ari_leq, ari_cl, Nat.not_lt_zero, Bool.false_eq_true, Option.toList_some, Option.toList_none, List.cons_append, List.nil_append, kv_rv, kc1_i, kc1_r, kc1_n, n10, n01, n1514, n1213, n1312, if_true, if_false, not_true_eq_false, not_false_eq_true, and_self, true_and, and_true, false_and, and_false, or_true, true_or, or_false, false_or, Nat.reduceLeDiff, Nat.reduceLT, Nat.reduceEqDiff, Nat.reduceAdd]
    refine weight_l2 σ0 h hk hn H m (i + 1) (by omega) υ (fr.tr fr2) (fun g hg => ?_)
    rw [hv g hg, hs g hg]
    show _ = if (wo _ i g || _) = true then 1 else 0
    by_cases c : (kv_i σ0 (106 + 6 * k) i == Int32.ofNat (8 + g)) = true
    · rw [if_pos c, c, Bool.or_true, if_pos rfl]
    · rw [if_neg c, Bool.eq_false_iff.mpr c, Bool.or_false]
/-- the model's count: gates from j on -/
def wsm (W : Nat → Bool) (j m : Nat) : Nat := cnt (fun i => W (j + i)) m
theorem wsm_s (W : Nat → Bool) (j m : Nat) : wsm W j (m + 1) = (W j).toNat + wsm W (j + 1) m := by
  unfold wsm
  rw [Nat.add_comm m 1, cnt_add]
  show (0 + (W (j + 0)).toNat) + _ = _
  rw [Nat.add_zero, Nat.zero_add]
  congr 1
  exact cnt_congr m (fun r hr => by rw [Nat.add_assoc])
theorem weight_l3 {k w G : Nat} (σ0 : kv_S) (h : JS σ0) (hk : k < 8) (hn : JN1' σ0 k w G) (W : Nat → Nat → Bool) (hW : W = wst (kv_i σ0 (103 + 6 * k)) (kv_i σ0 (104 + 6 * k)) (kv_i σ0 (106 + 6 * k)) G) (H : ∀ τ, FR (fun b _ => b = 183) σ0 τ → Φ (some (.int (Int32.ofNat (wsm (W G) 0 G)))) τ) : ∀ j m, j + m = G → ∀ τ, FR (fun b _ => b = 183) σ0 τ → (∀ g, g < 40 → kv_i τ 183 g = if W m g = true then 1 else 0) → Wp (d + 1) 183 71 [.ref 149, .int (Int32.ofNat k), .int (Int32.ofNat (wsm (W G) j m)), .int (Int32.ofNat j - 1)] [] τ Φ
  | 0, m, e, τ, fr, hs => by
    have e2 : m = G := by omega
    subst e2
    rw [show Int32.ofNat 0 - 1 = -1 by decide]
    simp only [g_183_71, g_183_72, g_183_126, g_183_127, Nat.not_lt_zero, Bool.false_eq_true, Option.toList_some, Option.toList_none, List.cons_append, List.nil_append, kv_rv, kc1_i, kc1_r, kc1_n, n10, n01, n1514, n1213, n1312, if_true, if_false, not_true_eq_false, not_false_eq_true, and_self, true_and, and_true, false_and, and_false, or_true, true_or, or_false, false_or, Nat.reduceLeDiff, Nat.reduceLT, Nat.reduceEqDiff, Nat.reduceAdd, (show (-1 : Int32) < 0 by decide)]
    exact H τ fr
  | j + 1, m, e, τ, fr, hs => by
    have hG := hn.2.2.1
    have ej : G - 1 - m = j := by omega
    have v := hn.xy j (by omega)
    have e1 : Int32.ofNat (j + 1) - 1 = Int32.ofNat j := nI_pred j
    have e7 : W G j = W m j := by
      rw [hW]
      have := wst_st (O := kv_i σ0 (106 + 6 * k)) hn.2.1 hG hn.xy (G - m) m j (by omega) (by omega) (by omega)
      rw [show m + (G - m) = G by omega] at this
      exact this
    have e8 := wsm_s (W G) j m
    rw [e7] at e8
    rw [e1]
    have f1 : kv_i τ 171 (40 * k + j) = kv_i σ0 (103 + 6 * k) j := by rw [fr.i (by omega)]; exact (hn.mx j (by omega)).1
    have st : ∀ g, W (m + 1) g = (W m g || (W m j && (kv_i σ0 (103 + 6 * k) j == Int32.ofNat (8 + g) || kv_i σ0 (104 + 6 * k) j == Int32.ofNat (8 + g)))) := by
      intro g; rw [hW]
      show (wst _ _ _ G m g || (wst _ _ _ G m (G - 1 - m) && _)) = _
      rw [ej]
    by_cases c : W m j = true
    · have hb : kv_i τ 183 j = 1 := by rw [hs j (by omega), if_pos c]
      simp only [g_183_71, g_183_72, g_183_75, g_183_76, g_183_79, g_183_80, g_183_81, g_183_84, g_183_87, g_183_90, g_183_91, g_183_92, g_183_95, g_183_97, g_183_98, g_183_99, g_183_100, g_183_101, g_183_102, kv_w8_0, kv_w8_1, kv_w8_2, kv_w8_3, kv_w8_4, ari_aa, ari_al, ari_la, ari_mm, ari_ml, ari_lm, ari_ltl, ari_llt, ari_lt, ari_le, ari_lel, ari_lle, ari_0, ari_eq, ari_eql, ari_leq, ari_cl, Nat.not_lt_zero, Bool.false_eq_true, Option.toList_some, Option.toList_none, List.cons_append, List.nil_append, kv_rv, kc1_i, kc1_r, kc1_n, n10, n01, n1514, n1213, n1312, if_true, if_false, not_true_eq_false, not_false_eq_true, and_self, true_and, and_true, false_and, and_false, or_true, true_or, or_false, false_or, Nat.reduceLeDiff, Nat.reduceLT, Nat.reduceEqDiff, Nat.reduceAdd, s_149 (fr.js h), s_183 (fr.js h), r_149_46 (fr.js h), s_171 (fr.js h), r_149_30 (fr.js h), hb, f1, (show j < 40 by omega), (show j < 2147483648 by omega), (show 40 * k + j < 320 by omega), (show 40 * k + j < 2147483648 by omega)]
      refine m_weigh (fr.js h) hn.2.1 hG (Or.inr (v.1.mono (by omega))) (fun υ fr2 hv => ?_)
      have fr3 := fr.tr fr2
      have f2 : kv_i υ 172 (40 * k + j) = kv_i σ0 (104 + 6 * k) j := by rw [fr3.i (by omega)]; exact (hn.mx j (by omega)).2
      simp only [g_183_105, g_183_106, g_183_107, g_183_110, g_183_112, g_183_113, g_183_114, g_183_115, g_183_116, g_183_117, kv_w8_0, kv_w8_1, kv_w8_2, kv_w8_3, kv_w8_4, ari_aa, ari_al, ari_la, ari_mm, ari_ml, ari_lm, ari_ltl, ari_llt, ari_lt, ari_le, ari_lel, ari_lle, ari_0, ari_eq, ari_eql, ari_leq, ari_cl, Nat.not_lt_zero, Bool.false_eq_true, Option.toList_some, Option.toList_none, List.cons_append, List.nil_append, kv_rv, kc1_i, kc1_r, kc1_n, n10, n01, n1514, n1213, n1312, if_true, if_false, not_true_eq_false, not_false_eq_true, and_self, true_and, and_true, false_and, and_false, or_true, true_or, or_false, false_or, Nat.reduceLeDiff, Nat.reduceLT, Nat.reduceEqDiff, Nat.reduceAdd, s_149 (fr3.js h), s_172 (fr3.js h), r_149_31 (fr3.js h), f2, (show 40 * k + j < 320 by omega), (show 40 * k + j < 2147483648 by omega)]
      refine m_weigh (fr3.js h) hn.2.1 hG (Or.inr (v.2.mono (by omega))) (fun ζ fr4 hz => ?_)
      simp only [g_183_120, g_183_123, ari_aa, ari_al, ari_la, ari_mm, ari_ml, ari_lm, ari_ltl, ari_llt, ari_lt, ari_le, ari_lel, ari_lle, ari_0, ari_eq, ari_eql, ari_leq, ari_cl, Nat.not_lt_zero, Bool.false_eq_true, Option.toList_some, Option.toList_none, List.cons_append, List.nil_append, kv_rv, kc1_i, kc1_r, kc1_n, n10, n01, n1514, n1213, n1312, if_true, if_false, not_true_eq_false, not_false_eq_true, and_self, true_and, and_true, false_and, and_false, or_true, true_or, or_false, false_or, Nat.reduceLeDiff, Nat.reduceLT, Nat.reduceEqDiff, Nat.reduceAdd]
      rw [show Int32.ofNat j + -1 = Int32.ofNat j - 1 from (Int32.sub_eq_add_neg _ _).symm]
      have := weight_l3 σ0 h hk hn W hW H j (m + 1) (by omega) ζ (fr3.tr fr4) (fun g hg => ?_)
      · rw [e8, c] at this
        rw [show true.toNat + wsm (W G) (j + 1) m = wsm (W G) (j + 1) m + 1 from Nat.add_comm _ _] at this
        exact this
      · rw [hz g hg, hv g hg, hs g hg, st g, c]
        cases (kv_i σ0 (103 + 6 * k) j == Int32.ofNat (8 + g)) <;> cases (kv_i σ0 (104 + 6 * k) j == Int32.ofNat (8 + g)) <;> cases W m g <;> rfl
    · have hb : kv_i τ 183 j = 0 := by rw [hs j (by omega), if_neg c]
      simp only [g_183_71, g_183_72, g_183_75, g_183_76, g_183_79, g_183_80, g_183_81, g_183_84, kv_w8_0, kv_w8_1, kv_w8_2, kv_w8_3, kv_w8_4, ari_aa, ari_al, ari_la, ari_mm, ari_ml, ari_lm, ari_ltl, ari_llt, ari_lt, ari_le, ari_lel, ari_lle, ari_0, ari_eq, ari_eql, ari_leq, ari_cl, Nat.not_lt_zero, Bool.false_eq_true, Option.toList_some, Option.toList_none, List.cons_append, List.nil_append, kv_rv, kc1_i, kc1_r, kc1_n, n10, n01, n1514, n1213, n1312, if_true, if_false, not_true_eq_false, not_false_eq_true, and_self, true_and, and_true, false_and, and_false, or_true, true_or, or_false, false_or, Nat.reduceLeDiff, Nat.reduceLT, Nat.reduceEqDiff, Nat.reduceAdd, s_149 (fr.js h), s_183 (fr.js h), r_149_46 (fr.js h), hb, (show j < 40 by omega), (show j < 2147483648 by omega)]
      simp only [g_183_120, g_183_123, Nat.not_lt_zero, Bool.false_eq_true, Option.toList_some, Option.toList_none, List.cons_append, List.nil_append, kv_rv, kc1_i, kc1_r, kc1_n, n10, n01, n1514, n1213, n1312, if_true, if_false, not_true_eq_false, not_false_eq_true, and_self, true_and, and_true, false_and, and_false, or_true, true_or, or_false, false_or, Nat.reduceLeDiff, Nat.reduceLT, Nat.reduceEqDiff, Nat.reduceAdd]
      rw [show Int32.ofNat j + -1 = Int32.ofNat j - 1 from (Int32.sub_eq_add_neg _ _).symm]
      have := weight_l3 σ0 h hk hn W hW H j (m + 1) (by omega) τ fr (fun g hg => ?_)
      · rw [e8, Bool.eq_false_iff.mpr c] at this
        rw [show false.toNat + wsm (W G) (j + 1) m = wsm (W G) (j + 1) m from Nat.zero_add _] at this
        exact this
      · rw [hs g hg, st g, Bool.eq_false_iff.mpr c, Bool.false_and, Bool.or_false]
end WT
/-- promise 30: weight -/
theorem o_28 (d : Nat) : ob_28 JJ (d + 3) := by
  intro σ h p
  have h' := h
  obtain ⟨a1, a2, a3, a4, ⟨K, hK, k1, k2, k3⟩, a6, a7⟩ := h'
  by_cases hp : ¬ p < 0 ∧ p < Int32.ofNat K
  · obtain ⟨k, hk, rfl, ec⟩ := i32_nat (by omega) hp.1 hp.2
    obtain ⟨w, G, hn⟩ := k3 k hk
    have hn : JN1' σ k w G := hn
    have hk8 : k < 8 := by omega
    simp only [c_118, g_118_0, g_118_1, g_118_2, g_118_5, g_118_8, g_118_9, g_118_12, g_118_13, g_118_14, kv_w8_0, kv_w8_1, kv_w8_2, kv_w8_3, kv_w8_4, ari_aa, ari_al, ari_la, ari_mm, ari_ml, ari_lm, ari_ltl, ari_llt, ari_lt, ari_le, ari_lel, ari_lle, ari_0, ari_eq, ari_eql, ari_leq, ari_cl, Nat.not_lt_zero, Bool.false_eq_true, Option.toList_some, Option.toList_none, List.cons_append, List.nil_append, kv_rv, kc1_i, kc1_r, kc1_n, n10, n01, n1514, n1213, n1312, if_true, if_false, not_true_eq_false, not_false_eq_true, and_self, true_and, and_true, false_and, and_false, or_true, true_or, or_false, false_or, Nat.reduceLeDiff, Nat.reduceLT, Nat.reduceEqDiff, Nat.reduceAdd, m_isNet_c a1, k1, nN a1 hk8, qN a1 hk8, s_8 a1, s_10 a1, r_8_1 a1, (show k < 8 by omega), (show k < 2147483648 by omega), (show k < K by omega), (show k < 2147483648 by omega), (show K < 9 by omega), (show K < 2147483648 by omega)]
    refine m_reach a1 hk8 hn ?_
    simp only [g_118_17, g_118_20, g_118_21, Nat.not_lt_zero, Bool.false_eq_true, Option.toList_some, Option.toList_none, List.cons_append, List.nil_append, kv_rv, kc1_i, kc1_r, kc1_n, n10, n01, n1514, n1213, n1312, if_true, if_false, not_true_eq_false, not_false_eq_true, and_self, true_and, and_true, false_and, and_false, or_true, true_or, or_false, false_or, Nat.reduceLeDiff, Nat.reduceLT, Nat.reduceEqDiff, Nat.reduceAdd]
    refine ⟨_, rfl, ?_⟩
    simp only [c_183, g_183_0, g_183_1, g_183_2, g_183_5, g_183_8, g_183_9, g_183_10, g_183_11, kv_w8_0, kv_w8_1, kv_w8_2, kv_w8_3, kv_w8_4, ari_aa, ari_al, ari_la, ari_mm, ari_ml, ari_lm, ari_ltl, ari_llt, ari_lt, ari_le, ari_lel, ari_lle, ari_0, ari_eq, ari_eql, ari_leq, ari_cl, Nat.not_lt_zero, Bool.false_eq_true, Option.toList_some, Option.toList_none, List.cons_append, List.nil_append, kv_rv, kc1_i, kc1_r, kc1_n, n10, n01, n1514, n1213, n1312, if_true, if_false, not_true_eq_false, not_false_eq_true, and_self, true_and, and_true, false_and, and_false, or_true, true_or, or_false, false_or, Nat.reduceLeDiff, Nat.reduceLT, Nat.reduceEqDiff, Nat.reduceAdd, m_isNet_m a1, k2, s_149 a1, (show k < 8 by omega), (show k < 2147483648 by omega), (show k < K by omega), (show k < 2147483648 by omega), (show K < 9 by omega), (show K < 2147483648 by omega)]
    have l1 := weight_l1 (d := d + 3) (k := k) (x := .null) (Φ := fun r2 τ2 => r2 = some (.int (Int32.ofNat (cnt (wst (kv_i σ (103 + 6 * k)) (kv_i σ (104 + 6 * k)) (kv_i σ (106 + 6 * k)) G G) G))) ∧ JJ τ2) a1 40 0 (by omega)
    rw [fil_0] at l1
    refine l1.mpr ?_
    simp only [g_183_31, g_183_32, Nat.not_lt_zero, Bool.false_eq_true, Option.toList_some, Option.toList_none, List.cons_append, List.nil_append, kv_rv, kc1_i, kc1_r, kc1_n, n10, n01, n1514, n1213, n1312, if_true, if_false, not_true_eq_false, not_false_eq_true, and_self, true_and, and_true, false_and, and_false, or_true, true_or, or_false, false_or, Nat.reduceLeDiff, Nat.reduceLT, Nat.reduceEqDiff, Nat.reduceAdd]
    have fr1 : FR (fun b _ => b = 183) σ (kv_fil σ 183 40 0) := fil_fr (FR.rf _ σ) (fun j q => rfl)
    refine weight_l2 σ a1 hk8 hn (fun τ fr hs => ?_) 6 0 (by omega) _ fr1 (fun g hg => by rw [fil_i, if_pos ⟨rfl, hg⟩]; rfl)
    have e6 : kv_i τ 169 k = Int32.ofNat G := by rw [fr.i (by omega)]; exact hn.2.2.2.2.2.2.1
    simp only [g_183_60, g_183_61, g_183_62, g_183_63, g_183_66, g_183_67, g_183_68, g_183_69, g_183_70, kv_w8_0, kv_w8_1, kv_w8_2, kv_w8_3, kv_w8_4, ari_aa, ari_al, ari_la, ari_mm, ari_ml, ari_lm, ari_ltl, ari_llt, ari_lt, ari_le, ari_lel, ari_lle, ari_0, ari_eq, ari_eql, ari_leq, ari_cl, Nat.not_lt_zero, Bool.false_eq_true, Option.toList_some, Option.toList_none, List.cons_append, List.nil_append, kv_rv, kc1_i, kc1_r, kc1_n, n10, n01, n1514, n1213, n1312, if_true, if_false, not_true_eq_false, not_false_eq_true, and_self, true_and, and_true, false_and, and_false, or_true, true_or, or_false, false_or, Nat.reduceLeDiff, Nat.reduceLT, Nat.reduceEqDiff, Nat.reduceAdd, s_149 (fr.js a1), s_169 (fr.js a1), r_149_28 (fr.js a1), e6, (show k < 8 by omega), (show k < 2147483648 by omega)]
    refine weight_l3 σ a1 hk8 hn _ rfl (fun υ fr2 => ⟨?_, JJ.fr (fr2.sc (fun b j q => by unfold SC kv_ess; omega)) h⟩) G 0 (by omega) τ fr hs
    unfold wsm
    rw [cnt_congr (P := fun i => wst (kv_i σ (103 + 6 * k)) (kv_i σ (104 + 6 * k)) (kv_i σ (106 + 6 * k)) G G (0 + i)) (Q := wst (kv_i σ (103 + 6 * k)) (kv_i σ (104 + 6 * k)) (kv_i σ (106 + 6 * k)) G G) G (fun r hr => by rw [Nat.zero_add])]
  · simp only [c_118, g_118_0, g_118_1, g_118_2, g_118_5, g_118_8, g_118_9, g_118_12, g_118_13, g_118_14, g_118_17, g_118_20, g_118_21, kv_w8_0, kv_w8_1, kv_w8_2, kv_w8_3, kv_w8_4, Nat.not_lt_zero, Bool.false_eq_true, Option.toList_some, Option.toList_none, List.cons_append, List.nil_append, kv_rv, kc1_i, kc1_r, kc1_n, n10, n01, n1514, n1213, n1312, if_true, if_false, not_true_eq_false, not_false_eq_true, and_self, true_and, and_true, false_and, and_false, or_true, true_or, or_false, false_or, Nat.reduceLeDiff, Nat.reduceLT, Nat.reduceEqDiff, Nat.reduceAdd, m_isNet_c a1, k1, hp, s_8 a1]
    refine ⟨_, rfl, ?_⟩
    simp only [c_183, g_183_0, g_183_1, g_183_2, g_183_5, g_183_8, g_183_9, kv_w8_0, kv_w8_1, kv_w8_2, kv_w8_3, kv_w8_4, Nat.not_lt_zero, Bool.false_eq_true, Option.toList_some, Option.toList_none, List.cons_append, List.nil_append, kv_rv, kc1_i, kc1_r, kc1_n, n10, n01, n1514, n1213, n1312, if_true, if_false, not_true_eq_false, not_false_eq_true, and_self, true_and, and_true, false_and, and_false, or_true, true_or, or_false, false_or, Nat.reduceLeDiff, Nat.reduceLT, Nat.reduceEqDiff, Nat.reduceAdd, m_isNet_m a1, k2, hp, s_149 a1]
    exact h

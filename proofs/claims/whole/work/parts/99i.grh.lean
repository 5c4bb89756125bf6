/-! ===== graphs: the NODES of a letter, in the class: the second loop ===== -/
section GH
variable {d : Nat} {Φ : Option Value → kv_S → Prop} {σ : kv_S} {B : Nat → Bool} {w t a : Nat}
def noI (σ : kv_S) (B : Nat → Bool) (w t a v : Nat) (τ : kv_S) : Prop := FR (fun b _ => b = 23) σ τ ∧ ∀ u, u < v → rp (ck B w t) (cp B w t a) u = true → kv_l τ 23 (cnt (rp (ck B w t) (cp B w t a)) u) = ck B w t u
theorem noI.skip {v : Nat} {τ : kv_S} (h : noI σ B w t a v τ) (hr : rp (ck B w t) (cp B w t a) v = false) : noI σ B w t a (v + 1) τ := ⟨h.1, fun u hu hru => by
  by_cases q : u = v
  · rw [q, hr] at hru; cases hru
  · exact h.2 u (by omega) hru⟩
theorem cnt_s (f : Nat → Bool) (n : Nat) : cnt f (n + 1) = cnt f n + (f n).toNat := rfl
theorem no_l2 (js : JS σ) (hK : JK σ) (hB : ∀ r, 2 ^ w ≤ r → B r = false) (ht : t < 64) (hw : w ≤ 6) (ha : a < 6) (H : ∀ τ, FR (fun b _ => b = 23) σ τ → Φ (some (.int (Int32.ofNat (nd B w t a)))) τ) : ∀ m v, v + m = 2 ^ w → ∀ τ, noI σ B w t a v τ → ∀ v10 : Value, Wp (d + 1) 70 51 [.ref 22, .long (lw B), .null, .int (Int32.ofNat w), .int (Int32.ofNat t), .int (Int32.ofNat a), .long (lw (dj w t)), .null, .int (Int32.ofNat (cnt (rp (ck B w t) (cp B w t a)) v)), .int (Int32.ofNat v), v10, .null] [] τ Φ
  | 0, v, e, τ, hI, v10 => by
    have h6 := pow6 hw
    have hc := cnt_le (rp (ck B w t) (cp B w t a)) v
    have e2 : v = 2 ^ w := by omega
    have e1 : (1 : Int32) <<< Int32.ofNat w = Int32.ofNat (2 ^ w) := by
      have : ∀ l, l < 7 → (1 : Int32) <<< Int32.ofNat l = Int32.ofNat (2 ^ l) := by decide
      exact this w (by omega)
    simp only [g_70_51, g_70_53, g_70_54, g_70_55, g_70_56, g_70_117, g_70_119, ari_aa, ari_al, ari_la, ari_mm, ari_ml, ari_lm, ari_ltl, ari_llt, ari_lt, ari_le, ari_lel, ari_lle, ari_0, ari_eq, ari_eql, ari_leq, ari_cl, Nat.not_lt_zero, Bool.false_eq_true, Option.toList_some, Option.toList_none, List.cons_append, List.nil_append, kv_rv, kc1_i, kc1_r, kc1_n, n10, n01, n1514, n1213, n1312, if_true, if_false, not_true_eq_false, not_false_eq_true, and_self, true_and, and_true, false_and, and_false, or_true, true_or, or_false, false_or, Nat.reduceLeDiff, Nat.reduceLT, Nat.reduceEqDiff, Nat.reduceAdd, ari_31 (show w < 32 by omega), e1, (show v < 65 by omega), (show v < 2147483648 by omega), (show 2 ^ w < 65 by omega), (show 2 ^ w < 2147483648 by omega), (show 2 ^ w ≤ v by omega)]
    rw [e2]
    exact H τ hI.1
  | m + 1, v, e, τ, hI, v10 => by
    have h6 := pow6 hw
    have hc := cnt_le (rp (ck B w t) (cp B w t a)) v
    have js2 := hI.1.js js
    have hK2 := hK.fr hI.1 (fun b i q => by omega)
    have e1 : (1 : Int32) <<< Int32.ofNat w = Int32.ofNat (2 ^ w) := by
      have : ∀ l, l < 7 → (1 : Int32) <<< Int32.ofNat l = Int32.ofNat (2 ^ l) := by decide
      exact this w (by omega)
    have ez : kv_lshr (lw B) (Int32.ofNat v) &&& lw (dj w t) = ck B w t v := lw_of (fun r hr => by
      rw [lb_and, lb_ushr _ (by omega), lb_lw (dj w t) hr, Bool.and_comm]
      by_cases c : v + r < 64
      · rw [lb_lw _ c]
      · rw [lb_big _ (by omega), hB _ (by omega)])
    simp only [g_70_51, g_70_53, g_70_54, g_70_55, g_70_56, ari_aa, ari_al, ari_la, ari_mm, ari_ml, ari_lm, ari_ltl, ari_llt, ari_lt, ari_le, ari_lel, ari_lle, ari_0, ari_eq, ari_eql, ari_leq, ari_cl, Nat.not_lt_zero, Bool.false_eq_true, Option.toList_some, Option.toList_none, List.cons_append, List.nil_append, kv_rv, kc1_i, kc1_r, kc1_n, n10, n01, n1514, n1213, n1312, if_true, if_false, not_true_eq_false, not_false_eq_true, and_self, true_and, and_true, false_and, and_false, or_true, true_or, or_false, false_or, Nat.reduceLeDiff, Nat.reduceLT, Nat.reduceEqDiff, Nat.reduceAdd, ari_31 (show w < 32 by omega), e1, (show v < 65 by omega), (show v < 2147483648 by omega), (show 2 ^ w < 65 by omega), (show 2 ^ w < 2147483648 by omega), (show ¬ 2 ^ w ≤ v by omega)]
    have sk : rp (ck B w t) (cp B w t a) v = false → ∀ v10 : Value, Wp (d + 1) 70 51 [.ref 22, .long (lw B), .null, .int (Int32.ofNat w), .int (Int32.ofNat t), .int (Int32.ofNat a), .long (lw (dj w t)), .null, .int (Int32.ofNat (cnt (rp (ck B w t) (cp B w t a)) v)), .int (Int32.ofNat (v + 1)), v10, .null] [] τ Φ := fun hr v10 => by
      have nx := no_l2 js hK hB ht hw ha H m (v + 1) (by omega) τ (hI.skip hr) v10
      rw [cnt_s, hr] at nx
      exact nx
    by_cases c1 : v &&& t = v
    · have c1' := (sub_i v (by omega) t ht).mpr c1
      by_cases c2 : hg a (ck B w t v) = true
      · have hP : cp B w t a v = true := by unfold cp; rw [decide_eq_true c1, c2]; rfl
        have es := dc_seen (K := ck B w t) (P := cp B w t a) hI.2
        cases c3 : anyN (fun k => cp B w t a k && decide (ck B w t k = ck B w t v)) v with
        | true =>
          have hr : rp (ck B w t) (cp B w t a) v = false := by unfold rp; rw [c3, hP]; rfl
          rw [c3] at es
          simp only [g_70_59, g_70_61, g_70_63, g_70_64, g_70_65, g_70_66, g_70_69, g_70_70, g_70_72, g_70_73, g_70_75, g_70_76, g_70_78, g_70_80, g_70_82, g_70_85, g_70_88, g_70_89, g_70_91, g_70_93, g_70_96, g_70_111, g_70_114, kv_w8_0, kv_w8_1, kv_w8_2, kv_w8_3, kv_w8_4, ari_aa, ari_al, ari_la, ari_mm, ari_ml, ari_lm, ari_ltl, ari_llt, ari_lt, ari_le, ari_lel, ari_lle, ari_0, ari_eq, ari_eql, ari_leq, ari_cl, Nat.not_lt_zero, Bool.false_eq_true, Option.toList_some, Option.toList_none, List.cons_append, List.nil_append, kv_rv, kc1_i, kc1_r, kc1_n, n10, n01, n1514, n1213, n1312, if_true, if_false, not_true_eq_false, not_false_eq_true, and_self, true_and, and_true, false_and, and_false, or_true, true_or, or_false, false_or, Nat.reduceLeDiff, Nat.reduceLT, Nat.reduceEqDiff, Nat.reduceAdd, c1', ez, m_hangsOn hK2 _ ha, c2, m_isSeen js2 _ (show cnt (rp (ck B w t) (cp B w t a)) v ≤ 64 by omega), es, s_22 js2, r_8_4 js2]
          exact sk hr _
        | false =>
          have hr : rp (ck B w t) (cp B w t a) v = true := by unfold rp; rw [c3, hP]; rfl
          rw [c3] at es
          simp only [g_70_59, g_70_61, g_70_63, g_70_64, g_70_65, g_70_66, g_70_69, g_70_70, g_70_72, g_70_73, g_70_75, g_70_76, g_70_78, g_70_80, g_70_82, g_70_85, g_70_88, g_70_89, g_70_91, g_70_93, g_70_96, g_70_99, g_70_100, g_70_103, g_70_105, g_70_107, g_70_108, g_70_111, g_70_114, kv_w8_0, kv_w8_1, kv_w8_2, kv_w8_3, kv_w8_4, ari_aa, ari_al, ari_la, ari_mm, ari_ml, ari_lm, ari_ltl, ari_llt, ari_lt, ari_le, ari_lel, ari_lle, ari_0, ari_eq, ari_eql, ari_leq, ari_cl, Nat.not_lt_zero, Bool.false_eq_true, Option.toList_some, Option.toList_none, List.cons_append, List.nil_append, kv_rv, kc1_i, kc1_r, kc1_n, n10, n01, n1514, n1213, n1312, if_true, if_false, not_true_eq_false, not_false_eq_true, and_self, true_and, and_true, false_and, and_false, or_true, true_or, or_false, false_or, Nat.reduceLeDiff, Nat.reduceLT, Nat.reduceEqDiff, Nat.reduceAdd, c1', ez, m_hangsOn hK2 _ ha, c2, m_isSeen js2 _ (show cnt (rp (ck B w t) (cp B w t a)) v ≤ 64 by omega), es, s_22 js2, r_8_4 js2, s_23 js2, r_22_0 js2, (show cnt (rp (ck B w t) (cp B w t a)) v < 64 by omega), (show cnt (rp (ck B w t) (cp B w t a)) v < 2147483648 by omega), Bool.false_eq_true]
          have nx := no_l2 js hK hB ht hw ha H m (v + 1) (by omega) (kv_sl τ 23 (cnt (rp (ck B w t) (cp B w t a)) v) (ck B w t v)) ⟨hI.1.tr ((FR.rf _ τ).sl rfl), fun u hu hru => by
            by_cases q : u = v
            · rw [q, l_sl, if_pos ⟨rfl, rfl⟩]
            · have := cnt_lt_of (show u < v by omega) hru
              rw [l_sl, if_neg (by omega)]
              exact hI.2 u (by omega) hru⟩
          rw [cnt_s, hr] at nx
          exact nx _
      · have hr : rp (ck B w t) (cp B w t a) v = false := by unfold rp cp; rw [Bool.eq_false_iff.mpr c2, Bool.and_false]; rfl
        simp only [g_70_59, g_70_61, g_70_63, g_70_64, g_70_65, g_70_66, g_70_69, g_70_70, g_70_72, g_70_73, g_70_75, g_70_76, g_70_78, g_70_80, g_70_82, g_70_85, g_70_111, g_70_114, kv_w8_0, kv_w8_1, kv_w8_2, kv_w8_3, kv_w8_4, ari_aa, ari_al, ari_la, ari_mm, ari_ml, ari_lm, ari_ltl, ari_llt, ari_lt, ari_le, ari_lel, ari_lle, ari_0, ari_eq, ari_eql, ari_leq, ari_cl, Nat.not_lt_zero, Bool.false_eq_true, Option.toList_some, Option.toList_none, List.cons_append, List.nil_append, kv_rv, kc1_i, kc1_r, kc1_n, n10, n01, n1514, n1213, n1312, if_true, if_false, not_true_eq_false, not_false_eq_true, and_self, true_and, and_true, false_and, and_false, or_true, true_or, or_false, false_or, Nat.reduceLeDiff, Nat.reduceLT, Nat.reduceEqDiff, Nat.reduceAdd, c1', ez, m_hangsOn hK2 _ ha, c2]
        exact sk hr _
    · have c1' := mt (sub_i v (by omega) t ht).mp c1
      have hr : rp (ck B w t) (cp B w t a) v = false := by unfold rp cp; rw [decide_eq_false c1]; rfl
      simp only [g_70_59, g_70_61, g_70_63, g_70_64, g_70_65, g_70_66, g_70_111, g_70_114, ari_aa, ari_al, ari_la, ari_mm, ari_ml, ari_lm, ari_ltl, ari_llt, ari_lt, ari_le, ari_lel, ari_lle, ari_0, ari_eq, ari_eql, ari_leq, ari_cl, Nat.not_lt_zero, Bool.false_eq_true, Option.toList_some, Option.toList_none, List.cons_append, List.nil_append, kv_rv, kc1_i, kc1_r, kc1_n, n10, n01, n1514, n1213, n1312, if_true, if_false, not_true_eq_false, not_false_eq_true, and_self, true_and, and_true, false_and, and_false, or_true, true_or, or_false, false_or, Nat.reduceLeDiff, Nat.reduceLT, Nat.reduceEqDiff, Nat.reduceAdd, c1']
      exact sk hr _
theorem m_nodesOf (js : JS σ) (hK : JK σ) (hB : ∀ r, 2 ^ w ≤ r → B r = false) (ht : t < 64) (hw : w ≤ 6) (ha : a < 6) (H : ∀ τ, FR (fun b _ => b = 23) σ τ → Φ (some (.int (Int32.ofNat (nd B w t a)))) τ) : Wc (d + 1) 70 [.ref 22, .long (lw B), .int (Int32.ofNat w), .int (Int32.ofNat t), .int (Int32.ofNat a)] σ Φ := by
  have e0 : (-1 : Int64) = lw (dj 0 t) := lw_of (fun r hr => by rw [lb_m1 hr]; rfl)
  have l1 := no_l1 (d := d + 1) (Φ := Φ) (a := a) (z := lw B) (v9 := .null) (v10 := .null) hK ht hw w 0 (by omega)
  have l2 := no_l2 (d := d) js hK hB ht hw ha H (2 ^ w) 0 (by omega) σ ⟨FR.rf _ σ, fun u hu => absurd hu (by omega)⟩ .null
  simp only [c_70, g_70_0, g_70_3, g_70_5, g_70_6, Nat.not_lt_zero, Bool.false_eq_true, Option.toList_some, Option.toList_none, List.cons_append, List.nil_append, kv_rv, kc1_i, kc1_r, kc1_n, n10, n01, n1514, n1213, n1312, if_true, if_false, not_true_eq_false, not_false_eq_true, and_self, true_and, and_true, false_and, and_false, or_true, true_or, or_false, false_or, Nat.reduceLeDiff, Nat.reduceLT, Nat.reduceEqDiff, Nat.reduceAdd, e0]
  refine Eq.mpr l1 ?_
  simp only [g_70_45, g_70_46, g_70_48, g_70_49, Nat.not_lt_zero, Bool.false_eq_true, Option.toList_some, Option.toList_none, List.cons_append, List.nil_append, kv_rv, kc1_i, kc1_r, kc1_n, n10, n01, n1514, n1213, n1312, if_true, if_false, not_true_eq_false, not_false_eq_true, and_self, true_and, and_true, false_and, and_false, or_true, true_or, or_false, false_or, Nat.reduceLeDiff, Nat.reduceLT, Nat.reduceEqDiff, Nat.reduceAdd]
  exact l2
end GH

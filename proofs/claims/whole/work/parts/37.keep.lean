/-! ===== keep ===== -/
section KP
variable {d : Nat} {σ : kv_S} {Φ : Option Value → kv_S → Prop}
theorem nar01 {v : Int32} (h : v = 0 ∨ v = 1) : vp_nar .boolean v = v := by rcases h with rfl | rfl <;> rfl
theorem m_keep_bad_c (h : JS σ) (K : Nat) (hK : K ≤ 8) (hk : kv_i σ 8 10 = Int32.ofNat K) (p q v : Int32) (hx : ¬ ((¬ p < 0 ∧ p < Int32.ofNat K) ∧ (¬ q < 0 ∧ q < kv_i σ (101 + 6 * p.toNatClampNeg) 6)) ∨ ¬ (v = 0 ∨ v = 1)) : Wc (d + 2) 81 [.ref 8, .int p, .int q, .int v] σ Φ = Φ (some (.int (-1))) σ := by
  rw [Wc_eq, show kv_ent 81 [.ref 8, .int p, .int q, .int v] = [.ref 8, .int p, .int q, .int v, .null] from rfl]
  by_cases h1 : (¬ p < 0 ∧ p < Int32.ofNat K) ∧ (¬ q < 0 ∧ q < kv_i σ (101 + 6 * p.toNatClampNeg) 6)
  · have hv := hx.resolve_left (fun w => w h1)
    by_cases c : v < 0
    · simp only [g_81_0, g_81_1, g_81_2, g_81_3, g_81_6, g_81_9, g_81_10, g_81_13, g_81_14, g_81_15, g_81_18, g_81_19, kv_w8_0, kv_w8_1, kv_w8_2, kv_w8_3, kv_w8_4, m_isGate_c h K hK hk, h1, c, s_8 h, Option.toList_some, List.cons_append, List.nil_append, (show ¬ (1 : Int32) = 0 by decide), if_true, if_false, not_false_eq_true, and_self]
    · have c2 : ¬ v ≤ 1 := by
        rw [not_or, i32_eq, i32_eq, show (0 : Int32).toInt = 0 by decide, show (1 : Int32).toInt = 1 by decide] at hv
        rw [Int32.lt_iff_toInt_lt, show (0 : Int32).toInt = 0 by decide] at c
        rw [Int32.le_iff_toInt_le, show (1 : Int32).toInt = 1 by decide]
        omega
      simp only [g_81_0, g_81_1, g_81_2, g_81_3, g_81_6, g_81_9, g_81_10, g_81_13, g_81_14, g_81_15, g_81_18, g_81_19, kv_w8_0, kv_w8_1, kv_w8_2, kv_w8_3, kv_w8_4, m_isGate_c h K hK hk, h1, c, c2, s_8 h, Option.toList_some, List.cons_append, List.nil_append, (show ¬ (1 : Int32) = 0 by decide), if_true, if_false, not_false_eq_true, and_self]
  · simp only [g_81_0, g_81_1, g_81_2, g_81_3, g_81_6, g_81_9, g_81_10, g_81_13, g_81_14, g_81_15, g_81_18, g_81_19, kv_w8_0, kv_w8_1, kv_w8_2, kv_w8_3, kv_w8_4, m_isGate_c h K hK hk, h1, s_8 h, Option.toList_some, List.cons_append, List.nil_append, if_true, if_false]
theorem m_keep_c (h : JS σ) (K : Nat) (hK : K ≤ 8) (hk : kv_i σ 8 10 = Int32.ofNat K) (p q v : Int32) (h1 : (¬ p < 0 ∧ p < Int32.ofNat K) ∧ (¬ q < 0 ∧ q < kv_i σ (101 + 6 * p.toNatClampNeg) 6)) (hv : v = 0 ∨ v = 1) {k g : Nat} (hk8 : k < 8) (hg : g < 40) (ep : p.toNatClampNeg = k) (eq_ : q.toNatClampNeg = g) (hw : kv_i σ (105 + 6 * k) g = 0 ∨ kv_i σ (105 + 6 * k) g = 1) : Wc (d + 2) 81 [.ref 8, .int p, .int q, .int v] σ Φ = Φ (some (.int (kv_i σ (105 + 6 * k) g))) (if kv_i σ (105 + 6 * k) g = v then σ else if kv_i σ 32 5 = p then kv_si (kv_si σ (105 + 6 * k) g v) 32 5 (-1) else kv_si σ (105 + 6 * k) g v) := by
  rw [Wc_eq, show kv_ent 81 [.ref 8, .int p, .int q, .int v] = [.ref 8, .int p, .int q, .int v, .null] from rfl]
  have hs := h.si (105 + 6 * k) g v
  have h1' := h1
  rw [ep] at h1'
  have n1 : ¬ (32 = 105 + 6 * k ∧ 5 = g) := by omega
  have n2 : 8 ≤ 105 + 6 * k := by omega
  have hnar := nar01 hv
  have v1 : ¬ v < 0 := by rcases hv with rfl | rfl <;> decide
  have v2 : v ≤ 1 := by rcases hv with rfl | rfl <;> decide
  have was : ∀ {A : Int32 → Prop}, (if kv_i σ (105 + 6 * k) g = 0 then A 0 else A 1) = A (kv_i σ (105 + 6 * k) g) := by
    intro A
    rcases hw with e | e
    · rw [e, if_pos rfl]
    · rw [e, if_neg (by decide)]
  rcases hw with e | e <;> rcases hv with rfl | rfl <;>
  simp only [g_81_0, g_81_1, g_81_2, g_81_3, g_81_6, g_81_9, g_81_10, g_81_13, g_81_14, g_81_15, g_81_18, g_81_19, g_81_20, g_81_21, g_81_24, g_81_25, g_81_26, g_81_29, g_81_30, g_81_31, g_81_34, g_81_35, g_81_38, g_81_39, g_81_41, g_81_43, g_81_44, g_81_47, g_81_48, g_81_51, g_81_52, g_81_53, g_81_56, g_81_57, g_81_58, g_81_59, g_81_62, g_81_63, g_81_66, g_81_67, g_81_68, g_81_69, g_81_72, g_81_73, g_81_76, g_81_78, kv_w8_0, kv_w8_1, kv_w8_2, kv_w8_3, kv_w8_4, n_si, n_sl, n_sr, n_mk, sh_si, sh_sl, sh_sr, sh_mk, i_si, i_sl, i_sr, i_mk, l_si, l_sl, l_sr, l_mk, r_si, r_sl, r_sr, r_mk, m_isGate_c h K hK hk, m_note_c hs, h1', v1, v2, ep, eq_, hk8, hg, e, n1, n2, hnar, s_8 h, s_10 h, r_8_1 h, r_8_8 h, s_32 h, qN h hk8, nN h hk8, qK h hk8, nK h hk8, kv_rv, Option.toList_some, Option.toList_none, List.cons_append, List.nil_append, (show ¬ (1 : Int32) = 0 by decide), (show ¬ (0 : Int32) = 1 by decide), (show kv_c1 (.int (0 : Int32)) = true from rfl), (show ∀ x : Int32, kv_c1 (.int x) = true from fun _ => rfl), (show (15 = 14) = False by decide), (show (12 = 13) = False by decide), if_true, if_false, not_true_eq_false, not_false_eq_true, and_self, or_true, true_or, or_false, Nat.reduceLeDiff]
end KP
section KM
variable {d : Nat} {σ : kv_S} {Φ : Option Value → kv_S → Prop}
theorem m_keep_bad_m (h : JS σ) (K : Nat) (hK : K ≤ 8) (hk : kv_i σ 149 26 = Int32.ofNat K) (p q v : Int32) (hx : ¬ ((¬ p < 0 ∧ p < Int32.ofNat K) ∧ (¬ q < 0 ∧ q < kv_i σ 169 p.toNatClampNeg)) ∨ ¬ (v = 0 ∨ v = 1)) : Wc (d + 2) 159 [.ref 149, .int p, .int q, .int v] σ Φ = Φ (some (.int (-1))) σ := by
  rw [Wc_eq, show kv_ent 159 [.ref 149, .int p, .int q, .int v] = [.ref 149, .int p, .int q, .int v, .null, .null] from rfl]
  by_cases h1 : (¬ p < 0 ∧ p < Int32.ofNat K) ∧ (¬ q < 0 ∧ q < kv_i σ 169 p.toNatClampNeg)
  · have hv := hx.resolve_left (fun w => w h1)
    by_cases c : v < 0
    · simp only [g_159_0, g_159_1, g_159_2, g_159_3, g_159_6, g_159_9, g_159_10, g_159_13, g_159_14, g_159_15, g_159_18, g_159_19, kv_w8_0, kv_w8_1, kv_w8_2, kv_w8_3, kv_w8_4, m_isGate_m h K hK hk, h1, c, s_149 h, Option.toList_some, List.cons_append, List.nil_append, (show ¬ (1 : Int32) = 0 by decide), if_true, if_false, not_false_eq_true, and_self]
    · have c2 : ¬ v ≤ 1 := by
        rw [not_or, i32_eq, i32_eq, show (0 : Int32).toInt = 0 by decide, show (1 : Int32).toInt = 1 by decide] at hv
        rw [Int32.lt_iff_toInt_lt, show (0 : Int32).toInt = 0 by decide] at c
        rw [Int32.le_iff_toInt_le, show (1 : Int32).toInt = 1 by decide]
        omega
      simp only [g_159_0, g_159_1, g_159_2, g_159_3, g_159_6, g_159_9, g_159_10, g_159_13, g_159_14, g_159_15, g_159_18, g_159_19, kv_w8_0, kv_w8_1, kv_w8_2, kv_w8_3, kv_w8_4, m_isGate_m h K hK hk, h1, c, c2, s_149 h, Option.toList_some, List.cons_append, List.nil_append, (show ¬ (1 : Int32) = 0 by decide), if_true, if_false, not_false_eq_true, and_self]
  · simp only [g_159_0, g_159_1, g_159_2, g_159_3, g_159_6, g_159_9, g_159_10, g_159_13, g_159_14, g_159_15, g_159_18, g_159_19, kv_w8_0, kv_w8_1, kv_w8_2, kv_w8_3, kv_w8_4, m_isGate_m h K hK hk, h1, s_149 h, Option.toList_some, List.cons_append, List.nil_append, if_true, if_false]
theorem m_keep_m (h : JS σ) (K : Nat) (hK : K ≤ 8) (hk : kv_i σ 149 26 = Int32.ofNat K) (p q v : Int32) (h1 : (¬ p < 0 ∧ p < Int32.ofNat K) ∧ (¬ q < 0 ∧ q < kv_i σ 169 p.toNatClampNeg)) (hv : v = 0 ∨ v = 1) {k g : Nat} (hk8 : k < 8) (hg : g < 40) (ep : p = Int32.ofNat k) (eq_ : q = Int32.ofNat g) (hw : kv_i σ 173 (40 * k + g) = 0 ∨ kv_i σ 173 (40 * k + g) = 1) : Wc (d + 2) 159 [.ref 149, .int p, .int q, .int v] σ Φ = Φ (some (.int (kv_i σ 173 (40 * k + g)))) (if kv_i σ 173 (40 * k + g) = v then kv_si σ 173 (40 * k + g) v else if kv_i σ 149 34 = p then kv_si (kv_si σ 173 (40 * k + g) v) 149 34 (-1) else kv_si σ 173 (40 * k + g) v) := by
  rw [Wc_eq, show kv_ent 159 [.ref 149, .int p, .int q, .int v] = [.ref 149, .int p, .int q, .int v, .null, .null] from rfl]
  have hs := h.si 173 (40 * k + g) v
  obtain ⟨x1, x2⟩ := i32_lin (a := 40) (k := k) (j := g) (x := 40) (by omega) (by decide) ep eq_
  have x3 : 40 * k + g < 320 := by omega
  have n1 : ¬ (149 = 173 ∧ 34 = 40 * k + g) := by omega
  have hnar := nar01 hv
  have v1 : ¬ v < 0 := by rcases hv with rfl | rfl <;> decide
  have v2 : v ≤ 1 := by rcases hv with rfl | rfl <;> decide
  rcases hw with e | e <;> rcases hv with rfl | rfl <;>
  simp only [g_159_0, g_159_1, g_159_2, g_159_3, g_159_6, g_159_9, g_159_10, g_159_13, g_159_14, g_159_15, g_159_18, g_159_19, g_159_20, g_159_22, g_159_23, g_159_24, g_159_25, g_159_26, g_159_28, g_159_29, g_159_32, g_159_34, g_159_35, g_159_38, g_159_39, g_159_42, g_159_43, g_159_45, g_159_46, g_159_49, g_159_51, g_159_52, g_159_53, g_159_56, g_159_57, g_159_60, g_159_61, g_159_62, g_159_64, g_159_65, g_159_68, g_159_69, g_159_70, g_159_73, g_159_75, kv_w8_0, kv_w8_1, kv_w8_2, kv_w8_3, kv_w8_4, n_si, n_sl, n_sr, n_mk, sh_si, sh_sl, sh_sr, sh_mk, i_si, i_sl, i_sr, i_mk, l_si, l_sl, l_sr, l_mk, r_si, r_sl, r_sr, r_mk, m_isGate_m h K hK hk, m_changed_m hs, h1, v1, v2, x1, x2, x3, hk8, hg, e, n1, hnar, s_149 h, s_173 h, r_149_32 h, kv_rv, Option.toList_some, Option.toList_none, List.cons_append, List.nil_append, (show ¬ (1 : Int32) = 0 by decide), (show ¬ (0 : Int32) = 1 by decide), (show ∀ x : Int32, kv_c1 (.int x) = true from fun _ => rfl), (show (12 = 13) = False by decide), (show ¬ (149 = 173) by decide), false_and, if_true, if_false, not_true_eq_false, not_false_eq_true, and_self, or_true, true_or, or_false, Nat.reduceLeDiff]
end KM
/-- one gate's kept is set on both sides -/
theorem JN.keep {σ τ : kv_S} {k g : Nat} {v : Int32} (hk : k < 8) (hg : g < 40) (hv : v = 0 ∨ v = 1) (h : ∀ b j, (101 ≤ b ∧ b < 149 ∨ 168 ≤ b ∧ b ≤ 174) → ¬ (b = 105 + 6 * k ∧ j = g) → ¬ (b = 173 ∧ j = 40 * k + g) → kv_i τ b j = kv_i σ b j) (e1 : kv_i τ (105 + 6 * k) g = v) (e2 : kv_i τ 173 (40 * k + g) = v) (c1 : kv_i τ 8 10 = kv_i σ 8 10) (c2 : kv_i τ 149 26 = kv_i σ 149 26) (H : JN σ) : JN τ := by
  obtain ⟨K, a, b, c, H⟩ := H
  refine ⟨K, a, c1.trans b, c2.trans c, fun n hn => ?_⟩
  obtain ⟨w, G, w1, w2, w3, w4, w5, w6, w7, w8, w9⟩ := H n hn
  refine ⟨w, G, w1, w2, w3, ?_, ?_, ?_, ?_, fun j hj => ?_, fun i hi => ?_⟩
  · rw [h _ _ (by omega) (by omega) (by omega)]; exact w4
  · rw [h _ _ (by omega) (by omega) (by omega)]; exact w5
  · rw [h _ _ (by omega) (by omega) (by omega)]; exact w6
  · rw [h _ _ (by omega) (by omega) (by omega)]; exact w7
  · obtain ⟨⟨t, t1, t2, t3⟩, t4, t5, t6, t7, t8, t9⟩ := w8 j hj
    have q1 := h (102 + 6 * n) j (by omega) (by omega) (by omega)
    have q2 := h 170 (40 * n + j) (by omega) (by omega) (by omega)
    have q3 := h 171 (40 * n + j) (by omega) (by omega) (by omega)
    have q4 := h (103 + 6 * n) j (by omega) (by omega) (by omega)
    have q5 := h 172 (40 * n + j) (by omega) (by omega) (by omega)
    have q6 := h (104 + 6 * n) j (by omega) (by omega) (by omega)
    unfold JN2
    rw [q1, q2, q3, q4, q5, q6]
    refine ⟨⟨t, t1, t2, t3⟩, t4, t5, t6, t7, ?_⟩
    by_cases c : n = k ∧ j = g
    · obtain ⟨rfl, rfl⟩ := c
      rw [e1, e2]
      exact ⟨rfl, hv⟩
    · rw [h 173 (40 * n + j) (by omega) (by omega) (by omega), h (105 + 6 * n) j (by omega) (by omega) (by omega)]
      exact ⟨t8, t9⟩
  · rw [h 174 _ (by omega) (by omega) (by omega), h (106 + 6 * n) _ (by omega) (by omega) (by omega)]
    exact w9 i hi
/-- the shaping can't be undone any more, on both sides; its steps stand -/
theorem JH.gone {σ τ : kv_S} (h : ∀ b k, (33 = b ∨ 175 ≤ b ∧ b ≤ 177) → kv_i τ b k = kv_i σ b k) (e1 : kv_i τ 32 4 = kv_i σ 32 4) (e4 : kv_i τ 149 35 = kv_i σ 149 35) (e2 : kv_i τ 32 5 = -1) (e3 : kv_i τ 149 34 = -1) (H : JH σ) : JH τ := by
  obtain ⟨⟨S, t1, t2, t3, t4⟩, -, -⟩ := H
  exact ⟨⟨S, t1, e1.trans t2, e4.trans t3, fun i hi => JH2.cong h (t4 i hi)⟩, by rw [e2, e3], Or.inl e2⟩
/-- promise 18: keep -/
theorem o_16 (d : Nat) : ob_16 JJ (d + 2) := by
  intro σ h p q v
  have h' := h
  obtain ⟨a1, a2, a3, a4, ⟨K, hK, k1, k2, k3⟩, a6, a7⟩ := h'
  by_cases hc : (¬ p < 0 ∧ p < Int32.ofNat K) ∧ (¬ q < 0 ∧ q < kv_i σ (101 + 6 * p.toNatClampNeg) 6)
  · obtain ⟨k, hk, ep, ec⟩ := i32_nat (by omega) hc.1.1 hc.1.2
    obtain ⟨w, G, w1, w2, w3, w4, w5, w6, w7, w8, w9⟩ := k3 k hk
    have hm : (¬ p < 0 ∧ p < Int32.ofNat K) ∧ (¬ q < 0 ∧ q < kv_i σ 169 p.toNatClampNeg) := by
      refine ⟨hc.1, hc.2.1, ?_⟩
      rw [ec, w7, ← w6, ← ec]
      exact hc.2.2
    by_cases hv : v = 0 ∨ v = 1
    · obtain ⟨g, hg, eq_, ecq⟩ := i32_nat (n := G) (by omega) hc.2.1 (by have := hc.2.2; rw [ec, w6] at this; exact this)
      obtain ⟨-, -, -, -, -, t8, t9⟩ := w8 g hg
      rw [m_keep_c a1 K hK k1 p q v hc hv (k := k) (g := g) (by omega) (by omega) ec ecq t9]
      refine ⟨_, rfl, ?_⟩
      by_cases ew : kv_i σ (105 + 6 * k) g = v
      · rw [if_pos ew]
        rw [m_keep_m a1 K hK k2 p q v hm hv (k := k) (g := g) (by omega) (by omega) ep eq_ (by rw [t8]; exact t9), t8, if_pos ew]
        refine ⟨rfl, JJ.cong (σ := σ) (fun b j _ => ?_) rfl rfl (kv_si_low σ _ _ (by decide)) h⟩
        rw [i_si]
        by_cases c : b = 173 ∧ j = 40 * k + g
        · obtain ⟨rfl, rfl⟩ := c
          rw [if_pos ⟨rfl, rfl⟩, t8, ew]
        · rw [if_neg c]
      · rw [if_neg ew]
        obtain ⟨-, u2, -⟩ := id a7
        by_cases hu : kv_i σ 32 5 = p
        · rw [if_pos hu]
          have b1 := (a1.si (105 + 6 * k) g v).si 32 5 (-1)
          have f1 : ∀ b j, ¬ (b = 105 + 6 * k ∧ j = g) → ¬ (b = 32 ∧ j = 5) → kv_i (kv_si (kv_si σ (105 + 6 * k) g v) 32 5 (-1)) b j = kv_i σ b j := fun b j q1 q2 => by rw [ne_ess q2, ne_ess q1]
          have f2 : kv_i (kv_si (kv_si σ (105 + 6 * k) g v) 32 5 (-1)) 173 (40 * k + g) = kv_i σ (105 + 6 * k) g := by rw [f1 _ _ (by omega) (by omega)]; exact t8
          have f3 : kv_i (kv_si (kv_si σ (105 + 6 * k) g v) 32 5 (-1)) 149 34 = p := by rw [f1 _ _ (by omega) (by omega), u2]; exact hu
          rw [m_keep_m b1 K hK (by rw [f1 _ _ (by omega) (by omega)]; exact k2) p q v (by rw [f1 _ _ (by omega) (by omega)]; exact hm) hv (k := k) (g := g) (by omega) (by omega) ep eq_ (by rw [f2]; exact t9), f2, if_neg ew, f3, if_pos rfl]
          refine ⟨rfl, ?_⟩
          have cg : ∀ b j, ¬ (b = 105 + 6 * k ∧ j = g) → ¬ (b = 32 ∧ j = 5) → ¬ (b = 173 ∧ j = 40 * k + g) → ¬ (b = 149 ∧ j = 34) → kv_i (kv_si (kv_si (kv_si (kv_si σ (105 + 6 * k) g v) 32 5 (-1)) 173 (40 * k + g) v) 149 34 (-1)) b j = kv_i σ b j := fun b j q1 q2 q3 q4 => by rw [ne_ess q4, ne_ess q3, f1 b j q1 q2]
          refine ⟨(b1.si _ _ _).si _ _ _, (((a2.low (kv_si_low σ _ _ (by omega))).low (kv_si_low _ _ _ (by decide))).low (kv_si_low _ _ _ (by decide))).low (kv_si_low _ _ _ (by decide)), a3.cong (fun j => cg _ _ (by omega) (by omega) (by omega) (by omega)), a4.cong (fun b j hb => cg _ _ (by omega) (by omega) (by omega) (by omega)) (cg _ _ (by omega) (by omega) (by omega) (by omega)) (cg _ _ (by omega) (by omega) (by omega) (by omega)), JN.keep (k := k) (g := g) (v := v) (by omega) (by omega) hv (fun b j hb q1 q2 => cg _ _ q1 (by omega) q2 (by omega)) ?_ ?_ (cg _ _ (by omega) (by omega) (by omega) (by omega)) (cg _ _ (by omega) (by omega) (by omega) (by omega)) h.2.2.2.2.1, a6.cong (fun j => cg _ _ (by omega) (by omega) (by omega) (by omega)) (fun j => cg _ _ (by omega) (by omega) (by omega) (by omega)) (cg _ _ (by omega) (by omega) (by omega) (by omega)) (cg _ _ (by omega) (by omega) (by omega) (by omega)) (cg _ _ (by omega) (by omega) (by omega) (by omega)) (cg _ _ (by omega) (by omega) (by omega) (by omega)), a7.gone (fun b j hb => cg _ _ (by omega) (by omega) (by omega) (by omega)) (cg _ _ (by omega) (by omega) (by omega) (by omega)) (cg _ _ (by omega) (by omega) (by omega) (by omega)) ?_ ?_⟩
          · rw [ne_ess (by omega), ne_ess (by omega), ne_ess (by omega), i_si, if_pos ⟨rfl, rfl⟩]
          · rw [ne_ess (by omega), i_si, if_pos ⟨rfl, rfl⟩]
          · rw [ne_ess (by omega), ne_ess (by omega), i_si, if_pos ⟨rfl, rfl⟩]
          · rw [i_si, if_pos ⟨rfl, rfl⟩]
        · rw [if_neg hu]
          have b1 := a1.si (105 + 6 * k) g v
          have f1 : ∀ b j, ¬ (b = 105 + 6 * k ∧ j = g) → kv_i (kv_si σ (105 + 6 * k) g v) b j = kv_i σ b j := fun b j q1 => ne_ess q1
          have f2 : kv_i (kv_si σ (105 + 6 * k) g v) 173 (40 * k + g) = kv_i σ (105 + 6 * k) g := by rw [f1 _ _ (by omega)]; exact t8
          have f3 : ¬ kv_i (kv_si σ (105 + 6 * k) g v) 149 34 = p := by rw [f1 _ _ (by omega), u2]; exact hu
          rw [m_keep_m b1 K hK (by rw [f1 _ _ (by omega)]; exact k2) p q v (by rw [f1 _ _ (by omega)]; exact hm) hv (k := k) (g := g) (by omega) (by omega) ep eq_ (by rw [f2]; exact t9), f2, if_neg ew, if_neg f3]
          refine ⟨rfl, ?_⟩
          have cg : ∀ b j, ¬ (b = 105 + 6 * k ∧ j = g) → ¬ (b = 173 ∧ j = 40 * k + g) → kv_i (kv_si (kv_si σ (105 + 6 * k) g v) 173 (40 * k + g) v) b j = kv_i σ b j := fun b j q1 q3 => by rw [ne_ess q3, f1 b j q1]
          refine ⟨b1.si _ _ _, (a2.low (kv_si_low σ _ _ (by omega))).low (kv_si_low _ _ _ (by decide)), a3.cong (fun j => cg _ _ (by omega) (by omega)), a4.cong (fun b j hb => cg _ _ (by omega) (by omega)) (cg _ _ (by omega) (by omega)) (cg _ _ (by omega) (by omega)), JN.keep (k := k) (g := g) (v := v) (by omega) (by omega) hv (fun b j hb q1 q2 => cg _ _ q1 q2) ?_ ?_ (cg _ _ (by omega) (by omega)) (cg _ _ (by omega) (by omega)) h.2.2.2.2.1, a6.cong (fun j => cg _ _ (by omega) (by omega)) (fun j => cg _ _ (by omega) (by omega)) (cg _ _ (by omega) (by omega)) (cg _ _ (by omega) (by omega)) (cg _ _ (by omega) (by omega)) (cg _ _ (by omega) (by omega)), a7.cong (fun b j hb => cg _ _ (by omega) (by omega)) (fun n j hn => cg _ _ (by omega) (by omega)) (cg _ _ (by omega) (by omega)) (cg _ _ (by omega) (by omega)) (cg _ _ (by omega) (by omega)) (cg _ _ (by omega) (by omega)) (cg _ _ (by omega) (by omega))⟩
          · rw [ne_ess (by omega), i_si, if_pos ⟨rfl, rfl⟩]
          · rw [i_si, if_pos ⟨rfl, rfl⟩]
    · rw [m_keep_bad_c a1 K hK k1 p q v (Or.inr hv)]
      refine ⟨_, rfl, ?_⟩
      rw [m_keep_bad_m a1 K hK k2 p q v (Or.inr hv)]
      exact ⟨rfl, h⟩
  · rw [m_keep_bad_c a1 K hK k1 p q v (Or.inl hc)]
    refine ⟨_, rfl, ?_⟩
    have hm : ¬ ((¬ p < 0 ∧ p < Int32.ofNat K) ∧ (¬ q < 0 ∧ q < kv_i σ 169 p.toNatClampNeg)) := by
      intro hm
      obtain ⟨k, hk, ep, ec⟩ := i32_nat (by omega) hm.1.1 hm.1.2
      obtain ⟨w, G, w1, w2, w3, w4, w5, w6, w7, w8, w9⟩ := k3 k hk
      refine hc ⟨hm.1, hm.2.1, ?_⟩
      rw [ec, w6, ← w7, ← ec]
      exact hm.2.2
    rw [m_keep_bad_m a1 K hK k2 p q v (Or.inl hm)]
    exact ⟨rfl, h⟩

/-! ===== keep ===== -/
section KP
variable {d : Nat} {σ : kv_S} {Φ : Option Value → kv_S → Prop}
theorem nar01 {v : Int32} (h : v = 0 ∨ v = 1) : vp_nar .boolean v = v := by rcases h with rfl | rfl <;> rfl
theorem m_keep_bad_c (h : JS σ) (K : Nat) (hK : K ≤ 8) (hk : kv_i σ 8 10 = Int32.ofNat K) (p q v : Int32) (hx : ¬ ((¬ p < 0 ∧ p < Int32.ofNat K) ∧ (¬ q < 0 ∧ q < kv_i σ (101 + 6 * p.toNatClampNeg) 6)) ∨ ¬ (v = 0 ∨ v = 1)) : Wc (d + 2) 81 [.ref 8, .int p, .int q, .int v] σ Φ = Φ (some (.int (-1))) σ := by
  rw [Wc_eq, show kv_ent 81 [.ref 8, .int p, .int q, .int v] = [.ref 8, .int p, .int q, .int v, .null] from rfl]
  by_cases h1 : (¬ p < 0 ∧ p < Int32.ofNat K) ∧ (¬ q < 0 ∧ q < kv_i σ (101 + 6 * p.toNatClampNeg) 6)
  · have hv := hx.resolve_left (fun w => w h1)
    by_cases c : v < 0
    · simp only [g_81_0, g_81_1, g_81_2, g_81_3, g_81_6, g_81_9, g_81_10, g_81_13, g_81_14, g_81_15, g_81_18, g_81_19, kv_w8_0, kv_w8_1, kv_w8_2, kv_w8_3, kv_w8_4, m_isGate_c h K hK hk, h1, c, s_8 h, Option.toList_some, List.cons_append, List.nil_append, (show ¬ (1 : Int32) = 0 by decide), if_true, if_false, not_false_eq_true, and_self]
    · have c2 : ¬ v ≤ 1 := by
        rw [not_or, i32_eq, i32_eq, show (0 : Int32).toInt = 0 by decide, show (1 : Int32).toInt = 1 by decide] at hv
        rw [Int32.lt_iff_toInt_lt, show (0 : Int32).toInt = 0 by decide] at c
        rw [Int32.le_iff_toInt_le, show (1 : Int32).toInt = 1 by decide]
        omega
      simp only [g_81_0, g_81_1, g_81_2, g_81_3, g_81_6, g_81_9, g_81_10, g_81_13, g_81_14, g_81_15, g_81_18, g_81_19, kv_w8_0, kv_w8_1, kv_w8_2, kv_w8_3, kv_w8_4, m_isGate_c h K hK hk, h1, c, c2, s_8 h, Option.toList_some, List.cons_append, List.nil_append, (show ¬ (1 : Int32) = 0 by decide), if_true, if_false, not_false_eq_true, and_self]
  · simp only [g_81_0, g_81_1, g_81_2, g_81_3, g_81_6, g_81_9, g_81_10, g_81_13, g_81_14, g_81_15, g_81_18, g_81_19, kv_w8_0, kv_w8_1, kv_w8_2, kv_w8_3, kv_w8_4, m_isGate_c h K hK hk, h1, s_8 h, Option.toList_some, List.cons_append, List.nil_append, if_true, if_false]
theorem m_keep_c (h : JS σ) (K : Nat) (hK : K ≤ 8) (hk : kv_i σ 8 10 = Int32.ofNat K) (p q v : Int32) (h1 : (¬ p < 0 ∧ p < Int32.ofNat K) ∧ (¬ q < 0 ∧ q < kv_i σ (101 + 6 * p.toNatClampNeg) 6)) (hv : v = 0 ∨ v = 1) {k g : Nat} (hk8 : k < 8) (hg : g < 40) (ep : p.toNatClampNeg = k) (eq_ : q.toNatClampNeg = g) (hw : kv_i σ (105 + 6 * k) g = 0 ∨ kv_i σ (105 + 6 * k) g = 1) : Wc (d + 2) 81 [.ref 8, .int p, .int q, .int v] σ Φ = Φ (some (.int (kv_i σ (105 + 6 * k) g))) (if kv_i σ (105 + 6 * k) g = v then σ else if kv_i σ 32 5 = p then kv_si (kv_si σ (105 + 6 * k) g v) 32 5 (-1) else kv_si σ (105 + 6 * k) g v) := by
  rw [Wc_eq, show kv_ent 81 [.ref 8, .int p, .int q, .int v] = [.ref 8, .int p, .int q, .int v, .null] from rfl]
  have hs := h.si (105 + 6 * k) g v
  have h1' := h1
  rw [ep] at h1'
  have n1 : ¬ (32 = 105 + 6 * k ∧ 5 = g) := by omega
  have n2 : 8 ≤ 105 + 6 * k := by omega
  have hnar := nar01 hv
  have v1 : ¬ v < 0 := by rcases hv with rfl | rfl <;> decide
  have v2 : v ≤ 1 := by rcases hv with rfl | rfl <;> decide
  have was : ∀ {A : Int32 → Prop}, (if kv_i σ (105 + 6 * k) g = 0 then A 0 else A 1) = A (kv_i σ (105 + 6 * k) g) := by
    intro A
    rcases hw with e | e
    · rw [e, if_pos rfl]
    · rw [e, if_neg (by decide)]
  rcases hw with e | e <;> rcases hv with rfl | rfl <;>
  simp only [g_81_0, g_81_1, g_81_2, g_81_3, g_81_6, g_81_9, g_81_10, g_81_13, g_81_14, g_81_15, g_81_18, g_81_19, g_81_20, g_81_21, g_81_24, g_81_25, g_81_26, g_81_29, g_81_30, g_81_31, g_81_34, g_81_35, g_81_38, g_81_39, g_81_41, g_81_43, g_81_44, g_81_47, g_81_48, g_81_51, g_81_52, g_81_53, g_81_56, g_81_57, g_81_58, g_81_59, g_81_62, g_81_63, g_81_66, g_81_67, g_81_68, g_81_69, g_81_72, g_81_73, g_81_76, g_81_78, kv_w8_0, kv_w8_1, kv_w8_2, kv_w8_3, kv_w8_4, n_si, n_sl, n_sr, n_mk, sh_si, sh_sl, sh_sr, sh_mk, i_si, i_sl, i_sr, i_mk, l_si, l_sl, l_sr, l_mk, r_si, r_sl, r_sr, r_mk, m_isGate_c h K hK hk, m_note_c hs, h1', v1, v2, ep, eq_, hk8, hg, e, n1, n2, hnar, s_8 h, s_10 h, r_8_1 h, r_8_8 h, s_32 h, qN h hk8, nN h hk8, qK h hk8, nK h hk8, kv_rv, Option.toList_some, Option.toList_none, List.cons_append, List.nil_append, (show ¬ (1 : Int32) = 0 by decide), (show ¬ (0 : Int32) = 1 by decide), (show kv_c1 (.int (0 : Int32)) = true from rfl), (show ∀ x : Int32, kv_c1 (.int x) = true from fun _ => rfl), (show (15 = 14) = False by decide), (show (12 = 13) = False by decide), if_true, if_false, not_true_eq_false, not_false_eq_true, and_self, or_true, true_or, or_false, Nat.reduceLeDiff]
end KP

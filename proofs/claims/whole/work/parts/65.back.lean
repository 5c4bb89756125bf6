/-! ===== back ===== -/
/-- the first n places of row a are copied to row b -/
def kv_cpy (σ : kv_S) (a b n : Nat) : kv_S := (σ.1, kv_cpm σ.2.1 a b 0 0 n, σ.2.2)
theorem cpy_i (σ : kv_S) (a b n c j : Nat) : kv_i (kv_cpy σ a b n) c j = if c = b ∧ j < n then kv_i σ a j else kv_i σ c j := by
  show (if c = b then va_cpy (σ.2.1 a) (σ.2.1 b) 0 0 n j else σ.2.1 c j) = if c = b ∧ j < n then σ.2.1 a j else σ.2.1 c j
  by_cases e : c = b
  · subst e
    rw [if_pos rfl]
    unfold va_cpy
    by_cases h : j < n
    · simp [h]
    · simp [h]
  · simp [e]
theorem cpy_sh (σ : kv_S) (a b n : Nat) : kv_sh (kv_cpy σ a b n) = kv_sh σ := Eq.trans rfl rfl
theorem cpy_r (σ : kv_S) (a b n : Nat) : kv_r (kv_cpy σ a b n) = kv_r σ := Eq.trans rfl rfl
theorem cpy_fr {P : Nat → Nat → Prop} {σ τ : kv_S} (h : FR P σ τ) {a b n : Nat} (hp : ∀ j, j < n → P b j) : FR P σ (kv_cpy τ a b n) := ⟨h.1, h.2.1, fun c j hb => by rw [cpy_i, if_neg (fun w => hb (by rw [w.1]; exact hp j w.2))]; exact h.2.2.1 c j hb, fun c j hb => h.2.2.2 c j hb⟩
theorem cl0 : (0 : Int32).toNatClampNeg = 0 := by decide
theorem cl40 : (40 : Int32).toNatClampNeg = 40 := by decide
theorem cl6 : (6 : Int32).toNatClampNeg = 6 := by decide
section BK
variable {d : Nat} {σ : kv_S} {Φ : Option Value → kv_S → Prop}
theorem m_undo (h : JS σ) {k : Nat} (hk : k < 8) : Wc (d + 1) 117 [.ref 32, .ref (101 + 6 * k)] σ Φ = Φ none (kv_si (kv_cpy (kv_cpy (kv_cpy σ 34 (103 + 6 * k) 40) 35 (104 + 6 * k) 40) 36 (106 + 6 * k) 6) 32 5 (-1)) := by
  have q1 : ∀ σ a b, (σ.1, kv_cpm σ.2.1 a b 0 0 40, σ.2.2) = kv_cpy σ a b 40 := fun _ _ _ => rfl
  have q2 : ∀ σ a b, (σ.1, kv_cpm σ.2.1 a b 0 0 6, σ.2.2) = kv_cpy σ a b 6 := fun _ _ _ => rfl
  simp only [c_117, g_117_0, g_117_1, g_117_4, g_117_5, g_117_6, g_117_9, g_117_10, g_117_12, g_117_15, g_117_16, g_117_19, g_117_20, g_117_21, g_117_24, g_117_25, g_117_27, g_117_30, g_117_31, g_117_34, g_117_35, g_117_36, g_117_39, g_117_40, g_117_42, g_117_45, g_117_46, g_117_47, g_117_50, kv_w8_0, kv_w8_1, kv_w8_2, kv_w8_3, kv_w8_4, Nat.not_lt_zero, Bool.false_eq_true, Option.toList_some, Option.toList_none, List.cons_append, List.nil_append, kv_rv, kc1_i, kc1_r, kc1_n, n10, n01, n1514, n1213, n1312, if_true, if_false, not_true_eq_false, not_false_eq_true, and_self, true_and, and_true, false_and, and_false, or_true, true_or, or_false, false_or, Nat.reduceLeDiff, Nat.reduceLT, Nat.reduceEqDiff, Nat.reduceAdd, cpy_sh, cpy_r, q1, q2, cl0, cl40, cl6, nN h hk, nX h hk, qX h hk, nY h hk, qY h hk, nO h hk, qO h hk, s_32 h, r_8_8 h, s_34 h, r_32_1 h, s_35 h, r_32_2 h, s_36 h, r_32_3 h, (show ¬ (0 : Int32) < 0 by decide), (show ¬ (40 : Int32) < 0 by decide), (show ¬ (6 : Int32) < 0 by decide), Nat.zero_add, Nat.le_refl, (show 8 ≤ 103 + 6 * k by omega), (show 8 ≤ 104 + 6 * k by omega), (show 8 ≤ 106 + 6 * k by omega)]
end BK

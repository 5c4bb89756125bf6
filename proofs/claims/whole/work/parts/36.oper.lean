/-! ===== operands ===== -/
theorem vO_iff {w G : Nat} (hw : w ≤ 8) (hG : G ≤ 40) (x : Int32) : vO w G x ↔ (-2 ≤ x.toInt ∧ x.toInt < w) ∨ (8 ≤ x.toInt ∧ x.toInt < 8 + G) := by
  unfold vO
  constructor
  · rintro (rfl | rfl | ⟨k, hk, rfl⟩ | ⟨g, hg, rfl⟩)
    · left; rw [show (-1 : Int32).toInt = -1 by decide]; omega
    · left; rw [show (-2 : Int32).toInt = -2 by decide]; omega
    · left; rw [oN_toInt (by omega)]; omega
    · right; rw [oN_toInt (by omega)]; omega
  · rintro (⟨h1, h2⟩ | ⟨h1, h2⟩)
    · by_cases c1 : x.toInt = -1
      · left; rw [i32_eq, show (-1 : Int32).toInt = -1 by decide]; exact c1
      · by_cases c2 : x.toInt = -2
        · right; left; rw [i32_eq, show (-2 : Int32).toInt = -2 by decide]; exact c2
        · right; right; left
          refine ⟨x.toInt.toNat, by omega, ?_⟩
          rw [i32_eq, oN_toInt (by omega)]
          omega
    · right; right; right
      refine ⟨x.toInt.toNat - 8, by omega, ?_⟩
      rw [i32_eq, oN_toInt (by omega)]
      omega
theorem sub8 {x : Int32} (h : 8 ≤ x.toInt) : (x - 8).toInt = x.toInt - 8 := by
  rw [Int32.toInt_sub, show (8 : Int32).toInt = 8 by decide]
  have := x.toInt_lt
  exact Int.bmod_eq_of_le (by omega) (by omega)
section OP
variable {d : Nat} {σ : kv_S} {Φ : Option Value → kv_S → Prop}
theorem m_knows_t (h : JS σ) {k w G : Nat} (hk : k < 8) (hw : w ≤ 8) (hG : G ≤ 40) (e5 : kv_i σ (101 + 6 * k) 5 = Int32.ofNat w) (e6 : kv_i σ (101 + 6 * k) 6 = Int32.ofNat G) (x : Int32) (hx : vO w G x) : Wc d 35 [.ref (101 + 6 * k), .int x] σ Φ = Φ (some (.int 1)) σ := by
  rw [Wc_eq, show kv_ent 35 [.ref (101 + 6 * k), .int x] = [.ref (101 + 6 * k), .int x] from rfl]
  rw [vO_iff hw hG] at hx
  by_cases c : x < 8
  · have c' := Int32.lt_iff_toInt_lt.mp c
    rw [show (8 : Int32).toInt = 8 by decide] at c'
    have q1 : ¬ x < -2 := by rw [Int32.lt_iff_toInt_lt, show (-2 : Int32).toInt = -2 by decide]; omega
    have q2 : ¬ Int32.ofNat w ≤ x := by rw [Int32.le_iff_toInt_le, oN_toInt (by omega)]; omega
    simp only [g_35_0, g_35_1, g_35_3, g_35_6, g_35_7, g_35_9, g_35_10, g_35_11, g_35_14, g_35_17, g_35_18, g_35_21, g_35_22, g_35_23, g_35_24, g_35_26, g_35_29, g_35_30, g_35_31, g_35_34, g_35_37, g_35_38, g_35_41, g_35_42, nN h hk, e5, e6, c, q1, q2, if_true, if_false, or_true]
  · have c' : 8 ≤ x.toInt := by
      have := mt Int32.lt_iff_toInt_lt.mpr c
      rw [show (8 : Int32).toInt = 8 by decide] at this
      omega
    have q2 : ¬ Int32.ofNat G ≤ x - 8 := by rw [Int32.le_iff_toInt_le, oN_toInt (by omega), sub8 c']; omega
    simp only [g_35_0, g_35_1, g_35_3, g_35_6, g_35_7, g_35_9, g_35_10, g_35_11, g_35_14, g_35_17, g_35_18, g_35_21, g_35_22, g_35_23, g_35_24, g_35_26, g_35_29, g_35_30, g_35_31, g_35_34, g_35_37, g_35_38, g_35_41, g_35_42, nN h hk, e5, e6, c, q2, if_true, if_false, or_true]
theorem m_knows_f (h : JS σ) {k w G : Nat} (hk : k < 8) (hw : w ≤ 8) (hG : G ≤ 40) (e5 : kv_i σ (101 + 6 * k) 5 = Int32.ofNat w) (e6 : kv_i σ (101 + 6 * k) 6 = Int32.ofNat G) (x : Int32) (hx : ¬ vO w G x) : Wc d 35 [.ref (101 + 6 * k), .int x] σ Φ = Φ (some (.int 0)) σ := by
  rw [Wc_eq, show kv_ent 35 [.ref (101 + 6 * k), .int x] = [.ref (101 + 6 * k), .int x] from rfl]
  rw [vO_iff hw hG] at hx
  by_cases c : x < 8
  · have c' := Int32.lt_iff_toInt_lt.mp c
    rw [show (8 : Int32).toInt = 8 by decide] at c'
    by_cases q1 : x < -2
    · simp only [g_35_0, g_35_1, g_35_3, g_35_6, g_35_7, g_35_9, g_35_10, g_35_11, g_35_14, g_35_17, g_35_18, g_35_21, g_35_22, g_35_23, g_35_24, g_35_26, g_35_29, g_35_30, g_35_31, g_35_34, g_35_37, g_35_38, g_35_41, g_35_42, nN h hk, e5, e6, c, q1, if_true, if_false, true_or]
    · have q1' := mt Int32.lt_iff_toInt_lt.mpr q1
      rw [show (-2 : Int32).toInt = -2 by decide] at q1'
      have q2 : Int32.ofNat w ≤ x := by rw [Int32.le_iff_toInt_le, oN_toInt (by omega)]; omega
      simp only [g_35_0, g_35_1, g_35_3, g_35_6, g_35_7, g_35_9, g_35_10, g_35_11, g_35_14, g_35_17, g_35_18, g_35_21, g_35_22, g_35_23, g_35_24, g_35_26, g_35_29, g_35_30, g_35_31, g_35_34, g_35_37, g_35_38, g_35_41, g_35_42, nN h hk, e5, e6, c, q1, q2, if_true, if_false, true_or]
  · have c' : 8 ≤ x.toInt := by
      have := mt Int32.lt_iff_toInt_lt.mpr c
      rw [show (8 : Int32).toInt = 8 by decide] at this
      omega
    have q2 : Int32.ofNat G ≤ x - 8 := by rw [Int32.le_iff_toInt_le, oN_toInt (by omega), sub8 c']; omega
    simp only [g_35_0, g_35_1, g_35_3, g_35_6, g_35_7, g_35_9, g_35_10, g_35_11, g_35_14, g_35_17, g_35_18, g_35_21, g_35_22, g_35_23, g_35_24, g_35_26, g_35_29, g_35_30, g_35_31, g_35_34, g_35_37, g_35_38, g_35_41, g_35_42, nN h hk, e5, e6, c, q2, if_true, if_false, true_or]
end OP

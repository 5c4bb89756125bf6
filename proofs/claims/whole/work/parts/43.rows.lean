/-! ===== how many rows and sheets ===== -/
theorem pow_w : ∀ w, w ≤ 8 → (1 : Int32) <<< (Int32.ofNat w &&& 31) = Int32.ofNat (2 ^ w) := by decide
theorem min_w : ∀ w, w ≤ 8 → (if Int32.ofNat (2 ^ w) < (8 : Int32) then Int32.ofNat (2 ^ w) else 8) = Int32.ofNat (min 8 (2 ^ w)) := by decide
theorem max_w : ∀ w, w ≤ 8 → (if (1 : Int32) < Int32.ofNat (2 ^ w) >>> ((3 : Int32) &&& 31) then Int32.ofNat (2 ^ w) >>> ((3 : Int32) &&& 31) else 1) = Int32.ofNat (max 1 (2 ^ w / 8)) := by decide
section RW
variable {d : Nat} {σ : kv_S} {Φ : Option Value → kv_S → Prop}
theorem m_rowCount (h : JS σ) {f w : Nat} (hf : f < 16) (hw : w ≤ 8) (e : kv_i σ (37 + 4 * f) 3 = Int32.ofNat w) : Wc d 14 [.ref (37 + 4 * f)] σ Φ = Φ (some (.int (Int32.ofNat (2 ^ w)))) σ := by
  rw [Wc_eq, show kv_ent 14 [.ref (37 + 4 * f)] = [.ref (37 + 4 * f)] from rfl]
  simp only [g_14_0, g_14_1, g_14_2, g_14_5, g_14_6, sT h hf, e, pow_w w hw]
theorem m_sheetSize (h : JS σ) {f w : Nat} (hf : f < 16) (hw : w ≤ 8) (e : kv_i σ (37 + 4 * f) 3 = Int32.ofNat w) : Wc (d + 1) 13 [.ref (37 + 4 * f)] σ Φ = Φ (some (.int (Int32.ofNat (min 8 (2 ^ w))))) σ := by
  rw [Wc_eq, show kv_ent 13 [.ref (37 + 4 * f)] = [.ref (37 + 4 * f)] from rfl]
  simp only [g_13_0, g_13_2, g_13_3, g_13_6, g_13_9, kv_w8_0, kv_w8_1, kv_w8_2, kv_w8_3, kv_w8_4, sT h hf, m_rowCount h hf hw e, Option.toList_some, List.cons_append, List.nil_append, min_w w hw]
theorem m_sheetCount (h : JS σ) {f w : Nat} (hf : f < 16) (hw : w ≤ 8) (e : kv_i σ (37 + 4 * f) 3 = Int32.ofNat w) : Wc (d + 1) 24 [.ref (37 + 4 * f)] σ Φ = Φ (some (.int (Int32.ofNat (max 1 (2 ^ w / 8))))) σ := by
  rw [Wc_eq, show kv_ent 24 [.ref (37 + 4 * f)] = [.ref (37 + 4 * f)] from rfl]
  simp only [g_24_0, g_24_1, g_24_2, g_24_5, g_24_6, g_24_7, g_24_10, kv_w8_0, kv_w8_1, kv_w8_2, kv_w8_3, kv_w8_4, sT h hf, m_rowCount h hf hw e, Option.toList_some, List.cons_append, List.nil_append, max_w w hw]
theorem m_rows_m (h : JS σ) {f w : Nat} (hf : f < 16) (hw : w ≤ 8) (e : kv_i σ 150 f = Int32.ofNat w) : Wc d 125 [.ref 149, .int (Int32.ofNat f)] σ Φ = Φ (some (.int (Int32.ofNat (2 ^ w)))) σ := by
  rw [Wc_eq, show kv_ent 125 [.ref 149, .int (Int32.ofNat f)] = [.ref 149, .int (Int32.ofNat f)] from rfl]
  have c2 : ¬ Int32.ofNat f < 0 := nI_pos (n := f) (by omega)
  have c3 : (Int32.ofNat f).toNatClampNeg = f := nI_cl (by omega)
  simp only [g_125_0, g_125_1, g_125_2, g_125_5, g_125_6, g_125_7, g_125_8, s_149 h, s_150 h, r_149_2 h, kv_rv, c2, c3, hf, e, pow_w w hw, not_false_eq_true]
end RW

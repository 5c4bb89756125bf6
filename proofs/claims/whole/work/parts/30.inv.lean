/-! ===== THE INVARIANT between the class's memory and the model's ===== -/
/-- the arrays that were there before: statics -/
def JK (σ : kv_S) : Prop := kv_sh σ 0 = (11, 6) ∧ kv_sh σ 1 = (10, 6) ∧ kv_sh σ 2 = (10, 8) ∧ kv_sh σ 3 = (10, 3) ∧ kv_sh σ 4 = (10, 7) ∧ kv_sh σ 5 = (10, 4) ∧ (∀ j, kv_l σ 0 j = kv_kL.getD j 0) ∧ (∀ a j, 1 ≤ a → a < 6 → kv_i σ a j = (kv_ki a).getD j 0)
/-- a sheet s of function f of w letters: l places are left; its bits of ones and frees are the model's places -/
def JF2 (σ : kv_S) (f w s : Nat) : Prop := ∃ l o u : Nat, l ≤ 8 ∧ l ≤ 2 ^ w ∧ o < 256 ∧ u < 256 ∧ kv_i σ (40 + 4 * f) s = Int32.ofNat l ∧ kv_i σ 152 (32 * f + s) = Int32.ofNat l ∧ kv_i σ (38 + 4 * f) s = Int32.ofNat o ∧ kv_i σ (39 + 4 * f) s = Int32.ofNat u
  ∧ (∀ p, p < l → (kv_i σ 151 (256 * f + (8 * s + p)) = 0 ∧ o.testBit p = false ∧ u.testBit p = false) ∨ (kv_i σ 151 (256 * f + (8 * s + p)) = 1 ∧ o.testBit p = true ∧ u.testBit p = false) ∨ (kv_i σ 151 (256 * f + (8 * s + p)) = 2 ∧ o.testBit p = false ∧ u.testBit p = true))
  ∧ (∀ p, l ≤ p → o.testBit p = false ∧ u.testBit p = false)
def JF1 (σ : kv_S) (f : Nat) : Prop := ∃ w : Nat, 1 ≤ w ∧ w ≤ 8 ∧ kv_i σ (37 + 4 * f) 3 = Int32.ofNat w ∧ kv_i σ 150 f = Int32.ofNat w ∧ ∀ s, s < 32 → 8 * s < 2 ^ w → JF2 σ f w s
def JF (σ : kv_S) : Prop := ∃ F : Nat, F ≤ 16 ∧ kv_i σ 8 9 = Int32.ofNat F ∧ kv_i σ 149 1 = Int32.ofNat F ∧ ∀ f, f < F → JF1 σ f
/-- an operand that a net of w letters and G gates knows -/
def vO (w G : Nat) (x : Int32) : Prop := x = -1 ∨ x = -2 ∨ (∃ k, k < w ∧ x = Int32.ofNat k) ∨ (∃ g, g < G ∧ x = Int32.ofNat (8 + g))
def JN2 (σ : kv_S) (k w g : Nat) : Prop := (∃ t : Nat, t < 16 ∧ kv_i σ (102 + 6 * k) g = Int32.ofNat t ∧ kv_i σ 170 (40 * k + g) = Int32.ofNat t) ∧ kv_i σ 171 (40 * k + g) = kv_i σ (103 + 6 * k) g ∧ vO w g (kv_i σ (103 + 6 * k) g) ∧ kv_i σ 172 (40 * k + g) = kv_i σ (104 + 6 * k) g ∧ vO w g (kv_i σ (104 + 6 * k) g) ∧ kv_i σ 173 (40 * k + g) = kv_i σ (105 + 6 * k) g ∧ (kv_i σ (105 + 6 * k) g = 0 ∨ kv_i σ (105 + 6 * k) g = 1)
def JN1 (σ : kv_S) (k : Nat) : Prop := ∃ w G : Nat, 1 ≤ w ∧ w ≤ 8 ∧ G ≤ 40 ∧ kv_i σ (101 + 6 * k) 5 = Int32.ofNat w ∧ kv_i σ 168 k = Int32.ofNat w ∧ kv_i σ (101 + 6 * k) 6 = Int32.ofNat G ∧ kv_i σ 169 k = Int32.ofNat G ∧ (∀ g, g < G → JN2 σ k w g) ∧ ∀ i, i < 6 → kv_i σ 174 (6 * k + i) = kv_i σ (106 + 6 * k) i ∧ (kv_i σ (106 + 6 * k) i = -3 ∨ vO w G (kv_i σ (106 + 6 * k) i))
def JN (σ : kv_S) : Prop := ∃ K : Nat, K ≤ 8 ∧ kv_i σ 8 10 = Int32.ofNat K ∧ kv_i σ 149 26 = Int32.ofNat K ∧ ∀ k, k < K → JN1 σ k
/-- the last least sum -/
def JC (σ : kv_S) : Prop := ∃ S : Nat, S ≤ 40 ∧ kv_i σ 14 1 = Int32.ofNat S ∧ kv_i σ 149 12 = Int32.ofNat S ∧ kv_i σ 14 2 = kv_i σ 149 14 ∧ ∀ k, k < S → kv_i σ 15 k = kv_i σ 159 k
/-- the last shaping: a step, its gate, rule and operand -/
def JH2 (σ : kv_S) (i : Nat) : Prop := ∃ g r x : Nat, g < 40 ∧ r < 5 ∧ x < 50 ∧ kv_i σ 33 i = Int32.ofNat (512 * x + 64 * r + g) ∧ kv_i σ 175 i = Int32.ofNat g ∧ kv_i σ 176 i = Int32.ofNat r ∧ kv_i σ 177 i = Int32.ofNat x - 2
/-- what it takes to undo it -/
def JH1 (σ : kv_S) (k : Nat) : Prop := ∃ w G : Nat, kv_i σ (101 + 6 * k) 5 = Int32.ofNat w ∧ kv_i σ (101 + 6 * k) 6 = Int32.ofNat G ∧ G ≤ 40 ∧ w ≤ 8 ∧ (∀ g, g < G → kv_i σ 178 g = kv_i σ 34 g ∧ vO w g (kv_i σ 34 g) ∧ kv_i σ 179 g = kv_i σ 35 g ∧ vO w g (kv_i σ 35 g)) ∧ ∀ i, i < 6 → kv_i σ 180 i = kv_i σ 36 i ∧ (kv_i σ 36 i = -3 ∨ vO w G (kv_i σ 36 i))
def JH (σ : kv_S) : Prop := (∃ S : Nat, S ≤ 1800 ∧ kv_i σ 32 4 = Int32.ofNat S ∧ kv_i σ 149 35 = Int32.ofNat S ∧ ∀ i, i < S → JH2 σ i) ∧ kv_i σ 149 34 = kv_i σ 32 5 ∧ (kv_i σ 32 5 = -1 ∨ ∃ k K : Nat, k < K ∧ kv_i σ 8 10 = Int32.ofNat K ∧ K ≤ 8 ∧ kv_i σ 32 5 = Int32.ofNat k ∧ JH1 σ k)
/-- the model's powers of three -/
def J3 (σ : kv_S) : Prop := ∀ k, k < 9 → kv_i σ 153 k = Int32.ofNat (3 ^ k)
def JJ (σ : kv_S) : Prop := JS σ ∧ JK σ ∧ J3 σ ∧ JF σ ∧ JN σ ∧ JC σ ∧ JH σ
theorem kv_oi_0 : kv_oi kv_OPS 8 9 = some 0 ∧ kv_oi kv_OPS 8 10 = some 0 ∧ kv_oi kv_OPS 149 1 = none ∧ kv_oi kv_OPS 149 26 = none ∧ kv_oi kv_OPS 14 1 = some 0 ∧ kv_oi kv_OPS 14 2 = some 0 ∧ kv_oi kv_OPS 149 12 = none ∧ kv_oi kv_OPS 149 14 = none ∧ kv_oi kv_OPS 32 4 = some 0 ∧ kv_oi kv_OPS 149 35 = none ∧ kv_oi kv_OPS 32 5 = some (-1) ∧ kv_oi kv_OPS 149 34 = some (-1) ∧ (∀ k, k < 9 → kv_oi kv_OPS 153 k = some (Int32.ofNat (3 ^ k))) := by decide +kernel
theorem s0_i (L : Nat) (xs : Nat → Int32) {b : Nat} (h : 8 ≤ b) (k : Nat) : kv_i (kv_s0 L xs) b k = 0 := ((kv_s0_pur L xs).2 b (by rw [s0_n]; omega) k).1
theorem JK.low {σ τ : kv_S} (h : JK σ) (hl : kv_low σ τ) : JK τ := by
  obtain ⟨h0, h1, h2, h3, h4, h5, h6, h7⟩ := h
  refine ⟨(hl 0 (by decide)).1.trans h0, (hl 1 (by decide)).1.trans h1, (hl 2 (by decide)).1.trans h2, (hl 3 (by decide)).1.trans h3, (hl 4 (by decide)).1.trans h4, (hl 5 (by decide)).1.trans h5, fun j => ?_, fun a j ha hb => ?_⟩
  · rw [(hl 0 (by decide)).2.2]; exact h6 j
  · rw [(hl a (by omega)).2.1]; exact h7 a j ha hb
theorem kv_ops_low : ∀ (l : List (Nat × Nat × Nat × Nat)) (σ : kv_S), (∀ o ∈ l, o.1 = 0 ∨ 8 ≤ o.2.1) → kv_low σ (kv_ops l σ)
  | [], σ, _ => kv_low.rf σ
  | o :: l, σ, h => by
    refine kv_low.tr (τ := kv_op σ o) ?_ (kv_ops_low l (kv_op σ o) (fun q hq => h q (List.mem_cons_of_mem _ hq)))
    have h1 := h o List.mem_cons_self
    obtain ⟨t, x, y, z⟩ := o
    match t with
    | 0 => exact kv_mkc_low σ x y
    | 1 => exact kv_sr_low σ _ _ _
    | 2 => exact kv_si_low σ _ _ (h1.resolve_left (by simp))
    | 3 => exact kv_si_low σ _ _ (h1.resolve_left (by simp))
    | _ + 4 => exact kv_sl_low σ _ _ (h1.resolve_left (by simp))
theorem kv_OPS_lo : ∀ o ∈ kv_OPS, o.1 = 0 ∨ 8 ≤ o.2.1 := by decide +kernel
/-- it holds behind the constructors -/
theorem JJ.init (L : Nat) (xs : Nat → Int32) : JJ (kv_ops kv_OPS (kv_s0 L xs)) := by
  obtain ⟨i1, i2, i3, i4, i5, i6, i7, i8, i9, i10, i11, i12, i13⟩ := kv_oi_0
  have rd : ∀ b k v, 8 ≤ b → kv_oi kv_OPS b k = some v → kv_i (kv_ops kv_OPS (kv_s0 L xs)) b k = v := fun b k v hb h => by rw [kv_i_ops, h]; rfl
  have rn : ∀ b k, 8 ≤ b → kv_oi kv_OPS b k = none → kv_i (kv_ops kv_OPS (kv_s0 L xs)) b k = 0 := fun b k hb h => by rw [kv_i_ops, h]; exact s0_i L xs hb k
  refine ⟨JS.init L xs, ?_, fun k hk => rd _ _ _ (by decide) (i13 k hk), ?_, ?_, ?_, ?_⟩
  · refine JK.low (σ := kv_s0 L xs) ?_ (kv_ops_low _ _ kv_OPS_lo)
    refine ⟨rfl, rfl, rfl, rfl, rfl, rfl, fun j => rfl, fun a j ha hb => ?_⟩
    show (if a = 6 then xs j else (kv_ki a).getD j 0) = _
    rw [if_neg (by omega)]
  · exact ⟨0, by decide, rd _ _ _ (by decide) i1, rn _ _ (by decide) i3, fun f hf => absurd hf (by omega)⟩
  · exact ⟨0, by decide, rd _ _ _ (by decide) i2, rn _ _ (by decide) i4, fun f hf => absurd hf (by omega)⟩
  · exact ⟨0, by decide, rd _ _ _ (by decide) i5, rn _ _ (by decide) i7, by rw [rd _ _ _ (by decide) i6, rn _ _ (by decide) i8], fun f hf => absurd hf (by omega)⟩
  · refine ⟨⟨0, by decide, rd _ _ _ (by decide) i9, rn _ _ (by decide) i10, fun f hf => absurd hf (by omega)⟩, ?_, Or.inl (rd _ _ _ (by decide) i11)⟩
    rw [rd _ _ _ (by decide) i11, rd _ _ _ (by decide) i12]
theorem JJ.base {σ : kv_S} (h : JJ σ) : kv_n σ = 176 ∧ kv_sh σ 8 = (8, 11) ∧ kv_sh σ 149 = (9, 47) := ⟨h.1.1, s_8 h.1, s_149 h.1⟩
theorem JJ.room {σ : kv_S} (h : JJ σ) : kv_z σ ≤ 7302250 := by rw [h.1.2.1]; exact Nat.le_trans kv_OPS_n.2 (by decide)
theorem oN_toInt {n : Nat} (h : n < 2 ^ 31) : (Int32.ofNat n).toInt = (n : Int) := nI_toInt (n := n) h
/-- promise 13: letters -/
theorem o_11 (d : Nat) : ob_11 JJ d := by
  intro σ h
  rw [m_letters_c h.1]
  refine ⟨_, rfl, ?_⟩
  rw [m_letters_m h.1]
  obtain ⟨S, -, -, -, e, -⟩ := h.2.2.2.2.2.1
  exact ⟨by rw [e], h⟩
/-- promise 12: summed -/
theorem o_10 (d : Nat) : ob_10 JJ d := by
  intro σ h p
  obtain ⟨S, hS, e1, e2, e3, e4⟩ := h.2.2.2.2.2.1
  have key : ∀ k, ¬ p < 0 → p < Int32.ofNat S → k = p.toNatClampNeg → k < S := by
    intro k h1 h2 hk
    have h2' := (Int32.lt_iff_toInt_lt).mp h2
    rw [oN_toInt (n := S) (by omega)] at h2'
    have h1' : 0 ≤ p.toInt := by
      have := mt (Int32.lt_iff_toInt_lt).mpr h1
      simpa using this
    rw [hk, Int32.toNatClampNeg]
    omega
  rw [m_summed_c h.1 p (fun k h1 h2 hk => by rw [e1] at h2; have := key k h1 h2 hk; omega)]
  refine ⟨_, rfl, ?_⟩
  rw [m_summed_m h.1 p (fun k h1 h2 hk => by rw [e2] at h2; have := key k h1 h2 hk; omega)]
  refine ⟨?_, h⟩
  rw [e1, e2]
  by_cases hc : ¬ p < 0 ∧ p < Int32.ofNat S
  · rw [if_pos hc, if_pos hc, e4 _ (key _ hc.1 hc.2 rfl)]
  · rw [if_neg hc, if_neg hc]

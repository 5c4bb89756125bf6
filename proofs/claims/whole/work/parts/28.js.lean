/-! ===== the structure behind the constructors ===== -/
def kv_SH (b : Nat) : Nat × Nat := (kv_osh 0 kv_OPS b).getD (99, 0)
def kv_RF (b k : Nat) : Option Nat := kv_or kv_OPS b k
/-- kinds and references as the constructors left them -/
def JS (σ : kv_S) : Prop := kv_n σ = 176 ∧ kv_z σ = kv_oz kv_OPS ∧ (∀ b, 8 ≤ b → kv_sh σ b = kv_SH b) ∧ ∀ b k, 8 ≤ b → kv_r σ b k = kv_RF b k
theorem JS.init (L : Nat) (xs : Nat → Int32) : JS (kv_ops kv_OPS (kv_s0 L xs)) := by
  refine ⟨?_, ?_, fun b hb => ?_, fun b k hb => ?_⟩
  · rw [kv_n_ops, s0_n, kv_OPS_n.1]
  · rw [kv_z_ops]; exact Nat.zero_add _
  · rw [kv_sh_ops, s0_n]
    have e : kv_sh (kv_s0 L xs) b = (99, 0) := by
      unfold kv_sh kv_s0
      dsimp only
      split <;> first | omega | rfl
    rw [e]
    rfl
  · rw [kv_r_ops]
    unfold kv_RF
    cases kv_or kv_OPS b k <;> rfl
/-- writes of ints and longs leave it -/
theorem JS.of {σ τ : kv_S} (h : JS σ) (h1 : τ.1 = σ.1) (h2 : kv_r τ = kv_r σ) : JS τ := by
  refine ⟨?_, ?_, fun b hb => ?_, fun b k hb => ?_⟩
  · unfold kv_n; rw [h1]; exact h.1
  · unfold kv_z; rw [h1]; exact h.2.1
  · unfold kv_sh; rw [h1]; exact h.2.2.1 b hb
  · rw [h2]; exact h.2.2.2 b k hb
theorem JS.si {σ : kv_S} (h : JS σ) (a k : Nat) (x : Int32) : JS (kv_si σ a k x) := h.of rfl rfl
theorem JS.sl {σ : kv_S} (h : JS σ) (a k : Nat) (x : Int64) : JS (kv_sl σ a k x) := h.of rfl rfl
theorem s_8 {σ : kv_S} (h : JS σ) : kv_sh σ 8 = (8, 11) := (h.2.2.1 8 (by decide)).trans (by decide +kernel)
theorem s_9 {σ : kv_S} (h : JS σ) : kv_sh σ 9 = (14, 16) := (h.2.2.1 9 (by decide)).trans (by decide +kernel)
theorem s_10 {σ : kv_S} (h : JS σ) : kv_sh σ 10 = (15, 8) := (h.2.2.1 10 (by decide)).trans (by decide +kernel)
theorem s_11 {σ : kv_S} (h : JS σ) : kv_sh σ 11 = (3, 3) := (h.2.2.1 11 (by decide)).trans (by decide +kernel)
theorem s_12 {σ : kv_S} (h : JS σ) : kv_sh σ 12 = (10, 243) := (h.2.2.1 12 (by decide)).trans (by decide +kernel)
theorem s_13 {σ : kv_S} (h : JS σ) : kv_sh σ 13 = (10, 243) := (h.2.2.1 13 (by decide)).trans (by decide +kernel)
theorem s_14 {σ : kv_S} (h : JS σ) : kv_sh σ 14 = (1, 12) := (h.2.2.1 14 (by decide)).trans (by decide +kernel)
theorem s_15 {σ : kv_S} (h : JS σ) : kv_sh σ 15 = (10, 40) := (h.2.2.1 15 (by decide)).trans (by decide +kernel)
theorem s_16 {σ : kv_S} (h : JS σ) : kv_sh σ 16 = (10, 40) := (h.2.2.1 16 (by decide)).trans (by decide +kernel)
theorem s_17 {σ : kv_S} (h : JS σ) : kv_sh σ 17 = (10, 40) := (h.2.2.1 17 (by decide)).trans (by decide +kernel)
theorem s_18 {σ : kv_S} (h : JS σ) : kv_sh σ 18 = (10, 40) := (h.2.2.1 18 (by decide)).trans (by decide +kernel)
theorem s_19 {σ : kv_S} (h : JS σ) : kv_sh σ 19 = (11, 40) := (h.2.2.1 19 (by decide)).trans (by decide +kernel)
theorem s_20 {σ : kv_S} (h : JS σ) : kv_sh σ 20 = (11, 40) := (h.2.2.1 20 (by decide)).trans (by decide +kernel)
theorem s_21 {σ : kv_S} (h : JS σ) : kv_sh σ 21 = (11, 32) := (h.2.2.1 21 (by decide)).trans (by decide +kernel)
theorem s_22 {σ : kv_S} (h : JS σ) : kv_sh σ 22 = (0, 3) := (h.2.2.1 22 (by decide)).trans (by decide +kernel)
theorem s_23 {σ : kv_S} (h : JS σ) : kv_sh σ 23 = (11, 64) := (h.2.2.1 23 (by decide)).trans (by decide +kernel)
theorem s_24 {σ : kv_S} (h : JS σ) : kv_sh σ 24 = (10, 64) := (h.2.2.1 24 (by decide)).trans (by decide +kernel)
theorem s_25 {σ : kv_S} (h : JS σ) : kv_sh σ 25 = (10, 64) := (h.2.2.1 25 (by decide)).trans (by decide +kernel)
theorem s_26 {σ : kv_S} (h : JS σ) : kv_sh σ 26 = (7, 2) := (h.2.2.1 26 (by decide)).trans (by decide +kernel)
theorem s_27 {σ : kv_S} (h : JS σ) : kv_sh σ 27 = (11, 200) := (h.2.2.1 27 (by decide)).trans (by decide +kernel)
theorem s_28 {σ : kv_S} (h : JS σ) : kv_sh σ 28 = (7, 2) := (h.2.2.1 28 (by decide)).trans (by decide +kernel)
theorem s_29 {σ : kv_S} (h : JS σ) : kv_sh σ 29 = (11, 200) := (h.2.2.1 29 (by decide)).trans (by decide +kernel)
theorem s_30 {σ : kv_S} (h : JS σ) : kv_sh σ 30 = (6, 2) := (h.2.2.1 30 (by decide)).trans (by decide +kernel)
theorem s_31 {σ : kv_S} (h : JS σ) : kv_sh σ 31 = (11, 200) := (h.2.2.1 31 (by decide)).trans (by decide +kernel)
theorem s_32 {σ : kv_S} (h : JS σ) : kv_sh σ 32 = (4, 6) := (h.2.2.1 32 (by decide)).trans (by decide +kernel)
theorem s_33 {σ : kv_S} (h : JS σ) : kv_sh σ 33 = (10, 1800) := (h.2.2.1 33 (by decide)).trans (by decide +kernel)
theorem s_34 {σ : kv_S} (h : JS σ) : kv_sh σ 34 = (10, 40) := (h.2.2.1 34 (by decide)).trans (by decide +kernel)
theorem s_35 {σ : kv_S} (h : JS σ) : kv_sh σ 35 = (10, 40) := (h.2.2.1 35 (by decide)).trans (by decide +kernel)
theorem s_36 {σ : kv_S} (h : JS σ) : kv_sh σ 36 = (10, 6) := (h.2.2.1 36 (by decide)).trans (by decide +kernel)
theorem s_149 {σ : kv_S} (h : JS σ) : kv_sh σ 149 = (9, 47) := (h.2.2.1 149 (by decide)).trans (by decide +kernel)
theorem s_150 {σ : kv_S} (h : JS σ) : kv_sh σ 150 = (10, 16) := (h.2.2.1 150 (by decide)).trans (by decide +kernel)
theorem s_151 {σ : kv_S} (h : JS σ) : kv_sh σ 151 = (13, 4096) := (h.2.2.1 151 (by decide)).trans (by decide +kernel)
theorem s_152 {σ : kv_S} (h : JS σ) : kv_sh σ 152 = (10, 512) := (h.2.2.1 152 (by decide)).trans (by decide +kernel)
theorem s_153 {σ : kv_S} (h : JS σ) : kv_sh σ 153 = (10, 9) := (h.2.2.1 153 (by decide)).trans (by decide +kernel)
theorem s_154 {σ : kv_S} (h : JS σ) : kv_sh σ 154 = (12, 6561) := (h.2.2.1 154 (by decide)).trans (by decide +kernel)
theorem s_155 {σ : kv_S} (h : JS σ) : kv_sh σ 155 = (10, 6561) := (h.2.2.1 155 (by decide)).trans (by decide +kernel)
theorem s_156 {σ : kv_S} (h : JS σ) : kv_sh σ 156 = (10, 40) := (h.2.2.1 156 (by decide)).trans (by decide +kernel)
theorem s_157 {σ : kv_S} (h : JS σ) : kv_sh σ 157 = (10, 40) := (h.2.2.1 157 (by decide)).trans (by decide +kernel)
theorem s_158 {σ : kv_S} (h : JS σ) : kv_sh σ 158 = (10, 40) := (h.2.2.1 158 (by decide)).trans (by decide +kernel)
theorem s_159 {σ : kv_S} (h : JS σ) : kv_sh σ 159 = (10, 40) := (h.2.2.1 159 (by decide)).trans (by decide +kernel)
theorem s_160 {σ : kv_S} (h : JS σ) : kv_sh σ 160 = (10, 40) := (h.2.2.1 160 (by decide)).trans (by decide +kernel)
theorem s_161 {σ : kv_S} (h : JS σ) : kv_sh σ 161 = (10, 243) := (h.2.2.1 161 (by decide)).trans (by decide +kernel)
theorem s_162 {σ : kv_S} (h : JS σ) : kv_sh σ 162 = (10, 32) := (h.2.2.1 162 (by decide)).trans (by decide +kernel)
theorem s_163 {σ : kv_S} (h : JS σ) : kv_sh σ 163 = (10, 41) := (h.2.2.1 163 (by decide)).trans (by decide +kernel)
theorem s_164 {σ : kv_S} (h : JS σ) : kv_sh σ 164 = (10, 41) := (h.2.2.1 164 (by decide)).trans (by decide +kernel)
theorem s_165 {σ : kv_S} (h : JS σ) : kv_sh σ 165 = (10, 8) := (h.2.2.1 165 (by decide)).trans (by decide +kernel)
theorem s_166 {σ : kv_S} (h : JS σ) : kv_sh σ 166 = (12, 8) := (h.2.2.1 166 (by decide)).trans (by decide +kernel)
theorem s_167 {σ : kv_S} (h : JS σ) : kv_sh σ 167 = (11, 64) := (h.2.2.1 167 (by decide)).trans (by decide +kernel)
theorem s_168 {σ : kv_S} (h : JS σ) : kv_sh σ 168 = (10, 8) := (h.2.2.1 168 (by decide)).trans (by decide +kernel)
theorem s_169 {σ : kv_S} (h : JS σ) : kv_sh σ 169 = (10, 8) := (h.2.2.1 169 (by decide)).trans (by decide +kernel)
theorem s_170 {σ : kv_S} (h : JS σ) : kv_sh σ 170 = (10, 320) := (h.2.2.1 170 (by decide)).trans (by decide +kernel)
theorem s_171 {σ : kv_S} (h : JS σ) : kv_sh σ 171 = (10, 320) := (h.2.2.1 171 (by decide)).trans (by decide +kernel)
theorem s_172 {σ : kv_S} (h : JS σ) : kv_sh σ 172 = (10, 320) := (h.2.2.1 172 (by decide)).trans (by decide +kernel)
theorem s_173 {σ : kv_S} (h : JS σ) : kv_sh σ 173 = (12, 320) := (h.2.2.1 173 (by decide)).trans (by decide +kernel)
theorem s_174 {σ : kv_S} (h : JS σ) : kv_sh σ 174 = (10, 48) := (h.2.2.1 174 (by decide)).trans (by decide +kernel)
theorem s_175 {σ : kv_S} (h : JS σ) : kv_sh σ 175 = (10, 4000) := (h.2.2.1 175 (by decide)).trans (by decide +kernel)
theorem s_176 {σ : kv_S} (h : JS σ) : kv_sh σ 176 = (10, 4000) := (h.2.2.1 176 (by decide)).trans (by decide +kernel)
theorem s_177 {σ : kv_S} (h : JS σ) : kv_sh σ 177 = (10, 4000) := (h.2.2.1 177 (by decide)).trans (by decide +kernel)
theorem s_178 {σ : kv_S} (h : JS σ) : kv_sh σ 178 = (10, 40) := (h.2.2.1 178 (by decide)).trans (by decide +kernel)
theorem s_179 {σ : kv_S} (h : JS σ) : kv_sh σ 179 = (10, 40) := (h.2.2.1 179 (by decide)).trans (by decide +kernel)
theorem s_180 {σ : kv_S} (h : JS σ) : kv_sh σ 180 = (10, 6) := (h.2.2.1 180 (by decide)).trans (by decide +kernel)
theorem s_181 {σ : kv_S} (h : JS σ) : kv_sh σ 181 = (10, 40) := (h.2.2.1 181 (by decide)).trans (by decide +kernel)
theorem s_182 {σ : kv_S} (h : JS σ) : kv_sh σ 182 = (10, 6) := (h.2.2.1 182 (by decide)).trans (by decide +kernel)
theorem s_183 {σ : kv_S} (h : JS σ) : kv_sh σ 183 = (12, 40) := (h.2.2.1 183 (by decide)).trans (by decide +kernel)
theorem r_8_0 {σ : kv_S} (h : JS σ) : kv_r σ 8 0 = some 9 := (h.2.2.2 8 0 (by decide)).trans (by decide +kernel)
theorem r_8_1 {σ : kv_S} (h : JS σ) : kv_r σ 8 1 = some 10 := (h.2.2.2 8 1 (by decide)).trans (by decide +kernel)
theorem r_8_2 {σ : kv_S} (h : JS σ) : kv_r σ 8 2 = some 11 := (h.2.2.2 8 2 (by decide)).trans (by decide +kernel)
theorem r_8_3 {σ : kv_S} (h : JS σ) : kv_r σ 8 3 = some 14 := (h.2.2.2 8 3 (by decide)).trans (by decide +kernel)
theorem r_8_4 {σ : kv_S} (h : JS σ) : kv_r σ 8 4 = some 22 := (h.2.2.2 8 4 (by decide)).trans (by decide +kernel)
theorem r_8_5 {σ : kv_S} (h : JS σ) : kv_r σ 8 5 = some 26 := (h.2.2.2 8 5 (by decide)).trans (by decide +kernel)
theorem r_8_6 {σ : kv_S} (h : JS σ) : kv_r σ 8 6 = some 28 := (h.2.2.2 8 6 (by decide)).trans (by decide +kernel)
theorem r_8_7 {σ : kv_S} (h : JS σ) : kv_r σ 8 7 = some 30 := (h.2.2.2 8 7 (by decide)).trans (by decide +kernel)
theorem r_8_8 {σ : kv_S} (h : JS σ) : kv_r σ 8 8 = some 32 := (h.2.2.2 8 8 (by decide)).trans (by decide +kernel)
theorem r_11_0 {σ : kv_S} (h : JS σ) : kv_r σ 11 0 = some 12 := (h.2.2.2 11 0 (by decide)).trans (by decide +kernel)
theorem r_11_1 {σ : kv_S} (h : JS σ) : kv_r σ 11 1 = some 13 := (h.2.2.2 11 1 (by decide)).trans (by decide +kernel)
theorem r_14_0 {σ : kv_S} (h : JS σ) : kv_r σ 14 0 = some 15 := (h.2.2.2 14 0 (by decide)).trans (by decide +kernel)
theorem r_14_3 {σ : kv_S} (h : JS σ) : kv_r σ 14 3 = some 16 := (h.2.2.2 14 3 (by decide)).trans (by decide +kernel)
theorem r_14_4 {σ : kv_S} (h : JS σ) : kv_r σ 14 4 = some 17 := (h.2.2.2 14 4 (by decide)).trans (by decide +kernel)
theorem r_14_5 {σ : kv_S} (h : JS σ) : kv_r σ 14 5 = some 18 := (h.2.2.2 14 5 (by decide)).trans (by decide +kernel)
theorem r_14_6 {σ : kv_S} (h : JS σ) : kv_r σ 14 6 = some 19 := (h.2.2.2 14 6 (by decide)).trans (by decide +kernel)
theorem r_14_7 {σ : kv_S} (h : JS σ) : kv_r σ 14 7 = some 20 := (h.2.2.2 14 7 (by decide)).trans (by decide +kernel)
theorem r_14_8 {σ : kv_S} (h : JS σ) : kv_r σ 14 8 = some 21 := (h.2.2.2 14 8 (by decide)).trans (by decide +kernel)
theorem r_22_0 {σ : kv_S} (h : JS σ) : kv_r σ 22 0 = some 23 := (h.2.2.2 22 0 (by decide)).trans (by decide +kernel)
theorem r_22_1 {σ : kv_S} (h : JS σ) : kv_r σ 22 1 = some 24 := (h.2.2.2 22 1 (by decide)).trans (by decide +kernel)
theorem r_22_2 {σ : kv_S} (h : JS σ) : kv_r σ 22 2 = some 25 := (h.2.2.2 22 2 (by decide)).trans (by decide +kernel)
theorem r_26_0 {σ : kv_S} (h : JS σ) : kv_r σ 26 0 = some 27 := (h.2.2.2 26 0 (by decide)).trans (by decide +kernel)
theorem r_28_0 {σ : kv_S} (h : JS σ) : kv_r σ 28 0 = some 29 := (h.2.2.2 28 0 (by decide)).trans (by decide +kernel)
theorem r_30_0 {σ : kv_S} (h : JS σ) : kv_r σ 30 0 = some 31 := (h.2.2.2 30 0 (by decide)).trans (by decide +kernel)
theorem r_32_0 {σ : kv_S} (h : JS σ) : kv_r σ 32 0 = some 33 := (h.2.2.2 32 0 (by decide)).trans (by decide +kernel)
theorem r_32_1 {σ : kv_S} (h : JS σ) : kv_r σ 32 1 = some 34 := (h.2.2.2 32 1 (by decide)).trans (by decide +kernel)
theorem r_32_2 {σ : kv_S} (h : JS σ) : kv_r σ 32 2 = some 35 := (h.2.2.2 32 2 (by decide)).trans (by decide +kernel)
theorem r_32_3 {σ : kv_S} (h : JS σ) : kv_r σ 32 3 = some 36 := (h.2.2.2 32 3 (by decide)).trans (by decide +kernel)
theorem r_149_2 {σ : kv_S} (h : JS σ) : kv_r σ 149 2 = some 150 := (h.2.2.2 149 2 (by decide)).trans (by decide +kernel)
theorem r_149_3 {σ : kv_S} (h : JS σ) : kv_r σ 149 3 = some 151 := (h.2.2.2 149 3 (by decide)).trans (by decide +kernel)
theorem r_149_4 {σ : kv_S} (h : JS σ) : kv_r σ 149 4 = some 152 := (h.2.2.2 149 4 (by decide)).trans (by decide +kernel)
theorem r_149_5 {σ : kv_S} (h : JS σ) : kv_r σ 149 5 = some 153 := (h.2.2.2 149 5 (by decide)).trans (by decide +kernel)
theorem r_149_6 {σ : kv_S} (h : JS σ) : kv_r σ 149 6 = some 154 := (h.2.2.2 149 6 (by decide)).trans (by decide +kernel)
theorem r_149_8 {σ : kv_S} (h : JS σ) : kv_r σ 149 8 = some 155 := (h.2.2.2 149 8 (by decide)).trans (by decide +kernel)
theorem r_149_9 {σ : kv_S} (h : JS σ) : kv_r σ 149 9 = some 156 := (h.2.2.2 149 9 (by decide)).trans (by decide +kernel)
theorem r_149_10 {σ : kv_S} (h : JS σ) : kv_r σ 149 10 = some 157 := (h.2.2.2 149 10 (by decide)).trans (by decide +kernel)
theorem r_149_11 {σ : kv_S} (h : JS σ) : kv_r σ 149 11 = some 158 := (h.2.2.2 149 11 (by decide)).trans (by decide +kernel)
theorem r_149_13 {σ : kv_S} (h : JS σ) : kv_r σ 149 13 = some 159 := (h.2.2.2 149 13 (by decide)).trans (by decide +kernel)
theorem r_149_18 {σ : kv_S} (h : JS σ) : kv_r σ 149 18 = some 160 := (h.2.2.2 149 18 (by decide)).trans (by decide +kernel)
theorem r_149_19 {σ : kv_S} (h : JS σ) : kv_r σ 149 19 = some 161 := (h.2.2.2 149 19 (by decide)).trans (by decide +kernel)
theorem r_149_20 {σ : kv_S} (h : JS σ) : kv_r σ 149 20 = some 162 := (h.2.2.2 149 20 (by decide)).trans (by decide +kernel)
theorem r_149_21 {σ : kv_S} (h : JS σ) : kv_r σ 149 21 = some 163 := (h.2.2.2 149 21 (by decide)).trans (by decide +kernel)
theorem r_149_22 {σ : kv_S} (h : JS σ) : kv_r σ 149 22 = some 164 := (h.2.2.2 149 22 (by decide)).trans (by decide +kernel)
theorem r_149_23 {σ : kv_S} (h : JS σ) : kv_r σ 149 23 = some 165 := (h.2.2.2 149 23 (by decide)).trans (by decide +kernel)
theorem r_149_24 {σ : kv_S} (h : JS σ) : kv_r σ 149 24 = some 166 := (h.2.2.2 149 24 (by decide)).trans (by decide +kernel)
theorem r_149_25 {σ : kv_S} (h : JS σ) : kv_r σ 149 25 = some 167 := (h.2.2.2 149 25 (by decide)).trans (by decide +kernel)
theorem r_149_27 {σ : kv_S} (h : JS σ) : kv_r σ 149 27 = some 168 := (h.2.2.2 149 27 (by decide)).trans (by decide +kernel)
theorem r_149_28 {σ : kv_S} (h : JS σ) : kv_r σ 149 28 = some 169 := (h.2.2.2 149 28 (by decide)).trans (by decide +kernel)
theorem r_149_29 {σ : kv_S} (h : JS σ) : kv_r σ 149 29 = some 170 := (h.2.2.2 149 29 (by decide)).trans (by decide +kernel)
theorem r_149_30 {σ : kv_S} (h : JS σ) : kv_r σ 149 30 = some 171 := (h.2.2.2 149 30 (by decide)).trans (by decide +kernel)
theorem r_149_31 {σ : kv_S} (h : JS σ) : kv_r σ 149 31 = some 172 := (h.2.2.2 149 31 (by decide)).trans (by decide +kernel)
theorem r_149_32 {σ : kv_S} (h : JS σ) : kv_r σ 149 32 = some 173 := (h.2.2.2 149 32 (by decide)).trans (by decide +kernel)
theorem r_149_33 {σ : kv_S} (h : JS σ) : kv_r σ 149 33 = some 174 := (h.2.2.2 149 33 (by decide)).trans (by decide +kernel)
theorem r_149_36 {σ : kv_S} (h : JS σ) : kv_r σ 149 36 = some 175 := (h.2.2.2 149 36 (by decide)).trans (by decide +kernel)
theorem r_149_37 {σ : kv_S} (h : JS σ) : kv_r σ 149 37 = some 176 := (h.2.2.2 149 37 (by decide)).trans (by decide +kernel)
theorem r_149_38 {σ : kv_S} (h : JS σ) : kv_r σ 149 38 = some 177 := (h.2.2.2 149 38 (by decide)).trans (by decide +kernel)
theorem r_149_39 {σ : kv_S} (h : JS σ) : kv_r σ 149 39 = some 178 := (h.2.2.2 149 39 (by decide)).trans (by decide +kernel)
theorem r_149_40 {σ : kv_S} (h : JS σ) : kv_r σ 149 40 = some 179 := (h.2.2.2 149 40 (by decide)).trans (by decide +kernel)
theorem r_149_41 {σ : kv_S} (h : JS σ) : kv_r σ 149 41 = some 180 := (h.2.2.2 149 41 (by decide)).trans (by decide +kernel)
theorem r_149_42 {σ : kv_S} (h : JS σ) : kv_r σ 149 42 = some 181 := (h.2.2.2 149 42 (by decide)).trans (by decide +kernel)
theorem r_149_43 {σ : kv_S} (h : JS σ) : kv_r σ 149 43 = some 182 := (h.2.2.2 149 43 (by decide)).trans (by decide +kernel)
theorem r_149_46 {σ : kv_S} (h : JS σ) : kv_r σ 149 46 = some 183 := (h.2.2.2 149 46 (by decide)).trans (by decide +kernel)
theorem kv_SH_T : ∀ f, f < 16 → kv_SH (37 + 4 * f) = (5, 4) ∧ kv_SH (38 + 4 * f) = (10, 32) ∧ kv_SH (39 + 4 * f) = (10, 32) ∧ kv_SH (40 + 4 * f) = (10, 32) ∧ kv_RF 9 f = some (37 + 4 * f) ∧ kv_RF (37 + 4 * f) 0 = some (38 + 4 * f) ∧ kv_RF (37 + 4 * f) 1 = some (39 + 4 * f) ∧ kv_RF (37 + 4 * f) 2 = some (40 + 4 * f) := by decide +kernel
theorem kv_SH_N : ∀ f, f < 8 → kv_SH (101 + 6 * f) = (2, 7) ∧ kv_SH (102 + 6 * f) = (10, 40) ∧ kv_SH (103 + 6 * f) = (10, 40) ∧ kv_SH (104 + 6 * f) = (10, 40) ∧ kv_SH (105 + 6 * f) = (12, 40) ∧ kv_SH (106 + 6 * f) = (10, 6) ∧ kv_RF 10 f = some (101 + 6 * f) ∧ kv_RF (101 + 6 * f) 0 = some (102 + 6 * f) ∧ kv_RF (101 + 6 * f) 1 = some (103 + 6 * f) ∧ kv_RF (101 + 6 * f) 2 = some (104 + 6 * f) ∧ kv_RF (101 + 6 * f) 3 = some (105 + 6 * f) ∧ kv_RF (101 + 6 * f) 4 = some (106 + 6 * f) := by decide +kernel
theorem sT {σ : kv_S} (h : JS σ) {f : Nat} (hf : f < 16) : kv_sh σ (37 + 4 * f) = (5, 4) := (h.2.2.1 _ (by omega)).trans (kv_SH_T f hf).1
theorem sO {σ : kv_S} (h : JS σ) {f : Nat} (hf : f < 16) : kv_sh σ (38 + 4 * f) = (10, 32) := (h.2.2.1 _ (by omega)).trans (kv_SH_T f hf).2.1
theorem sF {σ : kv_S} (h : JS σ) {f : Nat} (hf : f < 16) : kv_sh σ (39 + 4 * f) = (10, 32) := (h.2.2.1 _ (by omega)).trans (kv_SH_T f hf).2.2.1
theorem sL {σ : kv_S} (h : JS σ) {f : Nat} (hf : f < 16) : kv_sh σ (40 + 4 * f) = (10, 32) := (h.2.2.1 _ (by omega)).trans (kv_SH_T f hf).2.2.2.1
theorem rT {σ : kv_S} (h : JS σ) {f : Nat} (hf : f < 16) : kv_r σ 9 f = some (37 + 4 * f) := (h.2.2.2 _ _ (by omega)).trans (kv_SH_T f hf).2.2.2.2.1
theorem rO {σ : kv_S} (h : JS σ) {f : Nat} (hf : f < 16) : kv_r σ (37 + 4 * f) 0 = some (38 + 4 * f) := (h.2.2.2 _ _ (by omega)).trans (kv_SH_T f hf).2.2.2.2.2.1
theorem rF {σ : kv_S} (h : JS σ) {f : Nat} (hf : f < 16) : kv_r σ (37 + 4 * f) 1 = some (39 + 4 * f) := (h.2.2.2 _ _ (by omega)).trans (kv_SH_T f hf).2.2.2.2.2.2.1
theorem rL {σ : kv_S} (h : JS σ) {f : Nat} (hf : f < 16) : kv_r σ (37 + 4 * f) 2 = some (40 + 4 * f) := (h.2.2.2 _ _ (by omega)).trans (kv_SH_T f hf).2.2.2.2.2.2.2
theorem nN {σ : kv_S} (h : JS σ) {f : Nat} (hf : f < 8) : kv_sh σ (101 + 6 * f) = (2, 7) := (h.2.2.1 _ (by omega)).trans (kv_SH_N f hf).1
theorem nT {σ : kv_S} (h : JS σ) {f : Nat} (hf : f < 8) : kv_sh σ (102 + 6 * f) = (10, 40) := (h.2.2.1 _ (by omega)).trans (kv_SH_N f hf).2.1
theorem nX {σ : kv_S} (h : JS σ) {f : Nat} (hf : f < 8) : kv_sh σ (103 + 6 * f) = (10, 40) := (h.2.2.1 _ (by omega)).trans (kv_SH_N f hf).2.2.1
theorem nY {σ : kv_S} (h : JS σ) {f : Nat} (hf : f < 8) : kv_sh σ (104 + 6 * f) = (10, 40) := (h.2.2.1 _ (by omega)).trans (kv_SH_N f hf).2.2.2.1
theorem nK {σ : kv_S} (h : JS σ) {f : Nat} (hf : f < 8) : kv_sh σ (105 + 6 * f) = (12, 40) := (h.2.2.1 _ (by omega)).trans (kv_SH_N f hf).2.2.2.2.1
theorem nO {σ : kv_S} (h : JS σ) {f : Nat} (hf : f < 8) : kv_sh σ (106 + 6 * f) = (10, 6) := (h.2.2.1 _ (by omega)).trans (kv_SH_N f hf).2.2.2.2.2.1
theorem qN {σ : kv_S} (h : JS σ) {f : Nat} (hf : f < 8) : kv_r σ 10 f = some (101 + 6 * f) := (h.2.2.2 _ _ (by omega)).trans (kv_SH_N f hf).2.2.2.2.2.2.1
theorem qT {σ : kv_S} (h : JS σ) {f : Nat} (hf : f < 8) : kv_r σ (101 + 6 * f) 0 = some (102 + 6 * f) := (h.2.2.2 _ _ (by omega)).trans (kv_SH_N f hf).2.2.2.2.2.2.2.1
theorem qX {σ : kv_S} (h : JS σ) {f : Nat} (hf : f < 8) : kv_r σ (101 + 6 * f) 1 = some (103 + 6 * f) := (h.2.2.2 _ _ (by omega)).trans (kv_SH_N f hf).2.2.2.2.2.2.2.2.1
theorem qY {σ : kv_S} (h : JS σ) {f : Nat} (hf : f < 8) : kv_r σ (101 + 6 * f) 2 = some (104 + 6 * f) := (h.2.2.2 _ _ (by omega)).trans (kv_SH_N f hf).2.2.2.2.2.2.2.2.2.1
theorem qK {σ : kv_S} (h : JS σ) {f : Nat} (hf : f < 8) : kv_r σ (101 + 6 * f) 3 = some (105 + 6 * f) := (h.2.2.2 _ _ (by omega)).trans (kv_SH_N f hf).2.2.2.2.2.2.2.2.2.2.1
theorem qO {σ : kv_S} (h : JS σ) {f : Nat} (hf : f < 8) : kv_r σ (101 + 6 * f) 4 = some (106 + 6 * f) := (h.2.2.2 _ _ (by omega)).trans (kv_SH_N f hf).2.2.2.2.2.2.2.2.2.2.2

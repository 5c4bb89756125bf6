/-! ===== reading a memory that was written ===== -/
section ST
variable (σ : kv_S) (a b k j t n : Nat) (x : Int32) (y : Int64) (z : Option Nat)
theorem n_si : kv_n (kv_si σ a k x) = kv_n σ := Eq.trans rfl rfl
theorem n_sl : kv_n (kv_sl σ a k y) = kv_n σ := Eq.trans rfl rfl
theorem n_sr : kv_n (kv_sr σ a k z) = kv_n σ := Eq.trans rfl rfl
theorem n_mk : kv_n (kv_mkc σ t n) = kv_n σ + 1 := Eq.trans rfl rfl
theorem sh_si : kv_sh (kv_si σ a k x) = kv_sh σ := Eq.trans rfl rfl
theorem sh_sl : kv_sh (kv_sl σ a k y) = kv_sh σ := Eq.trans rfl rfl
theorem sh_sr : kv_sh (kv_sr σ a k z) = kv_sh σ := Eq.trans rfl rfl
theorem sh_mk : kv_sh (kv_mkc σ t n) b = if b = 8 + kv_n σ then (t, n) else kv_sh σ b := Eq.trans rfl rfl
theorem i_si : kv_i (kv_si σ a k x) b j = if b = a ∧ j = k then x else kv_i σ b j := Eq.trans rfl rfl
theorem i_sl : kv_i (kv_sl σ a k y) = kv_i σ := Eq.trans rfl rfl
theorem i_sr : kv_i (kv_sr σ a k z) = kv_i σ := Eq.trans rfl rfl
theorem i_mk : kv_i (kv_mkc σ t n) = kv_i σ := Eq.trans rfl rfl
theorem l_si : kv_l (kv_si σ a k x) = kv_l σ := Eq.trans rfl rfl
theorem l_sl : kv_l (kv_sl σ a k y) b j = if b = a ∧ j = k then y else kv_l σ b j := Eq.trans rfl rfl
theorem l_sr : kv_l (kv_sr σ a k z) = kv_l σ := Eq.trans rfl rfl
theorem l_mk : kv_l (kv_mkc σ t n) = kv_l σ := Eq.trans rfl rfl
theorem r_si : kv_r (kv_si σ a k x) = kv_r σ := Eq.trans rfl rfl
theorem r_sl : kv_r (kv_sl σ a k y) = kv_r σ := Eq.trans rfl rfl
theorem r_sr : kv_r (kv_sr σ a k z) b j = if b = a ∧ j = k then z else kv_r σ b j := Eq.trans rfl rfl
theorem r_mk : kv_r (kv_mkc σ t n) = kv_r σ := Eq.trans rfl rfl
end ST
theorem Wc_eq (d M : Nat) (vs : List Value) (σ : kv_S) (Φ : Option Value → kv_S → Prop) : Wc d M vs σ Φ = Wp d M 0 (kv_ent M vs) [] σ Φ := Eq.trans rfl rfl
theorem Wp.low {d M pc : Nat} {ls st : List Value} {σ : kv_S} {Φ : Option Value → kv_S → Prop} (h : Wp d M pc ls st σ Φ) : Wp d M pc ls st σ (fun r τ => Φ r τ ∧ kv_gr σ τ) := by
  obtain ⟨n, r, τ, h1, h2⟩ := h
  exact ⟨n, r, τ, h1, h2, kv_ev_gr _ _ _ _ _ _ _ _ _ h1⟩
theorem Wc.low {d M : Nat} {vs : List Value} {σ : kv_S} {Φ : Option Value → kv_S → Prop} (h : Wc d M vs σ Φ) : Wc d M vs σ (fun r τ => Φ r τ ∧ kv_gr σ τ) := Wp.low h

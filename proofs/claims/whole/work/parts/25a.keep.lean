/-! ===== cells keep their kinds ===== -/
def kv_kp (σ τ : kv_S) : Prop := kv_gr σ τ ∧ ∀ b, b < 8 + kv_n σ → kv_sh τ b = kv_sh σ b
theorem kv_kp.rf (σ : kv_S) : kv_kp σ σ := ⟨kv_gr.rf σ, fun _ _ => rfl⟩
theorem kv_kp.tr {σ τ υ : kv_S} (h1 : kv_kp σ τ) (h2 : kv_kp τ υ) : kv_kp σ υ := ⟨h1.1.tr h2.1, fun b hb => (h2.2 b (by have := h1.1.1; omega)).trans (h1.2 b hb)⟩
theorem kv_kp.of {σ τ : kv_S} (hg : kv_gr σ τ) (h : τ.1 = σ.1) : kv_kp σ τ := ⟨hg, fun b _ => by unfold kv_sh; rw [h]⟩
theorem kv_mkc_kp (σ : kv_S) (t n : Nat) : kv_kp σ (kv_mkc σ t n) := ⟨kv_mkc_gr σ t n, fun b hb => by rw [sh_mk, if_neg (by omega)]⟩
theorem kv_na_kp {t : Nat} {st : List Value} {σ : kv_S} {w : List Value × kv_S} (hw : kv_na t st σ = some w) : kv_kp σ w.2 := by
  unfold kv_na at hw
  split at hw
  · split at hw
    · cases hw; exact kv_mkc_kp σ _ _
    · cases hw
  · cases hw
theorem kv_nw_kp {e : kv_E} {st : List Value} {σ : kv_S} {w : List Value × kv_S} (hw : kv_nw e st σ = some w) : kv_kp σ w.2 := by
  unfold kv_nw at hw
  split at hw
  · cases hw; exact kv_mkc_kp σ _ _
  · exact kv_na_kp hw
  · split at hw
    · exact kv_na_kp hw
    · split at hw
      · exact kv_na_kp hw
      · cases hw
  · cases hw
theorem kv_s1_kp {e : kv_E} {pc : Nat} {ls st : List Value} {σ : kv_S} {q : Nat × List Value × List Value × kv_S} (h : kv_s1 e pc ls st σ = some q) : kv_kp σ q.2.2.2 := by
  unfold kv_s1 at h
  split at h
  · cases h; exact kv_kp.rf σ
  split at h
  · cases h; exact kv_kp.rf σ
  split at h
  · cases h; exact kv_kp.rf σ
  split at h
  · cases h; exact kv_kp.rf σ
  split at h
  · cases h; exact kv_kp.rf σ
  split at h
  · rename_i w hw; cases h; exact kv_kp.of (kv_wr_gr hw) (kv_wr_n hw)
  split at h
  · rename_i w hw; cases h; exact kv_nw_kp hw
  · cases h
theorem kv_ev_kp : ∀ (n d M pc : Nat) (ls st : List Value) (σ : kv_S) (r : Option Value) (τ : kv_S), kv_ev n d M pc ls st σ = some (r, τ) → kv_kp σ τ := by
  intro n
  induction n with
  | zero => intro d M pc ls st σ r τ h; cases h
  | succ n ih =>
    intro d M pc ls st σ r τ h
    unfold kv_ev at h
    split at h
    · cases h
    split at h
    · cases h; exact kv_kp.rf σ
    split at h
    · rename_i q hq
      exact (kv_s1_kp hq).tr (ih _ _ _ _ _ _ _ _ h)
    split at h
    · cases h
    split at h
    · rename_i q hq
      exact (kv_kp.of (kv_int_gr hq) (kv_int_n hq)).tr (ih _ _ _ _ _ _ _ _ h)
    split at h
    · cases h
    split at h
    · cases h
    · rename_i w hw
      obtain ⟨w1, w2⟩ := w
      exact (ih _ _ _ _ _ _ _ _ hw).tr (ih _ _ _ _ _ _ _ _ h)
theorem Wc.keep {d M : Nat} {vs : List Value} {σ : kv_S} {Φ : Option Value → kv_S → Prop} (h : Wc d M vs σ Φ) : Wc d M vs σ (fun r τ => Φ r τ ∧ kv_kp σ τ) := by
  obtain ⟨n, r, τ, h1, h2⟩ := h
  exact ⟨n, r, τ, h1, h2, kv_ev_kp _ _ _ _ _ _ _ _ _ h1⟩

/-! ===== the pure part: what the evaluator does, as a calculus ===== -/
/-- from here the evaluator ends, and what comes out has Φ -/
def Wp (d M pc : Nat) (ls st : List Value) (σ : kv_S) (Φ : Option Value → kv_S → Prop) : Prop := ∃ (n : Nat) (r : Option Value) (τ : kv_S), kv_ev n d M pc ls st σ = some (r, τ) ∧ Φ r τ
def Wc (d M : Nat) (vs : List Value) (σ : kv_S) (Φ : Option Value → kv_S → Prop) : Prop := Wp d M 0 (kv_ent M vs) [] σ Φ
theorem Wp.mono {d M pc : Nat} {ls st : List Value} {σ : kv_S} {Φ Ψ : Option Value → kv_S → Prop} (h : Wp d M pc ls st σ Φ) (hi : ∀ r τ, Φ r τ → Ψ r τ) : Wp d M pc ls st σ Ψ := by
  obtain ⟨n, r, τ, h1, h2⟩ := h
  exact ⟨n, r, τ, h1, hi r τ h2⟩
theorem Wc.mono {d M : Nat} {vs : List Value} {σ : kv_S} {Φ Ψ : Option Value → kv_S → Prop} (h : Wc d M vs σ Φ) (hi : ∀ r τ, Φ r τ → Ψ r τ) : Wc d M vs σ Ψ := Wp.mono h hi
/-- more steps do no harm -/
theorem kv_ev_more : ∀ (n d M pc : Nat) (ls st : List Value) (σ : kv_S) (x : Option Value × kv_S), kv_ev n d M pc ls st σ = some x → kv_ev (n + 1) d M pc ls st σ = some x := by
  intro n
  induction n with
  | zero => intro d M pc ls st σ x h; cases h
  | succ n ih =>
    intro d M pc ls st σ x h
    unfold kv_ev at h ⊢
    cases hins : kv_ins M pc with
    | none => simp only [hins] at h; cases h
    | some E =>
      simp only [hins] at h ⊢
      cases hret : kv_ret M E st with
      | some r' => simp only [hret] at h ⊢; exact h
      | none =>
        simp only [hret] at h ⊢
        cases hs1 : kv_s1 E pc ls st σ with
        | some z => simp only [hs1] at h ⊢; exact ih _ _ _ _ _ _ _ h
        | none =>
          simp only [hs1] at h ⊢
          cases d with
          | zero => cases h
          | succ d =>
            dsimp only at h ⊢
            cases hint : kv_int E st σ with
            | some z => simp only [hint] at h ⊢; exact ih _ _ _ _ _ _ _ h
            | none =>
              simp only [hint] at h ⊢
              cases hcal : kv_cal E st σ with
              | none => simp only [hcal] at h; cases h
              | some z =>
                simp only [hcal] at h ⊢
                cases hw : kv_ev n d z.1 0 (kv_ent z.1 z.2.1) [] σ with
                | none => simp only [hw] at h; cases h
                | some w =>
                  simp only [hw] at h
                  rw [ih _ _ _ _ _ _ _ hw]
                  exact ih _ _ _ _ _ _ _ h
theorem kv_ev_le {n k d M pc : Nat} {ls st : List Value} {σ : kv_S} {x : Option Value × kv_S} (h : kv_ev n d M pc ls st σ = some x) (hk : n ≤ k) : kv_ev k d M pc ls st σ = some x := by
  induction hk with
  | refl => exact h
  | step _ ih => exact kv_ev_more _ _ _ _ _ _ _ _ ih
theorem wp_s1 {d M pc : Nat} {ls st : List Value} {σ : kv_S} {Φ : Option Value → kv_S → Prop} {e : kv_E} {q : Nat × List Value × List Value × kv_S} (h1 : kv_ins M pc = some e) (h2 : kv_ret M e st = none) (h3 : kv_s1 e pc ls st σ = some q) : Wp d M pc ls st σ Φ = Wp d M q.1 q.2.1 q.2.2.1 q.2.2.2 Φ := by
  apply propext
  constructor
  · rintro ⟨n, r, τ, h, hΦ⟩
    cases n with
    | zero => cases h
    | succ n =>
      unfold kv_ev at h
      simp only [h1, h2, h3] at h
      exact ⟨n, r, τ, h, hΦ⟩
  · rintro ⟨n, r, τ, h, hΦ⟩
    refine ⟨n + 1, r, τ, ?_, hΦ⟩
    unfold kv_ev
    simp only [h1, h2, h3]
    exact h
theorem wp_ret {d M pc : Nat} {ls st : List Value} {σ : kv_S} {Φ : Option Value → kv_S → Prop} {e : kv_E} {r : Option Value} (h1 : kv_ins M pc = some e) (h2 : kv_ret M e st = some r) : Wp d M pc ls st σ Φ = Φ r σ := by
  apply propext
  constructor
  · rintro ⟨n, r', τ, h, hΦ⟩
    cases n with
    | zero => cases h
    | succ n =>
      unfold kv_ev at h
      simp only [h1, h2] at h
      cases h
      exact hΦ
  · intro hΦ
    refine ⟨1, r, σ, ?_, hΦ⟩
    unfold kv_ev
    simp only [h1, h2]
theorem wp_int {d M pc : Nat} {ls st : List Value} {σ : kv_S} {Φ : Option Value → kv_S → Prop} {e : kv_E} {q : List Value × kv_S} (h1 : kv_ins M pc = some e) (h2 : kv_ret M e st = none) (h3 : kv_s1 e pc ls st σ = none) (h4 : kv_int e st σ = some q) : Wp (d + 1) M pc ls st σ Φ = Wp (d + 1) M (pc + 3) ls q.1 q.2 Φ := by
  apply propext
  constructor
  · rintro ⟨n, r, τ, h, hΦ⟩
    cases n with
    | zero => cases h
    | succ n =>
      unfold kv_ev at h
      simp only [h1, h2, h3, h4] at h
      exact ⟨n, r, τ, h, hΦ⟩
  · rintro ⟨n, r, τ, h, hΦ⟩
    refine ⟨n + 1, r, τ, ?_, hΦ⟩
    unfold kv_ev
    simp only [h1, h2, h3, h4]
    exact h
theorem wp_call {d M pc : Nat} {ls st : List Value} {σ : kv_S} {Φ : Option Value → kv_S → Prop} {e : kv_E} {q : Nat × List Value × List Value} (h1 : kv_ins M pc = some e) (h2 : kv_ret M e st = none) (h3 : kv_s1 e pc ls st σ = none) (h4 : kv_int e st σ = none) (h5 : kv_cal e st σ = some q) : Wp (d + 1) M pc ls st σ Φ = Wc d q.1 q.2.1 σ (fun r τ => Wp (d + 1) M (pc + 3) ls (r.toList ++ q.2.2) τ Φ) := by
  apply propext
  constructor
  · rintro ⟨n, r, τ, h, hΦ⟩
    cases n with
    | zero => cases h
    | succ n =>
      unfold kv_ev at h
      simp only [h1, h2, h3, h4, h5] at h
      split at h
      · cases h
      · rename_i w hw
        exact ⟨n, w.1, w.2, hw, n, r, τ, h, hΦ⟩
  · rintro ⟨n, r, τ, h, k, r2, τ2, hk, hΦ⟩
    refine ⟨max n k + 1, r2, τ2, ?_, hΦ⟩
    unfold kv_ev
    simp only [h1, h2, h3, h4, h5]
    rw [kv_ev_le h (Nat.le_max_left n k)]
    exact kv_ev_le hk (Nat.le_max_right n k)

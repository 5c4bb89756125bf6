/-! ===== which cells the invariant reads ===== -/
theorem JF1.cong {σ τ : kv_S} (h : ∀ b k, (37 ≤ b ∧ b < 101 ∨ 150 ≤ b ∧ b ≤ 152) → kv_i τ b k = kv_i σ b k) {f : Nat} (hf : f < 16) (H : JF1 σ f) : JF1 τ f := by
  have h0 : ∀ k, kv_i τ (37 + 4 * f) k = kv_i σ (37 + 4 * f) k := fun k => h _ k (Or.inl ⟨by omega, by omega⟩)
  have h1 : ∀ k, kv_i τ (38 + 4 * f) k = kv_i σ (38 + 4 * f) k := fun k => h _ k (Or.inl ⟨by omega, by omega⟩)
  have h2 : ∀ k, kv_i τ (39 + 4 * f) k = kv_i σ (39 + 4 * f) k := fun k => h _ k (Or.inl ⟨by omega, by omega⟩)
  have h3 : ∀ k, kv_i τ (40 + 4 * f) k = kv_i σ (40 + 4 * f) k := fun k => h _ k (Or.inl ⟨by omega, by omega⟩)
  have h4 : ∀ k, kv_i τ 150 k = kv_i σ 150 k := fun k => h _ k (Or.inr (by decide))
  have h5 : ∀ k, kv_i τ 151 k = kv_i σ 151 k := fun k => h _ k (Or.inr (by decide))
  have h6 : ∀ k, kv_i τ 152 k = kv_i σ 152 k := fun k => h _ k (Or.inr (by decide))
  unfold JF1 JF2 at *
  simp only [h0, h1, h2, h3, h4, h5, h6]
  exact H
theorem JF.cong {σ τ : kv_S} (h : ∀ b k, (37 ≤ b ∧ b < 101 ∨ 150 ≤ b ∧ b ≤ 152) → kv_i τ b k = kv_i σ b k) (e1 : kv_i τ 8 9 = kv_i σ 8 9) (e2 : kv_i τ 149 1 = kv_i σ 149 1) (H : JF σ) : JF τ := by
  obtain ⟨F, a, b, c, H⟩ := H
  exact ⟨F, a, e1.trans b, e2.trans c, fun f hf => (H f hf).cong h (by omega)⟩
theorem JN1.cong {σ τ : kv_S} (h : ∀ b k, (101 ≤ b ∧ b < 149 ∨ 168 ≤ b ∧ b ≤ 174) → kv_i τ b k = kv_i σ b k) {n : Nat} (hn : n < 8) (H : JN1 σ n) : JN1 τ n := by
  have h0 : ∀ k, kv_i τ (101 + 6 * n) k = kv_i σ (101 + 6 * n) k := fun k => h _ k (Or.inl ⟨by omega, by omega⟩)
  have h1 : ∀ k, kv_i τ (102 + 6 * n) k = kv_i σ (102 + 6 * n) k := fun k => h _ k (Or.inl ⟨by omega, by omega⟩)
  have h2 : ∀ k, kv_i τ (103 + 6 * n) k = kv_i σ (103 + 6 * n) k := fun k => h _ k (Or.inl ⟨by omega, by omega⟩)
  have h3 : ∀ k, kv_i τ (104 + 6 * n) k = kv_i σ (104 + 6 * n) k := fun k => h _ k (Or.inl ⟨by omega, by omega⟩)
  have h4 : ∀ k, kv_i τ (105 + 6 * n) k = kv_i σ (105 + 6 * n) k := fun k => h _ k (Or.inl ⟨by omega, by omega⟩)
  have h5 : ∀ k, kv_i τ (106 + 6 * n) k = kv_i σ (106 + 6 * n) k := fun k => h _ k (Or.inl ⟨by omega, by omega⟩)
  have g0 : ∀ k, kv_i τ 168 k = kv_i σ 168 k := fun k => h _ k (Or.inr (by decide))
  have g1 : ∀ k, kv_i τ 169 k = kv_i σ 169 k := fun k => h _ k (Or.inr (by decide))
  have g2 : ∀ k, kv_i τ 170 k = kv_i σ 170 k := fun k => h _ k (Or.inr (by decide))
  have g3 : ∀ k, kv_i τ 171 k = kv_i σ 171 k := fun k => h _ k (Or.inr (by decide))
  have g4 : ∀ k, kv_i τ 172 k = kv_i σ 172 k := fun k => h _ k (Or.inr (by decide))
  have g5 : ∀ k, kv_i τ 173 k = kv_i σ 173 k := fun k => h _ k (Or.inr (by decide))
  have g6 : ∀ k, kv_i τ 174 k = kv_i σ 174 k := fun k => h _ k (Or.inr (by decide))
  unfold JN1 JN2 at *
  simp only [h0, h1, h2, h3, h4, h5, g0, g1, g2, g3, g4, g5, g6]
  exact H
theorem JN.cong {σ τ : kv_S} (h : ∀ b k, (101 ≤ b ∧ b < 149 ∨ 168 ≤ b ∧ b ≤ 174) → kv_i τ b k = kv_i σ b k) (e1 : kv_i τ 8 10 = kv_i σ 8 10) (e2 : kv_i τ 149 26 = kv_i σ 149 26) (H : JN σ) : JN τ := by
  obtain ⟨K, a, b, c, H⟩ := H
  exact ⟨K, a, e1.trans b, e2.trans c, fun k hk => (H k hk).cong h (by omega)⟩
theorem JC.cong {σ τ : kv_S} (h : ∀ k, kv_i τ 15 k = kv_i σ 15 k) (h2 : ∀ k, kv_i τ 159 k = kv_i σ 159 k) (e1 : kv_i τ 14 1 = kv_i σ 14 1) (e2 : kv_i τ 14 2 = kv_i σ 14 2) (e3 : kv_i τ 149 12 = kv_i σ 149 12) (e4 : kv_i τ 149 14 = kv_i σ 149 14) (H : JC σ) : JC τ := by
  unfold JC at *
  simp only [h, h2, e1, e2, e3, e4]
  exact H
theorem JH1.cong {σ τ : kv_S} (h : ∀ b k, (34 ≤ b ∧ b ≤ 36 ∨ 178 ≤ b ∧ b ≤ 180) → kv_i τ b k = kv_i σ b k) {n : Nat} (e5 : kv_i τ (101 + 6 * n) 5 = kv_i σ (101 + 6 * n) 5) (e6 : kv_i τ (101 + 6 * n) 6 = kv_i σ (101 + 6 * n) 6) (H : JH1 σ n) : JH1 τ n := by
  have h0 : ∀ k, kv_i τ 34 k = kv_i σ 34 k := fun k => h _ k (Or.inl (by decide))
  have h1 : ∀ k, kv_i τ 35 k = kv_i σ 35 k := fun k => h _ k (Or.inl (by decide))
  have h2 : ∀ k, kv_i τ 36 k = kv_i σ 36 k := fun k => h _ k (Or.inl (by decide))
  have g0 : ∀ k, kv_i τ 178 k = kv_i σ 178 k := fun k => h _ k (Or.inr (by decide))
  have g1 : ∀ k, kv_i τ 179 k = kv_i σ 179 k := fun k => h _ k (Or.inr (by decide))
  have g2 : ∀ k, kv_i τ 180 k = kv_i σ 180 k := fun k => h _ k (Or.inr (by decide))
  unfold JH1 at *
  simp only [h0, h1, h2, g0, g1, g2, e5, e6]
  exact H
theorem JH.cong {σ τ : kv_S} (h : ∀ b k, (33 ≤ b ∧ b ≤ 36 ∨ 175 ≤ b ∧ b ≤ 180) → kv_i τ b k = kv_i σ b k) (h2 : ∀ n k, n < 8 → kv_i τ (101 + 6 * n) k = kv_i σ (101 + 6 * n) k) (e1 : kv_i τ 32 4 = kv_i σ 32 4) (e2 : kv_i τ 32 5 = kv_i σ 32 5) (e3 : kv_i τ 149 34 = kv_i σ 149 34) (e4 : kv_i τ 149 35 = kv_i σ 149 35) (e5 : kv_i τ 8 10 = kv_i σ 8 10) (H : JH σ) : JH τ := by
  obtain ⟨⟨S, a, b, c, H1⟩, H2, H3⟩ := H
  have h0 : ∀ k, kv_i τ 33 k = kv_i σ 33 k := fun k => h _ k (Or.inl (by decide))
  have g0 : ∀ k, kv_i τ 175 k = kv_i σ 175 k := fun k => h _ k (Or.inr (by decide))
  have g1 : ∀ k, kv_i τ 176 k = kv_i σ 176 k := fun k => h _ k (Or.inr (by decide))
  have g2 : ∀ k, kv_i τ 177 k = kv_i σ 177 k := fun k => h _ k (Or.inr (by decide))
  refine ⟨⟨S, a, e1.trans b, e4.trans c, fun i hi => ?_⟩, ?_, ?_⟩
  · have := H1 i hi
    unfold JH2 at *
    simp only [h0, g0, g1, g2]
    exact this
  · rw [e3, e2]; exact H2
  · rw [e2, e5]
    rcases H3 with H3 | ⟨k, K, q1, q2, q3, q4, q5⟩
    · exact Or.inl H3
    · exact Or.inr ⟨k, K, q1, q2, q3, q4, q5.cong (fun b k hb => h b k (by omega)) (h2 k 5 (by omega)) (h2 k 6 (by omega))⟩
theorem J3.cong {σ τ : kv_S} (h : ∀ k, kv_i τ 153 k = kv_i σ 153 k) (H : J3 σ) : J3 τ := fun k hk => (h k).trans (H k hk)
/-- the cells that no invariant reads: writes to them keep it -/
def kv_ess (b k : Nat) : Prop := (33 ≤ b ∧ b < 149) ∨ (150 ≤ b ∧ b ≤ 153) ∨ (168 ≤ b ∧ b ≤ 180) ∨ b = 15 ∨ b = 159 ∨ b = 8 ∨ (b = 14 ∧ (k = 1 ∨ k = 2)) ∨ (b = 32) ∨ (b = 149 ∧ (k = 1 ∨ k = 12 ∨ k = 14 ∨ k = 26 ∨ k = 34 ∨ k = 35))
theorem JJ.cong {σ τ : kv_S} (h : ∀ b k, kv_ess b k → kv_i τ b k = kv_i σ b k) (h1 : τ.1 = σ.1) (h2 : kv_r τ = kv_r σ) (hl : kv_low σ τ) (H : JJ σ) : JJ τ := by
  obtain ⟨a1, a2, a3, a4, a5, a6, a7⟩ := H
  refine ⟨a1.of h1 h2, a2.low hl, a3.cong (fun k => h _ k (Or.inr (Or.inl (by decide)))), a4.cong (fun b k hb => h b k ?_) (h _ _ ?_) (h _ _ ?_), a5.cong (fun b k hb => h b k ?_) (h _ _ ?_) (h _ _ ?_), a6.cong (fun k => h _ _ ?_) (fun k => h _ _ ?_) (h _ _ ?_) (h _ _ ?_) (h _ _ ?_) (h _ _ ?_), a7.cong (fun b k hb => h b k ?_) (fun n k hn => h _ _ ?_) (h _ _ ?_) (h _ _ ?_) (h _ _ ?_) (h _ _ ?_) (h _ _ ?_)⟩
  all_goals (unfold kv_ess; omega)

/-! ===== frames: what a piece of code leaves as it was ===== -/
/-- τ is σ but for the cells of P -/
def FR (P : Nat → Nat → Prop) (σ τ : kv_S) : Prop := τ.1 = σ.1 ∧ kv_r τ = kv_r σ ∧ (∀ b k, ¬ P b k → kv_i τ b k = kv_i σ b k) ∧ ∀ b k, ¬ P b k → kv_l τ b k = kv_l σ b k
section FRM
variable {P Q : Nat → Nat → Prop} {σ τ υ : kv_S}
theorem FR.rf (P : Nat → Nat → Prop) (σ : kv_S) : FR P σ σ := ⟨rfl, rfl, fun _ _ _ => rfl, fun _ _ _ => rfl⟩
theorem FR.tr (h1 : FR P σ τ) (h2 : FR P τ υ) : FR P σ υ := ⟨h2.1.trans h1.1, h2.2.1.trans h1.2.1, fun b k hb => (h2.2.2.1 b k hb).trans (h1.2.2.1 b k hb), fun b k hb => (h2.2.2.2 b k hb).trans (h1.2.2.2 b k hb)⟩
theorem FR.mono (h : FR P σ τ) (hp : ∀ b k, P b k → Q b k) : FR Q σ τ := ⟨h.1, h.2.1, fun b k hb => h.2.2.1 b k (fun w => hb (hp b k w)), fun b k hb => h.2.2.2 b k (fun w => hb (hp b k w))⟩
theorem FR.si (h : FR P σ τ) {a k : Nat} {x : Int32} (hp : P a k) : FR P σ (kv_si τ a k x) := ⟨h.1, h.2.1, fun b j hb => by rw [i_si, if_neg (fun w => hb (by rw [w.1, w.2]; exact hp))]; exact h.2.2.1 b j hb, fun b j hb => h.2.2.2 b j hb⟩
theorem FR.sl (h : FR P σ τ) {a k : Nat} {x : Int64} (hp : P a k) : FR P σ (kv_sl τ a k x) := ⟨h.1, h.2.1, fun b j hb => h.2.2.1 b j hb, fun b j hb => by rw [l_sl, if_neg (fun w => hb (by rw [w.1, w.2]; exact hp))]; exact h.2.2.2 b j hb⟩
theorem FR.i (h : FR P σ τ) {b k : Nat} (hb : ¬ P b k) : kv_i τ b k = kv_i σ b k := h.2.2.1 b k hb
theorem FR.l (h : FR P σ τ) {b k : Nat} (hb : ¬ P b k) : kv_l τ b k = kv_l σ b k := h.2.2.2 b k hb
theorem FR.js (h : FR P σ τ) (H : JS σ) : JS τ := H.of h.1 h.2.1
theorem FR.low (h : FR P σ τ) (hp : ∀ b k, P b k → 8 ≤ b) : kv_low σ τ := fun b hb => ⟨by unfold kv_sh; rw [h.1], by funext k; exact h.2.2.1 b k (fun w => by have := hp b k w; omega), by funext k; exact h.2.2.2 b k (fun w => by have := hp b k w; omega)⟩
/-- the cells of each part of the invariant -/
def cF (b k : Nat) : Prop := 37 ≤ b ∧ b < 101 ∨ 150 ≤ b ∧ b ≤ 152 ∨ b = 8 ∧ k = 9 ∨ b = 149 ∧ k = 1
def cN (b k : Nat) : Prop := 101 ≤ b ∧ b < 149 ∨ 168 ≤ b ∧ b ≤ 174 ∨ b = 8 ∧ k = 10 ∨ b = 149 ∧ k = 26
def cC (b k : Nat) : Prop := b = 15 ∨ b = 159 ∨ b = 14 ∧ (k = 1 ∨ k = 2) ∨ b = 149 ∧ (k = 12 ∨ k = 14)
def cH (b k : Nat) : Prop := 33 ≤ b ∧ b ≤ 36 ∨ 175 ≤ b ∧ b ≤ 180 ∨ b = 32 ∧ (k = 4 ∨ k = 5) ∨ b = 149 ∧ (k = 34 ∨ k = 35) ∨ b = 8 ∧ k = 10 ∨ 101 ≤ b ∧ b < 149 ∧ b % 6 = 5 ∧ (k = 5 ∨ k = 6)
theorem JK.fr (h : FR P σ τ) (hp : ∀ b k, P b k → 8 ≤ b) (H : JK σ) : JK τ := H.low (h.low hp)
theorem J3.fr (h : FR P σ τ) (hp : ∀ b k, P b k → ¬ b = 153) (H : J3 σ) : J3 τ := H.cong (fun k => h.i (fun w => hp _ _ w rfl))
theorem JF.fr (h : FR P σ τ) (hp : ∀ b k, P b k → ¬ cF b k) (H : JF σ) : JF τ := H.cong (fun b k hb => h.i (fun w => hp _ _ w (by unfold cF; omega))) (h.i (fun w => hp _ _ w (by unfold cF; omega))) (h.i (fun w => hp _ _ w (by unfold cF; omega)))
theorem JN.fr (h : FR P σ τ) (hp : ∀ b k, P b k → ¬ cN b k) (H : JN σ) : JN τ := H.cong (fun b k hb => h.i (fun w => hp _ _ w (by unfold cN; omega))) (h.i (fun w => hp _ _ w (by unfold cN; omega))) (h.i (fun w => hp _ _ w (by unfold cN; omega)))
theorem JC.fr (h : FR P σ τ) (hp : ∀ b k, P b k → ¬ cC b k) (H : JC σ) : JC τ := H.cong (fun k => h.i (fun w => hp _ _ w (by unfold cC; omega))) (fun k => h.i (fun w => hp _ _ w (by unfold cC; omega))) (h.i (fun w => hp _ _ w (by unfold cC; omega))) (h.i (fun w => hp _ _ w (by unfold cC; omega))) (h.i (fun w => hp _ _ w (by unfold cC; omega))) (h.i (fun w => hp _ _ w (by unfold cC; omega)))
theorem JH.fr (h : FR P σ τ) (hp : ∀ b k, P b k → ¬ cH b k) (H : JH σ) : JH τ := by
  obtain ⟨⟨S, a, b, c, H1⟩, H2, H3⟩ := H
  have e1 : kv_i τ 32 4 = kv_i σ 32 4 := h.i (fun w => hp _ _ w (by unfold cH; omega))
  have e2 : kv_i τ 32 5 = kv_i σ 32 5 := h.i (fun w => hp _ _ w (by unfold cH; omega))
  have e3 : kv_i τ 149 34 = kv_i σ 149 34 := h.i (fun w => hp _ _ w (by unfold cH; omega))
  have e4 : kv_i τ 149 35 = kv_i σ 149 35 := h.i (fun w => hp _ _ w (by unfold cH; omega))
  have e5 : kv_i τ 8 10 = kv_i σ 8 10 := h.i (fun w => hp _ _ w (by unfold cH; omega))
  refine ⟨⟨S, a, e1.trans b, e4.trans c, fun i hi => JH2.cong (fun b k hb => h.i (fun w => hp _ _ w (by unfold cH; omega))) (H1 i hi)⟩, by rw [e3, e2]; exact H2, ?_⟩
  rw [e2, e5]
  rcases H3 with H3 | ⟨k, K, q1, q2, q3, q4, q5⟩
  · exact Or.inl H3
  · exact Or.inr ⟨k, K, q1, q2, q3, q4, q5.cong (fun b k hb => h.i (fun w => hp _ _ w (by unfold cH; omega))) (h.i (fun w => hp _ _ w (by unfold cH; omega))) (h.i (fun w => hp _ _ w (by unfold cH; omega)))⟩
/-- cells that no part of the invariant reads -/
def SC (b k : Nat) : Prop := 8 ≤ b ∧ ¬ kv_ess b k
theorem JJ.fr (h : FR SC σ τ) (H : JJ σ) : JJ τ := JJ.cong (fun b k hk => h.2.2.1 b k (fun w => w.2 hk)) h.1 h.2.1 (h.low (fun _ _ w => w.1)) H
theorem FR.ess (h : FR SC σ τ) {b k : Nat} (hb : kv_ess b k) : kv_i τ b k = kv_i σ b k := h.i (fun w => w.2 hb)
/-- a frame that lies in the scratch cells -/
theorem FR.sc (h : FR P σ τ) (hp : ∀ b k, P b k → SC b k) : FR SC σ τ := h.mono hp
end FRM
theorem kc1_i (x : Int32) : kv_c1 (.int x) = true := Eq.trans rfl rfl
theorem kc1_r (x : Nat) : kv_c1 (.ref x) = true := Eq.trans rfl rfl
theorem kc1_n : kv_c1 .null = true := Eq.trans rfl rfl
theorem n10 : ¬ (1 : Int32) = 0 := by decide
theorem n01 : ¬ (0 : Int32) = 1 := by decide
theorem n1514 : (15 = 14) = False := eq_false (by decide)
theorem n1213 : (12 = 13) = False := eq_false (by decide)
theorem n1312 : (13 = 12) = False := eq_false (by decide)

/-! ===== a function as its class holds it, and as the model holds it ===== -/
/-- the class: L places of each sheet are there, and they hold H -/
def CF (σ : kv_S) (f w : Nat) (L H : Nat → Nat) : Prop := kv_i σ (37 + 4 * f) 3 = Int32.ofNat w ∧ ∀ s, s < 32 → 8 * s < 2 ^ w → ∃ o u : Nat, o < 256 ∧ u < 256 ∧ kv_i σ (40 + 4 * f) s = Int32.ofNat (L s) ∧ kv_i σ (38 + 4 * f) s = Int32.ofNat o ∧ kv_i σ (39 + 4 * f) s = Int32.ofNat u ∧ ∀ p, o.testBit p = (decide (p < L s) && decide (H (8 * s + p) = 1)) ∧ u.testBit p = (decide (p < L s) && decide (H (8 * s + p) = 2))
def MF (σ : kv_S) (f w : Nat) (L H : Nat → Nat) : Prop := kv_i σ 150 f = Int32.ofNat w ∧ ∀ s, s < 32 → 8 * s < 2 ^ w → kv_i σ 152 (32 * f + s) = Int32.ofNat (L s) ∧ ∀ p, p < L s → kv_i σ 151 (256 * f + (8 * s + p)) = Int32.ofNat (H (8 * s + p))
def LH (w : Nat) (L H : Nat → Nat) : Prop := 1 ≤ w ∧ w ≤ 8 ∧ ∀ s, s < 32 → 8 * s < 2 ^ w → L s ≤ 8 ∧ L s ≤ 2 ^ w ∧ ∀ p, p < L s → H (8 * s + p) ≤ 2
theorem JF1'.fv {σ : kv_S} {f w : Nat} (h : JF1' σ f w) : ∃ L H, LH w L H ∧ CF σ f w L H ∧ MF σ f w L H := by
  obtain ⟨w1, w2, w3, w4, w5⟩ := h
  refine ⟨fun s => (kv_i σ 152 (32 * f + s)).toNatClampNeg, fun r => (kv_i σ 151 (256 * f + r)).toNatClampNeg, ⟨w1, w2, fun s hs h8 => ?_⟩, ⟨w3, fun s hs h8 => ?_⟩, ⟨w4, fun s hs h8 => ?_⟩⟩ <;> obtain ⟨l, o, u, hl, hl2, ho, hu, el, el2, eo, eu, hp, hq⟩ := w5 s hs h8 <;> have e : (kv_i σ 152 (32 * f + s)).toNatClampNeg = l := by (rw [el2, ari_cl (by omega)])
  · dsimp only
    rw [e]
    refine ⟨hl, hl2, fun p hp1 => ?_⟩
    rcases hp p hp1 with ⟨q, -⟩ | ⟨q, -⟩ | ⟨q, -⟩ <;> rw [q] <;> decide
  · simp only [e]
    refine ⟨o, u, ho, hu, el, eo, eu, fun p => ?_⟩
    by_cases c : p < l
    · rcases hp p c with ⟨q1, q2, q3⟩ | ⟨q1, q2, q3⟩ | ⟨q1, q2, q3⟩ <;> (simp only [q1, q2, q3, c, decide_true, Bool.true_and]; decide)
    · rw [(hq p (by omega)).1, (hq p (by omega)).2, decide_eq_false c]
      exact ⟨rfl, rfl⟩
  · dsimp only
    rw [e]
    refine ⟨el2, fun p hp1 => ?_⟩
    rcases hp p hp1 with ⟨q, -⟩ | ⟨q, -⟩ | ⟨q, -⟩ <;> rw [q] <;> decide
theorem FV.jf {σ : kv_S} {f w : Nat} {L H : Nat → Nat} (h : LH w L H) (hc : CF σ f w L H) (hm : MF σ f w L H) : JF1' σ f w := by
  refine ⟨h.1, h.2.1, hc.1, hm.1, fun s hs h8 => ?_⟩
  obtain ⟨b1, b2, b3⟩ := h.2.2 s hs h8
  obtain ⟨o, u, ho, hu, c1, c2, c3, c4⟩ := hc.2 s hs h8
  obtain ⟨m1, m2⟩ := hm.2 s hs h8
  refine ⟨L s, o, u, b1, b2, ho, hu, c1, m1, c2, c3, fun p hp => ?_, fun p hp => ?_⟩
  · rw [m2 p hp, (c4 p).1, (c4 p).2, decide_eq_true hp, Bool.true_and, Bool.true_and]
    have := b3 p hp
    match hH : H (8 * s + p), this with
    | 0, _ => exact Or.inl ⟨rfl, rfl, rfl⟩
    | 1, _ => exact Or.inr (Or.inl ⟨rfl, rfl, rfl⟩)
    | 2, _ => exact Or.inr (Or.inr ⟨rfl, rfl, rfl⟩)
  · rw [(c4 p).1, (c4 p).2, decide_eq_false (by omega)]
    exact ⟨rfl, rfl⟩
/-- the cells of function f -/
def cFf (f b j : Nat) : Prop := 37 + 4 * f ≤ b ∧ b ≤ 40 + 4 * f ∨ b = 150 ∧ j = f ∨ b = 152 ∧ 32 * f ≤ j ∧ j < 32 * f + 32 ∨ b = 151 ∧ 256 * f ≤ j ∧ j < 256 * f + 256
theorem CF.fr {P : Nat → Nat → Prop} {σ τ : kv_S} (h : FR P σ τ) {f w : Nat} {L H : Nat → Nat} (hp : ∀ b j, P b j → ¬ (37 + 4 * f ≤ b ∧ b ≤ 40 + 4 * f)) (hc : CF σ f w L H) : CF τ f w L H := by
  refine ⟨(h.i (fun q => hp _ _ q (by omega))).trans hc.1, fun s hs h8 => ?_⟩
  rw [h.i (fun q => hp _ _ q (by omega)), h.i (fun q => hp _ _ q (by omega)), h.i (fun q => hp _ _ q (by omega))]
  exact hc.2 s hs h8
theorem MF.fr {P : Nat → Nat → Prop} {σ τ : kv_S} (h : FR P σ τ) {f w : Nat} (hw : w ≤ 8) {L H : Nat → Nat} (hL : ∀ s, s < 32 → 8 * s < 2 ^ w → L s ≤ 8) (hp : ∀ b j, P b j → ¬ (b = 150 ∧ j = f ∨ b = 152 ∧ 32 * f ≤ j ∧ j < 32 * f + 32 ∨ b = 151 ∧ 256 * f ≤ j ∧ j < 256 * f + 256)) (hc : MF σ f w L H) : MF τ f w L H := by
  refine ⟨(h.i (fun q => hp _ _ q (by omega))).trans hc.1, fun s hs h8 => ?_⟩
  have := pw8 hw
  refine ⟨(h.i (fun q => hp _ _ q (by omega))).trans (hc.2 s hs h8).1, fun p hp1 => ?_⟩
  have := hL s hs h8
  rw [h.i (fun q => hp _ _ q (by omega))]
  exact (hc.2 s hs h8).2 p hp1
theorem LH.le {w : Nat} {L H : Nat → Nat} (h : LH w L H) : ∀ s, s < 32 → 8 * s < 2 ^ w → L s ≤ 8 := fun s hs h8 => (h.2.2 s hs h8).1
theorem JF1'.fine {P : Nat → Nat → Prop} {σ τ : kv_S} (h : FR P σ τ) {f w : Nat} (hp : ∀ b j, P b j → ¬ cFf f b j) (H : JF1' σ f w) : JF1' τ f w := by
  obtain ⟨L, H', h1, h2, h3⟩ := H.fv
  exact FV.jf h1 (h2.fr h (fun b j q => by have := hp b j q; unfold cFf at this; omega)) (h3.fr h h1.2.1 h1.le (fun b j q => by have := hp b j q; unfold cFf at this; omega))
/-- function f alone was changed -/
theorem JJ.fun {P : Nat → Nat → Prop} {σ τ : kv_S} (h : FR P σ τ) {f w : Nat} (hf : f < 16) (hp : ∀ b j, P b j → cFf f b j ∨ SC b j) (H1 : JF1' τ f w) (H : JJ σ) : JJ τ := by
  obtain ⟨a1, a2, a3, ⟨F, hF, f1, f2, f3⟩, a5, a6, a7⟩ := H
  have hp2 : ∀ b j, P b j → cFf f b j ∨ (8 ≤ b ∧ ¬ kv_ess b j) := hp
  unfold cFf kv_ess at hp2
  refine ⟨h.js a1, a2.fr h (fun b j q => by have := hp2 b j q; omega), a3.fr h (fun b j q => by have := hp2 b j q; omega), ⟨F, hF, (h.i (fun q => by have := hp2 _ _ q; omega)).trans f1, (h.i (fun q => by have := hp2 _ _ q; omega)).trans f2, fun n hn => ?_⟩, a5.fr h (fun b j q => by have := hp2 b j q; unfold cN; omega), a6.fr h (fun b j q => by have := hp2 b j q; unfold cC; omega), a7.fr h (fun b j q => by have := hp2 b j q; unfold cH; omega)⟩
  by_cases e : n = f
  · subst e; exact ⟨w, H1⟩
  · obtain ⟨w', H2⟩ := f3 n hn
    exact ⟨w', JF1'.fine h (fun b j q => by have := hp2 b j q; unfold cFf; omega) H2⟩
/-- one bit of a byte is cleared, or set -/
def clr (x p : Nat) : Nat := x - if x.testBit p then 2 ^ p else 0
theorem clr_i : ∀ o, o < 256 → ∀ p, p < 8 → Int32.ofNat o &&& (Int32.ofNat (2 ^ p) ^^^ -1) = Int32.ofNat (clr o p) := by decide +kernel
theorem clr_tb : ∀ o, o < 256 → ∀ p, p < 8 → clr o p < 256 ∧ clr o p ||| 2 ^ p < 256 ∧ ∀ q, q < 8 → (clr o p).testBit q = (decide (q ≠ p) && o.testBit q) ∧ (clr o p ||| 2 ^ p).testBit q = (decide (q = p) || o.testBit q) := by decide +kernel
theorem ari_1shl : ∀ n, n < 31 → (1 : Int32) <<< Int32.ofNat n = Int32.ofNat (2 ^ n) := by decide
theorem tb8 {x p : Nat} (h : x < 256) (hp : 8 ≤ p) : x.testBit p = false := Nat.testBit_lt_two_pow (Nat.lt_of_lt_of_le h (Nat.pow_le_pow_right (n := 2) (by decide) hp))
/-- H with another value at one row -/
def up1 (H : Nat → Nat) (r v : Nat) : Nat → Nat := fun x => if x = r then v else H x
theorem clr_f {o p : Nat} (ho : o < 256) (hp : p < 8) (q : Nat) : (clr o p).testBit q = (decide (q ≠ p) && o.testBit q) ∧ (clr o p ||| 2 ^ p).testBit q = (decide (q = p) || o.testBit q) := by
  obtain ⟨b1, b2, b3⟩ := clr_tb o ho p hp
  by_cases hq : q < 8
  · exact b3 q hq
  · rw [tb8 b1 (by omega), tb8 b2 (by omega), tb8 ho (by omega), decide_eq_false (show ¬ q = p by omega)]
    simp

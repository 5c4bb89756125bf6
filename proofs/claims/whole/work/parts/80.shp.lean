/-! ===== shaping, as a function of a net ===== -/
def aO (T : Nat → Nat) (X Y : Nat → Int32) (G t row : Nat) (x : Int32) : Bool := nvo (nv T X Y t row G) row x
def aCP (T : Nat → Nat) (X Y O : Nat → Int32) (G g row : Nat) : Bool := anyN (fun i => !(O i == -3) && (aO T X Y G g row (O i) ^^ aO T X Y G 1000 row (O i))) 6
def aC (T : Nat → Nat) (X Y O : Nat → Int32) (G g w : Nat) : Nat := q4 (fun b => anyN (fun row => aCP T X Y O G g row && nvb (aO T X Y G 1000 row (X g)) (aO T X Y G 1000 row (Y g)) == b) (2 ^ w))
def aTw (T : Nat → Nat) (X Y : Nat → Int32) (G w g h : Nat) : Bool := !anyN (fun row => nv T X Y 1000 row G g ^^ nv T X Y 1000 row G h) (2 ^ w)
def rl (t c : Nat) : Nat := if t &&& c = 0 then 0 else if (t ^^^ 15) &&& c = 0 then 1 else if (t ^^^ 10) &&& c = 0 then 2 else if (t ^^^ 12) &&& c = 0 then 3 else 4
/-- the first from j on, of m, that has it -/
def fst1 (f : Nat → Bool) : Nat → Nat → Nat
  | 0, j => j
  | m + 1, j => if f j = true then j else fst1 f m (j + 1)
theorem fst1_le (f : Nat → Bool) : ∀ m j, fst1 f m j ≤ j + m
  | 0, j => by show j ≤ j + 0; omega
  | m + 1, j => by
    show (if f j = true then j else fst1 f m (j + 1)) ≤ _
    split
    · omega
    · have := fst1_le f m (j + 1); omega
theorem fst1_lt {f : Nat → Bool} : ∀ m j, fst1 f m j < j + m → f (fst1 f m j) = true
  | 0, j, h => by have : j < j + 0 := h; omega
  | m + 1, j, h => by
    have e : fst1 f (m + 1) j = if f j = true then j else fst1 f m (j + 1) := rfl
    by_cases c : f j = true
    · rw [e, if_pos c]; exact c
    · rw [e, if_neg c] at h ⊢
      exact fst1_lt m (j + 1) (by omega)
theorem fst1_ge {f : Nat → Bool} : ∀ m j, j ≤ fst1 f m j
  | 0, j => Nat.le_refl j
  | m + 1, j => by
    show j ≤ (if f j = true then j else fst1 f m (j + 1))
    split
    · omega
    · have := fst1_ge (f := f) m (j + 1); omega
theorem fst1_congr {f g : Nat → Bool} : ∀ m j, (∀ i, j ≤ i → i < j + m → f i = g i) → fst1 f m j = fst1 g m j
  | 0, j, _ => rfl
  | m + 1, j, h => by
    show (if f j = true then j else fst1 f m (j + 1)) = (if g j = true then j else fst1 g m (j + 1))
    rw [h j (by omega) (by omega), fst1_congr m (j + 1) (fun i h1 h2 => h i (by omega) (by omega))]
/-- a net that is shaped: its left operands, its right ones, its outputs -/
abbrev aN : Type := (Nat → Int32) × (Nat → Int32) × (Nat → Int32)
def aR (T : Nat → Nat) (w G : Nat) (N : aN) (g : Nat) : Nat := if rl (T g) (aC T N.1 N.2.1 N.2.2 G g w) < 4 then rl (T g) (aC T N.1 N.2.1 N.2.2 G g w) else if fst1 (aTw T N.1 N.2.1 G w g) g 0 < g then 4 else 5
def aI (T : Nat → Nat) (w G : Nat) (N : aN) (g : Nat) : Int32 := if aR T w G N g = 0 then -1 else if aR T w G N g = 1 then -2 else if aR T w G N g = 2 then N.1 g else if aR T w G N g = 3 then N.2.1 g else Int32.ofNat (8 + fst1 (aTw T N.1 N.2.1 G w g) g 0)
def aRd (G : Nat) (N : aN) (g : Nat) : Bool := anyN (fun j => N.1 j == Int32.ofNat (8 + g) || N.2.1 j == Int32.ofNat (8 + g)) G || wo N.2.2 6 g
def aCan (T : Nat → Nat) (Kp : Nat → Bool) (w G : Nat) (N : aN) (g : Nat) : Bool := !Kp g && aRd G N g && decide (aR T w G N g < 5)
def aG (T : Nat → Nat) (Kp : Nat → Bool) (w G : Nat) (N : aN) : Nat := fst1 (aCan T Kp w G N) G 0
/-- gate g is read as x -/
def aS (G : Nat) (N : aN) (g : Nat) (x : Int32) : aN := (fun j => if j < G ∧ N.1 j = Int32.ofNat (8 + g) then x else N.1 j, fun j => if j < G ∧ N.2.1 j = Int32.ofNat (8 + g) then x else N.2.1 j, fun i => if i < 6 ∧ N.2.2 i = Int32.ofNat (8 + g) then x else N.2.2 i)
def aX (T : Nat → Nat) (Kp : Nat → Bool) (w G : Nat) (N : aN) : aN := aS G N (aG T Kp w G N) (aI T w G N (aG T Kp w G N))
def aIt (T : Nat → Nat) (Kp : Nat → Bool) (w G : Nat) (N : aN) : Nat → aN
  | 0 => N
  | n + 1 => aX T Kp w G (aIt T Kp w G N n)
/-- operands in their places -/
def aOk (w G : Nat) (N : aN) : Prop := (∀ g, g < G → vO w g (N.1 g) ∧ vO w g (N.2.1 g)) ∧ ∀ i, i < 6 → N.2.2 i = -3 ∨ vO w G (N.2.2 i)
theorem aI_vO {T : Nat → Nat} {w G : Nat} {N : aN} (h : aOk w G N) {g : Nat} (hg : g < G) (hr : aR T w G N g < 5) : vO w g (aI T w G N g) := by
  unfold aI
  by_cases c0 : aR T w G N g = 0
  · rw [if_pos c0]; exact Or.inl rfl
  · rw [if_neg c0]
    by_cases c1 : aR T w G N g = 1
    · rw [if_pos c1]; exact Or.inr (Or.inl rfl)
    · rw [if_neg c1]
      by_cases c2 : aR T w G N g = 2
      · rw [if_pos c2]; exact (h.1 g hg).1
      · rw [if_neg c2]
        by_cases c3 : aR T w G N g = 3
        · rw [if_pos c3]; exact (h.1 g hg).2
        · rw [if_neg c3]
          refine Or.inr (Or.inr (Or.inr ⟨_, ?_, rfl⟩))
          unfold aR at c0 c1 c2 c3 hr
          by_cases c4 : rl (T g) (aC T N.1 N.2.1 N.2.2 G g w) < 4
          · rw [if_pos c4] at c0 c1 c2 c3; omega
          · rw [if_neg c4] at hr
            by_cases c5 : fst1 (aTw T N.1 N.2.1 G w g) g 0 < g
            · exact c5
            · rw [if_neg c5] at hr; omega
theorem aG_can {T : Nat → Nat} {Kp : Nat → Bool} {w G : Nat} {N : aN} (h : aG T Kp w G N < G) : aCan T Kp w G N (aG T Kp w G N) = true := fst1_lt G 0 (by unfold aG at h; omega)
theorem aCan_r {T : Nat → Nat} {Kp : Nat → Bool} {w G : Nat} {N : aN} {g : Nat} (h : aCan T Kp w G N g = true) : Kp g = false ∧ aRd G N g = true ∧ aR T w G N g < 5 := by
  unfold aCan at h
  rw [Bool.and_eq_true, Bool.and_eq_true, decide_eq_true_eq, Bool.not_eq_true'] at h
  exact ⟨h.1.1, h.1.2, h.2⟩
theorem aS_ok {w G : Nat} {N : aN} (h : aOk w G N) {g : Nat} (hg : g < G) {x : Int32} (hw : w ≤ 8) (hG : G ≤ 40) (hx : vO w g x) : aOk w G (aS G N g x) := by
  have key : ∀ j y, j < G → vO w j y → y = Int32.ofNat (8 + g) → vO w j x := by
    intro j y hj hy e
    refine hx.mono ?_
    rcases hy with q | q | ⟨i, hi, q⟩ | ⟨i, hi, q⟩ <;> rw [q] at e
    · rw [eq_comm, ari_neg (by omega) (by decide) (by decide)] at e; exact e.elim
    · rw [eq_comm, ari_neg (by omega) (by decide) (by decide)] at e; exact e.elim
    · rw [ari_eq (by omega) (by omega)] at e; omega
    · rw [ari_eq (by omega) (by omega)] at e; omega
  refine ⟨fun j hj => ⟨?_, ?_⟩, fun i hi => ?_⟩
  · show vO w j (if j < G ∧ N.1 j = Int32.ofNat (8 + g) then x else N.1 j)
    by_cases c : j < G ∧ N.1 j = Int32.ofNat (8 + g)
    · rw [if_pos c]; exact key j _ hj (h.1 j hj).1 c.2
    · rw [if_neg c]; exact (h.1 j hj).1
  · show vO w j (if j < G ∧ N.2.1 j = Int32.ofNat (8 + g) then x else N.2.1 j)
    by_cases c : j < G ∧ N.2.1 j = Int32.ofNat (8 + g)
    · rw [if_pos c]; exact key j _ hj (h.1 j hj).2 c.2
    · rw [if_neg c]; exact (h.1 j hj).2
  · show (if i < 6 ∧ N.2.2 i = Int32.ofNat (8 + g) then x else N.2.2 i) = -3 ∨ vO w G (if i < 6 ∧ N.2.2 i = Int32.ofNat (8 + g) then x else N.2.2 i)
    by_cases c : i < 6 ∧ N.2.2 i = Int32.ofNat (8 + g)
    · rw [if_pos c]; exact Or.inr (hx.mono (by omega))
    · rw [if_neg c]; exact h.2 i hi
/-- how far an operand can still go back -/
def rk (x : Int32) : Nat := x.toNatClampNeg - 7
def sumN (f : Nat → Nat) : Nat → Nat
  | 0 => 0
  | n + 1 => sumN f n + f n
theorem sumN_le {f g : Nat → Nat} : ∀ n, (∀ i, i < n → f i ≤ g i) → sumN f n ≤ sumN g n
  | 0, _ => Nat.le_refl 0
  | n + 1, h => by
    have := sumN_le n (fun i hi => h i (by omega))
    have := h n (by omega)
    show sumN f n + f n ≤ sumN g n + g n
    omega
theorem sumN_lt {f g : Nat → Nat} : ∀ n, (∀ i, i < n → f i ≤ g i) → (∃ i, i < n ∧ f i < g i) → sumN f n < sumN g n
  | 0, _, ⟨i, hi, _⟩ => absurd hi (by omega)
  | n + 1, h, ⟨i, hi, hl⟩ => by
    have h1 := h n (by omega)
    show sumN f n + f n < sumN g n + g n
    by_cases c : i = n
    · subst c
      have := sumN_le i (fun j hj => h j (by omega))
      omega
    · have := sumN_lt n (fun j hj => h j (by omega)) ⟨i, by omega, hl⟩
      omega
def pot (G : Nat) (N : aN) : Nat := sumN (fun j => rk (N.1 j) + rk (N.2.1 j)) G + sumN (fun i => rk (N.2.2 i)) 6
theorem rk_g {g : Nat} (h : g < 1000) : rk (Int32.ofNat (8 + g)) = g + 1 := by unfold rk; rw [ari_cl (by omega)]; omega
theorem rk_vO {w g : Nat} (hw : w ≤ 8) (hg : g ≤ 40) {x : Int32} (h : vO w g x) : rk x ≤ g := by
  rcases h with rfl | rfl | ⟨i, hi, rfl⟩ | ⟨i, hi, rfl⟩
  · show (-1 : Int32).toNatClampNeg - 7 ≤ g; rw [show (-1 : Int32).toNatClampNeg = 0 by decide]; omega
  · show (-2 : Int32).toNatClampNeg - 7 ≤ g; rw [show (-2 : Int32).toNatClampNeg = 0 by decide]; omega
  · unfold rk; rw [ari_cl (by omega)]; omega
  · rw [rk_g (by omega)]; omega
theorem pot_le {w G : Nat} {N : aN} (hw : w ≤ 8) (hG : G ≤ 40) (h : aOk w G N) : pot G N ≤ 1800 := by
  have h1 : sumN (fun j => rk (N.1 j) + rk (N.2.1 j)) G ≤ sumN (fun j => 2 * j) G := sumN_le G (fun j hj => by
    have := rk_vO hw (by omega) (h.1 j hj).1
    have := rk_vO hw (by omega) (h.1 j hj).2
    show rk (N.1 j) + rk (N.2.1 j) ≤ 2 * j
    omega)
  have h2 : sumN (fun i => rk (N.2.2 i)) 6 ≤ sumN (fun _ => 40) 6 := sumN_le 6 (fun i hi => by
    rcases h.2 i hi with q | q
    · show rk (N.2.2 i) ≤ 40; rw [q]; decide
    · have := rk_vO hw hG q; show rk (N.2.2 i) ≤ 40; omega)
  have h3 : ∀ n, n ≤ 40 → sumN (fun j => 2 * j) n ≤ 1560 := by decide
  have h4 : sumN (fun _ => 40) 6 = 240 := by decide
  have := h3 G hG
  unfold pot
  omega
theorem pot_lt {w G : Nat} {N : aN} (hw : w ≤ 8) (hG : G ≤ 40) {g : Nat} (hg : g < G) {x : Int32} (hx : vO w g x) (hr : aRd G N g = true) : pot G (aS G N g x) < pot G N := by
  have rx := rk_vO hw (by omega) hx
  have e1 : ∀ j, rk ((aS G N g x).1 j) ≤ rk (N.1 j) := fun j => by
    show rk (if j < G ∧ N.1 j = Int32.ofNat (8 + g) then x else N.1 j) ≤ _
    by_cases c : j < G ∧ N.1 j = Int32.ofNat (8 + g)
    · rw [if_pos c, c.2, rk_g (by omega)]; omega
    · rw [if_neg c]; exact Nat.le_refl _
  have e2 : ∀ j, rk ((aS G N g x).2.1 j) ≤ rk (N.2.1 j) := fun j => by
    show rk (if j < G ∧ N.2.1 j = Int32.ofNat (8 + g) then x else N.2.1 j) ≤ _
    by_cases c : j < G ∧ N.2.1 j = Int32.ofNat (8 + g)
    · rw [if_pos c, c.2, rk_g (by omega)]; omega
    · rw [if_neg c]; exact Nat.le_refl _
  have e3 : ∀ i, rk ((aS G N g x).2.2 i) ≤ rk (N.2.2 i) := fun i => by
    show rk (if i < 6 ∧ N.2.2 i = Int32.ofNat (8 + g) then x else N.2.2 i) ≤ _
    by_cases c : i < 6 ∧ N.2.2 i = Int32.ofNat (8 + g)
    · rw [if_pos c, c.2, rk_g (by omega)]; omega
    · rw [if_neg c]; exact Nat.le_refl _
  unfold aRd at hr
  rw [Bool.or_eq_true, anyN_iff, wo_iff] at hr
  unfold pot
  rcases hr with ⟨j, hj, q⟩ | ⟨i, hi, q⟩
  · have l1 : sumN (fun j => rk ((aS G N g x).1 j) + rk ((aS G N g x).2.1 j)) G < sumN (fun j => rk (N.1 j) + rk (N.2.1 j)) G := by
      refine sumN_lt G (fun i hi => Nat.add_le_add (e1 i) (e2 i)) ⟨j, hj, ?_⟩
      have f1 := e1 j
      have f2 := e2 j
      rw [Bool.or_eq_true, beq_iff_eq, beq_iff_eq] at q
      rcases q with q | q
      · have : rk ((aS G N g x).1 j) < rk (N.1 j) := by
          show rk (if j < G ∧ N.1 j = Int32.ofNat (8 + g) then x else N.1 j) < _
          rw [if_pos ⟨hj, q⟩, q, rk_g (by omega)]; omega
        omega
      · have : rk ((aS G N g x).2.1 j) < rk (N.2.1 j) := by
          show rk (if j < G ∧ N.2.1 j = Int32.ofNat (8 + g) then x else N.2.1 j) < _
          rw [if_pos ⟨hj, q⟩, q, rk_g (by omega)]; omega
        omega
    have l2 : sumN (fun i => rk ((aS G N g x).2.2 i)) 6 ≤ sumN (fun i => rk (N.2.2 i)) 6 := sumN_le 6 (fun i hi => e3 i)
    omega
  · have l1 : sumN (fun j => rk ((aS G N g x).1 j) + rk ((aS G N g x).2.1 j)) G ≤ sumN (fun j => rk (N.1 j) + rk (N.2.1 j)) G := sumN_le G (fun i hi => Nat.add_le_add (e1 i) (e2 i))
    have l2 : sumN (fun i => rk ((aS G N g x).2.2 i)) 6 < sumN (fun i => rk (N.2.2 i)) 6 := by
      refine sumN_lt 6 (fun i hi => e3 i) ⟨i, hi, ?_⟩
      show rk (if i < 6 ∧ N.2.2 i = Int32.ofNat (8 + g) then x else N.2.2 i) < _
      rw [if_pos ⟨hi, q⟩, q, rk_g (by omega)]; omega
    omega
section AI
variable {T : Nat → Nat} {Kp : Nat → Bool} {w G : Nat} {N : aN}
/-- while there are steps: operands stay in their places, and each step costs -/
theorem aIt_ok (hw : w ≤ 8) (hG : G ≤ 40) (h : aOk w G N) : ∀ n, (∀ i, i < n → aG T Kp w G (aIt T Kp w G N i) < G) → aOk w G (aIt T Kp w G N n) ∧ pot G (aIt T Kp w G N n) + n ≤ 1800
  | 0, _ => ⟨h, by have := pot_le hw hG h; show pot G N + 0 ≤ 1800; omega⟩
  | n + 1, hs => by
    obtain ⟨h1, h2⟩ := aIt_ok hw hG h n (fun i hi => hs i (by omega))
    have hg := hs n (by omega)
    obtain ⟨-, c2, c3⟩ := aCan_r (aG_can hg)
    have hx := aI_vO h1 hg c3
    refine ⟨aS_ok h1 hg hw hG hx, ?_⟩
    have := pot_lt hw hG hg hx c2
    show pot G (aS G _ _ _) + (n + 1) ≤ 1800
    omega
/-- with 1800 steps done there is none left -/
theorem aIt_end (hw : w ≤ 8) (hG : G ≤ 40) (h : aOk w G N) (hs : ∀ i, i < 1800 → aG T Kp w G (aIt T Kp w G N i) < G) : aG T Kp w G (aIt T Kp w G N 1800) = G := by
  obtain ⟨h1, h2⟩ := aIt_ok hw hG h 1800 hs
  have hle : aG T Kp w G (aIt T Kp w G N 1800) ≤ G := by unfold aG; have := fst1_le (aCan T Kp w G (aIt T Kp w G N 1800)) G 0; omega
  refine Classical.byContradiction fun hc => ?_
  have hg : aG T Kp w G (aIt T Kp w G N 1800) < G := by omega
  obtain ⟨-, c2, c3⟩ := aCan_r (aG_can hg)
  have := pot_lt hw hG hg (aI_vO h1 hg c3) c2
  omega
end AI
/-- nets that agree in their gates and outputs -/
def aEq (G : Nat) (N N' : aN) : Prop := (∀ g, g < G → N.1 g = N'.1 g ∧ N.2.1 g = N'.2.1 g) ∧ ∀ i, i < 6 → N.2.2 i = N'.2.2 i
section AE
variable {T T' : Nat → Nat} {Kp Kp' : Nat → Bool} {w G : Nat} {N N' : aN}
theorem nv_congr {X Y X' Y' : Nat → Int32} {t row : Nat} (h : ∀ g, g < G → T g = T' g ∧ X g = X' g ∧ Y g = Y' g) : ∀ g, g ≤ G → nv T X Y t row g = nv T' X' Y' t row g
  | 0, _ => rfl
  | g + 1, hg => by
    funext j
    obtain ⟨e1, e2, e3⟩ := h g (by omega)
    show (if j = g then _ else _) = (if j = g then _ else _)
    rw [nv_congr h g (by omega), e1, e2, e3]
theorem aR_congr (hT : ∀ g, g < G → T g = T' g) (h : aEq G N N') {g : Nat} (hg : g < G) : aR T w G N g = aR T' w G N' g ∧ aI T w G N g = aI T' w G N' g := by
  have hnv : ∀ t row, nv T N.1 N.2.1 t row G = nv T' N'.1 N'.2.1 t row G := fun t row => nv_congr (fun g hg => ⟨hT g hg, (h.1 g hg).1, (h.1 g hg).2⟩) G (Nat.le_refl _)
  have hO : ∀ t row x, aO T N.1 N.2.1 G t row x = aO T' N'.1 N'.2.1 G t row x := fun t row x => by unfold aO; rw [hnv]
  have hC : aC T N.1 N.2.1 N.2.2 G g w = aC T' N'.1 N'.2.1 N'.2.2 G g w := by
    unfold aC
    refine q4_congr (fun b hb => anyN_congr _ (fun row hr => ?_))
    rw [hO, hO, (h.1 g hg).1, (h.1 g hg).2]
    congr 1
    unfold aCP
    refine anyN_congr _ (fun i hi => ?_)
    rw [hO, hO, h.2 i hi]
  have hTw : fst1 (aTw T N.1 N.2.1 G w g) g 0 = fst1 (aTw T' N'.1 N'.2.1 G w g) g 0 := fst1_congr g 0 (fun i h1 h2 => by
    unfold aTw
    rw [anyN_congr _ (fun row hr => by rw [hnv])])
  have hRR : aR T w G N g = aR T' w G N' g := by unfold aR; rw [hT g hg, hC, hTw]
  refine ⟨hRR, ?_⟩
  unfold aI
  rw [hRR, hTw, (h.1 g hg).1, (h.1 g hg).2]
theorem aRd_congr (h : aEq G N N') (g : Nat) : aRd G N g = aRd G N' g := by
  unfold aRd
  rw [anyN_congr G (fun j hj => by rw [(h.1 j hj).1, (h.1 j hj).2])]
  congr 1
  rw [Bool.eq_iff_iff, wo_iff, wo_iff]
  exact exists_congr fun i => and_congr_right fun hi => by rw [h.2 i hi]
theorem aG_congr (hT : ∀ g, g < G → T g = T' g) (hK : ∀ g, g < G → Kp g = Kp' g) (h : aEq G N N') : aG T Kp w G N = aG T' Kp' w G N' := by
  unfold aG
  refine fst1_congr G 0 (fun g h1 h2 => ?_)
  unfold aCan
  rw [hK g (by omega), aRd_congr h g, (aR_congr hT h (show g < G by omega)).1]
end AE

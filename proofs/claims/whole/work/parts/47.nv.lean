/-! ===== what gates and operands are at a row ===== -/
/-- an operand, the gates being v -/
def nvo (v : Nat → Bool) (row : Nat) (x : Int32) : Bool := if x = -1 then false else if x = -2 then true else if x < 8 then row.testBit x.toNatClampNeg else v (x.toNatClampNeg - 8)
def nvb (a b : Bool) : Nat := a.toNat + 2 * b.toNat
/-- the gates below g, gate t turned -/
def nv (T : Nat → Nat) (X Y : Nat → Int32) (t : Nat) (row : Nat) : Nat → Nat → Bool
  | 0, _ => false
  | g + 1, j => if j = g then ((T g).testBit (nvb (nvo (nv T X Y t row g) row (X g)) (nvo (nv T X Y t row g) row (Y g)))) != decide (t = g) else nv T X Y t row g j
section NV
variable {T : Nat → Nat} {X Y : Nat → Int32} {t row : Nat}
theorem nvo_0 (v : Nat → Bool) (row : Nat) : nvo v row (-1) = false := if_pos rfl
theorem nvo_1 (v : Nat → Bool) (row : Nat) : nvo v row (-2) = true := by unfold nvo; rw [if_neg (by decide), if_pos rfl]
theorem nvo_l (v : Nat → Bool) (row : Nat) {k : Nat} (h : k < 8) : nvo v row (Int32.ofNat k) = row.testBit k := by
  unfold nvo
  rw [if_neg (by rw [ari_neg (by omega) (by decide) (by decide)]; exact id), if_neg (by rw [ari_neg (by omega) (by decide) (by decide)]; exact id), if_pos (by rw [show (8 : Int32) = Int32.ofNat 8 from rfl, ari_lt (by omega) (by decide)]; exact h), ari_cl (by omega)]
theorem nvo_g (v : Nat → Bool) (row : Nat) {g : Nat} (h : g < 1000) : nvo v row (Int32.ofNat (8 + g)) = v g := by
  unfold nvo
  rw [if_neg (by rw [ari_neg (by omega) (by decide) (by decide)]; exact id), if_neg (by rw [ari_neg (by omega) (by decide) (by decide)]; exact id), if_neg (by rw [show (8 : Int32) = Int32.ofNat 8 from rfl, ari_lt (by omega) (by decide)]; omega), ari_cl (by omega)]
  congr 1
  omega
theorem nvo_cong {v v' : Nat → Bool} {row row' w G : Nat} (hw : w ≤ 8) (hG : G ≤ 40) (hv : ∀ g, g < G → v g = v' g) (hr : ∀ k, k < w → row.testBit k = row'.testBit k) {x : Int32} (hx : vO w G x) : nvo v row x = nvo v' row' x := by
  rcases hx with rfl | rfl | ⟨k, hk, rfl⟩ | ⟨g, hg, rfl⟩
  · rw [nvo_0, nvo_0]
  · rw [nvo_1, nvo_1]
  · rw [nvo_l _ _ (by omega), nvo_l _ _ (by omega)]; exact hr k hk
  · rw [nvo_g _ _ (by omega), nvo_g _ _ (by omega)]; exact hv g hg
/-- a gate's value, once worked out, stays -/
theorem nv_st {g j : Nat} (hj : j < g) : ∀ n, nv T X Y t row (g + n) j = nv T X Y t row g j
  | 0 => rfl
  | n + 1 => by
    show (if j = g + n then _ else nv T X Y t row (g + n) j) = _
    rw [if_neg (by omega)]
    exact nv_st hj n
theorem nv_le {g G j : Nat} (hj : j < g) (h : g ≤ G) : nv T X Y t row G j = nv T X Y t row g j := by
  have := nv_st (T := T) (X := X) (Y := Y) (t := t) (row := row) hj (G - g)
  rw [show g + (G - g) = G by omega] at this
  exact this
/-- the value of gate g -/
theorem nv_g {w g G : Nat} (hw : w ≤ 8) (hG : G ≤ 40) (h : g < G) (hx : vO w g (X g)) (hy : vO w g (Y g)) : nv T X Y t row G g = ((T g).testBit (nvb (nvo (nv T X Y t row G) row (X g)) (nvo (nv T X Y t row G) row (Y g))) != decide (t = g)) := by
  rw [nv_le (Nat.lt_succ_self g) (show g + 1 ≤ G from h)]
  show (if g = g then _ else _) = _
  rw [if_pos rfl]
  have hv : ∀ j, j < g → nv T X Y t row g j = nv T X Y t row G j := fun j hj => (nv_le hj (by omega)).symm
  rw [nvo_cong hw (show g ≤ 40 by omega) hv (fun _ _ => rfl) hx, nvo_cong hw (show g ≤ 40 by omega) hv (fun _ _ => rfl) hy]
/-- rows that agree in a net's letters -/
theorem nv_row {w G row' : Nat} (hw : w ≤ 8) (hG : G ≤ 40) (hx : ∀ g, g < G → vO w g (X g)) (hy : ∀ g, g < G → vO w g (Y g)) (hr : ∀ k, k < w → row.testBit k = row'.testBit k) : ∀ g, g ≤ G → ∀ j, nv T X Y t row g j = nv T X Y t row' g j
  | 0, _, j => rfl
  | g + 1, h, j => by
    have ih := nv_row hw hG hx hy hr g (by omega)
    show (if j = g then _ else nv T X Y t row g j) = (if j = g then _ else nv T X Y t row' g j)
    rw [ih j, nvo_cong hw (show g ≤ 40 by omega) (fun j _ => ih j) hr (hx g (by omega)), nvo_cong hw (show g ≤ 40 by omega) (fun j _ => ih j) hr (hy g (by omega))]
theorem testBit_mod (w row : Nat) : ∀ k, k < w → row.testBit k = (row % 2 ^ w).testBit k := fun k hk => by rw [Nat.testBit_mod_two_pow]; simp [hk]
/-- gates ahead of the turned one are as they were -/
theorem nv_lo {t' : Nat} : ∀ g, g ≤ t → g ≤ t' → ∀ j, nv T X Y t row g j = nv T X Y t' row g j
  | 0, _, _, _ => rfl
  | g + 1, h, h', j => by
    have ih := nv_lo (t' := t') g (Nat.le_of_succ_le h) (Nat.le_of_succ_le h')
    show (if j = g then _ else nv T X Y t row g j) = (if j = g then _ else nv T X Y t' row g j)
    rw [ih j, show nv T X Y t row g = nv T X Y t' row g from funext ih, show decide (t = g) = decide (t' = g) by rw [decide_eq_false (by omega), decide_eq_false (by omega)]]
end NV

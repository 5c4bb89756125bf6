/-! ===== the memory behind the constructors ===== -/
def kv_op (σ : kv_S) (o : Nat × Nat × Nat × Nat) : kv_S := match o.1 with
  | 0 => kv_mkc σ o.2.1 o.2.2.1
  | 1 => kv_sr σ o.2.1 o.2.2.1 (some o.2.2.2)
  | 2 => kv_si σ o.2.1 o.2.2.1 (Int32.ofNat o.2.2.2)
  | 3 => kv_si σ o.2.1 o.2.2.1 (-1)
  | _ => kv_sl σ o.2.1 o.2.2.1 0
def kv_ops (l : List (Nat × Nat × Nat × Nat)) (σ : kv_S) : kv_S := l.foldl kv_op σ
theorem kv_ops_app (l1 l2 : List (Nat × Nat × Nat × Nat)) (σ : kv_S) : kv_ops (l1 ++ l2) σ = kv_ops l2 (kv_ops l1 σ) := by simp [kv_ops]
def kv_on (l : List (Nat × Nat × Nat × Nat)) : Nat := (l.filter (fun o => o.1 == 0)).length
def kv_oz (l : List (Nat × Nat × Nat × Nat)) : Nat := ((l.filter (fun o => o.1 == 0)).map (fun o => o.2.2.1)).sum
/-- the kind of a cell, by the list -/
def kv_osh : Nat → List (Nat × Nat × Nat × Nat) → Nat → Option (Nat × Nat)
  | _, [], _ => none
  | n, o :: l, b => match kv_osh (if o.1 == 0 then n + 1 else n) l b with
    | some q => some q
    | none => if o.1 == 0 && b == 8 + n then some (o.2.1, o.2.2.1) else none
def kv_or : List (Nat × Nat × Nat × Nat) → Nat → Nat → Option Nat
  | [], _, _ => none
  | o :: l, b, k => match kv_or l b k with
    | some q => some q
    | none => if o.1 == 1 && b == o.2.1 && k == o.2.2.1 then some o.2.2.2 else none
def kv_oi : List (Nat × Nat × Nat × Nat) → Nat → Nat → Option Int32
  | [], _, _ => none
  | o :: l, b, k => match kv_oi l b k with
    | some q => some q
    | none => if o.1 == 2 && b == o.2.1 && k == o.2.2.1 then some (Int32.ofNat o.2.2.2) else if o.1 == 3 && b == o.2.1 && k == o.2.2.1 then some (-1) else none
def kv_ook (l : List (Nat × Nat × Nat × Nat)) : Bool := l.all (fun o => decide (o.1 ≤ 4))
theorem kv_osh_cons (n : Nat) (o : Nat × Nat × Nat × Nat) (l : List (Nat × Nat × Nat × Nat)) (b : Nat) : kv_osh n (o :: l) b = (match kv_osh (if (o.1 == 0) = true then n + 1 else n) l b with | some q => some q | none => if (o.1 == 0 && b == 8 + n) = true then some (o.2.1, o.2.2.1) else none) := rfl
theorem kv_or_cons (o : Nat × Nat × Nat × Nat) (l : List (Nat × Nat × Nat × Nat)) (b k : Nat) : kv_or (o :: l) b k = (match kv_or l b k with | some q => some q | none => if (o.1 == 1 && b == o.2.1 && k == o.2.2.1) = true then some o.2.2.2 else none) := rfl
theorem kv_oi_cons (o : Nat × Nat × Nat × Nat) (l : List (Nat × Nat × Nat × Nat)) (b k : Nat) : kv_oi (o :: l) b k = (match kv_oi l b k with | some q => some q | none => if (o.1 == 2 && b == o.2.1 && k == o.2.2.1) = true then some (Int32.ofNat o.2.2.2) else if (o.1 == 3 && b == o.2.1 && k == o.2.2.1) = true then some (-1) else none) := rfl
theorem kv_n_op (σ : kv_S) (o : Nat × Nat × Nat × Nat) : kv_n (kv_op σ o) = if o.1 == 0 then kv_n σ + 1 else kv_n σ := by
  obtain ⟨t, x⟩ := o
  match t with
  | 0 => rfl
  | 1 => rfl
  | 2 => rfl
  | 3 => rfl
  | _ + 4 => rfl
theorem kv_n_ops : ∀ (l : List (Nat × Nat × Nat × Nat)) (σ : kv_S), kv_n (kv_ops l σ) = kv_n σ + kv_on l
  | [], σ => rfl
  | o :: l, σ => by
    show kv_n (kv_ops l (kv_op σ o)) = _
    rw [kv_n_ops l, kv_n_op]
    by_cases h : (o.1 == 0) = true
    · rw [if_pos h]; simp [kv_on, h]; omega
    · rw [if_neg h]; simp [kv_on, h]
theorem kv_z_op (σ : kv_S) (o : Nat × Nat × Nat × Nat) : kv_z (kv_op σ o) = if o.1 == 0 then kv_z σ + o.2.2.1 else kv_z σ := by
  obtain ⟨t, x⟩ := o
  match t with
  | 0 => rfl
  | 1 => rfl
  | 2 => rfl
  | 3 => rfl
  | _ + 4 => rfl
theorem kv_z_ops : ∀ (l : List (Nat × Nat × Nat × Nat)) (σ : kv_S), kv_z (kv_ops l σ) = kv_z σ + kv_oz l
  | [], σ => rfl
  | o :: l, σ => by
    show kv_z (kv_ops l (kv_op σ o)) = _
    rw [kv_z_ops l, kv_z_op]
    by_cases h : (o.1 == 0) = true
    · rw [if_pos h]; simp [kv_oz, h]; omega
    · rw [if_neg h]; simp [kv_oz, h]
theorem kv_sh_op (σ : kv_S) (o : Nat × Nat × Nat × Nat) (b : Nat) : kv_sh (kv_op σ o) b = if o.1 == 0 && b == 8 + kv_n σ then (o.2.1, o.2.2.1) else kv_sh σ b := by
  obtain ⟨t, x⟩ := o
  match t with
  | 0 => rw [show kv_op σ (0, x) = kv_mkc σ x.1 x.2.1 from rfl, sh_mk]; by_cases h : b = 8 + kv_n σ <;> simp [h]
  | 1 => rfl
  | 2 => rfl
  | 3 => rfl
  | _ + 4 => rfl
theorem kv_sh_ops : ∀ (l : List (Nat × Nat × Nat × Nat)) (σ : kv_S) (b : Nat), kv_sh (kv_ops l σ) b = (kv_osh (kv_n σ) l b).getD (kv_sh σ b)
  | [], σ, b => rfl
  | o :: l, σ, b => by
    show kv_sh (kv_ops l (kv_op σ o)) b = _
    rw [kv_sh_ops l, kv_n_op, kv_sh_op, kv_osh_cons]
    generalize kv_osh (if (o.1 == 0) = true then kv_n σ + 1 else kv_n σ) l b = w
    cases w with
    | some q => rfl
    | none =>
      by_cases h : (o.1 == 0 && b == 8 + kv_n σ) = true
      · rw [if_pos h]; dsimp only; rw [if_pos h]; rfl
      · rw [if_neg h]; dsimp only; rw [if_neg h]
theorem kv_r_op (σ : kv_S) (o : Nat × Nat × Nat × Nat) (b k : Nat) : kv_r (kv_op σ o) b k = if o.1 == 1 && b == o.2.1 && k == o.2.2.1 then some o.2.2.2 else kv_r σ b k := by
  obtain ⟨t, x, y, z⟩ := o
  match t with
  | 0 => rfl
  | 1 => show (if b = x ∧ k = y then some z else kv_r σ b k) = _; by_cases h1 : b = x <;> by_cases h2 : k = y <;> simp [h1, h2]
  | 2 => rfl
  | 3 => rfl
  | _ + 4 => rfl
theorem kv_r_ops : ∀ (l : List (Nat × Nat × Nat × Nat)) (σ : kv_S) (b k : Nat), kv_r (kv_ops l σ) b k = match kv_or l b k with | some q => some q | none => kv_r σ b k
  | [], σ, b, k => rfl
  | o :: l, σ, b, k => by
    show kv_r (kv_ops l (kv_op σ o)) b k = _
    rw [kv_r_ops l, kv_r_op]
    rw [kv_or_cons]
    generalize kv_or l b k = w
    cases w with
    | some q => rfl
    | none =>
      dsimp only
      by_cases h : (o.1 == 1 && b == o.2.1 && k == o.2.2.1) = true
      · rw [if_pos h, if_pos h]
      · rw [if_neg h, if_neg h]
theorem kv_i_op (σ : kv_S) (o : Nat × Nat × Nat × Nat) (b k : Nat) : kv_i (kv_op σ o) b k = if o.1 == 2 && b == o.2.1 && k == o.2.2.1 then Int32.ofNat o.2.2.2 else if o.1 == 3 && b == o.2.1 && k == o.2.2.1 then -1 else kv_i σ b k := by
  obtain ⟨t, x, y, z⟩ := o
  match t with
  | 0 => rfl
  | 1 => rfl
  | 2 => show (if b = x ∧ k = y then Int32.ofNat z else kv_i σ b k) = _; by_cases h1 : b = x <;> by_cases h2 : k = y <;> simp [h1, h2]
  | 3 => show (if b = x ∧ k = y then (-1 : Int32) else kv_i σ b k) = _; by_cases h1 : b = x <;> by_cases h2 : k = y <;> simp [h1, h2]
  | _ + 4 => rfl
theorem kv_i_ops : ∀ (l : List (Nat × Nat × Nat × Nat)) (σ : kv_S) (b k : Nat), kv_i (kv_ops l σ) b k = (kv_oi l b k).getD (kv_i σ b k)
  | [], σ, b, k => rfl
  | o :: l, σ, b, k => by
    show kv_i (kv_ops l (kv_op σ o)) b k = _
    rw [kv_i_ops l, kv_i_op]
    rw [kv_oi_cons]
    generalize kv_oi l b k = w
    cases w with
    | some q => rfl
    | none =>
      dsimp only
      by_cases h : (o.1 == 2 && b == o.2.1 && k == o.2.2.1) = true
      · rw [if_pos h, if_pos h]; rfl
      · rw [if_neg h, if_neg h]
        by_cases h2 : (o.1 == 3 && b == o.2.1 && k == o.2.2.1) = true
        · rw [if_pos h2, if_pos h2]; rfl
        · rw [if_neg h2, if_neg h2]
theorem kv_l_op (σ : kv_S) (o : Nat × Nat × Nat × Nat) (h : ∀ b k, 8 ≤ b → kv_l σ b k = 0) : ∀ b k, 8 ≤ b → kv_l (kv_op σ o) b k = 0 := by
  obtain ⟨t, x, y, z⟩ := o
  intro b k hb
  match t with
  | 0 => exact h b k hb
  | 1 => exact h b k hb
  | 2 => exact h b k hb
  | 3 => exact h b k hb
  | _ + 4 => show (if b = x ∧ k = y then (0 : Int64) else kv_l σ b k) = 0; rw [h b k hb]; split <;> rfl
theorem kv_l_ops : ∀ (l : List (Nat × Nat × Nat × Nat)) (σ : kv_S), (∀ b k, 8 ≤ b → kv_l σ b k = 0) → ∀ b k, 8 ≤ b → kv_l (kv_ops l σ) b k = 0
  | [], σ, h => h
  | o :: l, σ, h => kv_l_ops l (kv_op σ o) (kv_l_op σ o h)
def kv_opA : List (Nat × Nat × Nat × Nat) := [(0, 14, 16, 0), (1, 8, 0, 9), (0, 15, 8, 0), (1, 8, 1, 10), (0, 3, 3, 0), (0, 10, 243, 0), (1, 11, 0, 12), (0, 10, 243, 0), (1, 11, 1, 13), (2, 11, 2, 0), (1, 8, 2, 11), (0, 1, 12, 0), (0, 10, 40, 0), (1, 14, 0, 15), (2, 14, 1, 0), (2, 14, 2, 0), (0, 10, 40, 0), (1, 14, 3, 16), (0, 10, 40, 0), (1, 14, 4, 17), (0, 10, 40, 0), (1, 14, 5, 18), (0, 11, 40, 0), (1, 14, 6, 19), (0, 11, 40, 0), (1, 14, 7, 20), (0, 11, 32, 0), (1, 14, 8, 21), (2, 14, 9, 0), (4, 14, 10, 0), (4, 14, 11, 0), (1, 8, 3, 14), (0, 0, 3, 0), (0, 11, 64, 0), (1, 22, 0, 23), (0, 10, 64, 0), (1, 22, 1, 24), (0, 10, 64, 0), (1, 22, 2, 25), (1, 8, 4, 22), (0, 7, 2, 0), (0, 11, 200, 0), (1, 26, 0, 27), (2, 26, 1, 1), (1, 8, 5, 26), (0, 7, 2, 0), (0, 11, 200, 0), (1, 28, 0, 29), (2, 28, 1, 1), (1, 8, 6, 28), (0, 6, 2, 0), (0, 11, 200, 0), (1, 30, 0, 31), (4, 30, 1, 0), (1, 8, 7, 30), (0, 4, 6, 0), (0, 10, 1800, 0), (1, 32, 0, 33), (0, 10, 40, 0), (1, 32, 1, 34), (0, 10, 40, 0), (1, 32, 2, 35), (0, 10, 6, 0), (1, 32, 3, 36), (2, 32, 4, 0), (3, 32, 5, 0), (1, 8, 8, 32), (2, 8, 9, 0), (2, 8, 10, 0)]
def kv_opT (i : Nat) : List (Nat × Nat × Nat × Nat) := [(0, 5, 4, 0), (0, 10, 32, 0), (1, 37 + 4 * i, 0, 38 + 4 * i), (0, 10, 32, 0), (1, 37 + 4 * i, 1, 39 + 4 * i), (0, 10, 32, 0), (1, 37 + 4 * i, 2, 40 + 4 * i), (2, 37 + 4 * i, 3, 1), (1, 9, i, 37 + 4 * i)]
def kv_opN (i : Nat) : List (Nat × Nat × Nat × Nat) := [(0, 2, 7, 0), (0, 10, 40, 0), (1, 101 + 6 * i, 0, 102 + 6 * i), (0, 10, 40, 0), (1, 101 + 6 * i, 1, 103 + 6 * i), (0, 10, 40, 0), (1, 101 + 6 * i, 2, 104 + 6 * i), (0, 12, 40, 0), (1, 101 + 6 * i, 3, 105 + 6 * i), (0, 10, 6, 0), (1, 101 + 6 * i, 4, 106 + 6 * i), (2, 101 + 6 * i, 5, 1), (2, 101 + 6 * i, 6, 0), (1, 10, i, 101 + 6 * i)]
def kv_opM : List (Nat × Nat × Nat × Nat) := (0, 9, 47, 0) :: [(0, 10, 16, 0), (1, 149, 2, 150), (0, 13, 4096, 0), (1, 149, 3, 151), (0, 10, 512, 0), (1, 149, 4, 152), (0, 10, 9, 0), (2, 153, 0, 1), (2, 153, 1, 3), (2, 153, 2, 9), (2, 153, 3, 27), (2, 153, 4, 81), (2, 153, 5, 243), (2, 153, 6, 729), (2, 153, 7, 2187), (2, 153, 8, 6561), (1, 149, 5, 153), (0, 12, 6561, 0), (1, 149, 6, 154), (0, 10, 6561, 0), (1, 149, 8, 155), (0, 10, 40, 0), (1, 149, 9, 156), (0, 10, 40, 0), (1, 149, 10, 157), (0, 10, 40, 0), (1, 149, 11, 158), (0, 10, 40, 0), (1, 149, 13, 159), (0, 10, 40, 0), (1, 149, 18, 160), (0, 10, 243, 0), (1, 149, 19, 161), (0, 10, 32, 0), (1, 149, 20, 162), (0, 10, 41, 0), (1, 149, 21, 163), (0, 10, 41, 0), (1, 149, 22, 164), (0, 10, 8, 0), (1, 149, 23, 165), (0, 12, 8, 0), (1, 149, 24, 166), (0, 11, 64, 0), (1, 149, 25, 167), (0, 10, 8, 0), (1, 149, 27, 168), (0, 10, 8, 0), (1, 149, 28, 169), (0, 10, 320, 0), (1, 149, 29, 170), (0, 10, 320, 0), (1, 149, 30, 171), (0, 10, 320, 0), (1, 149, 31, 172), (0, 12, 320, 0), (1, 149, 32, 173), (0, 10, 48, 0), (1, 149, 33, 174), (3, 149, 34, 0), (0, 10, 4000, 0), (1, 149, 36, 175), (0, 10, 4000, 0), (1, 149, 37, 176), (0, 10, 4000, 0), (1, 149, 38, 177), (0, 10, 40, 0), (1, 149, 39, 178), (0, 10, 40, 0), (1, 149, 40, 179), (0, 10, 6, 0), (1, 149, 41, 180), (0, 10, 40, 0), (1, 149, 42, 181), (0, 10, 6, 0), (1, 149, 43, 182), (0, 12, 40, 0), (1, 149, 46, 183)]
def kv_opTs : Nat → List (Nat × Nat × Nat × Nat)
  | 0 => []
  | i + 1 => kv_opTs i ++ kv_opT i
def kv_opNs : Nat → List (Nat × Nat × Nat × Nat)
  | 0 => []
  | i + 1 => kv_opNs i ++ kv_opN i
def kv_OPS : List (Nat × Nat × Nat × Nat) := (0, 8, 11, 0) :: (kv_opA ++ (kv_opTs 16 ++ (kv_opNs 8 ++ kv_opM)))
theorem kv_OPS_n : kv_on kv_OPS = 176 ∧ kv_oz kv_OPS ≤ 100000 := by decide +kernel

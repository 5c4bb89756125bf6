/-! ===== graphs: how many different values; orders of letters ===== -/
theorem cnt_del {B : Nat → Bool} {y : Nat} (hy : B y = true) : ∀ n, y < n → cnt B n = cnt (fun i => B i && decide (i ≠ y)) n + 1
  | 0, h => absurd h (by omega)
  | n + 1, h => by
    show cnt B n + (B n).toNat = cnt (fun i => B i && decide (i ≠ y)) n + (B n && decide (n ≠ y)).toNat + 1
    by_cases c : n = y
    · subst c
      rw [cnt_congr n (Q := fun i => B i && decide (i ≠ n)) (fun i hi => by rw [decide_eq_true (show i ≠ n by omega), Bool.and_true]), hy]
      simp
    · rw [cnt_del hy n (by omega), decide_eq_true c, Bool.and_true]; omega
theorem cnt_inj {A : Nat → Bool} {n : Nat} : ∀ (m : Nat) (B : Nat → Bool) (φ : Nat → Nat), (∀ j, j < m → A j = true → φ j < n ∧ B (φ j) = true) → (∀ j i, j < i → i < m → A j = true → A i = true → φ j ≠ φ i) → cnt A m ≤ cnt B n
  | 0, _, _, _, _ => Nat.zero_le _
  | m + 1, B, φ, h1, h2 => by
    show cnt A m + (A m).toNat ≤ _
    cases e : A m with
    | false => exact cnt_inj m B φ (fun j hj => h1 j (by omega)) (fun j i hj hi => h2 j i hj (by omega))
    | true =>
      obtain ⟨q1, q2⟩ := h1 m (by omega) e
      rw [cnt_del q2 n q1]
      have := cnt_inj m (fun i => B i && decide (i ≠ φ m)) φ (fun j hj ha => by
        obtain ⟨w1, w2⟩ := h1 j (by omega) ha
        refine ⟨w1, ?_⟩
        show (B (φ j) && decide (φ j ≠ φ m)) = true
        rw [w2, decide_eq_true (h2 j m hj (by omega) ha e)]; rfl) (fun j i hj hi => h2 j i hj (by omega))
      have : (true : Bool).toNat = 1 := rfl
      omega
/-- the first of those that have the same value -/
def rp (K : Nat → Int64) (P : Nat → Bool) (i : Nat) : Bool := P i && !anyN (fun k => P k && decide (K k = K i)) i
def dc (K : Nat → Int64) (P : Nat → Bool) (n : Nat) : Nat := cnt (rp K P) n
theorem dc_le {K K' : Nat → Int64} {P P' : Nat → Bool} {m n : Nat} (φ : Nat → Nat) (h1 : ∀ j, j < m → P' j = true → φ j < n ∧ P (φ j) = true) (h2 : ∀ j i, j < m → i < m → P' j = true → P' i = true → K (φ j) = K (φ i) → K' j = K' i) : dc K' P' m ≤ dc K P n := by
  have ex : ∀ j, ∃ i, j < m → P' j = true → i < n ∧ P i = true ∧ K i = K (φ j) ∧ ∀ k, k < i → (P k && decide (K k = K (φ j))) = false := fun j => by
    by_cases c : j < m ∧ P' j = true
    · obtain ⟨q1, q2⟩ := h1 j c.1 c.2
      obtain ⟨i, w1, w2, w3⟩ := first_of (f := fun k => P k && decide (K k = K (φ j))) n ((anyN_iff n).mpr ⟨φ j, q1, by show (P (φ j) && decide (K (φ j) = K (φ j))) = true; rw [q2, decide_eq_true rfl]; rfl⟩)
      have w2 : (P i && decide (K i = K (φ j))) = true := w2
      rw [Bool.and_eq_true, decide_eq_true_eq] at w2
      exact ⟨i, fun _ _ => ⟨w1, w2.1, w2.2, w3⟩⟩
    · exact ⟨0, fun a b => absurd ⟨a, b⟩ c⟩
  obtain ⟨ψ, hψ⟩ := Classical.axiomOfChoice ex
  refine cnt_inj m (rp K P) ψ (fun j hj hr => ?_) (fun j i hj hi hr hr2 heq => ?_)
  · have hr : (P' j && !anyN (fun k => P' k && decide (K' k = K' j)) j) = true := hr
    rw [Bool.and_eq_true] at hr
    obtain ⟨a, b, c, e⟩ := hψ j hj hr.1
    refine ⟨a, ?_⟩
    unfold rp
    rw [b, c, Bool.true_and, Bool.not_eq_true']
    refine Bool.eq_false_iff.mpr fun hc => ?_
    obtain ⟨k, u1, u2⟩ := (anyN_iff _).mp hc
    have := e k u1
    have u2 : (P k && decide (K k = K (φ j))) = true := u2
    rw [this] at u2; cases u2
  · have hr : (P' j && !anyN (fun k => P' k && decide (K' k = K' j)) j) = true := hr
    have hr2 : (P' i && !anyN (fun k => P' k && decide (K' k = K' i)) i) = true := hr2
    rw [Bool.and_eq_true] at hr hr2
    obtain ⟨-, -, c, -⟩ := hψ j (by omega) hr.1
    obtain ⟨-, -, c2, -⟩ := hψ i hi hr2.1
    have e := h2 j i (by omega) hi hr.1 hr2.1 (by rw [← c, ← c2, heq])
    have h3 := hr2.2
    rw [Bool.not_eq_true'] at h3
    have h4 : anyN (fun k => P' k && decide (K' k = K' i)) i = true := (anyN_iff _).mpr ⟨j, hj, by show (P' j && decide (K' j = K' i)) = true; rw [hr.1, decide_eq_true e]; rfl⟩
    rw [h3] at h4; cases h4
/-- a long out of bits -/
def lw (f : Nat → Bool) : Int64 := Int64.ofNat (wd f 64)
theorem lb_lw (f : Nat → Bool) {r : Nat} (hr : r < 64) : lb (lw f) r = f r := by
  show (BitVec.ofNat 64 (wd f 64)).getLsbD r = f r
  rw [BitVec.getLsbD_ofNat, decide_eq_true hr, Bool.true_and, wd_tb, decide_eq_true hr, Bool.true_and]
theorem lw_eq {f g : Nat → Bool} : lw f = lw g ↔ ∀ r, r < 64 → f r = g r := by
  constructor
  · intro h r hr
    rw [← lb_lw f hr, ← lb_lw g hr, h]
  · intro h
    exact lb_ext (fun r hr => by rw [lb_lw f hr, lb_lw g hr, h r hr])
theorem lw_of {z : Int64} {f : Nat → Bool} (h : ∀ r, r < 64 → lb z r = f r) : z = lw f := lb_ext (fun r hr => by rw [lb_lw f hr, h r hr])
/-! letters that are not told, by their rank -/
def unt (t r : Nat) : Bool := !t.testBit r
def fnd (p : Nat → Bool) : Nat → Nat → Nat
  | 0, i => i
  | m + 1, i => if p i = true then i else fnd p m (i + 1)
theorem fnd_ok {p : Nat → Bool} {r : Nat} (hr : p r = true) : ∀ m i, i ≤ r → r < i + m → p (fnd p m i) = true ∧ fnd p m i ≤ r
  | 0, i, h1, h2 => absurd h2 (by omega)
  | m + 1, i, h1, h2 => by
    unfold fnd
    by_cases c : p i = true
    · rw [if_pos c]; exact ⟨c, h1⟩
    · rw [if_neg c]
      refine fnd_ok hr m (i + 1) ?_ (by omega)
      rcases Nat.lt_or_eq_of_le h1 with z | z
      · exact z
      · rw [z] at c; exact absurd hr c
def nu (t q : Nat) : Nat := fnd (fun r => unt t r && cnt (unt t) r == q) 8 0
theorem nu_spec {t q w : Nat} (hw : w ≤ 8) (h : q < cnt (unt t) w) : nu t q < w ∧ unt t (nu t q) = true ∧ cnt (unt t) (nu t q) = q := by
  obtain ⟨r, h1, h2, h3⟩ := nth_ex (unt t) w q h
  obtain ⟨a, b⟩ := fnd_ok (p := fun r => unt t r && cnt (unt t) r == q) (r := r) (by show (unt t r && cnt (unt t) r == q) = true; rw [h2, h3]; simp) 8 0 (by omega) (by omega)
  have a : (unt t (nu t q) && cnt (unt t) (nu t q) == q) = true := a
  rw [Bool.and_eq_true, beq_iff_eq] at a
  exact ⟨by show fnd _ 8 0 < w; omega, a⟩
theorem nu_uniq {t q l : Nat} (hl : l < 8) (h1 : unt t l = true) (h2 : cnt (unt t) l = q) : nu t q = l := by
  have e : cnt (unt t) (l + 1) = cnt (unt t) l + (unt t l).toNat := rfl
  rw [h1] at e
  have : (true : Bool).toNat = 1 := rfl
  obtain ⟨a, b, c⟩ := nu_spec (t := t) (q := q) (w := l + 1) (by omega) (by omega)
  by_cases z : nu t q = l
  · exact z
  · have := cnt_lt_of (show nu t q < l by omega) b
    omega
theorem tb_or2 (t l r : Nat) : (t ||| 2 ^ l).testBit r = (t.testBit r || decide (l = r)) := by rw [Nat.testBit_or, Nat.testBit_two_pow]
theorem unt_or (t l r : Nat) : unt (t ||| 2 ^ l) r = (unt t r && decide (r ≠ l)) := by
  unfold unt
  rw [tb_or2]
  by_cases c : l = r
  · subst c; simp
  · simp [c, show ¬ r = l from fun h => c h.symm]
theorem cnt_unt {t l w : Nat} (hl : l < w) (h : unt t l = true) : cnt (unt t) w = cnt (unt (t ||| 2 ^ l)) w + 1 := by
  rw [cnt_del h w hl, cnt_congr w (fun r _ => unt_or t l r)]
theorem cnt_unt0 (w : Nat) : cnt (unt 0) w = w := by
  have : ∀ n, cnt (unt 0) n = n := fun n => by
    induction n with
    | zero => rfl
    | succ n ih =>
      show cnt (unt 0) n + (unt 0 n).toNat = n + 1
      rw [ih]; unfold unt; simp
  exact this w
def fac : Nat → Nat
  | 0 => 1
  | n + 1 => (n + 1) * fac n
theorem fac_pos : ∀ n, 0 < fac n
  | 0 => Nat.one_pos
  | n + 1 => Nat.mul_pos (by omega) (fac_pos n)
def ol : Nat → Nat → Nat → Nat → Nat
  | 0, _, _, _ => 0
  | m + 1, t, x, 0 => nu t (x / fac m)
  | m + 1, t, x, i + 1 => ol m (t ||| 2 ^ nu t (x / fac m)) (x % fac m) i
def cost (N : Nat → Nat → Nat) : Nat → Nat → Nat → Nat
  | 0, _, _ => 0
  | m + 1, t, x => N t (nu t (x / fac m)) + cost N m (t ||| 2 ^ nu t (x / fac m)) (x % fac m)
def tl (o : Nat → Nat) (t : Nat) : Nat → Nat
  | 0 => t
  | k + 1 => tl o t k ||| 2 ^ o k
def sm (F : Nat → Nat) : Nat → Nat
  | 0 => 0
  | k + 1 => sm F k + F k
theorem sm_front (F : Nat → Nat) : ∀ k, sm F (k + 1) = F 0 + sm (fun i => F (i + 1)) k
  | 0 => by show 0 + F 0 = F 0 + 0; omega
  | k + 1 => by
    show sm F (k + 1) + F (k + 1) = F 0 + (sm (fun i => F (i + 1)) k + F (k + 1))
    rw [sm_front F k]; omega
theorem sm_congr {F G : Nat → Nat} : ∀ k, (∀ i, i < k → F i = G i) → sm F k = sm G k
  | 0, _ => rfl
  | k + 1, h => by show sm F k + F k = sm G k + G k; rw [sm_congr k (fun i hi => h i (by omega)), h k (by omega)]
theorem tl_front (o : Nat → Nat) (t : Nat) : ∀ k, tl o t (k + 1) = tl (fun i => o (i + 1)) (t ||| 2 ^ o 0) k
  | 0 => rfl
  | k + 1 => by
    show tl o t (k + 1) ||| 2 ^ o (k + 1) = tl (fun i => o (i + 1)) (t ||| 2 ^ o 0) k ||| 2 ^ o (k + 1)
    rw [tl_front o t k]
theorem cost_sm (N : Nat → Nat → Nat) : ∀ m t x, cost N m t x = sm (fun i => N (tl (ol m t x) t i) (ol m t x i)) m
  | 0, _, _ => rfl
  | m + 1, t, x => by
    rw [sm_front]
    show N t (nu t (x / fac m)) + cost N m (t ||| 2 ^ nu t (x / fac m)) (x % fac m) = N t (nu t (x / fac m)) + _
    rw [cost_sm N m]
    refine congrArg _ (sm_congr m (fun i _ => ?_))
    rw [tl_front]
    rfl
theorem tl_tb (o : Nat → Nat) (t : Nat) : ∀ k r, (tl o t k).testBit r = true ↔ t.testBit r = true ∨ ∃ i, i < k ∧ o i = r
  | 0, r => ⟨Or.inl, fun h => h.elim id (fun ⟨i, hi, _⟩ => absurd hi (by omega))⟩
  | k + 1, r => by
    show (tl o t k ||| 2 ^ o k).testBit r = true ↔ _
    rw [tb_or2, Bool.or_eq_true, tl_tb o t k r, decide_eq_true_eq, ex_succ, or_assoc]
/-- the letters of an order: each once, all of them -/
theorem ol_ok : ∀ m t x w, w ≤ 8 → cnt (unt t) w = m → x < fac m → (∀ i, i < m → ol m t x i < w ∧ unt t (ol m t x i) = true) ∧ (∀ i j, i < j → j < m → ol m t x i ≠ ol m t x j)
  | 0, _, _, _, _, _, _ => ⟨fun i hi => absurd hi (by omega), fun i j _ hj => absurd hj (by omega)⟩
  | m + 1, t, x, w, hw, hc, hx => by
    have hq : x / fac m < m + 1 := Nat.div_lt_of_lt_mul (by rw [Nat.mul_comm]; exact hx)
    obtain ⟨a, b, c⟩ := nu_spec (t := t) (q := x / fac m) hw (by omega)
    have hc2 := cnt_unt a b
    obtain ⟨i1, i2⟩ := ol_ok m (t ||| 2 ^ nu t (x / fac m)) (x % fac m) w hw (by omega) (Nat.mod_lt _ (fac_pos m))
    have i3 : ∀ i, i < m → unt t (ol m (t ||| 2 ^ nu t (x / fac m)) (x % fac m) i) = true ∧ ol m (t ||| 2 ^ nu t (x / fac m)) (x % fac m) i ≠ nu t (x / fac m) := fun i hi => by
      have := (i1 i hi).2
      rw [unt_or, Bool.and_eq_true, decide_eq_true_eq] at this
      exact this
    refine ⟨fun i hi => ?_, fun i j hij hj => ?_⟩
    · cases i with
      | zero => exact ⟨a, b⟩
      | succ i => exact ⟨(i1 i (by omega)).1, (i3 i (by omega)).1⟩
    · cases j with
      | zero => omega
      | succ j =>
        cases i with
        | zero => exact fun h => (i3 j (by omega)).2 h.symm
        | succ i => exact i2 i j (by omega) (by omega)

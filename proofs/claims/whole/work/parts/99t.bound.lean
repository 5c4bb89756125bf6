/-! ===== how many primes there are; each row that is not 0 has one ===== -/
theorem fD_sh2 {D : Nat → Nat} {B : Nat → Bool} (c : Nat) : ∀ n off, fD D B n (off + c) = fD D (fun r => B (r + c)) n off
  | 0, off => rfl
  | n + 1, off => by
    show ((D n == 1 || fD D B n (off + c)) && (D n == 0 || fD D B n (off + c + 2 ^ n))) = ((D n == 1 || fD D (fun r => B (r + c)) n off) && (D n == 0 || fD D (fun r => B (r + c)) n (off + 2 ^ n)))
    rw [fD_sh2 c n off, show off + c + 2 ^ n = off + 2 ^ n + c by omega, fD_sh2 c n (off + 2 ^ n)]
theorem fD_and {D : Nat → Nat} {B C : Nat → Bool} : ∀ n off, fD D (fun r => B r && C r) n off = (fD D B n off && fD D C n off)
  | 0, off => rfl
  | n + 1, off => by
    show ((D n == 1 || fD D (fun r => B r && C r) n off) && (D n == 0 || fD D (fun r => B r && C r) n (off + 2 ^ n))) = (((D n == 1 || fD D B n off) && (D n == 0 || fD D B n (off + 2 ^ n))) && ((D n == 1 || fD D C n off) && (D n == 0 || fD D C n (off + 2 ^ n))))
    rw [fD_and n off, fD_and n (off + 2 ^ n)]
    generalize (D n == 1) = a1
    generalize (D n == 0) = a0
    generalize fD D B n off = x1
    generalize fD D C n off = x0
    generalize fD D B n (off + 2 ^ n) = y1
    generalize fD D C n (off + 2 ^ n) = y0
    revert a1 a0 x1 x0 y1 y0
    decide
theorem fD_B {D : Nat → Nat} {B C : Nat → Bool} : ∀ n off, (∀ r, off ≤ r → r < off + 2 ^ n → B r = C r) → fD D B n off = fD D C n off
  | 0, off, h => h off (Nat.le_refl _) (by rw [Nat.pow_zero]; omega)
  | n + 1, off, h => by
    have e : 2 ^ (n + 1) = 2 ^ n + 2 ^ n := by rw [Nat.pow_succ]; omega
    show ((D n == 1 || fD D B n off) && (D n == 0 || fD D B n (off + 2 ^ n))) = ((D n == 1 || fD D C n off) && (D n == 0 || fD D C n (off + 2 ^ n)))
    rw [fD_B n off (fun r h1 h2 => h r h1 (by omega)), fD_B n (off + 2 ^ n) (fun r h1 h2 => h r (by omega) (by omega))]
theorem FIT_B {B C : Nat → Bool} {n : Nat} (h : ∀ r, r < 2 ^ n → B r = C r) (p : Nat) : FIT B n p = FIT C n p := fD_B n 0 (fun r _ h2 => h r (by omega))
theorem PRM_B {B C : Nat → Bool} {n : Nat} (h : ∀ r, r < 2 ^ n → B r = C r) (p : Nat) : PRM B n p = PRM C n p := by
  unfold PRM
  rw [FIT_B h, anyN_congr n (fun k hk => by rw [FIT_B h])]
/-- the halves of a function by its last letter -/
def hB1 (B : Nat → Bool) (n r : Nat) : Bool := B (r + 2 ^ n)
def hB2 (B : Nat → Bool) (n r : Nat) : Bool := B r && B (r + 2 ^ n)
theorem dgf_top {q n e : Nat} (hq : q < 3 ^ n) (he : e < 3) : dgf (q + 3 ^ n * e) n = e ∧ ∀ k, k < n → dgf (q + 3 ^ n * e) k = dgf q k := by
  refine ⟨?_, fun k hk => ?_⟩
  · rw [dgf_form hq, if_neg (by omega), Nat.sub_self]
    unfold dgf
    rw [Nat.pow_zero, Nat.div_one]; omega
  · rw [dgf_form hq, if_pos hk]
theorem FIT_top {B : Nat → Bool} {n q e : Nat} (hq : q < 3 ^ n) (he : e < 3) : FIT B (n + 1) (q + 3 ^ n * e) = ((e == 1 || FIT B n q) && (e == 0 || FIT (hB1 B n) n q)) := by
  obtain ⟨d1, d2⟩ := dgf_top hq he
  show ((dgf (q + 3 ^ n * e) n == 1 || fD (dgf (q + 3 ^ n * e)) B n 0) && (dgf (q + 3 ^ n * e) n == 0 || fD (dgf (q + 3 ^ n * e)) B n (0 + 2 ^ n))) = _
  rw [d1, fD_congr n 0 d2, fD_congr n (0 + 2 ^ n) d2, fD_sh2]
  rfl
theorem FIT_hB2 {B : Nat → Bool} {n q : Nat} : FIT (hB2 B n) n q = (FIT B n q && FIT (hB1 B n) n q) := fD_and n 0
theorem PRM_top {B C : Nat → Bool} {n q e : Nat} (hq : q < 3 ^ n) (he : e < 3) (hC : ∀ x, x < 3 ^ n → FIT B (n + 1) (x + 3 ^ n * e) = FIT C n x) (h : PRM B (n + 1) (q + 3 ^ n * e) = true) : PRM C n q = true := by
  unfold PRM at h ⊢
  rw [Bool.and_eq_true, Bool.not_eq_true'] at h ⊢
  refine ⟨by rw [← hC q hq]; exact h.1, ?_⟩
  refine Bool.eq_false_iff.mpr fun hc => ?_
  obtain ⟨k, hk, q2⟩ := (anyN_iff _).mp hc
  have q2 : (!(dgf q k == 2) && FIT C n (q + (2 - dgf q k) * 3 ^ k)) = true := q2
  obtain ⟨d1, d2⟩ := dgf_top hq he
  have : anyN (fun k => !(dgf (q + 3 ^ n * e) k == 2) && FIT B (n + 1) (q + 3 ^ n * e + (2 - dgf (q + 3 ^ n * e) k) * 3 ^ k)) (n + 1) = true := (anyN_iff _).mpr ⟨k, by omega, by
    show (!(dgf (q + 3 ^ n * e) k == 2) && FIT B (n + 1) (q + 3 ^ n * e + (2 - dgf (q + 3 ^ n * e) k) * 3 ^ k)) = true
    rw [d2 k hk, show q + 3 ^ n * e + (2 - dgf q k) * 3 ^ k = q + (2 - dgf q k) * 3 ^ k + 3 ^ n * e by omega, hC _ (dgf_add_lt hk hq)]
    exact q2⟩
  rw [h.2] at this; cases this
theorem PRM_wid {B : Nat → Bool} {n q e : Nat} (hq : q < 3 ^ n) (he : e < 2) (h : PRM B (n + 1) (q + 3 ^ n * e) = true) : FIT B (n + 1) (q + 3 ^ n * 2) = false := by
  unfold PRM at h
  rw [Bool.and_eq_true, Bool.not_eq_true'] at h
  refine Bool.eq_false_iff.mpr fun hc => ?_
  obtain ⟨d1, d2⟩ := dgf_top hq (show e < 3 by omega)
  have : anyN (fun k => !(dgf (q + 3 ^ n * e) k == 2) && FIT B (n + 1) (q + 3 ^ n * e + (2 - dgf (q + 3 ^ n * e) k) * 3 ^ k)) (n + 1) = true := (anyN_iff _).mpr ⟨n, by omega, by
    show (!(dgf (q + 3 ^ n * e) n == 2) && FIT B (n + 1) (q + 3 ^ n * e + (2 - dgf (q + 3 ^ n * e) n) * 3 ^ n)) = true
    rw [d1, show q + 3 ^ n * e + (2 - e) * 3 ^ n = q + 3 ^ n * 2 by
      rw [Nat.mul_comm (2 - e), Nat.add_assoc, ← Nat.mul_add]; congr 2; omega, hc, Bool.and_true, Bool.not_eq_true']
    exact beq_false_of_ne (by omega)⟩
  rw [h.2] at this; cases this
theorem cnt_imp {f g : Nat → Bool} {n : Nat} (h : ∀ r, r < n → f r = true → g r = true) : cnt f n ≤ cnt g n := cnt_inj n g id (fun j hj ha => ⟨hj, h j hj ha⟩) (fun j i hj _ _ _ e => by have : j = i := e; omega)
theorem PRM_cnt (B : Nat → Bool) (n : Nat) : cnt (PRM B (n + 1)) (3 ^ (n + 1)) ≤ cnt (fun q => PRM B n q && !FIT (hB1 B n) n q) (3 ^ n) + cnt (fun q => PRM (hB1 B n) n q && !FIT B n q) (3 ^ n) + cnt (PRM (hB2 B n) n) (3 ^ n) := by
  have e : 3 ^ (n + 1) = 3 ^ n + 3 ^ n + 3 ^ n := by rw [Nat.pow_succ]; omega
  rw [e, cnt_add, cnt_add]
  have f0 : ∀ x, x < 3 ^ n → FIT B (n + 1) (x + 3 ^ n * 0) = FIT B n x := fun x hx => by rw [FIT_top hx (by decide)]; simp
  have f1 : ∀ x, x < 3 ^ n → FIT B (n + 1) (x + 3 ^ n * 1) = FIT (hB1 B n) n x := fun x hx => by rw [FIT_top hx (by decide)]; simp
  have f2 : ∀ x, x < 3 ^ n → FIT B (n + 1) (x + 3 ^ n * 2) = FIT (hB2 B n) n x := fun x hx => by rw [FIT_top hx (by decide), FIT_hB2]; simp
  have c0 : cnt (PRM B (n + 1)) (3 ^ n) ≤ cnt (fun q => PRM B n q && !FIT (hB1 B n) n q) (3 ^ n) := cnt_imp (fun q hq h => by
    have h : PRM B (n + 1) (q + 3 ^ n * 0) = true := h
    have a := PRM_top hq (by decide) f0 h
    have b := PRM_wid hq (by decide) h
    have c : FIT B n q = true := by unfold PRM at a; rw [Bool.and_eq_true] at a; exact a.1
    rw [f2 q hq, FIT_hB2, c, Bool.true_and] at b
    rw [a, b]; rfl)
  have c1 : cnt (fun i => PRM B (n + 1) (3 ^ n + i)) (3 ^ n) ≤ cnt (fun q => PRM (hB1 B n) n q && !FIT B n q) (3 ^ n) := cnt_imp (fun q hq h => by
    have h : PRM B (n + 1) (q + 3 ^ n * 1) = true := by rw [Nat.mul_one, Nat.add_comm q]; exact h
    have a := PRM_top hq (by decide) f1 h
    have b := PRM_wid hq (by decide) h
    have c : FIT (hB1 B n) n q = true := by unfold PRM at a; rw [Bool.and_eq_true] at a; exact a.1
    rw [f2 q hq, FIT_hB2, c, Bool.and_true] at b
    rw [a, b]; rfl)
  have c2 : cnt (fun i => PRM B (n + 1) (3 ^ n + 3 ^ n + i)) (3 ^ n) ≤ cnt (PRM (hB2 B n) n) (3 ^ n) := cnt_imp (fun q hq h => by
    have h : PRM B (n + 1) (q + 3 ^ n * 2) = true := by rw [show q + 3 ^ n * 2 = 3 ^ n + 3 ^ n + q by omega]; exact h
    exact PRM_top hq (by decide) f2 h)
  omega
theorem wd_xa (f g : Nat → Bool) (n : Nat) : wd f n ^^^ (wd f n &&& wd g n) = wd (fun r => f r && !g r) n := by
  refine Nat.eq_of_testBit_eq fun r => ?_
  rw [Nat.testBit_xor, Nat.testBit_and, wd_tb, wd_tb, wd_tb]
  cases decide (r < n) <;> cases f r <;> cases g r <;> rfl
theorem tq_wd (B : Nat → Bool) {r : Nat} (hr : r < 8) : tq (wd B 8) r = B r := by
  unfold tq
  rw [wd_tb, decide_eq_true hr, Bool.true_and]
theorem PRM_4 (B : Nat → Bool) : cnt (PRM B 4) (3 ^ 4) ≤ 13 := by
  have h1 := PRM_cnt B 3
  have k := four_k (wd B 8) (wd_lt B 8) (wd (hB1 B 3) 8) (wd_lt _ 8)
  have hu : ∀ r, r < 2 ^ 3 → tq (wd B 8) r = B r := fun r hr => tq_wd B hr
  have hv : ∀ r, r < 2 ^ 3 → tq (wd (hB1 B 3) 8) r = hB1 B 3 r := fun r hr => tq_wd _ hr
  have hx : ∀ r, r < 2 ^ 3 → tq (wd B 8 &&& wd (hB1 B 3) 8) r = hB2 B 3 r := fun r hr => by
    have a := hu r hr
    have b := hv r hr
    unfold tq at a b ⊢
    rw [Nat.testBit_and, a, b]; rfl
  have lx : wd B 8 &&& wd (hB1 B 3) 8 < 256 := Nat.and_lt_two_pow (n := 8) _ (wd_lt (hB1 B 3) 8)
  obtain ⟨u1, u2⟩ := tPI_ok (wd B 8) (wd_lt B 8)
  obtain ⟨v1, v2⟩ := tPI_ok (wd (hB1 B 3) 8) (wd_lt _ 8)
  obtain ⟨x1, -⟩ := tPI_ok _ lx
  rw [wd_ext (fun r _ => PRM_B hu r)] at u1
  rw [wd_ext (fun r _ => FIT_B hu r)] at u2
  rw [wd_ext (fun r _ => PRM_B hv r)] at v1
  rw [wd_ext (fun r _ => FIT_B hv r)] at v2
  rw [wd_ext (fun r _ => PRM_B hx r)] at x1
  rw [u1, u2, v1, v2, x1, wd_xa, wd_xa, pcq_ok, pcq_ok, pcq_ok, wd_cnt, wd_cnt, wd_cnt] at k
  exact Nat.le_trans h1 k
theorem PRM_40 (B : Nat → Bool) {w : Nat} (hw : w ≤ 5) : cnt (PRM B w) (3 ^ w) ≤ 40 := by
  by_cases c5 : w = 5
  · subst c5
    have h : cnt (PRM B 5) (3 ^ 5) ≤ _ := PRM_cnt B 4
    have a : cnt (fun q => PRM B 4 q && !FIT (hB1 B 4) 4 q) (3 ^ 4) ≤ cnt (PRM B 4) (3 ^ 4) := cnt_imp (fun q _ hq => by rw [Bool.and_eq_true] at hq; exact hq.1)
    have b : cnt (fun q => PRM (hB1 B 4) 4 q && !FIT B 4 q) (3 ^ 4) ≤ cnt (PRM (hB1 B 4) 4) (3 ^ 4) := cnt_imp (fun q _ hq => by rw [Bool.and_eq_true] at hq; exact hq.1)
    have h1 := PRM_4 B
    have h2 := PRM_4 (hB1 B 4)
    have h3 := PRM_4 (hB2 B 4)
    omega
  · by_cases c4 : w = 4
    · subst c4
      have := PRM_4 B
      omega
    · have h := cnt_le (PRM B w) (3 ^ w)
      have : ∀ w, w ≤ 3 → 3 ^ w ≤ 40 := by decide
      exact Nat.le_trans h (this w (by omega))
/-- a product holds at a row -/
def hol (n p r : Nat) : Bool := !anyN (fun k => !(dgf p k == 2) && !(dgf p k == (r.testBit k).toNat)) n
theorem hol_s (n p r : Nat) : hol (n + 1) p r = (hol n p r && (dgf p n == 2 || dgf p n == (r.testBit n).toNat)) := by
  unfold hol
  show (!(anyN (fun k => !(dgf p k == 2) && !(dgf p k == (r.testBit k).toNat)) n || (!(dgf p n == 2) && !(dgf p n == (r.testBit n).toNat)))) = _
  rw [Bool.not_or]
  cases (dgf p n == 2) <;> cases (dgf p n == (r.testBit n).toNat) <;> rfl
theorem hol_iff {n p r : Nat} : hol n p r = true ↔ ∀ k, k < n → dgf p k = 2 ∨ dgf p k = (r.testBit k).toNat := by
  unfold hol
  rw [Bool.not_eq_true']
  constructor
  · intro h k hk
    by_cases c : dgf p k = 2
    · exact Or.inl c
    · refine Or.inr (Classical.byContradiction fun c2 => ?_)
      have : anyN (fun k => !(dgf p k == 2) && !(dgf p k == (r.testBit k).toNat)) n = true := (anyN_iff _).mpr ⟨k, hk, by
        show (!(dgf p k == 2) && !(dgf p k == (r.testBit k).toNat)) = true
        rw [beq_false_of_ne c, beq_false_of_ne c2]; rfl⟩
      rw [h] at this; cases this
  · intro h
    refine Bool.eq_false_iff.mpr fun hc => ?_
    obtain ⟨k, hk, q⟩ := (anyN_iff _).mp hc
    have q : (!(dgf p k == 2) && !(dgf p k == (r.testBit k).toNat)) = true := q
    rw [Bool.and_eq_true, Bool.not_eq_true', Bool.not_eq_true'] at q
    rcases h k hk with z | z
    · exact absurd q.1 (by rw [z]; decide)
    · exact absurd q.2 (by rw [z]; simp)
/-- the product of one row -/
def mt : Nat → Nat → Nat
  | 0, _ => 0
  | n + 1, r => mt n r + 3 ^ n * (r / 2 ^ n % 2)
theorem mt_lt (r : Nat) : ∀ n, mt n r < 3 ^ n
  | 0 => Nat.one_pos
  | n + 1 => by
    have ih := mt_lt r n
    show mt n r + 3 ^ n * (r / 2 ^ n % 2) < 3 ^ (n + 1)
    rw [Nat.pow_succ]
    rcases Nat.mod_two_eq_zero_or_one (r / 2 ^ n) with q | q <;> rw [q] <;> omega
theorem mt_dgf (r : Nat) : ∀ n k, k < n → dgf (mt n r) k = r / 2 ^ k % 2
  | 0, k, h => absurd h (by omega)
  | n + 1, k, h => by
    obtain ⟨d1, d2⟩ := dgf_top (mt_lt r n) (show r / 2 ^ n % 2 < 3 by omega)
    show dgf (mt n r + 3 ^ n * (r / 2 ^ n % 2)) k = _
    by_cases c : k = n
    · rw [c, d1]
    · rw [d2 k (by omega)]; exact mt_dgf r n k (by omega)
theorem PRM_cov {B : Nat → Bool} {n r : Nat} (hr : r < 2 ^ n) (hB : B r = true) : ∃ p, p < 3 ^ n ∧ PRM B n p = true ∧ hol n p r = true := by
  have key : ∀ m p, p < 3 ^ n → 3 ^ n - p ≤ m → FIT B n p = true → hol n p r = true → ∃ p, p < 3 ^ n ∧ PRM B n p = true ∧ hol n p r = true := fun m => by
    induction m with
    | zero => intro p hp hm; omega
    | succ m ih =>
      intro p hp hm hf hh
      by_cases c : PRM B n p = true
      · exact ⟨p, hp, c, hh⟩
      · have c2 : anyN (fun k => !(dgf p k == 2) && FIT B n (p + (2 - dgf p k) * 3 ^ k)) n = true := by
          unfold PRM at c
          rw [hf, Bool.true_and, Bool.not_eq_true'] at c
          exact Eq.mp (Bool.not_eq_false _) c
        obtain ⟨k, hk, q⟩ := (anyN_iff _).mp c2
        have q : (!(dgf p k == 2) && FIT B n (p + (2 - dgf p k) * 3 ^ k)) = true := q
        rw [Bool.and_eq_true, Bool.not_eq_true'] at q
        have hd : dgf p k ≠ 2 := fun z => by rw [z] at q; exact absurd q.1 (by decide)
        have hd3 : dgf p k < 3 := Nat.mod_lt _ (by decide)
        have hpos : 0 < (2 - dgf p k) * 3 ^ k := Nat.mul_pos (by omega) (pw3 k)
        refine ih (p + (2 - dgf p k) * 3 ^ k) (dgf_add_lt hk hp) (by omega) q.2 (hol_iff.mpr (fun j hj => ?_))
        rw [dgf_add hd j]
        by_cases cj : j = k
        · exact Or.inl (if_pos cj)
        · rw [if_neg cj]; exact hol_iff.mp hh j hj
  refine key (3 ^ n) (mt n r) (mt_lt r n) (Nat.sub_le _ _) ?_ (hol_iff.mpr (fun k hk => Or.inr ?_))
  · unfold FIT
    rw [fD_bits (s := r) n 0 (fun j hj => mt_dgf r n j hj), Nat.zero_add, Nat.mod_eq_of_lt hr]
    exact hB
  · rw [mt_dgf r n k hk, nat_bit]

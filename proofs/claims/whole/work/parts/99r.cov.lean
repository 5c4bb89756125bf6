/-! ===== least sums: sets of primes and their prices ===== -/
theorem sm_s (F : Nat → Nat) (k : Nat) : sm F (k + 1) = sm F k + F k := rfl
theorem sm_le {F G : Nat → Nat} : ∀ k, (∀ i, i < k → F i ≤ G i) → sm F k ≤ sm G k
  | 0, _ => Nat.le_refl _
  | k + 1, h => by rw [sm_s, sm_s]; have := sm_le k (fun i hi => h i (by omega)); have := h k (by omega); omega
theorem sm_lt {F G : Nat → Nat} {q c : Nat} : ∀ k, (∀ i, i < k → F i ≤ G i) → q < k → F q + c ≤ G q → sm F k + c ≤ sm G k
  | 0, _, hq, _ => absurd hq (by omega)
  | k + 1, h, hq, hc => by
    rw [sm_s, sm_s]
    by_cases e : q = k
    · subst e
      have := sm_le q (fun i hi => h i (by omega)); omega
    · have := sm_lt k (fun i hi => h i (by omega)) (by omega) hc
      have := h k (by omega)
      omega
theorem sm_upd {F G : Nat → Nat} {q c : Nat} : ∀ k, (∀ i, i < k → i ≠ q → G i = F i) → q < k → G q = F q + c → sm G k = sm F k + c
  | 0, _, hq, _ => absurd hq (by omega)
  | k + 1, h, hq, hc => by
    rw [sm_s, sm_s]
    by_cases e : q = k
    · subst e
      rw [sm_congr q (fun i hi => h i (by omega) (by omega)), hc]; omega
    · rw [sm_upd k (fun i hi hne => h i (by omega) hne) (by omega) hc, h k (by omega) (fun z => e z.symm)]; omega
theorem sm_add2 (F G : Nat → Nat) : ∀ k, sm (fun i => F i + G i) k = sm F k + sm G k
  | 0 => rfl
  | k + 1 => by rw [sm_s, sm_s, sm_s, sm_add2 F G k]; omega
theorem sm_up (F : Nat → Nat) (k : Nat) : ∀ n, sm F k ≤ sm F (k + n)
  | 0 => Nat.le_refl _
  | n + 1 => by rw [← Nat.add_assoc, sm_s]; have := sm_up F k n; omega
def PRs (pr : Nat → Nat) (P : Nat) (S : Nat → Bool) : Nat := sm (fun p => cond (S p) (pr p) 0) P
section PS
variable {pr : Nat → Nat} {P : Nat} {S T : Nat → Bool}
theorem PRs_congr (h : ∀ p, p < P → S p = T p) : PRs pr P S = PRs pr P T := sm_congr P (fun p hp => by
  show cond (S p) (pr p) 0 = cond (T p) (pr p) 0
  rw [h p hp])
theorem cond_mono {a b : Bool} {x : Nat} (h : a = true → b = true) : cond a x 0 ≤ cond b x 0 := by
  cases a with
  | false => exact Nat.zero_le _
  | true => rw [h rfl]; exact Nat.le_refl _
theorem PRs_mono (h : ∀ p, p < P → S p = true → T p = true) : PRs pr P S ≤ PRs pr P T := sm_le P (fun p hp => cond_mono (h p hp))
theorem PRs_add {q : Nat} (h : ∀ p, p < P → S p = true → T p = true) (hq : q < P) (h1 : T q = true) (h2 : S q = false) : PRs pr P S + pr q ≤ PRs pr P T := sm_lt (q := q) P (fun p hp => cond_mono (h p hp)) hq (by
  show cond (S q) (pr q) 0 + pr q ≤ cond (T q) (pr q) 0
  rw [h1, h2]
  show 0 + pr q ≤ pr q
  omega)
theorem PRs_ins {q : Nat} (hq : q < P) (h : S q = false) : PRs pr P (fun p => S p || decide (p = q)) = PRs pr P S + pr q := sm_upd (q := q) P (fun p hp hne => by
  show cond (S p || decide (p = q)) (pr p) 0 = cond (S p) (pr p) 0
  rw [decide_eq_false hne, Bool.or_false]) hq (by
  show cond (S q || decide (q = q)) (pr q) 0 = cond (S q) (pr q) 0 + pr q
  rw [h, decide_eq_true rfl]
  show pr q = 0 + pr q
  omega)
theorem PRs_del {q : Nat} (hq : q < P) (h : S q = true) : PRs pr P S = PRs pr P (fun p => S p && decide (p ≠ q)) + pr q := sm_upd (q := q) P (fun p hp hne => by
  show cond (S p) (pr p) 0 = cond (S p && decide (p ≠ q)) (pr p) 0
  rw [decide_eq_true hne, Bool.and_true]) hq (by
  show cond (S q) (pr q) 0 = cond (S q && decide (q ≠ q)) (pr q) 0 + pr q
  rw [h, decide_eq_false (fun z => z rfl)]
  show pr q = 0 + pr q
  omega)
theorem PRs_uni {U : Nat → Bool} (h : ∀ p, p < P → U p = (S p || T p)) (hd : ∀ p, p < P → S p = true → T p = false) : PRs pr P U = PRs pr P S + PRs pr P T := by
  unfold PRs
  rw [← sm_add2]
  refine sm_congr P (fun p hp => ?_)
  show cond (U p) (pr p) 0 = cond (S p) (pr p) 0 + cond (T p) (pr p) 0
  rw [h p hp]
  cases c : S p with
  | true => rw [hd p hp c]; rfl
  | false => show cond (T p) (pr p) 0 = 0 + cond (T p) (pr p) 0; omega
theorem PRs_s (pr : Nat → Nat) (k : Nat) (S : Nat → Bool) : PRs pr (k + 1) S = PRs pr k S + cond (S k) (pr k) 0 := rfl
theorem PRs_le {c : Nat} (h : ∀ p, p < P → pr p ≤ c) : PRs pr P S ≤ c * P := by
  have : ∀ k, k ≤ P → PRs pr k S ≤ c * k := fun k => by
    induction k with
    | zero => intro _; exact Nat.zero_le _
    | succ k ih =>
      intro hk
      rw [PRs_s, Nat.mul_succ]
      have h1 := ih (by omega)
      have h2 := h k (by omega)
      have h3 : cond (S k) (pr k) 0 ≤ pr k := by
        cases S k
        · exact Nat.zero_le _
        · exact Nat.le_refl _
      omega
  exact this P (Nat.le_refl P)
end PS
/-- a set of primes holds at all rows of A -/
def COV (A : Nat → Bool) (R : Nat → Nat → Bool) (P : Nat) (S : Nat → Bool) : Prop := ∀ r, r < 32 → A r = true → ∃ p, p < P ∧ S p = true ∧ R p r = true
def LST (A : Nat → Bool) (R : Nat → Nat → Bool) (P : Nat) (pr : Nat → Nat) (S : Nat → Bool) : Prop := COV A R P S ∧ ∀ T, COV A R P T → PRs pr P S ≤ PRs pr P T
theorem LST_ex {A : Nat → Bool} {R : Nat → Nat → Bool} {P : Nat} {pr : Nat → Nat} (h : ∀ r, r < 32 → A r = true → ∃ p, p < P ∧ R p r = true) : ∃ S, LST A R P pr S := by
  have key : ∀ n, (∃ S, COV A R P S ∧ PRs pr P S ≤ n) → ∃ S, LST A R P pr S := fun n => by
    induction n with
    | zero =>
      rintro ⟨S, h1, h2⟩
      exact ⟨S, h1, fun T _ => by omega⟩
    | succ n ih =>
      rintro ⟨S, h1, h2⟩
      by_cases c : ∃ S, COV A R P S ∧ PRs pr P S ≤ n
      · exact ih c
      · refine ⟨S, h1, fun T hT => ?_⟩
        have : ¬ PRs pr P T ≤ n := fun q => c ⟨T, hT, q⟩
        omega
  refine key (PRs pr P (fun _ => true)) ⟨fun _ => true, fun r hr hA => ?_, Nat.le_refl _⟩
  obtain ⟨p, hp, hR⟩ := h r hr hA
  exact ⟨p, hp, rfl, hR⟩
/-- the price of a prime that tells tc letters -/
def prc (tc : Nat → Nat) (p : Nat) : Nat := 1125899906842624 + tc p * 1099511627776 - 2 ^ (39 - p)
theorem p39 (p : Nat) : 2 ^ (39 - p) ≤ 549755813888 := Nat.pow_le_pow_right (n := 2) (by decide) (show 39 - p ≤ 39 by omega)
theorem prc_pos (tc : Nat → Nat) (p : Nat) : 0 < prc tc p := by unfold prc; have := p39 p; omega
theorem prc_le {tc : Nat → Nat} {p : Nat} (h : tc p ≤ 5) : prc tc p ≤ 2251799813685248 := by
  unfold prc
  generalize 2 ^ (39 - p) = x
  omega
section PC
variable {tc : Nat → Nat} {P : Nat} {S T : Nat → Bool}
def MM (S : Nat → Bool) (k : Nat) : Nat := sm (fun p => cond (S p) (2 ^ (39 - p)) 0) k
theorem MM_s (S : Nat → Bool) (k : Nat) : MM S (k + 1) = MM S k + cond (S k) (2 ^ (39 - k)) 0 := rfl
theorem PRs_form (tc : Nat → Nat) (S : Nat → Bool) : ∀ k, PRs (prc tc) k S + MM S k = cnt S k * 1125899906842624 + PRs tc k S * 1099511627776
  | 0 => by
    show 0 + 0 = 0 * 1125899906842624 + 0 * 1099511627776
    rw [Nat.zero_mul]
  | k + 1 => by
    have ih := PRs_form tc S k
    rw [PRs_s, PRs_s, MM_s, cnt_s]
    generalize PRs (prc tc) k S = x1 at *
    generalize PRs tc k S = x2 at *
    generalize MM S k = x3 at *
    generalize cnt S k = x4 at *
    cases c : S k with
    | false =>
      show x1 + 0 + (x3 + 0) = (x4 + 0) * 1125899906842624 + (x2 + 0) * 1099511627776
      omega
    | true =>
      have h39 := p39 k
      show x1 + prc tc k + (x3 + 2 ^ (39 - k)) = (x4 + 1) * 1125899906842624 + (x2 + tc k) * 1099511627776
      unfold prc
      generalize 2 ^ (39 - k) = x at h39 ⊢
      omega
/-- the rest of M weighs less than the first that is there -/
theorem MM_tail (S : Nat → Bool) (k : Nat) : ∀ n, k + n ≤ 40 → MM S (k + n) + 2 ^ (40 - (k + n)) ≤ MM S k + 2 ^ (40 - k)
  | 0, _ => Nat.le_refl _
  | n + 1, h => by
    have ih := MM_tail S k n (by omega)
    have e : 40 - (k + n) = (39 - (k + n)) + 1 := by omega
    rw [e, Nat.pow_succ] at ih
    rw [← Nat.add_assoc, MM_s, show 40 - (k + n + 1) = 39 - (k + n) by omega]
    have h3 : cond (S (k + n)) (2 ^ (39 - (k + n))) 0 ≤ 2 ^ (39 - (k + n)) := by
      cases S (k + n)
      · exact Nat.zero_le _
      · exact Nat.le_refl _
    omega
theorem MM_lt (S : Nat → Bool) {k : Nat} (hk : k ≤ 40) : MM S k < 1099511627776 := by
  have := MM_tail S 0 k (by omega)
  rw [show MM S 0 = 0 from rfl, Nat.zero_add] at this
  have h2 : 0 < 2 ^ (40 - k) := Nat.pow_pos (by decide)
  have h3 : (2 : Nat) ^ (40 - 0) = 1099511627776 := by decide
  omega
/-- the first prime that is not in both decides -/
theorem MM_first {p : Nat} (hP : P ≤ 40) (hp : p < P) (h : ∀ u, u < p → S u = T u) (h1 : S p = true) (h2 : T p = false) : MM T P < MM S P := by
  have e0 : MM S p = MM T p := sm_congr p (fun u hu => by show cond (S u) (2 ^ (39 - u)) 0 = cond (T u) (2 ^ (39 - u)) 0; rw [h u hu])
  have t1 := MM_tail T (p + 1) (P - (p + 1)) (by omega)
  rw [show p + 1 + (P - (p + 1)) = P by omega] at t1
  have t2 := sm_up (fun p => cond (S p) (2 ^ (39 - p)) 0) (p + 1) (P - (p + 1))
  rw [show p + 1 + (P - (p + 1)) = P by omega] at t2
  have t2 : MM S (p + 1) ≤ MM S P := t2
  rw [MM_s, h1, cond_true] at t2
  rw [MM_s, h2, cond_false, show 40 - (p + 1) = 39 - p by omega] at t1
  have h3 : 0 < 2 ^ (40 - P) := Nat.pow_pos (by decide)
  omega
theorem PRs_cmp (hP : P ≤ 40) (htc : ∀ p, p < P → tc p ≤ 5) : PRs (prc tc) P S < PRs (prc tc) P T ↔ cnt S P < cnt T P ∨ cnt S P = cnt T P ∧ (PRs tc P S < PRs tc P T ∨ PRs tc P S = PRs tc P T ∧ MM T P < MM S P) := by
  have a1 := PRs_form tc S P
  have a2 := PRs_form tc T P
  have b1 := MM_lt S hP
  have b2 := MM_lt T hP
  have c1 := PRs_le (S := S) htc
  have c2 := PRs_le (S := T) htc
  generalize PRs (prc tc) P S = x1 at *
  generalize PRs (prc tc) P T = x2 at *
  generalize PRs tc P S = y1 at *
  generalize PRs tc P T = y2 at *
  generalize MM S P = z1 at *
  generalize MM T P = z2 at *
  generalize cnt S P = n1 at *
  generalize cnt T P = n2 at *
  omega
theorem PRs_inj (hP : P ≤ 40) (htc : ∀ p, p < P → tc p ≤ 5) (h : PRs (prc tc) P S = PRs (prc tc) P T) : ∀ p, p < P → S p = T p := by
  have a1 := PRs_form tc S P
  have a2 := PRs_form tc T P
  have b1 := MM_lt S hP
  have b2 := MM_lt T hP
  have c1 := PRs_le (S := S) htc
  have c2 := PRs_le (S := T) htc
  have e : MM S P = MM T P := by
    rw [h] at a1
    generalize PRs (prc tc) P T = x2 at *
    generalize PRs tc P S = y1 at *
    generalize PRs tc P T = y2 at *
    generalize MM S P = z1 at *
    generalize MM T P = z2 at *
    generalize cnt S P = n1 at *
    generalize cnt T P = n2 at *
    omega
  refine fun p hp => Classical.byContradiction fun hne => ?_
  obtain ⟨q, h1, h2, h3⟩ := first_of (f := fun u => decide (S u ≠ T u)) P ((anyN_iff P).mpr ⟨p, hp, decide_eq_true hne⟩)
  have h2 := of_decide_eq_true h2
  have h3 : ∀ u, u < q → S u = T u := fun u hu => Classical.byContradiction fun hc => by
    have := h3 u hu
    rw [decide_eq_true hc] at this; cases this
  cases c1 : S q with
  | true =>
    cases c2 : T q with
    | true => rw [c1, c2] at h2; exact h2 rfl
    | false => have := MM_first hP h1 h3 c1 c2; omega
  | false =>
    cases c2 : T q with
    | true => have := MM_first hP h1 (fun u hu => (h3 u hu).symm) c2 c1; omega
    | false => rw [c1, c2] at h2; exact h2 rfl
/-- a row of numbers tells a set of primes in their order -/
def TEL (pn : Nat → Nat) (P : Nat) (S : Nat → Bool) (a : Nat → Nat) : Prop := ∀ p, p < P → S p = true → a (cnt S p) = pn p
theorem TEL_agree {pn : Nat → Nat} {a b : Nat → Nat} (hinj : ∀ p q, p < P → q < P → pn p = pn q → p = q) (ha : TEL pn P S a) (hb : TEL pn P T b) {k : Nat} (he : ∀ i, i < k → a i = b i) (hk : k ≤ cnt T P) {u : Nat} (hu : u < P) (h1 : S u = true) (h2 : cnt S u < k) : T u = true ∧ cnt T u = cnt S u := by
  obtain ⟨v, q1, q2, q3⟩ := nth_ex T P (cnt S u) (by omega)
  have e1 := ha u hu h1
  have e2 := hb v q1 q2
  rw [q3, ← he _ h2, e1] at e2
  have := hinj u v hu q1 e2
  subst this
  exact ⟨q2, q3⟩
theorem TEL_first {pn : Nat → Nat} {a b : Nat → Nat} (hP : P ≤ 40) (hmon : ∀ p q, p < q → q < P → pn p < pn q) (ha : TEL pn P S a) (hb : TEL pn P T b) {k : Nat} (he : ∀ i, i < k → a i = b i) (hk : k < cnt S P) (hk2 : k < cnt T P) (hlt : a k < b k) : MM T P < MM S P := by
  have hinj : ∀ p q, p < P → q < P → pn p = pn q → p = q := fun p q hp hq e => by
    rcases Nat.lt_trichotomy p q with c | c | c
    · have := hmon p q c hq; omega
    · exact c
    · have := hmon q p c hp; omega
  obtain ⟨p, p1, p2, p3⟩ := nth_ex S P k hk
  obtain ⟨q, q1, q2, q3⟩ := nth_ex T P k hk2
  have e1 := ha p p1 p2
  have e2 := hb q q1 q2
  rw [p3] at e1
  rw [q3] at e2
  have hpq : p < q := by
    rcases Nat.lt_trichotomy p q with c | c | c
    · exact c
    · subst c; omega
    · have := hmon q p c p1; omega
  refine MM_first hP p1 (fun u hu => ?_) p2 ?_
  · rw [Bool.eq_iff_iff]
    constructor
    · intro h
      have := cnt_lt_of hu h
      exact (TEL_agree hinj ha hb he (by omega) (by omega) h (by omega)).1
    · intro h
      have := cnt_lt_of (show u < q by omega) h
      exact (TEL_agree hinj hb ha (fun i hi => (he i hi).symm) (by omega) (by omega) h (by omega)).1
  · refine Bool.eq_false_iff.mpr fun h => ?_
    have := cnt_lt_of hpq h
    have := (TEL_agree hinj hb ha (fun i hi => (he i hi).symm) (by omega) p1 h (by omega)).2
    omega
theorem TEL_same {pn : Nat → Nat} {a b : Nat → Nat} (hmon : ∀ p q, p < q → q < P → pn p < pn q) (ha : TEL pn P S a) (hb : TEL pn P T b) (hc : cnt S P = cnt T P) (he : ∀ i, i < cnt S P → a i = b i) : ∀ p, p < P → S p = T p := by
  have hinj : ∀ p q, p < P → q < P → pn p = pn q → p = q := fun p q hp hq e => by
    rcases Nat.lt_trichotomy p q with c | c | c
    · have := hmon p q c hq; omega
    · exact c
    · have := hmon q p c hp; omega
  intro p hp
  rw [Bool.eq_iff_iff]
  constructor
  · intro h
    exact (TEL_agree hinj ha hb he (by omega) hp h (cnt_lt_of hp h)).1
  · intro h
    exact (TEL_agree hinj hb ha (fun i hi => (he i (by omega)).symm) (by omega) hp h (cnt_lt_of hp h)).1
end PC

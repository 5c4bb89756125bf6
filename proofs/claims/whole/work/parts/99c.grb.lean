/-! ===== graphs: the rests of a graph, as the class and as the model keep them ===== -/
def PO (o : Nat → Nat) (w : Nat) : Prop := (∀ i, i < w → o i < w) ∧ ∀ i j, i < j → j < w → o i ≠ o j
theorem cnt_tt : ∀ n, cnt (fun _ => true) n = n
  | 0 => rfl
  | n + 1 => by show cnt (fun _ => true) n + 1 = n + 1; rw [cnt_tt n]
theorem PO.sur {o : Nat → Nat} {w : Nat} (h : PO o w) {r : Nat} (hr : r < w) : ∃ i, i < w ∧ o i = r := by
  refine Classical.byContradiction fun hn => ?_
  have h1 := cnt_inj (A := fun _ => true) (n := w) w (fun i => true && decide (i ≠ r)) o (fun j hj _ => ⟨h.1 j hj, by
    show (true && decide (o j ≠ r)) = true
    rw [decide_eq_true (show o j ≠ r from fun e => hn ⟨j, hj, e⟩)]; rfl⟩) (fun j i hj hi _ _ => h.2 j i hj hi)
  have h2 := cnt_del (B := fun _ => true) (y := r) rfl w hr
  rw [cnt_tt] at h1 h2
  omega
theorem PO.inj {o : Nat → Nat} {w : Nat} (h : PO o w) {i j : Nat} (hi : i < w) (hj : j < w) (e : o i = o j) : i = j := by
  rcases Nat.lt_trichotomy i j with c | c | c
  · exact absurd e (h.2 i j c hj)
  · exact c
  · exact absurd e.symm (h.2 j i c hi)
def spr (o : Nat → Nat) : Nat → Nat → Nat
  | 0, _ => 0
  | k + 1, j => spr o k j ||| (if j.testBit k = true then 2 ^ o k else 0)
theorem spr_tb (o : Nat → Nat) : ∀ k j r, (spr o k j).testBit r = true ↔ ∃ i, i < k ∧ o i = r ∧ j.testBit i = true
  | 0, j, r => by
    show (0 : Nat).testBit r = true ↔ _
    rw [Nat.zero_testBit]
    exact ⟨fun h => (by cases h), fun ⟨i, hi, _⟩ => absurd hi (by omega)⟩
  | k + 1, j, r => by
    show (spr o k j ||| (if j.testBit k = true then 2 ^ o k else 0)).testBit r = true ↔ _
    rw [Nat.testBit_or, Bool.or_eq_true, spr_tb o k j r, ex_succ]
    by_cases c : j.testBit k = true
    · rw [if_pos c, Nat.testBit_two_pow, decide_eq_true_eq]
      exact or_congr Iff.rfl ⟨fun e => ⟨e, c⟩, fun e => e.1⟩
    · rw [if_neg c, Nat.zero_testBit]
      exact or_congr Iff.rfl ⟨fun e => (by cases e), fun e => absurd e.2 c⟩
theorem lt_of_tb {x w : Nat} (h : ∀ r, x.testBit r = true → r < w) : x < 2 ^ w := by
  refine Nat.lt_pow_two_of_testBit x (fun i hi => ?_)
  refine Bool.eq_false_iff.mpr fun hc => ?_
  have := h i hc
  omega
theorem spr_lt {o : Nat → Nat} {k w j : Nat} (h : ∀ i, i < k → o i < w) : spr o k j < 2 ^ w := lt_of_tb (fun r hr => by
  obtain ⟨i, hi, e, -⟩ := (spr_tb o k j r).mp hr
  rw [← e]; exact h i hi)
def ga (o : Nat → Nat) (k v : Nat) : Nat := wd (fun b => v.testBit (o b)) k
theorem spr_ga {o : Nat → Nat} {k v : Nat} (h : ∀ r, v.testBit r = true → ∃ i, i < k ∧ o i = r) : spr o k (ga o k v) = v := by
  refine Nat.eq_of_testBit_eq fun r => ?_
  rw [Bool.eq_iff_iff, spr_tb]
  unfold ga
  constructor
  · rintro ⟨i, hi, e, q⟩
    rw [wd_tb, decide_eq_true hi, Bool.true_and, e] at q
    exact q
  · intro hr
    obtain ⟨i, hi, e⟩ := h r hr
    exact ⟨i, hi, e, by rw [wd_tb, decide_eq_true hi, Bool.true_and, e]; exact hr⟩
theorem add_or6 : ∀ a, a < 64 → ∀ b, b < 64 → a &&& b = 0 → a + b = a ||| b := by decide +kernel
def hg (a : Nat) (z : Int64) : Bool := anyN (fun r => !r.testBit a && (lb z r ^^ lb z (r + 2 ^ a))) 64
def hm (n : Nat) (z : Int64) : Bool := anyN (fun h => lb z (2 * h) ^^ lb z (2 * h + 1)) (2 ^ (n - 1))
def dj (w t r : Nat) : Bool := !anyN (fun k => t.testBit k && r.testBit k) w
def ck (B : Nat → Bool) (w t v : Nat) : Int64 := lw (fun r => dj w t r && B (v + r))
def cp (B : Nat → Bool) (w t a v : Nat) : Bool := decide (v &&& t = v) && hg a (ck B w t v)
def mk (B : Nat → Bool) (w : Nat) (o : Nat → Nat) (k j : Nat) : Int64 := lw (fun s => decide (s < 2 ^ (w - k)) && B (spr o k j ||| spr (fun b => o (k + b)) (w - k) s))
/-- the NODES of a letter, letters being told ahead of it -/
def nd (B : Nat → Bool) (w t a : Nat) : Nat := dc (ck B w t) (cp B w t a) (2 ^ w)
theorem pow6 {w : Nat} (hw : w ≤ 6) : 2 ^ w ≤ 64 := Nat.pow_le_pow_right (n := 2) (by decide) hw
section ND
variable {B : Nat → Bool} {w k : Nat} {o : Nat → Nat}
theorem t_tb (o : Nat → Nat) (k r : Nat) : (tl o 0 k).testBit r = true ↔ ∃ i, i < k ∧ o i = r := by
  rw [tl_tb, Nat.zero_testBit]
  exact ⟨fun h => h.elim (fun h => by cases h) id, Or.inr⟩
theorem dj_iff {w t r : Nat} : dj w t r = true ↔ ∀ i, i < w → t.testBit i = true → r.testBit i = false := by
  unfold dj
  rw [Bool.not_eq_true']
  constructor
  · intro h i hi ht
    refine Bool.eq_false_iff.mpr fun hc => ?_
    have : anyN (fun k => t.testBit k && r.testBit k) w = true := (anyN_iff _).mpr ⟨i, hi, by show (t.testBit i && r.testBit i) = true; rw [ht, hc]; rfl⟩
    rw [h] at this; cases this
  · intro h
    refine Bool.eq_false_iff.mpr fun hc => ?_
    obtain ⟨i, hi, q⟩ := (anyN_iff _).mp hc
    have q : (t.testBit i && r.testBit i) = true := q
    rw [Bool.and_eq_true] at q
    have := h i hi q.1
    rw [q.2] at this; cases this
theorem nd_1 (hw : w ≤ 6) (hk : k < w) (ho : PO o w) {j s : Nat} (hs : s < 2 ^ (w - k)) : spr (fun b => o (k + b)) (w - k) s < 64 ∧ lb (ck B w (tl o 0 k) (spr o k j)) (spr (fun b => o (k + b)) (w - k) s) = lb (mk B w o k j) s := by
  have h6 := pow6 hw
  have h7 : 2 ^ (w - k) ≤ 64 := pow6 (by omega)
  have l1 : spr o k j < 2 ^ w := spr_lt (fun i hi => ho.1 i (by omega))
  have l2 : spr (fun b => o (k + b)) (w - k) s < 2 ^ w := spr_lt (fun i hi => ho.1 (k + i) (by omega))
  refine ⟨by omega, ?_⟩
  unfold ck mk
  have hd : spr o k j &&& spr (fun b => o (k + b)) (w - k) s = 0 := by
    refine Nat.eq_of_testBit_eq fun r => ?_
    rw [Nat.zero_testBit, Nat.testBit_and]
    refine Bool.eq_false_iff.mpr fun hc => ?_
    rw [Bool.and_eq_true, spr_tb, spr_tb] at hc
    obtain ⟨⟨i, a1, a2, -⟩, ⟨i2, b1, b2, -⟩⟩ := hc
    have := ho.inj (i := i) (j := k + i2) (by omega) (by omega) (a2.trans b2.symm)
    omega
  have hdj : dj w (tl o 0 k) (spr (fun b => o (k + b)) (w - k) s) = true := dj_iff.mpr (fun i hi ht => by
    obtain ⟨i1, a1, a2⟩ := (t_tb o k i).mp ht
    refine Bool.eq_false_iff.mpr fun hc => ?_
    obtain ⟨i2, b1, b2, -⟩ := (spr_tb _ _ _ _).mp hc
    have := ho.inj (i := i1) (j := k + i2) (by omega) (by omega) (a2.trans b2.symm)
    omega)
  rw [lb_lw _ (by omega), lb_lw _ (by omega), hdj, decide_eq_true hs, add_or6 _ (by omega) _ (by omega) hd]
theorem nd_2 (hB : ∀ r, 2 ^ w ≤ r → B r = false) (hw : w ≤ 6) (hk : k < w) (ho : PO o w) {v r : Nat} (hr : r < 64) (h : lb (ck B w (tl o 0 k) v) r = true) : ∃ s, s < 2 ^ (w - k) ∧ r = spr (fun b => o (k + b)) (w - k) s := by
  unfold ck at h
  rw [lb_lw _ hr, Bool.and_eq_true, dj_iff] at h
  have hlt : r < 2 ^ w := by
    refine Nat.lt_of_not_le fun hc => ?_
    have := h.2
    rw [hB _ (by omega)] at this
    cases this
  refine ⟨ga (fun b => o (k + b)) (w - k) r, wd_lt _ _, (spr_ga (fun i hi => ?_)).symm⟩
  have hiw : i < w := by
    refine Nat.lt_of_not_le fun hc => ?_
    have : r < 2 ^ i := Nat.lt_of_lt_of_le hlt (Nat.pow_le_pow_right (by decide) hc)
    rw [Nat.testBit_lt_two_pow this] at hi
    cases hi
  obtain ⟨i1, a1, a2⟩ := ho.sur hiw
  by_cases c : i1 < k
  · have := h.1 i hiw ((t_tb o k i).mpr ⟨i1, c, a2⟩)
    rw [hi] at this; cases this
  · exact ⟨i1 - k, by omega, by show o (k + (i1 - k)) = i; rw [show k + (i1 - k) = i1 by omega]; exact a2⟩
theorem nd_bit (hk : k < w) (ho : PO o w) (s : Nat) : (spr (fun b => o (k + b)) (w - k) s).testBit (o k) = s.testBit 0 := by
  rw [Bool.eq_iff_iff, spr_tb]
  constructor
  · rintro ⟨i, a, b, c⟩
    have := ho.inj (i := k + i) (j := k) (by omega) hk b
    rw [show i = 0 by omega] at c; exact c
  · intro h
    exact ⟨0, by omega, rfl, h⟩
theorem nd_next (hw : w ≤ 6) (hk : k < w) (ho : PO o w) (h : Nat) : spr (fun b => o (k + b)) (w - k) (2 * h + 1) = spr (fun b => o (k + b)) (w - k) (2 * h) + 2 ^ o k := by
  have h6 := pow6 hw
  have l2 : spr (fun b => o (k + b)) (w - k) (2 * h) < 2 ^ w := spr_lt (fun i hi => ho.1 (k + i) (by omega))
  have l3 : 2 ^ o k < 2 ^ w := Nat.pow_lt_pow_right (by decide) (ho.1 k hk)
  have e0 : (2 * h).testBit 0 = false := by rw [Nat.testBit_zero]; simp
  have hb := nd_bit hk ho (2 * h)
  rw [e0] at hb
  rw [add_or6 (spr (fun b => o (k + b)) (w - k) (2 * h)) (by omega) (2 ^ o k) (by omega)]
  · refine Nat.eq_of_testBit_eq fun r => ?_
    rw [tb_or2, Bool.eq_iff_iff, Bool.or_eq_true, decide_eq_true_eq, spr_tb, spr_tb]
    have hbit : ∀ i, (2 * h + 1).testBit (i + 1) = (2 * h).testBit (i + 1) := fun i => by rw [Nat.testBit_succ, Nat.testBit_succ]; congr 1; omega
    constructor
    · rintro ⟨i, a, b, c⟩
      cases i with
      | zero => exact Or.inr b
      | succ i => exact Or.inl ⟨i + 1, a, b, by rw [← hbit]; exact c⟩
    · rintro (⟨i, a, b, c⟩ | e)
      · cases i with
        | zero => rw [e0] at c; cases c
        | succ i => exact ⟨i + 1, a, b, by rw [hbit]; exact c⟩
      · exact ⟨0, by omega, e, by rw [Nat.testBit_zero]; simp⟩
  · refine Nat.eq_of_testBit_eq fun r => ?_
    rw [Nat.zero_testBit, Nat.testBit_and, Nat.testBit_two_pow]
    by_cases c : o k = r
    · rw [← c, hb]; rfl
    · rw [decide_eq_false c, Bool.and_false]
theorem xor_tt {a b : Bool} (h : (a ^^ b) = true) : a = true ∨ b = true := by revert h; cases a <;> cases b <;> decide
/-- the model counts the NODES of a letter as the class does -/
theorem nd_eq (hB : ∀ r, 2 ^ w ≤ r → B r = false) (hw : w ≤ 6) (hk : k < w) (ho : PO o w) : dc (mk B w o k) (fun j => hm (w - k) (mk B w o k j)) (2 ^ k) = nd B w (tl o 0 k) (o k) := by
  have h6 := pow6 hw
  have h7 : 2 ^ (w - k) ≤ 64 := pow6 (by omega)
  have h8 : 2 ^ (w - k) = 2 * 2 ^ (w - k - 1) := by
    obtain ⟨n, e⟩ : ∃ n, w - k = n + 1 := ⟨w - k - 1, by omega⟩
    rw [e, show n + 1 - 1 = n by omega, Nat.pow_succ]; omega
  have sg : ∀ v, v &&& tl o 0 k = v → spr o k (ga o k v) = v := fun v hv => spr_ga (fun r hr => by
    rw [← hv, Nat.testBit_and, Bool.and_eq_true, t_tb] at hr
    exact hr.2)
  refine Nat.le_antisymm (dc_le (spr o k) (fun j hj hp => ?_) (fun j i hj hi _ _ he => ?_)) (dc_le (ga o k) (fun v hv hp => ?_) (fun v u hv hu hp hq he => ?_))
  · refine ⟨spr_lt (fun i hi => ho.1 i (by omega)), ?_⟩
    have hp : anyN (fun h => lb (mk B w o k j) (2 * h) ^^ lb (mk B w o k j) (2 * h + 1)) (2 ^ (w - k - 1)) = true := hp
    obtain ⟨h, q1, q2⟩ := (anyN_iff _).mp hp
    have q2 : (lb (mk B w o k j) (2 * h) ^^ lb (mk B w o k j) (2 * h + 1)) = true := q2
    unfold cp
    rw [Bool.and_eq_true, decide_eq_true_eq]
    constructor
    · refine Nat.eq_of_testBit_eq fun r => ?_
      rw [Nat.testBit_and, Bool.eq_iff_iff, Bool.and_eq_true, t_tb, spr_tb]
      exact ⟨fun x => x.1, fun x => ⟨x, by obtain ⟨i, a, b, -⟩ := x; exact ⟨i, a, b⟩⟩⟩
    · unfold hg
      obtain ⟨z1, z2⟩ := nd_1 (B := B) hw hk ho (j := j) (s := 2 * h) (by omega)
      obtain ⟨y1, y2⟩ := nd_1 (B := B) hw hk ho (j := j) (s := 2 * h + 1) (by omega)
      refine (anyN_iff _).mpr ⟨_, z1, ?_⟩
      rw [nd_next hw hk ho h] at y2
      show (!(spr (fun b => o (k + b)) (w - k) (2 * h)).testBit (o k) && (lb (ck B w (tl o 0 k) (spr o k j)) (spr (fun b => o (k + b)) (w - k) (2 * h)) ^^ lb (ck B w (tl o 0 k) (spr o k j)) (spr (fun b => o (k + b)) (w - k) (2 * h) + 2 ^ o k))) = true
      rw [z2, y2, q2, nd_bit hk ho, Nat.testBit_zero]
      simp
  · refine lb_ext (fun s hs => ?_)
    by_cases c : s < 2 ^ (w - k)
    · rw [← (nd_1 (B := B) hw hk ho (j := j) c).2, ← (nd_1 (B := B) hw hk ho (j := i) c).2, he]
    · unfold mk
      rw [lb_lw _ hs, lb_lw _ hs, decide_eq_false c]; rfl
  · refine ⟨wd_lt _ _, ?_⟩
    unfold cp at hp
    rw [Bool.and_eq_true, decide_eq_true_eq] at hp
    obtain ⟨hv2, hh⟩ := hp
    unfold hg at hh
    obtain ⟨r, q1, q2⟩ := (anyN_iff _).mp hh
    have q2 : (!r.testBit (o k) && (lb (ck B w (tl o 0 k) v) r ^^ lb (ck B w (tl o 0 k) v) (r + 2 ^ o k))) = true := q2
    rw [Bool.and_eq_true, Bool.not_eq_true'] at q2
    show anyN (fun h => lb (mk B w o k (ga o k v)) (2 * h) ^^ lb (mk B w o k (ga o k v)) (2 * h + 1)) (2 ^ (w - k - 1)) = true
    have fin : ∀ h, 2 * h + 1 < 2 ^ (w - k) → r = spr (fun b => o (k + b)) (w - k) (2 * h) → anyN (fun h => lb (mk B w o k (ga o k v)) (2 * h) ^^ lb (mk B w o k (ga o k v)) (2 * h + 1)) (2 ^ (w - k - 1)) = true := fun h hh e => by
      refine (anyN_iff _).mpr ⟨h, by omega, ?_⟩
      show (lb (mk B w o k (ga o k v)) (2 * h) ^^ lb (mk B w o k (ga o k v)) (2 * h + 1)) = true
      rw [← (nd_1 (B := B) hw hk ho (j := ga o k v) (s := 2 * h) (by omega)).2, ← (nd_1 (B := B) hw hk ho (j := ga o k v) (s := 2 * h + 1) hh).2, nd_next hw hk ho, sg v hv2, ← e]
      exact q2.2
    rcases xor_tt q2.2 with e | e
    · obtain ⟨s, s1, s2⟩ := nd_2 hB hw hk ho q1 e
      have hb := nd_bit hk ho s
      rw [← s2, q2.1, Nat.testBit_zero] at hb
      have hb2 : ¬ s % 2 = 1 := of_decide_eq_false hb.symm
      exact fin (s / 2) (by omega) (by rw [show 2 * (s / 2) = s by omega]; exact s2)
    · have hr64 : r + 2 ^ o k < 64 := by
        refine Nat.lt_of_not_le fun hc => ?_
        rw [lb_big _ hc] at e; cases e
      obtain ⟨s, s1, s2⟩ := nd_2 hB hw hk ho hr64 e
      have hb := nd_bit hk ho s
      have hor : (r + 2 ^ o k).testBit (o k) = true := by
        rw [add_or6 r q1 _ (by omega), tb_or2]
        · simp
        · refine Nat.eq_of_testBit_eq fun i => ?_
          rw [Nat.zero_testBit, Nat.testBit_and, Nat.testBit_two_pow]
          by_cases c : o k = i
          · rw [← c, q2.1]; rfl
          · rw [decide_eq_false c, Bool.and_false]
      rw [← s2, hor, Nat.testBit_zero] at hb
      have hb2 : s % 2 = 1 := of_decide_eq_true hb.symm
      have hn := nd_next hw hk ho (s / 2)
      rw [show 2 * (s / 2) + 1 = s by omega, ← s2] at hn
      exact fin (s / 2) (by omega) (by omega)
  · unfold cp at hp hq
    rw [Bool.and_eq_true, decide_eq_true_eq] at hp hq
    have two : ∀ v u, v &&& tl o 0 k = v → u &&& tl o 0 k = u → mk B w o k (ga o k v) = mk B w o k (ga o k u) → ∀ r, r < 64 → lb (ck B w (tl o 0 k) v) r = true → lb (ck B w (tl o 0 k) u) r = true := fun v u hv hu he r hr h => by
      obtain ⟨s, s1, s2⟩ := nd_2 hB hw hk ho hr h
      have a1 := (nd_1 (B := B) hw hk ho (j := ga o k v) s1).2
      have a2 := (nd_1 (B := B) hw hk ho (j := ga o k u) s1).2
      rw [sg v hv, ← s2, h] at a1
      rw [sg u hu, ← s2, ← he, ← a1] at a2
      exact a2
    refine lb_ext (fun r hr => ?_)
    rw [Bool.eq_iff_iff]
    exact ⟨two v u hp.1 hq.1 he r hr, two u v hq.1 hp.1 he.symm r hr⟩
end ND

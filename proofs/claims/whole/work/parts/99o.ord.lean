/-! ===== orders: the first of the smallest ===== -/
/-- the first place of the least of g 0 .. g n -/
def am (g : Nat → Nat) : Nat → Nat
  | 0 => 0
  | n + 1 => if g (n + 1) < g (am g n) then n + 1 else am g n
theorem am_ok (g : Nat → Nat) : ∀ n, am g n ≤ n ∧ (∀ q, q ≤ n → g (am g n) ≤ g q) ∧ ∀ q, q < am g n → g (am g n) < g q
  | 0 => ⟨Nat.le_refl 0, fun q hq => by rw [show q = 0 by omega]; exact Nat.le_refl _, fun q hq => absurd hq (Nat.not_lt_zero q)⟩
  | n + 1 => by
    obtain ⟨a, b, c⟩ := am_ok g n
    unfold am
    by_cases h : g (n + 1) < g (am g n)
    · rw [if_pos h]
      refine ⟨Nat.le_refl _, fun q hq => ?_, fun q hq => ?_⟩
      · by_cases e : q = n + 1
        · rw [e]; exact Nat.le_refl _
        · have := b q (by omega); omega
      · have := b q (by omega); omega
    · rw [if_neg h]
      refine ⟨by omega, fun q hq => ?_, c⟩
      by_cases e : q = n + 1
      · rw [e]; omega
      · exact b q (by omega)
theorem am_uniq {g : Nat → Nat} {n x : Nat} (hx : x ≤ n) (h1 : ∀ q, q ≤ n → g x ≤ g q) (h2 : ∀ q, q < x → g x < g q) : am g n = x := by
  obtain ⟨a, b, c⟩ := am_ok g n
  rcases Nat.lt_trichotomy (am g n) x with z | z | z
  · have := h2 _ z; have := b x hx; omega
  · exact z
  · have := c _ z; have := h1 _ a; omega
def mc (N : Nat → Nat → Nat) : Nat → Nat → Nat
  | 0, _ => 0
  | m + 1, t => N t (nu t (am (fun q => N t (nu t q) + mc N m (t ||| 2 ^ nu t q)) m)) + mc N m (t ||| 2 ^ nu t (am (fun q => N t (nu t q) + mc N m (t ||| 2 ^ nu t q)) m))
/-- what the choice of a letter costs -/
def gq (N : Nat → Nat → Nat) (m t q : Nat) : Nat := N t (nu t q) + mc N m (t ||| 2 ^ nu t q)
theorem mc_s (N : Nat → Nat → Nat) (m t : Nat) : mc N (m + 1) t = gq N m t (am (gq N m t) m) := rfl
def bo (N : Nat → Nat → Nat) : Nat → Nat → Nat
  | 0, _ => 0
  | m + 1, t => am (gq N m t) m * fac m + bo N m (t ||| 2 ^ nu t (am (gq N m t) m))
theorem cost_s (N : Nat → Nat → Nat) (m t x : Nat) : cost N (m + 1) t x = N t (nu t (x / fac m)) + cost N m (t ||| 2 ^ nu t (x / fac m)) (x % fac m) := rfl
theorem bo_ok (N : Nat → Nat → Nat) : ∀ m t, bo N m t < fac m ∧ cost N m t (bo N m t) = mc N m t ∧ ∀ x, x < fac m → mc N m t ≤ cost N m t x ∧ (x < bo N m t → mc N m t < cost N m t x)
  | 0, t => ⟨Nat.one_pos, rfl, fun x hx => ⟨Nat.le_refl _, fun h => absurd h (Nat.not_lt_zero x)⟩⟩
  | m + 1, t => by
    obtain ⟨a, b, c⟩ := am_ok (gq N m t) m
    have f0 := fac_pos m
    obtain ⟨i1, i2, -⟩ := bo_ok N m (t ||| 2 ^ nu t (am (gq N m t) m))
    have ed : (am (gq N m t) m * fac m + bo N m (t ||| 2 ^ nu t (am (gq N m t) m))) / fac m = am (gq N m t) m := by
      rw [Nat.mul_comm, Nat.mul_add_div f0, Nat.div_eq_of_lt i1, Nat.add_zero]
    have em : (am (gq N m t) m * fac m + bo N m (t ||| 2 ^ nu t (am (gq N m t) m))) % fac m = bo N m (t ||| 2 ^ nu t (am (gq N m t) m)) := by
      rw [Nat.mul_comm, Nat.mul_add_mod, Nat.mod_eq_of_lt i1]
    have eb : bo N (m + 1) t = am (gq N m t) m * fac m + bo N m (t ||| 2 ^ nu t (am (gq N m t) m)) := rfl
    refine ⟨?_, ?_, fun x hx => ?_⟩
    · rw [eb]
      show _ < (m + 1) * fac m
      have : (am (gq N m t) m + 1) * fac m ≤ (m + 1) * fac m := Nat.mul_le_mul (by omega) (Nat.le_refl _)
      rw [Nat.add_mul] at this
      omega
    · rw [cost_s, eb, ed, em, i2]; rfl
    · have hq : x / fac m < m + 1 := Nat.div_lt_of_lt_mul (by rw [Nat.mul_comm]; exact hx)
      obtain ⟨-, -, j3⟩ := bo_ok N m (t ||| 2 ^ nu t (x / fac m))
      obtain ⟨k1, k2⟩ := j3 (x % fac m) (Nat.mod_lt _ f0)
      have hb := b (x / fac m) (by omega)
      rw [cost_s, mc_s]
      have hg : gq N m t (x / fac m) = N t (nu t (x / fac m)) + mc N m (t ||| 2 ^ nu t (x / fac m)) := rfl
      refine ⟨by omega, fun hlt => ?_⟩
      rw [eb] at hlt
      have hx2 := Nat.div_add_mod x (fac m)
      rw [Nat.mul_comm] at hx2
      rcases Nat.lt_trichotomy (x / fac m) (am (gq N m t) m) with z | z | z
      · have := c _ z; omega
      · rw [z] at k2 hx2 hg ⊢
        rw [z] at k1
        have := k2 (by omega)
        omega
      · have : (am (gq N m t) m + 1) * fac m ≤ x / fac m * fac m := Nat.mul_le_mul z (Nat.le_refl _)
        rw [Nat.add_mul] at this
        omega
theorem bo_am (N : Nat → Nat → Nat) (m t : Nat) : am (cost N m t) (fac m - 1) = bo N m t := by
  obtain ⟨a, b, c⟩ := bo_ok N m t
  have := fac_pos m
  exact am_uniq (by omega) (fun q hq => by rw [b]; exact (c q (by omega)).1) (fun q hq => by rw [b]; exact (c q (by omega)).2 hq)
theorem mc_le {N : Nat → Nat → Nat} (hN : ∀ t a, N t a ≤ 64) : ∀ m t, mc N m t ≤ 64 * m
  | 0, _ => Nat.zero_le _
  | m + 1, t => by
    rw [mc_s]
    show N t (nu t (am (gq N m t) m)) + mc N m (t ||| 2 ^ nu t (am (gq N m t) m)) ≤ _
    have h1 := hN t (nu t (am (gq N m t) m))
    have h2 := mc_le hN m (t ||| 2 ^ nu t (am (gq N m t) m))
    omega
theorem cost_le {N : Nat → Nat → Nat} (hN : ∀ t a, N t a ≤ 64) : ∀ m t x, cost N m t x ≤ 64 * m
  | 0, _, _ => Nat.zero_le _
  | m + 1, t, x => by
    rw [cost_s]
    have h1 := hN t (nu t (x / fac m))
    have h2 := cost_le hN m (t ||| 2 ^ nu t (x / fac m)) (x % fac m)
    omega
theorem nd_le (B : Nat → Bool) {w : Nat} (hw : w ≤ 6) (t a : Nat) : nd B w t a ≤ 64 := Nat.le_trans (cnt_le _ _) (pow6 hw)
theorem gq_lt {B : Nat → Bool} {w m : Nat} (hw : w ≤ 6) (hm : m ≤ 6) (t q : Nat) : gq (nd B w) m t q < 1000 := by
  unfold gq
  have h1 := nd_le B hw t (nu t q)
  have h2 := mc_le (nd_le B hw) m (t ||| 2 ^ nu t q)
  omega
theorem cnt_part {P Q : Nat → Bool} (n : Nat) (h : ∀ r, r < n → P r = true → Q r = true) : cnt P n ≤ cnt Q n :=
  cnt_inj n Q (fun r => r) (fun j hj hp => ⟨hj, h j hj hp⟩) (fun j i hj _ _ _ => Nat.ne_of_lt hj)
/-- how many sets of told letters there are -/
theorem sub_cnt : ∀ w, w < 7 → ∀ t, t < 2 ^ w → cnt (fun v => decide (v &&& t = v)) (2 ^ w) = 2 ^ (w - cnt (unt t) w) := by decide +kernel
theorem nd_told (B : Nat → Bool) {w t : Nat} (hw : w ≤ 6) (ht : t < 2 ^ w) (a : Nat) : nd B w t a ≤ 2 ^ (w - cnt (unt t) w) := by
  rw [← sub_cnt w (by omega) t ht]
  refine cnt_part (2 ^ w) (fun r _ h => ?_)
  unfold rp cp at h
  rw [Bool.and_eq_true, Bool.and_eq_true] at h
  exact h.1.1
theorem gq_mc {B : Nat → Bool} {w m t q : Nat} (hw : w ≤ 6) (ht : t < 2 ^ w) (hm : cnt (unt t) w = m + 1) (hq : q ≤ m) (ih : ∀ u, u < 2 ^ w → cnt (unt u) w = m → mc (nd B w) m u + 2 ^ (w - m) ≤ 2 ^ w) : gq (nd B w) m t q + 2 ^ (w - (m + 1)) ≤ 2 ^ w := by
  obtain ⟨a, b, -⟩ := nu_spec (t := t) (q := q) (w := w) (by omega) (by omega)
  have hc := cnt_unt a b
  have h1 := ih (t ||| 2 ^ nu t q) (Nat.or_lt_two_pow ht (Nat.pow_lt_pow_right (by decide) a)) (by omega)
  have h2 := nd_told B hw ht (nu t q)
  rw [hm] at h2
  have hcw := cnt_le (unt t) w
  obtain ⟨k, e⟩ : ∃ k, w - m = k + 1 := ⟨w - m - 1, by omega⟩
  rw [e, Nat.pow_succ] at h1
  rw [show w - (m + 1) = k by omega] at h2 ⊢
  unfold gq
  omega
theorem mc_told {B : Nat → Bool} {w : Nat} (hw : w ≤ 6) : ∀ m t, t < 2 ^ w → cnt (unt t) w = m → mc (nd B w) m t + 2 ^ (w - m) ≤ 2 ^ w
  | 0, t, _, _ => by
    show 0 + 2 ^ (w - 0) ≤ 2 ^ w
    rw [Nat.zero_add, Nat.sub_zero]
    exact Nat.le_refl _
  | m + 1, t, ht, hm => by
    rw [mc_s]
    exact gq_mc hw ht hm (am_ok (gq (nd B w) m t) m).1 (mc_told hw m)
theorem gq_64 {B : Nat → Bool} {w m t q : Nat} (hw : w ≤ 6) (ht : t < 2 ^ w) (hm : cnt (unt t) w = m + 1) (hq : q ≤ m) : gq (nd B w) m t q < 64 := by
  have h1 := gq_mc (B := B) hw ht hm hq (mc_told hw m)
  have h2 := pow6 hw
  have h3 : 0 < 2 ^ (w - (m + 1)) := Nat.pow_pos (by decide)
  omega
/-! ===== orders: the class ===== -/
/-- what is known of a set of told letters -/
def fwK (B : Nat → Bool) (w u : Nat) (τ : kv_S) : Prop := kv_i τ 24 u = Int32.ofNat (mc (nd B w) (cnt (unt u) w) u) ∧ (0 < cnt (unt u) w → kv_i τ 25 u = Int32.ofNat (nu u (am (gq (nd B w) (cnt (unt u) w - 1) u) (cnt (unt u) w - 1))))
section GO
variable {d : Nat} {σ : kv_S} {Φ : Option Value → kv_S → Prop} {B : Nat → Bool} {w : Nat}
theorem ch_loop (js : JS σ) (hK : JK σ) (hB : ∀ r, 2 ^ w ≤ r → B r = false) (hw : w ≤ 6) {t m : Nat} (ht : t < 2 ^ w) (hm : cnt (unt t) w = m + 1) (hk : ∀ u, t < u → u < 2 ^ w → fwK B w u σ) (H : ∀ τ, FR (fun b k => b = 23 ∨ (b = 24 ∨ b = 25) ∧ k = t) σ τ → fwK B w t τ → Φ none τ) : ∀ mm l, l + mm = w → ∀ τ, FR (fun b k => b = 23 ∨ (b = 24 ∨ b = 25) ∧ k = t) σ τ → (cnt (unt t) l = 0 → kv_i τ 24 t = 64) → (∀ c, cnt (unt t) l = c + 1 → kv_i τ 24 t = Int32.ofNat (gq (nd B w) m t (am (gq (nd B w) m t) c)) ∧ kv_i τ 25 t = Int32.ofNat (nu t (am (gq (nd B w) m t) c))) → ∀ v6 : Value, Wp (d + 2) 75 12 [.ref 22, .long (lw B), .null, .int (Int32.ofNat w), .int (Int32.ofNat t), .int (Int32.ofNat l), v6] [] τ Φ
  | 0, l, e, τ, fr, h0, h1, v6 => by
    have e2 : l = w := by omega
    subst e2
    simp only [g_75_12, g_75_14, g_75_15, g_75_89, ari_aa, ari_al, ari_la, ari_mm, ari_ml, ari_lm, ari_ltl, ari_llt, ari_lt, ari_le, ari_lel, ari_lle, ari_0, ari_eq, ari_eql, ari_leq, ari_cl, Nat.not_lt_zero, Bool.false_eq_true, Option.toList_some, Option.toList_none, List.cons_append, List.nil_append, kv_rv, kc1_i, kc1_r, kc1_n, n10, n01, n1514, n1213, n1312, if_true, if_false, not_true_eq_false, not_false_eq_true, and_self, true_and, and_true, false_and, and_false, or_true, true_or, or_false, false_or, Nat.reduceLeDiff, Nat.reduceLT, Nat.reduceEqDiff, Nat.reduceAdd, (show l < 7 by omega), (show l < 2147483648 by omega), (show l ≤ l by omega)]
    refine H τ fr ?_
    obtain ⟨q1, q2⟩ := h1 m hm
    unfold fwK
    rw [hm]
    exact ⟨q1, fun _ => q2⟩
  | mm + 1, l, e, τ, fr, h0, h1, v6 => by
    have h6 := pow6 hw
    have js2 := fr.js js
    have hK2 := hK.fr fr (fun b i q => by omega)
    simp only [g_75_12, g_75_14, g_75_15, ari_aa, ari_al, ari_la, ari_mm, ari_ml, ari_lm, ari_ltl, ari_llt, ari_lt, ari_le, ari_lel, ari_lle, ari_0, ari_eq, ari_eql, ari_leq, ari_cl, Nat.not_lt_zero, Bool.false_eq_true, Option.toList_some, Option.toList_none, List.cons_append, List.nil_append, kv_rv, kc1_i, kc1_r, kc1_n, n10, n01, n1514, n1213, n1312, if_true, if_false, not_true_eq_false, not_false_eq_true, and_self, true_and, and_true, false_and, and_false, or_true, true_or, or_false, false_or, Nat.reduceLeDiff, Nat.reduceLT, Nat.reduceEqDiff, Nat.reduceAdd, (show l < 7 by omega), (show l < 2147483648 by omega), (show w < 7 by omega), (show w < 2147483648 by omega), (show ¬ w ≤ l by omega)]
    cases hb : t.testBit l with
    | true =>
      have hu : unt t l = false := by unfold unt; rw [hb]; rfl
      simp only [g_75_18, g_75_20, g_75_22, g_75_23, g_75_24, g_75_25, g_75_83, g_75_86, ari_aa, ari_al, ari_la, ari_mm, ari_ml, ari_lm, ari_ltl, ari_llt, ari_lt, ari_le, ari_lel, ari_lle, ari_0, ari_eq, ari_eql, ari_leq, ari_cl, Nat.not_lt_zero, Bool.false_eq_true, Option.toList_some, Option.toList_none, List.cons_append, List.nil_append, kv_rv, kc1_i, kc1_r, kc1_n, n10, n01, n1514, n1213, n1312, if_true, if_false, not_true_eq_false, not_false_eq_true, and_self, true_and, and_true, false_and, and_false, or_true, true_or, or_false, false_or, Nat.reduceLeDiff, Nat.reduceLT, Nat.reduceEqDiff, Nat.reduceAdd, ari_31 (show l < 32 by omega), tsh (show t < 64 by omega) (show l < 7 by omega), hb, Bool.toNat_true]
      refine ch_loop js hK hB hw ht hm hk H mm (l + 1) (by omega) τ fr (fun q => h0 ?_) (fun c q => h1 c ?_) _
      · rw [cnt_s, hu] at q; exact q
      · rw [cnt_s, hu] at q; exact q
    | false =>
      have hu : unt t l = true := by unfold unt; rw [hb]; rfl
      have hnu : nu t (cnt (unt t) l) = l := nu_uniq (by omega) hu rfl
      have hor : t ||| 2 ^ l < 2 ^ w := Nat.or_lt_two_pow ht (Nat.pow_lt_pow_right (by decide) (by omega))
      have hgt : t < t ||| 2 ^ l := by
        have e1 : t ≤ t ||| 2 ^ l := Nat.left_le_or
        refine Nat.lt_of_le_of_ne e1 (fun q => ?_)
        have e3 : t.testBit l = (t ||| 2 ^ l).testBit l := by rw [← q]
        rw [tb_or2, hb] at e3
        simp at e3
      have hcu := cnt_unt (w := w) (show l < w by omega) hu
      have hnx := (hk (t ||| 2 ^ l) hgt hor).1
      rw [show cnt (unt (t ||| 2 ^ l)) w = m by omega] at hnx
      simp only [g_75_18, g_75_20, g_75_22, g_75_23, g_75_24, g_75_25, g_75_28, g_75_29, g_75_30, g_75_31, g_75_33, g_75_35, kv_w8_0, kv_w8_1, kv_w8_2, kv_w8_3, kv_w8_4, ari_aa, ari_al, ari_la, ari_mm, ari_ml, ari_lm, ari_ltl, ari_llt, ari_lt, ari_le, ari_lel, ari_lle, ari_0, ari_eq, ari_eql, ari_leq, ari_cl, Nat.not_lt_zero, Bool.false_eq_true, Option.toList_some, Option.toList_none, List.cons_append, List.nil_append, kv_rv, kc1_i, kc1_r, kc1_n, n10, n01, n1514, n1213, n1312, if_true, if_false, not_true_eq_false, not_false_eq_true, and_self, true_and, and_true, false_and, and_false, or_true, true_or, or_false, false_or, Nat.reduceLeDiff, Nat.reduceLT, Nat.reduceEqDiff, Nat.reduceAdd, ari_31 (show l < 32 by omega), tsh (show t < 64 by omega) (show l < 7 by omega), hb, Bool.toNat_false, s_22 js2, r_8_4 js2]
      refine m_nodesOf js2 hK2 hB (show t < 64 by omega) hw (show l < 6 by omega) (fun υ fr2 => ?_)
      have fr3 : FR (fun b k => b = 23 ∨ (b = 24 ∨ b = 25) ∧ k = t) σ υ := fr.tr (fr2.mono (fun b k q => Or.inl q))
      have js3 := fr3.js js
      have hn2 : kv_i υ 24 (t ||| 2 ^ l) = Int32.ofNat (mc (nd B w) m (t ||| 2 ^ l)) := by rw [fr3.i (by omega)]; exact hnx
      have eg : nd B w t l + mc (nd B w) m (t ||| 2 ^ l) = gq (nd B w) m t (cnt (unt t) l) := by unfold gq; rw [hnu]
      have b1 := nd_le B hw t l
      have b2 := mc_le (nd_le B hw) m (t ||| 2 ^ l)
      have hcw := cnt_le (unt t) w
      have u24 : kv_i υ 24 t = kv_i τ 24 t := fr2.i (by omega)
      have u25 : kv_i υ 25 t = kv_i τ 25 t := fr2.i (by omega)
      simp only [g_75_38, g_75_39, g_75_42, g_75_44, g_75_45, g_75_47, g_75_48, g_75_49, g_75_50, g_75_51, g_75_53, g_75_55, g_75_56, g_75_59, ari_aa, ari_al, ari_la, ari_mm, ari_ml, ari_lm, ari_ltl, ari_llt, ari_lt, ari_le, ari_lel, ari_lle, ari_0, ari_eq, ari_eql, ari_leq, ari_cl, Nat.not_lt_zero, Bool.false_eq_true, Option.toList_some, Option.toList_none, List.cons_append, List.nil_append, kv_rv, kc1_i, kc1_r, kc1_n, n10, n01, n1514, n1213, n1312, if_true, if_false, not_true_eq_false, not_false_eq_true, and_self, true_and, and_true, false_and, and_false, or_true, true_or, or_false, false_or, Nat.reduceLeDiff, Nat.reduceLT, Nat.reduceEqDiff, Nat.reduceAdd, ari_31 (show l < 32 by omega), ari_1shl _ (show l < 31 by omega), ari_or, hn2, eg, s_22 js3, r_8_4 js3, s_24 js3, r_22_1 js3, (show t ||| 2 ^ l < 64 by omega), (show t ||| 2 ^ l < 2147483648 by omega), (show t < 64 by omega), (show t < 2147483648 by omega)]
      have hgb : gq (nd B w) m t (cnt (unt t) l) < 1000 := gq_lt hw (by omega) t _
      have upd : (cnt (unt t) l = 0 ∨ ∃ c, cnt (unt t) l = c + 1 ∧ gq (nd B w) m t (c + 1) < gq (nd B w) m t (am (gq (nd B w) m t) c)) → Wp (d + 2) 75 65 [.ref 22, .long (lw B), .null, .int (Int32.ofNat w), .int (Int32.ofNat t), .int (Int32.ofNat l), .int (Int32.ofNat (gq (nd B w) m t (cnt (unt t) l)))] [] υ Φ := fun hc => by
        simp only [g_75_65, g_75_66, g_75_69, g_75_71, g_75_73, g_75_74, g_75_75, g_75_78, g_75_80, g_75_82, g_75_83, g_75_86, ari_aa, ari_al, ari_la, ari_mm, ari_ml, ari_lm, ari_ltl, ari_llt, ari_lt, ari_le, ari_lel, ari_lle, ari_0, ari_eq, ari_eql, ari_leq, ari_cl, Nat.not_lt_zero, Bool.false_eq_true, Option.toList_some, Option.toList_none, List.cons_append, List.nil_append, kv_rv, kc1_i, kc1_r, kc1_n, n10, n01, n1514, n1213, n1312, if_true, if_false, not_true_eq_false, not_false_eq_true, and_self, true_and, and_true, false_and, and_false, or_true, true_or, or_false, false_or, Nat.reduceLeDiff, Nat.reduceLT, Nat.reduceEqDiff, Nat.reduceAdd, sh_si, r_si, s_22 js3, r_8_4 js3, s_24 js3, r_22_1 js3, s_25 js3, r_22_2 js3, (show t < 64 by omega), (show t < 2147483648 by omega)]
        refine ch_loop js hK hB hw ht hm hk H mm (l + 1) (by omega) _ ((fr3.si (Or.inr ⟨Or.inl rfl, rfl⟩)).si (Or.inr ⟨Or.inr rfl, rfl⟩)) (fun q => ?_) (fun c q => ?_) _
        · rw [cnt_s, hu] at q; exact absurd q (Nat.succ_ne_zero _)
        · rw [cnt_s, hu] at q
          have q : cnt (unt t) l = c := Nat.succ.inj q
          have ea : am (gq (nd B w) m t) c = c := by
            rcases hc with z | ⟨c', z1, z2⟩
            · rw [show c = 0 by omega]; rfl
            · rw [show c = c' + 1 by omega]; unfold am; rw [if_pos z2]
          rw [ea, ← q, hnu, i_si, if_neg (by omega), i_si, if_pos ⟨rfl, rfl⟩, i_si, if_pos ⟨rfl, rfl⟩]
          exact ⟨rfl, rfl⟩
      by_cases c0 : cnt (unt t) l = 0
      · have z := h0 c0
        have h64 : gq (nd B w) m t (cnt (unt t) l) < 64 := gq_64 hw ht hm (by omega)
        simp only [g_75_61, g_75_62, ari_aa, ari_al, ari_la, ari_mm, ari_ml, ari_lm, ari_ltl, ari_llt, ari_lt, ari_le, ari_lel, ari_lle, ari_0, ari_eq, ari_eql, ari_leq, ari_cl, Nat.not_lt_zero, Bool.false_eq_true, Option.toList_some, Option.toList_none, List.cons_append, List.nil_append, kv_rv, kc1_i, kc1_r, kc1_n, n10, n01, n1514, n1213, n1312, if_true, if_false, not_true_eq_false, not_false_eq_true, and_self, true_and, and_true, false_and, and_false, or_true, true_or, or_false, false_or, Nat.reduceLeDiff, Nat.reduceLT, Nat.reduceEqDiff, Nat.reduceAdd, u24, z, s_24 js3, r_22_1 js3, (show t < 64 by omega), (show t < 2147483648 by omega), (show gq (nd B w) m t (cnt (unt t) l) < 64 by omega), (show gq (nd B w) m t (cnt (unt t) l) < 2147483648 by omega), (show ¬ 64 ≤ gq (nd B w) m t (cnt (unt t) l) by omega)]
        exact upd (Or.inl c0)
      · obtain ⟨c, ec⟩ : ∃ c, cnt (unt t) l = c + 1 := ⟨cnt (unt t) l - 1, by omega⟩
        obtain ⟨z1, z2⟩ := h1 c ec
        have hac := (am_ok (gq (nd B w) m t) c).2.1
        have hgc : gq (nd B w) m t (am (gq (nd B w) m t) c) < 1000 := gq_lt hw (by omega) t _
        by_cases c1 : gq (nd B w) m t (c + 1) < gq (nd B w) m t (am (gq (nd B w) m t) c)
        · have c2 : ¬ gq (nd B w) m t (am (gq (nd B w) m t) c) ≤ gq (nd B w) m t (cnt (unt t) l) := by rw [ec]; omega
          simp only [g_75_61, g_75_62, ari_aa, ari_al, ari_la, ari_mm, ari_ml, ari_lm, ari_ltl, ari_llt, ari_lt, ari_le, ari_lel, ari_lle, ari_0, ari_eq, ari_eql, ari_leq, ari_cl, Nat.not_lt_zero, Bool.false_eq_true, Option.toList_some, Option.toList_none, List.cons_append, List.nil_append, kv_rv, kc1_i, kc1_r, kc1_n, n10, n01, n1514, n1213, n1312, if_true, if_false, not_true_eq_false, not_false_eq_true, and_self, true_and, and_true, false_and, and_false, or_true, true_or, or_false, false_or, Nat.reduceLeDiff, Nat.reduceLT, Nat.reduceEqDiff, Nat.reduceAdd, u24, z1, c2, s_24 js3, r_22_1 js3, (show t < 64 by omega), (show t < 2147483648 by omega), (show gq (nd B w) m t (cnt (unt t) l) < 1000 by omega), (show gq (nd B w) m t (cnt (unt t) l) < 2147483648 by omega), (show gq (nd B w) m t (am (gq (nd B w) m t) c) < 1000 by omega), (show gq (nd B w) m t (am (gq (nd B w) m t) c) < 2147483648 by omega)]
          exact upd (Or.inr ⟨c, ec, c1⟩)
        · have c2 : gq (nd B w) m t (am (gq (nd B w) m t) c) ≤ gq (nd B w) m t (cnt (unt t) l) := by rw [ec]; omega
          simp only [g_75_61, g_75_62, g_75_83, g_75_86, ari_aa, ari_al, ari_la, ari_mm, ari_ml, ari_lm, ari_ltl, ari_llt, ari_lt, ari_le, ari_lel, ari_lle, ari_0, ari_eq, ari_eql, ari_leq, ari_cl, Nat.not_lt_zero, Bool.false_eq_true, Option.toList_some, Option.toList_none, List.cons_append, List.nil_append, kv_rv, kc1_i, kc1_r, kc1_n, n10, n01, n1514, n1213, n1312, if_true, if_false, not_true_eq_false, not_false_eq_true, and_self, true_and, and_true, false_and, and_false, or_true, true_or, or_false, false_or, Nat.reduceLeDiff, Nat.reduceLT, Nat.reduceEqDiff, Nat.reduceAdd, u24, z1, c2, s_24 js3, r_22_1 js3, (show t < 64 by omega), (show t < 2147483648 by omega), (show gq (nd B w) m t (cnt (unt t) l) < 1000 by omega), (show gq (nd B w) m t (cnt (unt t) l) < 2147483648 by omega), (show gq (nd B w) m t (am (gq (nd B w) m t) c) < 1000 by omega), (show gq (nd B w) m t (am (gq (nd B w) m t) c) < 2147483648 by omega)]
          refine ch_loop js hK hB hw ht hm hk H mm (l + 1) (by omega) _ fr3 (fun q => ?_) (fun c' q => ?_) _
          · rw [cnt_s, hu] at q; exact absurd q (Nat.succ_ne_zero _)
          · rw [cnt_s, hu] at q
            have q : cnt (unt t) l = c' := Nat.succ.inj q
            have ea : am (gq (nd B w) m t) c' = am (gq (nd B w) m t) c := by
              rw [show c' = c + 1 by omega]
              show (if _ then _ else _) = _
              rw [if_neg c1]
            rw [ea, u24, u25]
            exact ⟨z1, z2⟩
theorem m_choose (js : JS σ) (hK : JK σ) (hB : ∀ r, 2 ^ w ≤ r → B r = false) (hw : w ≤ 6) {t m : Nat} (ht : t < 2 ^ w) (hm : cnt (unt t) w = m + 1) (hk : ∀ u, t < u → u < 2 ^ w → fwK B w u σ) (H : ∀ τ, FR (fun b k => b = 23 ∨ (b = 24 ∨ b = 25) ∧ k = t) σ τ → fwK B w t τ → Φ none τ) : Wc (d + 2) 75 [.ref 22, .long (lw B), .int (Int32.ofNat w), .int (Int32.ofNat t)] σ Φ := by
  have h6 := pow6 hw
  simp only [c_75, g_75_0, g_75_1, g_75_4, g_75_6, g_75_8, g_75_9, g_75_10, ari_aa, ari_al, ari_la, ari_mm, ari_ml, ari_lm, ari_ltl, ari_llt, ari_lt, ari_le, ari_lel, ari_lle, ari_0, ari_eq, ari_eql, ari_leq, ari_cl, Nat.not_lt_zero, Bool.false_eq_true, Option.toList_some, Option.toList_none, List.cons_append, List.nil_append, kv_rv, kc1_i, kc1_r, kc1_n, n10, n01, n1514, n1213, n1312, if_true, if_false, not_true_eq_false, not_false_eq_true, and_self, true_and, and_true, false_and, and_false, or_true, true_or, or_false, false_or, Nat.reduceLeDiff, Nat.reduceLT, Nat.reduceEqDiff, Nat.reduceAdd, s_22 js, r_8_4 js, s_24 js, r_22_1 js, (show t < 64 by omega), (show t < 2147483648 by omega)]
  have fr0 : FR (fun b k => b = 23 ∨ (b = 24 ∨ b = 25) ∧ k = t) σ (kv_si σ 24 t 64) := (FR.rf _ σ).si (Or.inr ⟨Or.inl rfl, rfl⟩)
  refine ch_loop js hK hB hw ht hm hk H w 0 (by omega) _ fr0 (fun _ => ?_) (fun c q => absurd q.symm (Nat.succ_ne_zero _)) _
  rw [i_si, if_pos ⟨rfl, rfl⟩]
end GO

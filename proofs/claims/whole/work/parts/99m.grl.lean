/-! ===== graphs: the NODES of a graph, in the model ===== -/
theorem dc_sn {K : Nat → Int64} {P : Nat → Bool} {g : Nat → Int64} {v : Nat} (h : ∀ u, u < v → rp K P u = true → g (cnt (rp K P) u) = K u) : anyN (fun k => decide (g k = K v)) (cnt (rp K P) v) = anyN (fun k => P k && decide (K k = K v)) v := by
  rw [Bool.eq_iff_iff, anyN_iff, anyN_iff]
  constructor
  · rintro ⟨k, h1, h2⟩
    have h2 := of_decide_eq_true h2
    obtain ⟨u, a, b, c⟩ := nth_ex (rp K P) v k h1
    have e := h u a b
    rw [c, h2] at e
    have b2 : (P u && !anyN (fun k => P k && decide (K k = K u)) u) = true := b
    rw [Bool.and_eq_true] at b2
    exact ⟨u, a, by show (P u && decide (K u = K v)) = true; rw [b2.1, decide_eq_true e.symm]; rfl⟩
  · rintro ⟨u, h1, h2⟩
    obtain ⟨i, a, b, c⟩ := first_of (f := fun k => P k && decide (K k = K v)) v ((anyN_iff v).mpr ⟨u, h1, h2⟩)
    have b : (P i && decide (K i = K v)) = true := b
    rw [Bool.and_eq_true, decide_eq_true_eq] at b
    have hr : rp K P i = true := by
      unfold rp
      rw [b.1, Bool.true_and, Bool.not_eq_true']
      refine Bool.eq_false_iff.mpr fun hc => ?_
      obtain ⟨k, q1, q2⟩ := (anyN_iff _).mp hc
      have := c k q1
      rw [← b.2] at this
      rw [this] at q2; cases q2
    exact ⟨cnt (rp K P) i, cnt_lt_of a hr, decide_eq_true ((h i a hr).trans b.2)⟩
theorem lb_ubit (z : Int64) {n : Nat} (hn : n < 64) : kv_lshr z (Int32.ofNat n) &&& 1 = if lb z n = true then 1 else 0 := by
  apply lb_ext
  intro r hr
  rw [lb_and, lb_ushr z hn, lb_1 r hr]
  by_cases h0 : r = 0
  · subst h0
    cases c : lb z n
    · simp [c, lb_0]
    · simp [c, lb_1]
  · cases c : lb z n
    · simp [h0, lb_0]
    · simp [h0, lb_1 r hr]
theorem ub_eq (a b : Bool) : ((if a = true then (1 : Int64) else 0) = if b = true then 1 else 0) ↔ (a ^^ b) = false := by cases a <;> cases b <;> decide
theorem bI_f : bI false = 0 := Eq.trans rfl rfl
theorem bI_t : bI true = 1 := Eq.trans rfl rfl
section GL
variable {d : Nat} {σ : kv_S} {Φ : Option Value → kv_S → Prop} {o : Nat → Nat}
theorem no_hm {w k : Nat} {z : Int64} {f sm0 many way : Int32} {v11 : Value} (hw : w ≤ 6) (hk : k < w) : ∀ m h, h + m = 2 ^ (w - k - 1) → Wp d 151 50 [.ref 149, .int f, .int (Int32.ofNat w), .int sm0, .int (Int32.ofNat k), .int many, .int way, .long z, .null, .int (bI (anyN (fun h => lb z (2 * h) ^^ lb z (2 * h + 1)) h)), .int (Int32.ofNat (2 * h)), v11] [] σ Φ = Wp d 151 99 [.ref 149, .int f, .int (Int32.ofNat w), .int sm0, .int (Int32.ofNat k), .int many, .int way, .long z, .null, .int (bI (hm (w - k) z)), .int (Int32.ofNat (2 ^ (w - k))), v11] [] σ Φ
  | 0, h, e => by
    have h8 : 2 ^ (w - k) = 2 * 2 ^ (w - k - 1) := by
      obtain ⟨n, e⟩ : ∃ n, w - k = n + 1 := ⟨w - k - 1, by omega⟩
      rw [e, show n + 1 - 1 = n by omega, Nat.pow_succ]; omega
    have h7 : 2 ^ (w - k) ≤ 64 := pow6 (by omega)
    have e2 : 2 * h = 2 ^ (w - k) := by omega
    have e3 : Int32.ofNat w - Int32.ofNat k = Int32.ofNat (w - k) := ari_ss (by omega)
    have e4 : h = 2 ^ (w - k - 1) := by omega
    unfold hm
    simp only [g_151_50, g_151_52, g_151_53, g_151_54, g_151_56, g_151_57, g_151_58, ari_aa, ari_al, ari_la, ari_mm, ari_ml, ari_lm, ari_ltl, ari_llt, ari_lt, ari_le, ari_lel, ari_lle, ari_0, ari_eq, ari_eql, ari_leq, ari_cl, Nat.not_lt_zero, Bool.false_eq_true, Option.toList_some, Option.toList_none, List.cons_append, List.nil_append, kv_rv, kc1_i, kc1_r, kc1_n, n10, n01, n1514, n1213, n1312, if_true, if_false, not_true_eq_false, not_false_eq_true, and_self, true_and, and_true, false_and, and_false, or_true, true_or, or_false, false_or, Nat.reduceLeDiff, Nat.reduceLT, Nat.reduceEqDiff, Nat.reduceAdd, e2, e3, pow_k (show w - k ≤ 6 by omega), (show 2 ^ (w - k) < 65 by omega), (show 2 ^ (w - k) < 2147483648 by omega), (show 2 ^ (w - k) ≤ 2 ^ (w - k) by omega)]
    rw [e4]
  | m + 1, h, e => by
    have h8 : 2 ^ (w - k) = 2 * 2 ^ (w - k - 1) := by
      obtain ⟨n, e⟩ : ∃ n, w - k = n + 1 := ⟨w - k - 1, by omega⟩
      rw [e, show n + 1 - 1 = n by omega, Nat.pow_succ]; omega
    have h7 : 2 ^ (w - k) ≤ 64 := pow6 (by omega)
    have e3 : Int32.ofNat w - Int32.ofNat k = Int32.ofNat (w - k) := ari_ss (by omega)
    have ih := no_hm (z := z) (f := f) (sm0 := sm0) (many := many) (way := way) (v11 := v11) hw hk m (h + 1) (by omega)
    have es : anyN (fun h => lb z (2 * h) ^^ lb z (2 * h + 1)) (h + 1) = (anyN (fun h => lb z (2 * h) ^^ lb z (2 * h + 1)) h || (lb z (2 * h) ^^ lb z (2 * h + 1))) := rfl
    have e5 : 2 * h + 2 = 2 * (h + 1) := by omega
    rw [es] at ih
    conv => lhs; simp only [g_151_50, g_151_52, g_151_53, g_151_54, g_151_56, g_151_57, g_151_58, ari_aa, ari_al, ari_la, ari_mm, ari_ml, ari_lm, ari_ltl, ari_llt, ari_lt, ari_le, ari_lel, ari_lle, ari_0, ari_eq, ari_eql, ari_leq, ari_cl, Nat.not_lt_zero, Bool.false_eq_true, Option.toList_some, Option.toList_none, List.cons_append, List.nil_append, kv_rv, kc1_i, kc1_r, kc1_n, n10, n01, n1514, n1213, n1312, if_true, if_false, not_true_eq_false, not_false_eq_true, and_self, true_and, and_true, false_and, and_false, or_true, true_or, or_false, false_or, Nat.reduceLeDiff, Nat.reduceLT, Nat.reduceEqDiff, Nat.reduceAdd, e3, pow_k (show w - k ≤ 6 by omega), (show 2 * h < 65 by omega), (show 2 * h < 2147483648 by omega), (show 2 ^ (w - k) < 65 by omega), (show 2 ^ (w - k) < 2147483648 by omega), (show ¬ 2 ^ (w - k) ≤ 2 * h by omega)]
    cases c1 : anyN (fun h => lb z (2 * h) ^^ lb z (2 * h + 1)) h with
    | true =>
      rw [c1, Bool.true_or, bI_t] at ih
      simp only [bI_t, g_151_61, g_151_63, g_151_66, g_151_68, g_151_70, g_151_71, g_151_72, g_151_73, g_151_75, g_151_77, g_151_78, g_151_79, g_151_80, g_151_81, g_151_82, g_151_83, g_151_86, g_151_87, g_151_90, g_151_91, g_151_93, g_151_96, ari_aa, ari_al, ari_la, ari_mm, ari_ml, ari_lm, ari_ltl, ari_llt, ari_lt, ari_le, ari_lel, ari_lle, ari_0, ari_eq, ari_eql, ari_leq, ari_cl, Nat.not_lt_zero, Bool.false_eq_true, Option.toList_some, Option.toList_none, List.cons_append, List.nil_append, kv_rv, kc1_i, kc1_r, kc1_n, n10, n01, n1514, n1213, n1312, if_true, if_false, not_true_eq_false, not_false_eq_true, and_self, true_and, and_true, false_and, and_false, or_true, true_or, or_false, false_or, Nat.reduceLeDiff, Nat.reduceLT, Nat.reduceEqDiff, Nat.reduceAdd, e5]
      exact ih
    | false =>
      rw [c1, Bool.false_or] at ih
      cases c2 : (lb z (2 * h) ^^ lb z (2 * h + 1)) with
      | true =>
        have c3 := mt (ub_eq (lb z (2 * h)) (lb z (2 * h + 1))).mp (by rw [c2]; decide)
        rw [c2, bI_t] at ih
        simp only [bI_f, g_151_61, g_151_63, g_151_66, g_151_68, g_151_70, g_151_71, g_151_72, g_151_73, g_151_75, g_151_77, g_151_78, g_151_79, g_151_80, g_151_81, g_151_82, g_151_83, g_151_86, g_151_87, g_151_90, g_151_91, g_151_93, g_151_96, ari_aa, ari_al, ari_la, ari_mm, ari_ml, ari_lm, ari_ltl, ari_llt, ari_lt, ari_le, ari_lel, ari_lle, ari_0, ari_eq, ari_eql, ari_leq, ari_cl, Nat.not_lt_zero, Bool.false_eq_true, Option.toList_some, Option.toList_none, List.cons_append, List.nil_append, kv_rv, kc1_i, kc1_r, kc1_n, n10, n01, n1514, n1213, n1312, if_true, if_false, not_true_eq_false, not_false_eq_true, and_self, true_and, and_true, false_and, and_false, or_true, true_or, or_false, false_or, Nat.reduceLeDiff, Nat.reduceLT, Nat.reduceEqDiff, Nat.reduceAdd, lb_ubit z (show 2 * h < 64 by omega), lb_ubit z (show 2 * h + 1 < 64 by omega), lg_cmp_eq, c3, e5]
        exact ih
      | false =>
        have c3 := (ub_eq (lb z (2 * h)) (lb z (2 * h + 1))).mpr c2
        rw [c2, bI_f] at ih
        simp only [bI_f, g_151_61, g_151_63, g_151_66, g_151_68, g_151_70, g_151_71, g_151_72, g_151_73, g_151_75, g_151_77, g_151_78, g_151_79, g_151_80, g_151_81, g_151_82, g_151_83, g_151_86, g_151_87, g_151_90, g_151_91, g_151_93, g_151_96, ari_aa, ari_al, ari_la, ari_mm, ari_ml, ari_lm, ari_ltl, ari_llt, ari_lt, ari_le, ari_lel, ari_lle, ari_0, ari_eq, ari_eql, ari_leq, ari_cl, Nat.not_lt_zero, Bool.false_eq_true, Option.toList_some, Option.toList_none, List.cons_append, List.nil_append, kv_rv, kc1_i, kc1_r, kc1_n, n10, n01, n1514, n1213, n1312, if_true, if_false, not_true_eq_false, not_false_eq_true, and_self, true_and, and_true, false_and, and_false, or_true, true_or, or_false, false_or, Nat.reduceLeDiff, Nat.reduceLT, Nat.reduceEqDiff, Nat.reduceAdd, lb_ubit z (show 2 * h < 64 by omega), lb_ubit z (show 2 * h + 1 < 64 by omega), lg_cmp_eq, c3, e5]
        exact ih
theorem no_sn (js : JS σ) {z : Int64} {f w sm0 k way h9 : Int32} {n : Nat} (hn : n ≤ 64) : ∀ m i, i + m = n → (∀ q, q < i → ¬ kv_l σ 167 q = z) → (∀ v11 : Value, Wp d 151 152 [.ref 149, .int f, .int w, .int sm0, .int k, .int (Int32.ofNat n), .int way, .long z, .null, .int h9, .int (bI (anyN (fun q => decide (kv_l σ 167 q = z)) n)), v11] [] σ Φ) → Wp d 151 114 [.ref 149, .int f, .int w, .int sm0, .int k, .int (Int32.ofNat n), .int way, .long z, .null, .int h9, .int 0, .int (Int32.ofNat i)] [] σ Φ
  | 0, i, e, h, H => by
    have e2 : i = n := by omega
    subst e2
    have hf : anyN (fun q => decide (kv_l σ 167 q = z)) i = false := Bool.eq_false_iff.mpr fun q => by
      obtain ⟨k, h1, h2⟩ := (anyN_iff _).mp q
      exact h k h1 (of_decide_eq_true h2)
    rw [hf, bI_f] at H
    simp only [g_151_114, g_151_116, g_151_118, ari_aa, ari_al, ari_la, ari_mm, ari_ml, ari_lm, ari_ltl, ari_llt, ari_lt, ari_le, ari_lel, ari_lle, ari_0, ari_eq, ari_eql, ari_leq, ari_cl, Nat.not_lt_zero, Bool.false_eq_true, Option.toList_some, Option.toList_none, List.cons_append, List.nil_append, kv_rv, kc1_i, kc1_r, kc1_n, n10, n01, n1514, n1213, n1312, if_true, if_false, not_true_eq_false, not_false_eq_true, and_self, true_and, and_true, false_and, and_false, or_true, true_or, or_false, false_or, Nat.reduceLeDiff, Nat.reduceLT, Nat.reduceEqDiff, Nat.reduceAdd, (show i < 65 by omega), (show i < 2147483648 by omega), (show i ≤ i by omega)]
    exact H _
  | m + 1, i, e, h, H => by
    by_cases c : kv_l σ 167 i = z
    · have ht : anyN (fun k => decide (kv_l σ 167 k = z)) n = true := (anyN_iff _).mpr ⟨i, by omega, decide_eq_true c⟩
      rw [ht, bI_t] at H
      simp only [g_151_114, g_151_116, g_151_118, ari_aa, ari_al, ari_la, ari_mm, ari_ml, ari_lm, ari_ltl, ari_llt, ari_lt, ari_le, ari_lel, ari_lle, ari_0, ari_eq, ari_eql, ari_leq, ari_cl, Nat.not_lt_zero, Bool.false_eq_true, Option.toList_some, Option.toList_none, List.cons_append, List.nil_append, kv_rv, kc1_i, kc1_r, kc1_n, n10, n01, n1514, n1213, n1312, if_true, if_false, not_true_eq_false, not_false_eq_true, and_self, true_and, and_true, false_and, and_false, or_true, true_or, or_false, false_or, Nat.reduceLeDiff, Nat.reduceLT, Nat.reduceEqDiff, Nat.reduceAdd, (show i < 64 by omega), (show i < 2147483648 by omega), (show n < 65 by omega), (show n < 2147483648 by omega), (show ¬ n ≤ i by omega)]
      simp only [g_151_121, g_151_123, g_151_126, g_151_127, g_151_130, g_151_132, g_151_133, g_151_135, g_151_136, g_151_139, g_151_140, g_151_143, g_151_144, g_151_146, g_151_149, ari_aa, ari_al, ari_la, ari_mm, ari_ml, ari_lm, ari_ltl, ari_llt, ari_lt, ari_le, ari_lel, ari_lle, ari_0, ari_eq, ari_eql, ari_leq, ari_cl, Nat.not_lt_zero, Bool.false_eq_true, Option.toList_some, Option.toList_none, List.cons_append, List.nil_append, kv_rv, kc1_i, kc1_r, kc1_n, n10, n01, n1514, n1213, n1312, if_true, if_false, not_true_eq_false, not_false_eq_true, and_self, true_and, and_true, false_and, and_false, or_true, true_or, or_false, false_or, Nat.reduceLeDiff, Nat.reduceLT, Nat.reduceEqDiff, Nat.reduceAdd, s_149 js, s_167 js, r_149_25 js, lg_cmp_eq, c, (show i < 64 by omega), (show i < 2147483648 by omega)]
      by_cases c2 : n ≤ i + 1
      · simp only [g_151_114, g_151_116, g_151_118, ari_aa, ari_al, ari_la, ari_mm, ari_ml, ari_lm, ari_ltl, ari_llt, ari_lt, ari_le, ari_lel, ari_lle, ari_0, ari_eq, ari_eql, ari_leq, ari_cl, Nat.not_lt_zero, Bool.false_eq_true, Option.toList_some, Option.toList_none, List.cons_append, List.nil_append, kv_rv, kc1_i, kc1_r, kc1_n, n10, n01, n1514, n1213, n1312, if_true, if_false, not_true_eq_false, not_false_eq_true, and_self, true_and, and_true, false_and, and_false, or_true, true_or, or_false, false_or, Nat.reduceLeDiff, Nat.reduceLT, Nat.reduceEqDiff, Nat.reduceAdd, c2, (show i + 1 < 65 by omega), (show i + 1 < 2147483648 by omega), (show n < 65 by omega), (show n < 2147483648 by omega)]
        exact H _
      · simp only [g_151_114, g_151_116, g_151_118, g_151_121, g_151_123, ari_aa, ari_al, ari_la, ari_mm, ari_ml, ari_lm, ari_ltl, ari_llt, ari_lt, ari_le, ari_lel, ari_lle, ari_0, ari_eq, ari_eql, ari_leq, ari_cl, Nat.not_lt_zero, Bool.false_eq_true, Option.toList_some, Option.toList_none, List.cons_append, List.nil_append, kv_rv, kc1_i, kc1_r, kc1_n, n10, n01, n1514, n1213, n1312, if_true, if_false, not_true_eq_false, not_false_eq_true, and_self, true_and, and_true, false_and, and_false, or_true, true_or, or_false, false_or, Nat.reduceLeDiff, Nat.reduceLT, Nat.reduceEqDiff, Nat.reduceAdd, c2, (show i + 1 < 65 by omega), (show i + 1 < 2147483648 by omega), (show n < 65 by omega), (show n < 2147483648 by omega)]
        exact H _
    · simp only [g_151_114, g_151_116, g_151_118, ari_aa, ari_al, ari_la, ari_mm, ari_ml, ari_lm, ari_ltl, ari_llt, ari_lt, ari_le, ari_lel, ari_lle, ari_0, ari_eq, ari_eql, ari_leq, ari_cl, Nat.not_lt_zero, Bool.false_eq_true, Option.toList_some, Option.toList_none, List.cons_append, List.nil_append, kv_rv, kc1_i, kc1_r, kc1_n, n10, n01, n1514, n1213, n1312, if_true, if_false, not_true_eq_false, not_false_eq_true, and_self, true_and, and_true, false_and, and_false, or_true, true_or, or_false, false_or, Nat.reduceLeDiff, Nat.reduceLT, Nat.reduceEqDiff, Nat.reduceAdd, (show i < 64 by omega), (show i < 2147483648 by omega), (show n < 65 by omega), (show n < 2147483648 by omega), (show ¬ n ≤ i by omega)]
      simp only [g_151_121, g_151_123, g_151_126, g_151_127, g_151_130, g_151_132, g_151_133, g_151_135, g_151_136, g_151_139, g_151_140, g_151_143, g_151_144, g_151_146, g_151_149, ari_aa, ari_al, ari_la, ari_mm, ari_ml, ari_lm, ari_ltl, ari_llt, ari_lt, ari_le, ari_lel, ari_lle, ari_0, ari_eq, ari_eql, ari_leq, ari_cl, Nat.not_lt_zero, Bool.false_eq_true, Option.toList_some, Option.toList_none, List.cons_append, List.nil_append, kv_rv, kc1_i, kc1_r, kc1_n, n10, n01, n1514, n1213, n1312, if_true, if_false, not_true_eq_false, not_false_eq_true, and_self, true_and, and_true, false_and, and_false, or_true, true_or, or_false, false_or, Nat.reduceLeDiff, Nat.reduceLT, Nat.reduceEqDiff, Nat.reduceAdd, s_149 js, s_167 js, r_149_25 js, lg_cmp_eq, c, (show i < 64 by omega), (show i < 2147483648 by omega)]
      refine no_sn js hn m (i + 1) (by omega) (fun q hq => ?_) H
      by_cases c3 : q = i
      · rw [c3]; exact c
      · exact h q (by omega)
def nmI (σ : kv_S) (B : Nat → Bool) (w : Nat) (o : Nat → Nat) (k v : Nat) (τ : kv_S) : Prop := FR (fun b _ => b = 167) σ τ ∧ ∀ u, u < v → rp (mk B w o k) (fun j => hm (w - k) (mk B w o k j)) u = true → kv_l τ 167 (cnt (rp (mk B w o k) (fun j => hm (w - k) (mk B w o k j))) u) = mk B w o k u
theorem no_md (js : JS σ) {f w k : Nat} {s0 : Int32} (hf : f < 16) (hF : JF1' σ f w) (hw : w ≤ 6) (hk : k < w) (hP : PO o w) (hO : ∀ i, i < w → kv_i σ 165 i = Int32.ofNat (o i)) (H : ∀ τ, FR (fun b _ => b = 167) σ τ → ∀ v7 v8 v9 v10 v11 : Value, Wp (d + 3) 151 178 [.ref 149, .int (Int32.ofNat f), .int (Int32.ofNat w), .int s0, .int (Int32.ofNat k), .int (Int32.ofNat (dc (mk (gB σ f w) w o k) (fun j => hm (w - k) (mk (gB σ f w) w o k j)) (2 ^ k))), .int (Int32.ofNat (2 ^ k)), v7, v8, v9, v10, v11] [] τ Φ) : ∀ m v, v + m = 2 ^ k → ∀ τ, nmI σ (gB σ f w) w o k v τ → ∀ v7 v8 v9 v10 v11 : Value, Wp (d + 3) 151 24 [.ref 149, .int (Int32.ofNat f), .int (Int32.ofNat w), .int s0, .int (Int32.ofNat k), .int (Int32.ofNat (cnt (rp (mk (gB σ f w) w o k) (fun j => hm (w - k) (mk (gB σ f w) w o k j))) v)), .int (Int32.ofNat v), v7, v8, v9, v10, v11] [] τ Φ
  | 0, v, e, τ, hI, v7, v8, v9, v10, v11 => by
    have h7 : 2 ^ k ≤ 64 := pow6 (by omega)
    have e2 : v = 2 ^ k := by omega
    subst e2
    simp only [g_151_24, g_151_26, g_151_27, g_151_29, g_151_30, ari_aa, ari_al, ari_la, ari_mm, ari_ml, ari_lm, ari_ltl, ari_llt, ari_lt, ari_le, ari_lel, ari_lle, ari_0, ari_eq, ari_eql, ari_leq, ari_cl, Nat.not_lt_zero, Bool.false_eq_true, Option.toList_some, Option.toList_none, List.cons_append, List.nil_append, kv_rv, kc1_i, kc1_r, kc1_n, n10, n01, n1514, n1213, n1312, if_true, if_false, not_true_eq_false, not_false_eq_true, and_self, true_and, and_true, false_and, and_false, or_true, true_or, or_false, false_or, Nat.reduceLeDiff, Nat.reduceLT, Nat.reduceEqDiff, Nat.reduceAdd, pow_k (show k ≤ 6 by omega), (show 2 ^ k < 65 by omega), (show 2 ^ k < 2147483648 by omega), (show 2 ^ k ≤ 2 ^ k by omega)]
    exact H τ hI.1 _ _ _ _ _
  | m + 1, v, e, τ, hI, v7, v8, v9, v10, v11 => by
    have h7 : 2 ^ k ≤ 64 := pow6 (by omega)
    have js2 := hI.1.js js
    have hF2 : JF1' τ f w := hF.fr hI.1 (fun b i q => by omega) hf
    have hO2 : ∀ i, i < w → kv_i τ 165 i = Int32.ofNat (o i) := fun i hi => by rw [hI.1.i (by omega)]; exact hO i hi
    have eB : gB τ f w = gB σ f w := by funext r; unfold gB; rw [hld_fr hI.1 (fun b j q => by omega)]
    have hc := cnt_le (rp (mk (gB σ f w) w o k) (fun j => hm (w - k) (mk (gB σ f w) w o k j))) v
    have es := dc_sn (K := mk (gB σ f w) w o k) (P := fun j => hm (w - k) (mk (gB σ f w) w o k j)) (g := kv_l τ 167) hI.2
    have mr := fun Ψ => m_rest (d := d) (Φ := Ψ) js2 hf hF2 hw hk (show v < 64 by omega) hP hO2
    rw [eB] at mr
    have fin : ∀ (r : Bool), r = rp (mk (gB σ f w) w o k) (fun j => hm (w - k) (mk (gB σ f w) w o k j)) v → ∀ v11 v9 : Value, Wp (d + 3) 151 152 [.ref 149, .int (Int32.ofNat f), .int (Int32.ofNat w), .int s0, .int (Int32.ofNat k), .int (Int32.ofNat (cnt (rp (mk (gB σ f w) w o k) (fun j => hm (w - k) (mk (gB σ f w) w o k j))) v)), .int (Int32.ofNat v), .long (mk (gB σ f w) w o k v), .null, v9, .int (bI (!r)), v11] [] τ Φ := fun r hr v11 v9 => by
      cases r with
      | false =>
        have nx := no_md js hf hF hw hk hP hO H m (v + 1) (by omega) τ ⟨hI.1, fun u hu hru => by
          by_cases q : u = v
          · rw [q, ← hr] at hru; cases hru
          · exact hI.2 u (by omega) hru⟩
        rw [cnt_s, ← hr] at nx
        simp only [Bool.not_false, bI_t, g_151_152, g_151_154, g_151_157, g_151_172, g_151_175, ari_aa, ari_al, ari_la, ari_mm, ari_ml, ari_lm, ari_ltl, ari_llt, ari_lt, ari_le, ari_lel, ari_lle, ari_0, ari_eq, ari_eql, ari_leq, ari_cl, Nat.not_lt_zero, Bool.false_eq_true, Option.toList_some, Option.toList_none, List.cons_append, List.nil_append, kv_rv, kc1_i, kc1_r, kc1_n, n10, n01, n1514, n1213, n1312, if_true, if_false, not_true_eq_false, not_false_eq_true, and_self, true_and, and_true, false_and, and_false, or_true, true_or, or_false, false_or, Nat.reduceLeDiff, Nat.reduceLT, Nat.reduceEqDiff, Nat.reduceAdd]
        exact nx _ _ _ _ _
      | true =>
        have nx := no_md js hf hF hw hk hP hO H m (v + 1) (by omega) (kv_sl τ 167 (cnt (rp (mk (gB σ f w) w o k) (fun j => hm (w - k) (mk (gB σ f w) w o k j))) v) (mk (gB σ f w) w o k v)) ⟨hI.1.tr ((FR.rf _ τ).sl rfl), fun u hu hru => by
            by_cases q : u = v
            · rw [q, l_sl, if_pos ⟨rfl, rfl⟩]
            · have := cnt_lt_of (show u < v by omega) hru
              rw [l_sl, if_neg (by omega)]
              exact hI.2 u (by omega) hru⟩
        rw [cnt_s, ← hr] at nx
        simp only [Bool.not_true, bI_f, g_151_152, g_151_154, g_151_160, g_151_161, g_151_164, g_151_166, g_151_168, g_151_169, g_151_172, g_151_175, ari_aa, ari_al, ari_la, ari_mm, ari_ml, ari_lm, ari_ltl, ari_llt, ari_lt, ari_le, ari_lel, ari_lle, ari_0, ari_eq, ari_eql, ari_leq, ari_cl, Nat.not_lt_zero, Bool.false_eq_true, Option.toList_some, Option.toList_none, List.cons_append, List.nil_append, kv_rv, kc1_i, kc1_r, kc1_n, n10, n01, n1514, n1213, n1312, if_true, if_false, not_true_eq_false, not_false_eq_true, and_self, true_and, and_true, false_and, and_false, or_true, true_or, or_false, false_or, Nat.reduceLeDiff, Nat.reduceLT, Nat.reduceEqDiff, Nat.reduceAdd, s_149 js2, s_167 js2, r_149_25 js2, (show cnt (rp (mk (gB σ f w) w o k) (fun j => hm (w - k) (mk (gB σ f w) w o k j))) v < 64 by omega), (show cnt (rp (mk (gB σ f w) w o k) (fun j => hm (w - k) (mk (gB σ f w) w o k j))) v < 2147483648 by omega)]
        exact nx _ _ _ _ _
    simp only [g_151_24, g_151_26, g_151_27, g_151_29, g_151_30, ari_aa, ari_al, ari_la, ari_mm, ari_ml, ari_lm, ari_ltl, ari_llt, ari_lt, ari_le, ari_lel, ari_lle, ari_0, ari_eq, ari_eql, ari_leq, ari_cl, Nat.not_lt_zero, Bool.false_eq_true, Option.toList_some, Option.toList_none, List.cons_append, List.nil_append, kv_rv, kc1_i, kc1_r, kc1_n, n10, n01, n1514, n1213, n1312, if_true, if_false, not_true_eq_false, not_false_eq_true, and_self, true_and, and_true, false_and, and_false, or_true, true_or, or_false, false_or, Nat.reduceLeDiff, Nat.reduceLT, Nat.reduceEqDiff, Nat.reduceAdd, pow_k (show k ≤ 6 by omega), (show v < 65 by omega), (show v < 2147483648 by omega), (show 2 ^ k < 65 by omega), (show 2 ^ k < 2147483648 by omega), (show ¬ 2 ^ k ≤ v by omega)]
    simp only [g_151_33, g_151_34, g_151_35, g_151_37, g_151_39, g_151_42, g_151_44, g_151_45, g_151_47, g_151_48, kv_w8_0, kv_w8_1, kv_w8_2, kv_w8_3, kv_w8_4, ari_aa, ari_al, ari_la, ari_mm, ari_ml, ari_lm, ari_ltl, ari_llt, ari_lt, ari_le, ari_lel, ari_lle, ari_0, ari_eq, ari_eql, ari_leq, ari_cl, Nat.not_lt_zero, Bool.false_eq_true, Option.toList_some, Option.toList_none, List.cons_append, List.nil_append, kv_rv, kc1_i, kc1_r, kc1_n, n10, n01, n1514, n1213, n1312, if_true, if_false, not_true_eq_false, not_false_eq_true, and_self, true_and, and_true, false_and, and_false, or_true, true_or, or_false, false_or, Nat.reduceLeDiff, Nat.reduceLT, Nat.reduceEqDiff, Nat.reduceAdd, mr, s_149 js2]
    have lh := no_hm (d := d + 3) (σ := τ) (Φ := Φ) (z := mk (gB σ f w) w o k v) (f := Int32.ofNat f) (sm0 := s0) (many := Int32.ofNat (cnt (rp (mk (gB σ f w) w o k) (fun j => hm (w - k) (mk (gB σ f w) w o k j))) v)) (way := Int32.ofNat v) (v11 := v11) hw hk (2 ^ (w - k - 1)) 0 (by omega)
    refine Eq.mpr lh ?_
    cases c1 : hm (w - k) (mk (gB σ f w) w o k v) with
    | false =>
      have hr : false = rp (mk (gB σ f w) w o k) (fun j => hm (w - k) (mk (gB σ f w) w o k j)) v := by unfold rp; dsimp only; rw [c1]; rfl
      have fn := fin false hr
      rw [Bool.not_false, bI_t] at fn
      simp only [bI_f, g_151_99, g_151_101, g_151_104, g_151_105, g_151_108, g_151_109, g_151_111, g_151_112, ari_aa, ari_al, ari_la, ari_mm, ari_ml, ari_lm, ari_ltl, ari_llt, ari_lt, ari_le, ari_lel, ari_lle, ari_0, ari_eq, ari_eql, ari_leq, ari_cl, Nat.not_lt_zero, Bool.false_eq_true, Option.toList_some, Option.toList_none, List.cons_append, List.nil_append, kv_rv, kc1_i, kc1_r, kc1_n, n10, n01, n1514, n1213, n1312, if_true, if_false, not_true_eq_false, not_false_eq_true, and_self, true_and, and_true, false_and, and_false, or_true, true_or, or_false, false_or, Nat.reduceLeDiff, Nat.reduceLT, Nat.reduceEqDiff, Nat.reduceAdd]
      by_cases c2 : cnt (rp (mk (gB σ f w) w o k) (fun j => hm (w - k) (mk (gB σ f w) w o k j))) v ≤ 0
      · simp only [g_151_114, g_151_116, g_151_118, ari_aa, ari_al, ari_la, ari_mm, ari_ml, ari_lm, ari_ltl, ari_llt, ari_lt, ari_le, ari_lel, ari_lle, ari_0, ari_eq, ari_eql, ari_leq, ari_cl, Nat.not_lt_zero, Bool.false_eq_true, Option.toList_some, Option.toList_none, List.cons_append, List.nil_append, kv_rv, kc1_i, kc1_r, kc1_n, n10, n01, n1514, n1213, n1312, if_true, if_false, not_true_eq_false, not_false_eq_true, and_self, true_and, and_true, false_and, and_false, or_true, true_or, or_false, false_or, Nat.reduceLeDiff, Nat.reduceLT, Nat.reduceEqDiff, Nat.reduceAdd, c2, (show cnt (rp (mk (gB σ f w) w o k) (fun j => hm (w - k) (mk (gB σ f w) w o k j))) v < 65 by omega), (show cnt (rp (mk (gB σ f w) w o k) (fun j => hm (w - k) (mk (gB σ f w) w o k j))) v < 2147483648 by omega)]
        exact fn _ _
      · simp only [g_151_114, g_151_116, g_151_118, g_151_121, g_151_123, ari_aa, ari_al, ari_la, ari_mm, ari_ml, ari_lm, ari_ltl, ari_llt, ari_lt, ari_le, ari_lel, ari_lle, ari_0, ari_eq, ari_eql, ari_leq, ari_cl, Nat.not_lt_zero, Bool.false_eq_true, Option.toList_some, Option.toList_none, List.cons_append, List.nil_append, kv_rv, kc1_i, kc1_r, kc1_n, n10, n01, n1514, n1213, n1312, if_true, if_false, not_true_eq_false, not_false_eq_true, and_self, true_and, and_true, false_and, and_false, or_true, true_or, or_false, false_or, Nat.reduceLeDiff, Nat.reduceLT, Nat.reduceEqDiff, Nat.reduceAdd, c2, (show cnt (rp (mk (gB σ f w) w o k) (fun j => hm (w - k) (mk (gB σ f w) w o k j))) v < 65 by omega), (show cnt (rp (mk (gB σ f w) w o k) (fun j => hm (w - k) (mk (gB σ f w) w o k j))) v < 2147483648 by omega)]
        exact fn _ _
    | true =>
      simp only [bI_t, g_151_99, g_151_101, g_151_104, g_151_105, g_151_108, g_151_109, g_151_111, g_151_112, ari_aa, ari_al, ari_la, ari_mm, ari_ml, ari_lm, ari_ltl, ari_llt, ari_lt, ari_le, ari_lel, ari_lle, ari_0, ari_eq, ari_eql, ari_leq, ari_cl, Nat.not_lt_zero, Bool.false_eq_true, Option.toList_some, Option.toList_none, List.cons_append, List.nil_append, kv_rv, kc1_i, kc1_r, kc1_n, n10, n01, n1514, n1213, n1312, if_true, if_false, not_true_eq_false, not_false_eq_true, and_self, true_and, and_true, false_and, and_false, or_true, true_or, or_false, false_or, Nat.reduceLeDiff, Nat.reduceLT, Nat.reduceEqDiff, Nat.reduceAdd]
      refine no_sn js2 (by omega) _ 0 (Nat.zero_add _) (fun q hq => absurd hq (by omega)) (fun v11 => ?_)
      have hr : (!anyN (fun q => decide (kv_l τ 167 q = mk (gB σ f w) w o k v)) (cnt (rp (mk (gB σ f w) w o k) (fun j => hm (w - k) (mk (gB σ f w) w o k j))) v)) = rp (mk (gB σ f w) w o k) (fun j => hm (w - k) (mk (gB σ f w) w o k j)) v := by
        rw [es]
        unfold rp
        dsimp only
        rw [c1, Bool.true_and]
      have fn := fin _ hr
      rw [Bool.not_not] at fn
      exact fn _ _
theorem no_out (js : JS σ) {f w C : Nat} (hf : f < 16) (hF : JF1' σ f w) (hw : w ≤ 6) (hP : PO o w) (hO : ∀ i, i < w → kv_i σ 165 i = Int32.ofNat (o i)) (hC : sm (fun i => nd (gB σ f w) w (tl o 0 i) (o i)) w = C) (H : ∀ τ, FR (fun b _ => b = 167) σ τ → Φ (some (.int (Int32.ofNat C))) τ) : ∀ m k, k + m = w → ∀ τ, FR (fun b _ => b = 167) σ τ → ∀ v5 v6 v7 v8 v9 v10 v11 : Value, Wp (d + 3) 151 12 [.ref 149, .int (Int32.ofNat f), .int (Int32.ofNat w), .int (Int32.ofNat (sm (fun i => nd (gB σ f w) w (tl o 0 i) (o i)) k)), .int (Int32.ofNat k), v5, v6, v7, v8, v9, v10, v11] [] τ Φ
  | 0, k, e, τ, fr, v5, v6, v7, v8, v9, v10, v11 => by
    have e2 : k = w := by omega
    subst e2
    simp only [g_151_12, g_151_14, g_151_15, g_151_189, g_151_190, ari_aa, ari_al, ari_la, ari_mm, ari_ml, ari_lm, ari_ltl, ari_llt, ari_lt, ari_le, ari_lel, ari_lle, ari_0, ari_eq, ari_eql, ari_leq, ari_cl, Nat.not_lt_zero, Bool.false_eq_true, Option.toList_some, Option.toList_none, List.cons_append, List.nil_append, kv_rv, kc1_i, kc1_r, kc1_n, n10, n01, n1514, n1213, n1312, if_true, if_false, not_true_eq_false, not_false_eq_true, and_self, true_and, and_true, false_and, and_false, or_true, true_or, or_false, false_or, Nat.reduceLeDiff, Nat.reduceLT, Nat.reduceEqDiff, Nat.reduceAdd, hC, (show k < 7 by omega), (show k < 2147483648 by omega), (show k ≤ k by omega)]
    exact H τ fr
  | m + 1, k, e, τ, fr, v5, v6, v7, v8, v9, v10, v11 => by
    have js2 := fr.js js
    have hF2 : JF1' τ f w := hF.fr fr (fun b i q => by omega) hf
    have hO2 : ∀ i, i < w → kv_i τ 165 i = Int32.ofNat (o i) := fun i hi => by rw [fr.i (by omega)]; exact hO i hi
    have eB : gB τ f w = gB σ f w := by funext r; unfold gB; rw [hld_fr fr (fun b j q => by omega)]
    simp only [g_151_12, g_151_14, g_151_15, ari_aa, ari_al, ari_la, ari_mm, ari_ml, ari_lm, ari_ltl, ari_llt, ari_lt, ari_le, ari_lel, ari_lle, ari_0, ari_eq, ari_eql, ari_leq, ari_cl, Nat.not_lt_zero, Bool.false_eq_true, Option.toList_some, Option.toList_none, List.cons_append, List.nil_append, kv_rv, kc1_i, kc1_r, kc1_n, n10, n01, n1514, n1213, n1312, if_true, if_false, not_true_eq_false, not_false_eq_true, and_self, true_and, and_true, false_and, and_false, or_true, true_or, or_false, false_or, Nat.reduceLeDiff, Nat.reduceLT, Nat.reduceEqDiff, Nat.reduceAdd, (show k < 7 by omega), (show k < 2147483648 by omega), (show w < 7 by omega), (show w < 2147483648 by omega), (show ¬ w ≤ k by omega)]
    simp only [g_151_18, g_151_19, g_151_21, g_151_22, Nat.not_lt_zero, Bool.false_eq_true, Option.toList_some, Option.toList_none, List.cons_append, List.nil_append, kv_rv, kc1_i, kc1_r, kc1_n, n10, n01, n1514, n1213, n1312, if_true, if_false, not_true_eq_false, not_false_eq_true, and_self, true_and, and_true, false_and, and_false, or_true, true_or, or_false, false_or, Nat.reduceLeDiff, Nat.reduceLT, Nat.reduceEqDiff, Nat.reduceAdd]
    refine no_md (d := d) js2 hf hF2 hw (show k < w by omega) hP hO2 (fun υ fr2 v7 v8 v9 v10 v11 => ?_) (2 ^ k) 0 (by omega) τ ⟨FR.rf _ τ, fun u hu => absurd hu (by omega)⟩ _ _ _ _ _
    rw [eB, nd_eq (fun r hr => gB_big hr) hw (show k < w by omega) hP]
    simp only [g_151_178, g_151_179, g_151_181, g_151_182, g_151_183, g_151_186, ari_aa, ari_al, ari_la, ari_mm, ari_ml, ari_lm, ari_ltl, ari_llt, ari_lt, ari_le, ari_lel, ari_lle, ari_0, ari_eq, ari_eql, ari_leq, ari_cl, Nat.not_lt_zero, Bool.false_eq_true, Option.toList_some, Option.toList_none, List.cons_append, List.nil_append, kv_rv, kc1_i, kc1_r, kc1_n, n10, n01, n1514, n1213, n1312, if_true, if_false, not_true_eq_false, not_false_eq_true, and_self, true_and, and_true, false_and, and_false, or_true, true_or, or_false, false_or, Nat.reduceLeDiff, Nat.reduceLT, Nat.reduceEqDiff, Nat.reduceAdd]
    exact no_out js hf hF hw hP hO hC H m (k + 1) (by omega) υ (fr.tr fr2) _ _ _ _ _ _ _
theorem m_nodes (js : JS σ) {f w : Nat} (hf : f < 16) (hF : JF1' σ f w) (hw : w ≤ 6) (hP : PO o w) (hO : ∀ i, i < w → kv_i σ 165 i = Int32.ofNat (o i)) (H : ∀ τ, FR (fun b _ => b = 167) σ τ → Φ (some (.int (Int32.ofNat (sm (fun i => nd (gB σ f w) w (tl o 0 i) (o i)) w)))) τ) : Wc (d + 3) 151 [.ref 149, .int (Int32.ofNat f)] σ Φ := by
  have ew := hF.2.2.2.1
  simp only [c_151, g_151_0, g_151_1, g_151_4, g_151_5, g_151_6, g_151_7, g_151_8, g_151_9, g_151_10, ari_aa, ari_al, ari_la, ari_mm, ari_ml, ari_lm, ari_ltl, ari_llt, ari_lt, ari_le, ari_lel, ari_lle, ari_0, ari_eq, ari_eql, ari_leq, ari_cl, Nat.not_lt_zero, Bool.false_eq_true, Option.toList_some, Option.toList_none, List.cons_append, List.nil_append, kv_rv, kc1_i, kc1_r, kc1_n, n10, n01, n1514, n1213, n1312, if_true, if_false, not_true_eq_false, not_false_eq_true, and_self, true_and, and_true, false_and, and_false, or_true, true_or, or_false, false_or, Nat.reduceLeDiff, Nat.reduceLT, Nat.reduceEqDiff, Nat.reduceAdd, ew, s_149 js, s_150 js, r_149_2 js, (show f < 16 by omega), (show f < 2147483648 by omega)]
  exact no_out js hf hF hw hP hO rfl H w 0 (by omega) σ (FR.rf _ σ) _ _ _ _ _ _ _
end GL

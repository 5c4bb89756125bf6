/-! ===== comes ===== -/
def q4 (P : Nat → Bool) : Nat := (P 0).toNat + 2 * (P 1).toNat + 4 * (P 2).toNat + 8 * (P 3).toNat
theorem q4_or (P Q : Nat → Bool) : Int32.ofNat (q4 P) ||| Int32.ofNat (q4 Q) = Int32.ofNat (q4 (fun b => P b || Q b)) := by
  have : ∀ a b c e f g i j : Bool, Int32.ofNat (a.toNat + 2 * b.toNat + 4 * c.toNat + 8 * e.toNat) ||| Int32.ofNat (f.toNat + 2 * g.toNat + 4 * i.toNat + 8 * j.toNat) = Int32.ofNat ((a || f).toNat + 2 * (b || g).toNat + 4 * (c || i).toNat + 8 * (e || j).toNat) := by decide
  exact this _ _ _ _ _ _ _ _
theorem q4_bit : ∀ b, b < 4 → Int32.ofNat (2 ^ b) = Int32.ofNat (q4 (fun c => b == c)) := by decide
theorem q4_congr {P Q : Nat → Bool} (h : ∀ b, b < 4 → P b = Q b) : q4 P = q4 Q := by
  unfold q4; rw [h 0 (by decide), h 1 (by decide), h 2 (by decide), h 3 (by decide)]
theorem q4_lt (P : Nat → Bool) : q4 P < 16 := by
  unfold q4
  have := Bool.toNat_le (P 0); have := Bool.toNat_le (P 1); have := Bool.toNat_le (P 2); have := Bool.toNat_le (P 3)
  omega
theorem q4_tb (P : Nat → Bool) : ∀ b, b < 4 → (q4 P).testBit b = P b := by
  have : ∀ a b c e : Bool, (a.toNat + 2 * b.toNat + 4 * c.toNat + 8 * e.toNat).testBit 0 = a ∧ (a.toNat + 2 * b.toNat + 4 * c.toNat + 8 * e.toNat).testBit 1 = b ∧ (a.toNat + 2 * b.toNat + 4 * c.toNat + 8 * e.toNat).testBit 2 = c ∧ (a.toNat + 2 * b.toNat + 4 * c.toNat + 8 * e.toNat).testBit 3 = e := by decide
  intro b hb
  obtain ⟨h0, h1, h2, h3⟩ := this (P 0) (P 1) (P 2) (P 3)
  match b, hb with
  | 0, _ => exact h0
  | 1, _ => exact h1
  | 2, _ => exact h2
  | 3, _ => exact h3
/-- one of the first n has it -/
def anyN (f : Nat → Bool) : Nat → Bool
  | 0 => false
  | n + 1 => anyN f n || f n
theorem anyN_iff {f : Nat → Bool} : ∀ n, anyN f n = true ↔ ∃ i, i < n ∧ f i = true
  | 0 => by simp [anyN]
  | n + 1 => by
    show (anyN f n || f n) = true ↔ _
    rw [Bool.or_eq_true, anyN_iff n, ex_succ]
theorem anyN_congr {f g : Nat → Bool} (n : Nat) (h : ∀ i, i < n → f i = g i) : anyN f n = anyN g n := by
  rw [Bool.eq_iff_iff, anyN_iff, anyN_iff]
  exact exists_congr fun i => and_congr_right fun hi => by rw [h i hi]
theorem lne {z : Int64} : (¬ z = 0) ↔ anyN (lb z) 64 = true := by
  rw [anyN_iff]
  constructor
  · intro h
    refine Classical.byContradiction fun hc => h (lb_ext fun r hr => ?_)
    rw [lb_0]
    cases e : lb z r with
    | false => rfl
    | true => exact absurd ⟨r, hr, e⟩ hc
  · rintro ⟨r, hr, e⟩ rfl
    rw [lb_0] at e; cases e
section CO
variable {d : Nat} {σ : kv_S} {Φ : Option Value → kv_S → Prop}
theorem or4 (a b c e : Bool) : (((if a = true then (1 : Int32) else 0) ||| (if b = true then 2 else 0)) ||| (if c = true then 4 else 0)) ||| (if e = true then 8 else 0) = Int32.ofNat (a.toNat + 2 * b.toNat + 4 * c.toNat + 8 * e.toNat) := by
  revert a b c e; decide
theorem m_comingAt (h : JS σ) {V k g j nx ny : Nat} (hv : VV V) (hk : k < 8) (hg : g < 40) (hj : j < 4) (vx : kv_i σ (103 + 6 * k) g - -2 = Int32.ofNat nx) (hx : nx < 50) (vy : kv_i σ (104 + 6 * k) g - -2 = Int32.ofNat ny) (hy : ny < 50) (rows : Int64) : Wc (d + 1) 97 [.ref V, .ref (101 + 6 * k), .int (Int32.ofNat g), .int (Int32.ofNat j), .long rows] σ Φ = Φ (some (.int (Int32.ofNat (q4 (fun b => anyN (fun r => lb rows r && nvb (lb (kv_l σ (V + 1) (nx * 4 + j)) r) (lb (kv_l σ (V + 1) (ny * 4 + j)) r) == b) 64))))) σ := by
  obtain ⟨x, hx'⟩ : ∃ x, x = kv_l σ (V + 1) (nx * 4 + j) := ⟨_, rfl⟩
  obtain ⟨y, hy'⟩ : ∃ y, y = kv_l σ (V + 1) (ny * 4 + j) := ⟨_, rfl⟩
  have key : ∀ (z : Int64) (b : Nat), (∀ r, r < 64 → lb z r = (lb rows r && nvb (lb x r) (lb y r) == b)) → ((z = 0) = ¬ anyN (fun r => lb rows r && nvb (lb x r) (lb y r) == b) 64 = true) := by
    intro z b hz
    apply propext
    rw [← anyN_congr 64 hz, ← lne, Classical.not_not]
  have k0 := key (rows &&& (x ^^^ -1) &&& (y ^^^ -1)) 0 (fun r hr => by rw [lb_and, lb_and, lb_not _ hr, lb_not _ hr]; cases lb rows r <;> cases lb x r <;> cases lb y r <;> rfl)
  have k1 := key (rows &&& x &&& (y ^^^ -1)) 1 (fun r hr => by rw [lb_and, lb_and, lb_not _ hr]; cases lb rows r <;> cases lb x r <;> cases lb y r <;> rfl)
  have k2 := key (rows &&& (x ^^^ -1) &&& y) 2 (fun r hr => by rw [lb_and, lb_and, lb_not _ hr]; cases lb rows r <;> cases lb x r <;> cases lb y r <;> rfl)
  have k3 := key (rows &&& x &&& y) 3 (fun r hr => by rw [lb_and, lb_and]; cases lb rows r <;> cases lb x r <;> cases lb y r <;> rfl)
  rw [← hx', ← hy']
  unfold q4
  dsimp only
  generalize anyN (fun r => lb rows r && nvb (lb x r) (lb y r) == 0) 64 = A at *
  generalize anyN (fun r => lb rows r && nvb (lb x r) (lb y r) == 1) 64 = B at *
  generalize anyN (fun r => lb rows r && nvb (lb x r) (lb y r) == 2) 64 = C at *
  generalize anyN (fun r => lb rows r && nvb (lb x r) (lb y r) == 3) 64 = E at *
  rw [← or4]
  simp only [c_97, g_97_0, g_97_1, g_97_2, g_97_5, g_97_6, g_97_7, g_97_8, g_97_11, g_97_13, g_97_14, g_97_15, g_97_18, g_97_19, g_97_20, g_97_21, g_97_24, g_97_26, g_97_28, g_97_30, g_97_33, g_97_34, g_97_35, g_97_37, g_97_40, g_97_41, g_97_42, g_97_43, kv_w8_0, kv_w8_1, kv_w8_2, kv_w8_3, kv_w8_4, ari_aa, ari_al, ari_la, ari_mm, ari_ml, ari_lm, ari_ltl, ari_llt, ari_lt, ari_le, ari_lel, ari_lle, ari_0, ari_eq, ari_eql, ari_leq, ari_cl, Nat.not_lt_zero, Bool.false_eq_true, Option.toList_some, Option.toList_none, List.cons_append, List.nil_append, kv_rv, kc1_i, kc1_r, kc1_n, n10, n01, n1514, n1213, n1312, if_true, if_false, not_true_eq_false, not_false_eq_true, and_self, true_and, and_true, false_and, and_false, or_true, true_or, or_false, false_or, Nat.reduceLeDiff, Nat.reduceLT, Nat.reduceEqDiff, Nat.reduceAdd, nN h hk, nX h hk, qX h hk, nY h hk, qY h hk, sV h hv, m_word h hv vx hx hj, m_word h hv vy hy hj, ← hx', ← hy', lg_cmp_eq, (show g < 40 by omega), (show g < 2147483648 by omega)]
  cases A <;> cases B <;> cases C <;> cases E <;> simp only [g_97_44, g_97_47, g_97_48, g_97_51, g_97_52, g_97_54, g_97_56, g_97_57, g_97_59, g_97_62, g_97_63, g_97_64, g_97_65, g_97_66, g_97_69, g_97_70, g_97_73, g_97_74, g_97_75, g_97_77, g_97_79, g_97_82, g_97_83, g_97_84, g_97_86, g_97_87, g_97_88, g_97_89, g_97_92, g_97_93, g_97_96, g_97_97, g_97_98, g_97_100, g_97_102, g_97_103, g_97_105, g_97_106, g_97_107, g_97_108, g_97_111, g_97_113, g_97_116, g_97_117, g_97_118, lg_cmp_eq, k0, k1, k2, k3, Nat.not_lt_zero, Bool.false_eq_true, Option.toList_some, Option.toList_none, List.cons_append, List.nil_append, kv_rv, kc1_i, kc1_r, kc1_n, n10, n01, n1514, n1213, n1312, if_true, if_false, not_true_eq_false, not_false_eq_true, and_self, true_and, and_true, false_and, and_false, or_true, true_or, or_false, false_or, Nat.reduceLeDiff, Nat.reduceLT, Nat.reduceEqDiff, Nat.reduceAdd]
/-- periodicity: all rows of the words, or the rows of the net -/
theorem vo_mod {k w G t : Nat} (hn : JN1' σ k w G) {x : Int32} (hx : vO w G x) (row : Nat) : vo σ k G t row x = vo σ k G t (row % 2 ^ w) x := by
  have hG := hn.2.2.1
  unfold vo vl
  exact nvo_cong hn.2.1 hG (fun g hg => nv_row hn.2.1 hG (fun g hg => (hn.xy g hg).1) (fun g hg => (hn.xy g hg).2) (testBit_mod w row) G (Nat.le_refl _) g) (testBit_mod w row) hx
theorem per_any {w : Nat} (hw : w ≤ 8) {f : Nat → Bool} (hf : ∀ row, f row = f (row % 2 ^ w)) : anyN (fun j => anyN (fun r => f (64 * j + r)) 64) (nwc w) = anyN f (2 ^ w) := by
  rw [Bool.eq_iff_iff, anyN_iff, anyN_iff]
  constructor
  · rintro ⟨j, hj, h⟩
    obtain ⟨r, hr, h⟩ := (anyN_iff 64).mp h
    rw [hf] at h
    exact ⟨_, Nat.mod_lt _ (by have := pw1 w; omega), h⟩
  · rintro ⟨row, hr, h⟩
    refine ⟨row / 64, nw_row w hw row hr, (anyN_iff 64).mpr ⟨row % 64, by omega, ?_⟩⟩
    rw [show 64 * (row / 64) + row % 64 = row by omega]; exact h
theorem coming_loop (h : JS σ) {k w G g : Nat} (hk : k < 8) (hg : g < G) (hn : JN1' σ k w G) (V : Nat → Nat → Bool) (hw : kv_i σ 26 1 = Int32.ofNat (nwc w)) (hV : ∀ j, j < nwc w → ∀ r, r < 64 → nvb (lb (kv_l σ 27 (onn (kv_i σ (103 + 6 * k) g) * 4 + j)) r) (lb (kv_l σ 27 (onn (kv_i σ (104 + 6 * k) g) * 4 + j)) r) = nvb (V 0 (64 * j + r)) (V 1 (64 * j + r))) : ∀ m j, j + m = nwc w → Wp (d + 2) 96 5 [.ref 26, .ref (101 + 6 * k), .int (Int32.ofNat g), .int (Int32.ofNat (q4 (fun b => anyN (fun j => anyN (fun r => nvb (V 0 (64 * j + r)) (V 1 (64 * j + r)) == b) 64) j))), .int (Int32.ofNat j)] [] σ Φ = Φ (some (.int (Int32.ofNat (q4 (fun b => anyN (fun j => anyN (fun r => nvb (V 0 (64 * j + r)) (V 1 (64 * j + r)) == b) 64) (nwc w)))))) σ
  | 0, j, e => by
    have e2 : j = nwc w := by omega
    have h4 := (nw_4 w hn.2.1).1
    simp only [g_96_5, g_96_7, g_96_8, g_96_11, g_96_34, g_96_35, ari_aa, ari_al, ari_la, ari_mm, ari_ml, ari_lm, ari_ltl, ari_llt, ari_lt, ari_le, ari_lel, ari_lle, ari_0, ari_eq, ari_eql, ari_leq, ari_cl, Nat.not_lt_zero, Bool.false_eq_true, Option.toList_some, Option.toList_none, List.cons_append, List.nil_append, kv_rv, kc1_i, kc1_r, kc1_n, n10, n01, n1514, n1213, n1312, if_true, if_false, not_true_eq_false, not_false_eq_true, and_self, true_and, and_true, false_and, and_false, or_true, true_or, or_false, false_or, Nat.reduceLeDiff, Nat.reduceLT, Nat.reduceEqDiff, Nat.reduceAdd, s_26 h, hw, (show j < 5 by omega), (show j < 2147483648 by omega), (show nwc w < 5 by omega), (show nwc w < 2147483648 by omega), (show nwc w ≤ j by omega)]
    rw [e2]
  | m + 1, j, e => by
    have h4 := (nw_4 w hn.2.1).1
    have hG := hn.2.2.1
    have v := hn.xy g hg
    have vx := v.1.onn hn.2.1 (by omega)
    have vy := v.2.onn hn.2.1 (by omega)
    simp only [g_96_5, g_96_7, g_96_8, g_96_11, ari_aa, ari_al, ari_la, ari_mm, ari_ml, ari_lm, ari_ltl, ari_llt, ari_lt, ari_le, ari_lel, ari_lle, ari_0, ari_eq, ari_eql, ari_leq, ari_cl, Nat.not_lt_zero, Bool.false_eq_true, Option.toList_some, Option.toList_none, List.cons_append, List.nil_append, kv_rv, kc1_i, kc1_r, kc1_n, n10, n01, n1514, n1213, n1312, if_true, if_false, not_true_eq_false, not_false_eq_true, and_self, true_and, and_true, false_and, and_false, or_true, true_or, or_false, false_or, Nat.reduceLeDiff, Nat.reduceLT, Nat.reduceEqDiff, Nat.reduceAdd, s_26 h, hw, (show j < 5 by omega), (show j < 2147483648 by omega), (show nwc w < 5 by omega), (show nwc w < 2147483648 by omega), (show ¬ nwc w ≤ j by omega)]
    simp only [g_96_14, g_96_15, g_96_16, g_96_17, g_96_18, g_96_20, g_96_23, g_96_26, g_96_27, g_96_28, g_96_31, kv_w8_0, kv_w8_1, kv_w8_2, kv_w8_3, kv_w8_4, ari_aa, ari_al, ari_la, ari_mm, ari_ml, ari_lm, ari_ltl, ari_llt, ari_lt, ari_le, ari_lel, ari_lle, ari_0, ari_eq, ari_eql, ari_leq, ari_cl, Nat.not_lt_zero, Bool.false_eq_true, Option.toList_some, Option.toList_none, List.cons_append, List.nil_append, kv_rv, kc1_i, kc1_r, kc1_n, n10, n01, n1514, n1213, n1312, if_true, if_false, not_true_eq_false, not_false_eq_true, and_self, true_and, and_true, false_and, and_false, or_true, true_or, or_false, false_or, Nat.reduceLeDiff, Nat.reduceLT, Nat.reduceEqDiff, Nat.reduceAdd, s_26 h, m_comingAt h (Or.inl rfl) hk (show g < 40 by omega) (show j < 4 by omega) vx.1 vx.2 vy.1 vy.2, q4_or]
    rw [← coming_loop h hk hg hn V hw hV m (j + 1) (by omega)]
    congr 8
    funext b
    show (_ || _) = (anyN (fun j => anyN (fun r => nvb (V 0 (64 * j + r)) (V 1 (64 * j + r)) == b) 64) j || anyN (fun r => nvb (V 0 (64 * j + r)) (V 1 (64 * j + r)) == b) 64)
    congr 1
    refine anyN_congr 64 (fun r hr => ?_)
    rw [lb_m1 hr, Bool.true_and, hV j (by omega) r hr]
theorem comes_loop {σ0 : kv_S} (h : JS σ0) {k w G g : Nat} (hk : k < 8) (hg : g < G) (hn : JN1' σ0 k w G) (HΦ : ∀ τ, FR (fun b _ => b = 181) σ0 τ → Φ (some (.int (Int32.ofNat (q4 (fun b => anyN (fun row => nvb (vo σ0 k G 1000 row (kv_i σ0 (103 + 6 * k) g)) (vo σ0 k G 1000 row (kv_i σ0 (104 + 6 * k) g)) == b) (2 ^ w)))))) τ) : ∀ m row, row + m = 2 ^ w → ∀ τ, FR (fun b _ => b = 181) σ0 τ → Wp (d + 2) 174 13 [.ref 149, .int (Int32.ofNat k), .int (Int32.ofNat g), .int (Int32.ofNat (40 * k + g)), .int (Int32.ofNat (q4 (fun b => anyN (fun row => nvb (vo σ0 k G 1000 row (kv_i σ0 (103 + 6 * k) g)) (vo σ0 k G 1000 row (kv_i σ0 (104 + 6 * k) g)) == b) row))), .int (Int32.ofNat row)] [] τ Φ
  | 0, row, e, τ, fr => by
    have hW := pw8 hn.2.1
    have e2 : row = 2 ^ w := by omega
    subst e2
    have js := fr.js h
    have e5 : kv_i τ 168 k = Int32.ofNat w := by rw [fr.i (by omega)]; exact hn.2.2.2.2.1
    simp only [g_174_13, g_174_15, g_174_16, g_174_17, g_174_20, g_174_21, g_174_22, g_174_23, g_174_74, g_174_76, ari_aa, ari_al, ari_la, ari_mm, ari_ml, ari_lm, ari_ltl, ari_llt, ari_lt, ari_le, ari_lel, ari_lle, ari_0, ari_eq, ari_eql, ari_leq, ari_cl, Nat.not_lt_zero, Bool.false_eq_true, Option.toList_some, Option.toList_none, List.cons_append, List.nil_append, kv_rv, kc1_i, kc1_r, kc1_n, n10, n01, n1514, n1213, n1312, if_true, if_false, not_true_eq_false, not_false_eq_true, and_self, true_and, and_true, false_and, and_false, or_true, true_or, or_false, false_or, Nat.reduceLeDiff, Nat.reduceLT, Nat.reduceEqDiff, Nat.reduceAdd, s_149 js, s_168 js, r_149_27 js, e5, pow_w w hn.2.1, (show k < 8 by omega), (show k < 2147483648 by omega), (show 2 ^ w < 257 by omega), (show 2 ^ w < 2147483648 by omega), (show 2 ^ w ≤ 2 ^ w by omega)]
    exact HΦ τ fr
  | m + 1, row, e, τ, fr => by
    have hW := pw8 hn.2.1
    have hG := hn.2.2.1
    have js := fr.js h
    have e5 : kv_i τ 168 k = Int32.ofNat w := by rw [fr.i (by omega)]; exact hn.2.2.2.2.1
    have hpN : ∀ b j, (fun b (_ : Nat) => b = 181) b j → ¬ cN b j := fun b j q => by unfold cN; omega
    have hn2 : JN1' τ k w G := hn.fr fr hk hpN
    simp only [g_174_13, g_174_15, g_174_16, g_174_17, g_174_20, g_174_21, g_174_22, g_174_23, ari_aa, ari_al, ari_la, ari_mm, ari_ml, ari_lm, ari_ltl, ari_llt, ari_lt, ari_le, ari_lel, ari_lle, ari_0, ari_eq, ari_eql, ari_leq, ari_cl, Nat.not_lt_zero, Bool.false_eq_true, Option.toList_some, Option.toList_none, List.cons_append, List.nil_append, kv_rv, kc1_i, kc1_r, kc1_n, n10, n01, n1514, n1213, n1312, if_true, if_false, not_true_eq_false, not_false_eq_true, and_self, true_and, and_true, false_and, and_false, or_true, true_or, or_false, false_or, Nat.reduceLeDiff, Nat.reduceLT, Nat.reduceEqDiff, Nat.reduceAdd, s_149 js, s_168 js, r_149_27 js, e5, pow_w w hn.2.1, (show k < 8 by omega), (show k < 2147483648 by omega), (show row < 257 by omega), (show row < 2147483648 by omega), (show 2 ^ w < 257 by omega), (show 2 ^ w < 2147483648 by omega), (show ¬ 2 ^ w ≤ row by omega)]
    simp only [g_174_26, g_174_27, g_174_28, g_174_30, g_174_31, kv_w8_0, kv_w8_1, kv_w8_2, kv_w8_3, kv_w8_4, Nat.not_lt_zero, Bool.false_eq_true, Option.toList_some, Option.toList_none, List.cons_append, List.nil_append, kv_rv, kc1_i, kc1_r, kc1_n, n10, n01, n1514, n1213, n1312, if_true, if_false, not_true_eq_false, not_false_eq_true, and_self, true_and, and_true, false_and, and_false, or_true, true_or, or_false, false_or, Nat.reduceLeDiff, Nat.reduceLT, Nat.reduceEqDiff, Nat.reduceAdd, s_149 js]
    refine m_work js hk hn2 (by omega) (tt_none hG) (fun υ fr2 hv => ?_)
    have js2 := fr2.js js
    have fr3 := fr.tr fr2
    have v := hn.xy g hg
    have ex : kv_i υ 171 (40 * k + g) = kv_i σ0 (103 + 6 * k) g := by rw [fr3.i (by omega)]; exact (hn.mx g hg).1
    have ey : kv_i υ 172 (40 * k + g) = kv_i σ0 (104 + 6 * k) g := by rw [fr3.i (by omega)]; exact (hn.mx g hg).2
    have ev : ∀ x, nvo (vl τ k G 1000 row) row x = vo σ0 k G 1000 row x := fun x => vo_fr fr hk hpN G 1000 row x
    have hb4 := nvb_4 (vo σ0 k G 1000 row (kv_i σ0 (103 + 6 * k) g)) (vo σ0 k G 1000 row (kv_i σ0 (104 + 6 * k) g))
    simp only [g_174_34, g_174_36, g_174_37, g_174_38, g_174_39, g_174_42, g_174_43, g_174_44, g_174_46, g_174_49, g_174_50, g_174_51, g_174_52, g_174_55, g_174_56, g_174_57, g_174_59, g_174_62, g_174_63, g_174_64, g_174_65, g_174_66, g_174_68, g_174_71, kv_w8_0, kv_w8_1, kv_w8_2, kv_w8_3, kv_w8_4, ari_aa, ari_al, ari_la, ari_mm, ari_ml, ari_lm, ari_ltl, ari_llt, ari_lt, ari_le, ari_lel, ari_lle, ari_0, ari_eq, ari_eql, ari_leq, ari_cl, Nat.not_lt_zero, Bool.false_eq_true, Option.toList_some, Option.toList_none, List.cons_append, List.nil_append, kv_rv, kc1_i, kc1_r, kc1_n, n10, n01, n1514, n1213, n1312, if_true, if_false, not_true_eq_false, not_false_eq_true, and_self, true_and, and_true, false_and, and_false, or_true, true_or, or_false, false_or, Nat.reduceLeDiff, Nat.reduceLT, Nat.reduceEqDiff, Nat.reduceAdd, ari_31, ari_1shl, m_valueOf js2 hn.2.1 hG (show row < 256 by omega) hv (v.1.mono (Nat.le_of_lt hg)), m_valueOf js2 hn.2.1 hG (show row < 256 by omega) hv (v.2.mono (Nat.le_of_lt hg)), ev, bI_b, ex, ey, s_149 js2, s_171 js2, r_149_30 js2, s_172 js2, r_149_31 js2, (show 40 * k + g < 320 by omega), (show 40 * k + g < 2147483648 by omega), (show nvb (vo σ0 k G 1000 row (kv_i σ0 (103 + 6 * k) g)) (vo σ0 k G 1000 row (kv_i σ0 (104 + 6 * k) g)) < 31 by omega), (show nvb (vo σ0 k G 1000 row (kv_i σ0 (103 + 6 * k) g)) (vo σ0 k G 1000 row (kv_i σ0 (104 + 6 * k) g)) < 2147483648 by omega), (show nvb (vo σ0 k G 1000 row (kv_i σ0 (103 + 6 * k) g)) (vo σ0 k G 1000 row (kv_i σ0 (104 + 6 * k) g)) < 32 by omega), (show nvb (vo σ0 k G 1000 row (kv_i σ0 (103 + 6 * k) g)) (vo σ0 k G 1000 row (kv_i σ0 (104 + 6 * k) g)) < 2147483648 by omega)]
    rw [q4_bit _ hb4, q4_or]
    exact comes_loop h hk hg hn HΦ m (row + 1) (by omega) υ fr3
end CO
/-- promise 25: comes -/
theorem o_23 (d : Nat) : ob_23 JJ (d + 3) := by
  intro σ h p q
  have h' := h
  obtain ⟨a1, a2, a3, a4, ⟨K, hK, k1, k2, k3⟩, a6, a7⟩ := h'
  by_cases hc : (¬ p < 0 ∧ p < Int32.ofNat K) ∧ (¬ q < 0 ∧ q < kv_i σ (101 + 6 * p.toNatClampNeg) 6)
  · obtain ⟨hp, hq⟩ := hc
    obtain ⟨k, hk, rfl, ec⟩ := i32_nat (by omega) hp.1 hp.2
    obtain ⟨w, G, hn⟩ := k3 k hk
    have hn : JN1' σ k w G := hn
    have hk8 : k < 8 := by omega
    have hG := hn.2.2.1
    rw [ec, hn.2.2.2.2.2.1] at hq
    obtain ⟨g, hg, rfl, eg⟩ := i32_nat (n := G) (by omega) hq.1 hq.2
    simp only [c_95, g_95_0, g_95_1, g_95_2, g_95_3, g_95_6, g_95_9, g_95_10, g_95_11, g_95_12, g_95_15, g_95_16, g_95_19, g_95_20, g_95_21, kv_w8_0, kv_w8_1, kv_w8_2, kv_w8_3, kv_w8_4, ari_aa, ari_al, ari_la, ari_mm, ari_ml, ari_lm, ari_ltl, ari_llt, ari_lt, ari_le, ari_lel, ari_lle, ari_0, ari_eq, ari_eql, ari_leq, ari_cl, Nat.not_lt_zero, Bool.false_eq_true, Option.toList_some, Option.toList_none, List.cons_append, List.nil_append, kv_rv, kc1_i, kc1_r, kc1_n, n10, n01, n1514, n1213, n1312, if_true, if_false, not_true_eq_false, not_false_eq_true, and_self, true_and, and_true, false_and, and_false, or_true, true_or, or_false, false_or, Nat.reduceLeDiff, Nat.reduceLT, Nat.reduceEqDiff, Nat.reduceAdd, m_isGate_c a1 K hK k1, ec, hn.2.2.2.2.2.1, nN a1 hk8, qN a1 hk8, s_8 a1, s_10 a1, r_8_1 a1, s_26 a1, r_8_5 a1, (show k < 8 by omega), (show k < 2147483648 by omega), (show k < K by omega), (show k < 2147483648 by omega), (show K < 9 by omega), (show K < 2147483648 by omega), (show g < G by omega), (show g < 2147483648 by omega), (show g < 40 by omega), (show g < 2147483648 by omega), (show G < 41 by omega), (show G < 2147483648 by omega)]
    refine m_workOut a1 a2 hk8 (Or.inl rfl) hn (fun τ hw => ?_)
    have js := hw.1.js a1
    have fsc : FR SC σ τ := hw.1.sc (fun b j q => by unfold SC kv_ess; omega)
    have hn2 : JN1' τ k w G := hn.fr fsc hk8 sc_cN
    have v := hn.xy g hg
    have ex : kv_i τ (103 + 6 * k) g = kv_i σ (103 + 6 * k) g := fsc.ess (by unfold kv_ess; omega)
    have ey : kv_i τ (104 + 6 * k) g = kv_i σ (104 + 6 * k) g := fsc.ess (by unfold kv_ess; omega)
    simp only [g_95_24, g_95_25, g_95_28, g_95_29, g_95_32, g_95_33, g_95_34, g_95_35, kv_w8_0, kv_w8_1, kv_w8_2, kv_w8_3, kv_w8_4, ari_aa, ari_al, ari_la, ari_mm, ari_ml, ari_lm, ari_ltl, ari_llt, ari_lt, ari_le, ari_lel, ari_lle, ari_0, ari_eq, ari_eql, ari_leq, ari_cl, Nat.not_lt_zero, Bool.false_eq_true, Option.toList_some, Option.toList_none, List.cons_append, List.nil_append, kv_rv, kc1_i, kc1_r, kc1_n, n10, n01, n1514, n1213, n1312, if_true, if_false, not_true_eq_false, not_false_eq_true, and_self, true_and, and_true, false_and, and_false, or_true, true_or, or_false, false_or, Nat.reduceLeDiff, Nat.reduceLT, Nat.reduceEqDiff, Nat.reduceAdd, nN js hk8, qN js hk8, s_8 js, s_10 js, r_8_1 js, s_26 js, r_8_5 js, (show k < 8 by omega), (show k < 2147483648 by omega)]
    simp only [c_96, g_96_0, g_96_1, g_96_2, g_96_3, Nat.not_lt_zero, Bool.false_eq_true, Option.toList_some, Option.toList_none, List.cons_append, List.nil_append, kv_rv, kc1_i, kc1_r, kc1_n, n10, n01, n1514, n1213, n1312, if_true, if_false, not_true_eq_false, not_false_eq_true, and_self, true_and, and_true, false_and, and_false, or_true, true_or, or_false, false_or, Nat.reduceLeDiff, Nat.reduceLT, Nat.reduceEqDiff, Nat.reduceAdd]
    have hl := coming_loop (d := d) (Φ := fun r τ_1 => Wp (d + 2 + 1) 95 38 [Value.ref 8, Value.int (Int32.ofNat k), Value.int (Int32.ofNat g)] (r.toList ++ []) τ_1 fun r τ => ∃ v, r = some (Value.int v) ∧ Wc (d + 3) 173 [Value.ref 149, Value.int (Int32.ofNat k), Value.int (Int32.ofNat g)] τ fun r2 τ2 => r2 = some (Value.int v) ∧ JJ τ2) js hk8 hg hn2 (fun i row => vo σ k G 1000 row (if i = 0 then kv_i σ (103 + 6 * k) g else kv_i σ (104 + 6 * k) g)) hw.2.1 (fun j hj r hr => by rw [ex, ey, hw.2.2 _ (v.1.mono (Nat.le_of_lt hg)) j hj r hr, hw.2.2 _ (v.2.mono (Nat.le_of_lt hg)) j hj r hr]; rfl) (nwc w) 0 (by omega)
    refine Eq.mpr hl ?_
    simp only [g_95_38, Nat.not_lt_zero, Bool.false_eq_true, Option.toList_some, Option.toList_none, List.cons_append, List.nil_append, kv_rv, kc1_i, kc1_r, kc1_n, n10, n01, n1514, n1213, n1312, if_true, if_false, not_true_eq_false, not_false_eq_true, and_self, true_and, and_true, false_and, and_false, or_true, true_or, or_false, false_or, Nat.reduceLeDiff, Nat.reduceLT, Nat.reduceEqDiff, Nat.reduceAdd]
    refine ⟨_, rfl, ?_⟩
    have g1 : kv_i τ 149 26 = Int32.ofNat K := by rw [fsc.ess (by unfold kv_ess; omega)]; exact k2
    simp only [c_173, g_173_0, g_173_1, g_173_2, g_173_3, g_173_6, g_173_9, g_173_10, g_173_11, g_173_12, kv_w8_0, kv_w8_1, kv_w8_2, kv_w8_3, kv_w8_4, ari_aa, ari_al, ari_la, ari_mm, ari_ml, ari_lm, ari_ltl, ari_llt, ari_lt, ari_le, ari_lel, ari_lle, ari_0, ari_eq, ari_eql, ari_leq, ari_cl, Nat.not_lt_zero, Bool.false_eq_true, Option.toList_some, Option.toList_none, List.cons_append, List.nil_append, kv_rv, kc1_i, kc1_r, kc1_n, n10, n01, n1514, n1213, n1312, if_true, if_false, not_true_eq_false, not_false_eq_true, and_self, true_and, and_true, false_and, and_false, or_true, true_or, or_false, false_or, Nat.reduceLeDiff, Nat.reduceLT, Nat.reduceEqDiff, Nat.reduceAdd, m_isGate_m js K hK g1, ec, hn2.2.2.2.2.2.2.1, s_149 js, (show k < 8 by omega), (show k < 2147483648 by omega), (show k < K by omega), (show k < 2147483648 by omega), (show K < 9 by omega), (show K < 2147483648 by omega), (show g < G by omega), (show g < 2147483648 by omega), (show g < 40 by omega), (show g < 2147483648 by omega), (show G < 41 by omega), (show G < 2147483648 by omega)]
    simp only [c_174, g_174_0, g_174_2, g_174_3, g_174_4, g_174_5, g_174_6, g_174_7, g_174_8, g_174_10, g_174_11, ari_aa, ari_al, ari_la, ari_mm, ari_ml, ari_lm, ari_ltl, ari_llt, ari_lt, ari_le, ari_lel, ari_lle, ari_0, ari_eq, ari_eql, ari_leq, ari_cl, Nat.not_lt_zero, Bool.false_eq_true, Option.toList_some, Option.toList_none, List.cons_append, List.nil_append, kv_rv, kc1_i, kc1_r, kc1_n, n10, n01, n1514, n1213, n1312, if_true, if_false, not_true_eq_false, not_false_eq_true, and_self, true_and, and_true, false_and, and_false, or_true, true_or, or_false, false_or, Nat.reduceLeDiff, Nat.reduceLT, Nat.reduceEqDiff, Nat.reduceAdd]
    refine comes_loop js hk8 hg hn2 (fun υ fr2 => ?_) (2 ^ w) 0 (by omega) τ (FR.rf _ τ)
    simp only [g_173_15, g_173_18, g_173_19, Nat.not_lt_zero, Bool.false_eq_true, Option.toList_some, Option.toList_none, List.cons_append, List.nil_append, kv_rv, kc1_i, kc1_r, kc1_n, n10, n01, n1514, n1213, n1312, if_true, if_false, not_true_eq_false, not_false_eq_true, and_self, true_and, and_true, false_and, and_false, or_true, true_or, or_false, false_or, Nat.reduceLeDiff, Nat.reduceLT, Nat.reduceEqDiff, Nat.reduceAdd]
    refine ⟨?_, JJ.fr (fsc.tr (fr2.sc (fun b j q => by unfold SC kv_ess; omega))) h⟩
    congr 3
    refine q4_congr (fun b hb => ?_)
    rw [ex, ey]
    have ev : ∀ row x, vo τ k G 1000 row x = vo σ k G 1000 row x := fun row x => vo_fr fsc hk8 sc_cN G 1000 row x
    have := per_any (f := fun row => nvb (vo σ k G 1000 row (kv_i σ (103 + 6 * k) g)) (vo σ k G 1000 row (kv_i σ (104 + 6 * k) g)) == b) hn.2.1 (fun row => by rw [vo_mod hn (v.1.mono (Nat.le_of_lt hg)) row, vo_mod hn (v.2.mono (Nat.le_of_lt hg)) row])
    refine Eq.trans ?_ this.symm
    exact anyN_congr _ (fun row hr => by rw [ev, ev])
  · simp only [c_95, g_95_0, g_95_1, g_95_2, g_95_3, g_95_6, g_95_9, g_95_10, kv_w8_0, kv_w8_1, kv_w8_2, kv_w8_3, kv_w8_4, Nat.not_lt_zero, Bool.false_eq_true, Option.toList_some, Option.toList_none, List.cons_append, List.nil_append, kv_rv, kc1_i, kc1_r, kc1_n, n10, n01, n1514, n1213, n1312, if_true, if_false, not_true_eq_false, not_false_eq_true, and_self, true_and, and_true, false_and, and_false, or_true, true_or, or_false, false_or, Nat.reduceLeDiff, Nat.reduceLT, Nat.reduceEqDiff, Nat.reduceAdd, m_isGate_c a1 K hK k1, hc, s_8 a1]
    refine ⟨_, rfl, ?_⟩
    have hc2 : ¬ ((¬ p < 0 ∧ p < Int32.ofNat K) ∧ (¬ q < 0 ∧ q < kv_i σ 169 p.toNatClampNeg)) := by
      intro w
      obtain ⟨k, hk, rfl, ec⟩ := i32_nat (by omega) w.1.1 w.1.2
      obtain ⟨w', G, hn⟩ := k3 k hk
      have hn : JN1' σ k w' G := hn
      refine hc ⟨w.1, w.2.1, ?_⟩
      have := w.2.2
      rw [ec, hn.2.2.2.2.2.2.1] at this
      rw [ec, hn.2.2.2.2.2.1]
      exact this
    simp only [c_173, g_173_0, g_173_1, g_173_2, g_173_3, g_173_6, g_173_9, g_173_10, g_173_11, g_173_12, g_173_15, g_173_18, g_173_19, kv_w8_0, kv_w8_1, kv_w8_2, kv_w8_3, kv_w8_4, Nat.not_lt_zero, Bool.false_eq_true, Option.toList_some, Option.toList_none, List.cons_append, List.nil_append, kv_rv, kc1_i, kc1_r, kc1_n, n10, n01, n1514, n1213, n1312, if_true, if_false, not_true_eq_false, not_false_eq_true, and_self, true_and, and_true, false_and, and_false, or_true, true_or, or_false, false_or, Nat.reduceLeDiff, Nat.reduceLT, Nat.reduceEqDiff, Nat.reduceAdd, m_isGate_m a1 K hK k2, hc2, s_149 a1]
    exact h

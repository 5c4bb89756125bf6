/-! ===== rules of the calculus, an instruction each ===== -/
section WR
variable {d M pc : Nat} {ls st : List Value} {σ : kv_S} {Φ : Option Value → kv_S → Prop}
theorem w_gf {i c k a : Nat} (hins : kv_ins M pc = some (.getfield i, 3, c, k)) (h : kv_sh σ a = (c, kv_N c)) : Wp d M pc ls (.ref a :: st) σ Φ = Wp d M (pc + 3) ls (kv_fd σ c a k :: st) σ Φ :=
  wp_s1 (q := (pc + 3, ls, kv_fd σ c a k :: st, σ)) hins rfl (by simp [kv_s1, kv_pu, kv_ld, kv_sto, kv_jp, kv_rd, kv_gf, h, kv_len])
theorem w_pfi {i c k a : Nat} {x : Int32} (hins : kv_ins M pc = some (.putfield i, 3, c, k)) (hk : kv_kd c k = 0) (h8 : 8 ≤ a) (h : kv_sh σ a = (c, kv_N c)) : Wp d M pc ls (.int x :: .ref a :: st) σ Φ = Wp d M (pc + 3) ls st (kv_si σ a k x) Φ :=
  wp_s1 (q := (pc + 3, ls, st, kv_si σ a k x)) hins rfl (by simp [kv_s1, kv_pu, kv_ld, kv_sto, kv_jp, kv_rd, kv_wr, kv_pf, h, h8, hk, kv_len])
theorem w_pfz {i c k a : Nat} {x : Int32} (hins : kv_ins M pc = some (.putfield i, 3, c, k)) (hk : kv_kd c k = 3) (h8 : 8 ≤ a) (h : kv_sh σ a = (c, kv_N c)) (hx : x = 0 ∨ x = 1) : Wp d M pc ls (.int x :: .ref a :: st) σ Φ = Wp d M (pc + 3) ls st (kv_si σ a k x) Φ :=
  wp_s1 (q := (pc + 3, ls, st, kv_si σ a k x)) hins rfl (by simp [kv_s1, kv_pu, kv_ld, kv_sto, kv_jp, kv_rd, kv_wr, kv_pf, h, h8, hk, hx, kv_len])
theorem w_pfl {i c k a : Nat} {x : Int64} (hins : kv_ins M pc = some (.putfield i, 3, c, k)) (hk : kv_kd c k = 1) (h8 : 8 ≤ a) (h : kv_sh σ a = (c, kv_N c)) : Wp d M pc ls (.long x :: .ref a :: st) σ Φ = Wp d M (pc + 3) ls st (kv_sl σ a k x) Φ :=
  wp_s1 (q := (pc + 3, ls, st, kv_sl σ a k x)) hins rfl (by simp [kv_s1, kv_pu, kv_ld, kv_sto, kv_jp, kv_rd, kv_wr, kv_pf, h, h8, hk, kv_len])
theorem w_pfr {i c k a x : Nat} (hins : kv_ins M pc = some (.putfield i, 3, c, k)) (hk : kv_kd c k = 2) (h8 : 8 ≤ a) (h : kv_sh σ a = (c, kv_N c)) : Wp d M pc ls (.ref x :: .ref a :: st) σ Φ = Wp d M (pc + 3) ls st (kv_sr σ a k (some x)) Φ :=
  wp_s1 (q := (pc + 3, ls, st, kv_sr σ a k (some x))) hins rfl (by simp [kv_s1, kv_pu, kv_ld, kv_sto, kv_jp, kv_rd, kv_wr, kv_pf, h, h8, hk, kv_len])
theorem w_al {a : Nat} (hins : kv_ins M pc = some (.arraylength, 1, 0, 0)) (h1 : 10 ≤ (kv_sh σ a).1) (h2 : (kv_sh σ a).1 < 16) : Wp d M pc ls (.ref a :: st) σ Φ = Wp d M (pc + 1) ls (.int (Int32.ofNat (kv_sh σ a).2) :: st) σ Φ :=
  wp_s1 (q := (pc + 1, ls, .int (Int32.ofNat (kv_sh σ a).2) :: st, σ)) hins rfl (by simp [kv_s1, kv_pu, kv_ld, kv_sto, kv_jp, kv_rd, kv_al, h1, h2, kv_len])
theorem w_ia {a : Nat} {i : Int32} (hins : kv_ins M pc = some (.iaload, 1, 0, 0)) (h1 : (kv_sh σ a).1 = 10) (h2 : ¬ i < 0) (h3 : i.toNatClampNeg < (kv_sh σ a).2) : Wp d M pc ls (.int i :: .ref a :: st) σ Φ = Wp d M (pc + 1) ls (.int (kv_i σ a i.toNatClampNeg) :: st) σ Φ :=
  wp_s1 (q := (pc + 1, ls, .int (kv_i σ a i.toNatClampNeg) :: st, σ)) hins rfl (by unfold kv_s1 kv_pu kv_ld kv_sto kv_jp kv_rd kv_ia; dsimp only; rw [if_pos ⟨h1, h2, h3⟩]; rfl)
theorem w_la {a : Nat} {i : Int32} (hins : kv_ins M pc = some (.laload, 1, 0, 0)) (h1 : (kv_sh σ a).1 = 11) (h2 : ¬ i < 0) (h3 : i.toNatClampNeg < (kv_sh σ a).2) : Wp d M pc ls (.int i :: .ref a :: st) σ Φ = Wp d M (pc + 1) ls (.long (kv_l σ a i.toNatClampNeg) :: st) σ Φ :=
  wp_s1 (q := (pc + 1, ls, .long (kv_l σ a i.toNatClampNeg) :: st, σ)) hins rfl (by unfold kv_s1 kv_pu kv_ld kv_sto kv_jp kv_rd kv_la; dsimp only; rw [if_pos ⟨h1, h2, h3⟩]; rfl)
theorem w_ba {a : Nat} {i : Int32} (hins : kv_ins M pc = some (.baload, 1, 0, 0)) (h8 : 8 ≤ a) (h1 : (kv_sh σ a).1 = 12 ∨ (kv_sh σ a).1 = 13) (h2 : ¬ i < 0) (h3 : i.toNatClampNeg < (kv_sh σ a).2) : Wp d M pc ls (.int i :: .ref a :: st) σ Φ = Wp d M (pc + 1) ls (.int (kv_i σ a i.toNatClampNeg) :: st) σ Φ :=
  wp_s1 (q := (pc + 1, ls, .int (kv_i σ a i.toNatClampNeg) :: st, σ)) hins rfl (by unfold kv_s1 kv_pu kv_ld kv_sto kv_jp kv_rd kv_ba; dsimp only; rw [if_pos ⟨h8, h1, h2, h3⟩]; rfl)
theorem w_aa {a : Nat} {i : Int32} (hins : kv_ins M pc = some (.aaload, 1, 0, 0)) (h8 : 8 ≤ a) (h1 : (kv_sh σ a).1 = 14 ∨ (kv_sh σ a).1 = 15) (h2 : ¬ i < 0) (h3 : i.toNatClampNeg < (kv_sh σ a).2) : Wp d M pc ls (.int i :: .ref a :: st) σ Φ = Wp d M (pc + 1) ls (kv_rv (kv_r σ a i.toNatClampNeg) :: st) σ Φ :=
  wp_s1 (q := (pc + 1, ls, kv_rv (kv_r σ a i.toNatClampNeg) :: st, σ)) hins rfl (by unfold kv_s1 kv_pu kv_ld kv_sto kv_jp kv_rd kv_aa; dsimp only; rw [if_pos ⟨h8, h1, h2, h3⟩]; rfl)
theorem w_is {a : Nat} {i x : Int32} (hins : kv_ins M pc = some (.iastore, 1, 0, 0)) (h8 : 8 ≤ a) (h1 : (kv_sh σ a).1 = 10) (h2 : ¬ i < 0) (h3 : i.toNatClampNeg < (kv_sh σ a).2) : Wp d M pc ls (.int x :: .int i :: .ref a :: st) σ Φ = Wp d M (pc + 1) ls st (kv_si σ a i.toNatClampNeg x) Φ :=
  wp_s1 (q := (pc + 1, ls, st, kv_si σ a i.toNatClampNeg x)) hins rfl (by unfold kv_s1 kv_pu kv_ld kv_sto kv_jp kv_rd kv_wr kv_is; dsimp only; rw [if_pos ⟨h8, h1, h2, h3⟩]; rfl)
theorem w_las {a : Nat} {i : Int32} {x : Int64} (hins : kv_ins M pc = some (.lastore, 1, 0, 0)) (h8 : 8 ≤ a) (h1 : (kv_sh σ a).1 = 11) (h2 : ¬ i < 0) (h3 : i.toNatClampNeg < (kv_sh σ a).2) : Wp d M pc ls (.long x :: .int i :: .ref a :: st) σ Φ = Wp d M (pc + 1) ls st (kv_sl σ a i.toNatClampNeg x) Φ :=
  wp_s1 (q := (pc + 1, ls, st, kv_sl σ a i.toNatClampNeg x)) hins rfl (by unfold kv_s1 kv_pu kv_ld kv_sto kv_jp kv_rd kv_wr kv_las; dsimp only; rw [if_pos ⟨h8, h1, h2, h3⟩]; rfl)
theorem w_bs {a : Nat} {i x : Int32} (hins : kv_ins M pc = some (.bastore, 1, 0, 0)) (h8 : 8 ≤ a) (h1 : (kv_sh σ a).1 = 12 ∧ vp_nar .boolean x = x ∨ (kv_sh σ a).1 = 13 ∧ vp_nar .byte x = x) (h2 : ¬ i < 0) (h3 : i.toNatClampNeg < (kv_sh σ a).2) : Wp d M pc ls (.int x :: .int i :: .ref a :: st) σ Φ = Wp d M (pc + 1) ls st (kv_si σ a i.toNatClampNeg x) Φ :=
  wp_s1 (q := (pc + 1, ls, st, kv_si σ a i.toNatClampNeg x)) hins rfl (by unfold kv_s1 kv_pu kv_ld kv_sto kv_jp kv_rd kv_wr kv_bs; dsimp only; rw [if_pos ⟨h8, h1, h2, h3⟩]; rfl)
theorem w_as {a x : Nat} {i : Int32} (hins : kv_ins M pc = some (.aastore, 1, 0, 0)) (h8 : 8 ≤ a) (h9 : 8 ≤ x) (h1 : (kv_sh σ a).1 = 14 ∧ kv_sh σ x = (5, kv_N 5) ∨ (kv_sh σ a).1 = 15 ∧ kv_sh σ x = (2, kv_N 2)) (h2 : ¬ i < 0) (h3 : i.toNatClampNeg < (kv_sh σ a).2) : Wp d M pc ls (.ref x :: .int i :: .ref a :: st) σ Φ = Wp d M (pc + 1) ls st (kv_sr σ a i.toNatClampNeg (some x)) Φ :=
  wp_s1 (q := (pc + 1, ls, st, kv_sr σ a i.toNatClampNeg (some x))) hins rfl (by unfold kv_s1 kv_pu kv_ld kv_sto kv_jp kv_rd kv_wr kv_as; dsimp only; rw [if_pos ⟨h8, h9, h1, h2, h3⟩]; rfl)
theorem w_na {t : ArrayType} {n : Int32} (hins : kv_ins M pc = some (.newarray t, 2, 0, 0)) (ht : kv_at t < 16) (h1 : ¬ n < 0) (h2 : n.toNatClampNeg ≤ 10000) : Wp d M pc ls (.int n :: st) σ Φ = Wp d M (pc + 2) ls (.ref (8 + kv_n σ) :: st) (kv_mkc σ (kv_at t) n.toNatClampNeg) Φ :=
  wp_s1 (q := (pc + 2, ls, .ref (8 + kv_n σ) :: st, kv_mkc σ (kv_at t) n.toNatClampNeg)) hins rfl (by unfold kv_s1 kv_pu kv_ld kv_sto kv_jp kv_rd kv_wr kv_nw kv_na; dsimp only; rw [if_pos ⟨ht, h1, h2⟩]; rfl)
theorem w_st {i : Nat} {v : Value} {I : Instr} {len : Nat} {st' ls' : List Value} (hins : kv_ins M pc = some (I, len, 0, 0)) (hr : kv_ret M (I, len, 0, 0) st = none) (hp : kv_pu (I, len, 0, 0) st = none) (hl : kv_ld (I, len, 0, 0) ls st = none) (h : kv_sto (I, len, 0, 0) ls st = some (ls', st')) : Wp d M pc ls st σ Φ = Wp d M (pc + kv_len I) ls' st' σ Φ :=
  wp_s1 (q := (pc + kv_len I, ls', st', σ)) hins hr (by unfold kv_s1; rw [hp, hl, h])
theorem w_j2 {cnd : ClassFile.Cond} {off : Int} {x y : Int32} {tgt : Nat} (hins : kv_ins M pc = some (.if_icmp cnd off, 3, 0, 0)) (ht : (pc : Int) + off = (tgt : Int)) : Wp d M pc ls (.int y :: .int x :: st) σ Φ = (if kv_cnd cnd x y = true then Wp d M tgt ls st σ Φ else Wp d M (pc + 3) ls st σ Φ) := by
  rw [wp_s1 (q := (if kv_cnd cnd x y = true then tgt else pc + 3, ls, st, σ)) hins rfl (by unfold kv_s1 kv_pu kv_ld kv_sto kv_jp kv_j2; dsimp only; rw [if_pos (by omega), ht]; rfl)]
  split <;> rfl
theorem w_j1 {cnd : ClassFile.Cond} {off : Int} {x : Int32} {tgt : Nat} (hins : kv_ins M pc = some (.ifCond cnd off, 3, 0, 0)) (ht : (pc : Int) + off = (tgt : Int)) : Wp d M pc ls (.int x :: st) σ Φ = (if kv_cnd cnd x 0 = true then Wp d M tgt ls st σ Φ else Wp d M (pc + 3) ls st σ Φ) := by
  rw [wp_s1 (q := (if kv_cnd cnd x 0 = true then tgt else pc + 3, ls, st, σ)) hins rfl (by unfold kv_s1 kv_pu kv_ld kv_sto kv_jp kv_j1; dsimp only; rw [if_pos (by omega), ht]; rfl)]
  split <;> rfl
theorem w_go {off : Int} {tgt : Nat} (hins : kv_ins M pc = some (.goto off, 3, 0, 0)) (ht : (pc : Int) + off = (tgt : Int)) : Wp d M pc ls st σ Φ = Wp d M tgt ls st σ Φ :=
  wp_s1 (q := (tgt, ls, st, σ)) hins rfl (by unfold kv_s1 kv_pu kv_ld kv_sto kv_jp kv_to; dsimp only; rw [if_pos (by omega), ht]; rfl)
theorem w_dv {I : Instr} {f : Int32 → Int32 → Int32} {x y : Int32} (hins : kv_ins M pc = some (I, 1, 0, 0)) (hr : kv_ret M (I, 1, 0, 0) (.int y :: .int x :: st) = none) (hI : kv_pu (I, 1, 0, 0) (.int y :: .int x :: st) = kv_dv f (.int y :: .int x :: st)) (hlen : kv_len I = 1) (hy : ¬ y = 0) : Wp d M pc ls (.int y :: .int x :: st) σ Φ = Wp d M (pc + 1) ls (.int (f x y) :: st) σ Φ :=
  wp_s1 (q := (pc + 1, ls, .int (f x y) :: st, σ)) hins hr (by unfold kv_s1; rw [hI]; unfold kv_dv; dsimp only; rw [if_neg hy]; dsimp only; rw [hlen])
/-- a call of a method on an object -/
theorem w_cv {i M2 k a c : Nat} {q : MethodName × ByteArray × Nat × Option FieldType} {as : List Value} (hins : kv_ins M pc = some (.invokevirtual i, 3, M2, k)) (hq : kv_mt[M2]? = some q) (hc : kv_cn[c]? = some q.1.cls) (hn : ¬ q.1.name = "<init>") (hk : as.length = k) (hfit : (kv_sl2 (.ref a :: as.reverse)).length ≤ q.2.2.1) (hs1 : kv_s1 (.invokevirtual i, 3, M2, k) pc ls (as ++ .ref a :: st) σ = none) (h8 : kv_w8 st = true) (h : kv_sh σ a = (c, kv_N c)) : Wp (d + 1) M pc ls (as ++ .ref a :: st) σ Φ = Wc d M2 (.ref a :: as.reverse) σ (fun r τ => Wp (d + 1) M (pc + 3) ls (r.toList ++ st) τ Φ) := by
  refine wp_call (q := (M2, .ref a :: as.reverse, st)) hins rfl hs1 rfl ?_
  have e1 : (as ++ .ref a :: st).drop k = .ref a :: st := by rw [← hk]; simp
  have e2 : (as ++ .ref a :: st).take k = as := by rw [← hk]; simp
  unfold kv_cal kv_cal0 kv_fit
  dsimp only
  rw [e1, e2, hq]
  dsimp only
  rw [if_pos ⟨h8, hk, by rw [h]; exact hc, by rw [h], hn⟩]
  dsimp only
  rw [hq]
  dsimp only
  rw [if_pos (decide_eq_true hfit)]
theorem w_cs {i M2 k : Nat} {q : MethodName × ByteArray × Nat × Option FieldType} {as : List Value} (hins : kv_ins M pc = some (.invokestatic i, 3, M2, k)) (hq : kv_mt[M2]? = some q) (hlt : M2 < 1000) (hk : as.length = k) (hfit : (kv_sl2 as.reverse).length ≤ q.2.2.1) (hs1 : kv_s1 (.invokestatic i, 3, M2, k) pc ls (as ++ st) σ = none) (hint : kv_int (.invokestatic i, 3, M2, k) (as ++ st) σ = none) (h8 : kv_w8 st = true) : Wp (d + 1) M pc ls (as ++ st) σ Φ = Wc d M2 as.reverse σ (fun r τ => Wp (d + 1) M (pc + 3) ls (r.toList ++ st) τ Φ) := by
  refine wp_call (q := (M2, as.reverse, st)) hins rfl hs1 hint ?_
  have e1 : (as ++ st).drop k = st := by rw [← hk]; simp
  have e2 : (as ++ st).take k = as := by rw [← hk]; simp
  unfold kv_cal kv_cal0 kv_fit
  dsimp only
  rw [e1, e2]
  rw [if_pos ⟨h8, hlt, hk⟩]
  dsimp only
  rw [hq]
  dsimp only
  rw [if_pos (decide_eq_true hfit)]
theorem w_ci {i M2 b a : Nat} {q : MethodName × ByteArray × Nat × Option FieldType} (hins : kv_ins M pc = some (.invokespecial i, 3, M2, b)) (hq : kv_mt[M2]? = some q) (hlt : M2 < 1000) (hfit : 1 ≤ q.2.2.1) (hint : kv_int (.invokespecial i, 3, M2, b) (.ref a :: st) σ = none) (h8 : kv_w8 st = true) : Wp (d + 1) M pc ls (.ref a :: st) σ Φ = Wc d M2 [.ref a] σ (fun r τ => Wp (d + 1) M (pc + 3) ls (r.toList ++ st) τ Φ) := by
  refine wp_call (q := (M2, [.ref a], st)) hins rfl rfl hint ?_
  unfold kv_cal kv_cal0 kv_fit
  dsimp only
  rw [if_pos ⟨h8, hlt⟩]
  dsimp only
  rw [hq]
  dsimp only
  exact if_pos (decide_eq_true (show (kv_sl2 [Value.ref a]).length ≤ q.2.2.1 from hfit))
theorem kv_w8_0 : kv_w8 [] = true := Eq.trans rfl rfl
theorem kv_cat_le (v : Value) : v.category ≤ 2 := by cases v <;> simp [Value.category]
theorem kv_w8_1 (v : Value) : kv_w8 [v] = true := by have := kv_cat_le v; exact decide_eq_true (by simp; omega)
theorem kv_w8_2 (v w : Value) : kv_w8 [v, w] = true := by have := kv_cat_le v; have := kv_cat_le w; exact decide_eq_true (by simp; omega)
theorem kv_w8_3 (v w x : Value) : kv_w8 [v, w, x] = true := by have := kv_cat_le v; have := kv_cat_le w; have := kv_cat_le x; exact decide_eq_true (by simp; omega)
theorem kv_w8_4 (v w x y : Value) : kv_w8 [v, w, x, y] = true := by have := kv_cat_le v; have := kv_cat_le w; have := kv_cat_le x; have := kv_cat_le y; exact decide_eq_true (by simp; omega)
end WR

/-! ===== the law: its start ===== -/
def kv_ki (a : Nat) : List Int32 := match a with
  | 1 => [1, 3, 9, 27, 81, 243]
  | 2 => [0, 1, 3, 4, 9, 10, 12, 13]
  | 3 => [76695844, 117670336, 133955584]
  | 4 => [1, 1, 2, 6, 24, 120, 720]
  | 5 => [0, 15, 10, 12]
  | _ => []
def kv_kL : List Int64 := [-6148914691236517206, -3689348814741910324, -1085102592571150096, -71777214294589696, -281470681808896, -4294967296]
def kv_s0 (L : Nat) (xs : Nat → Int32) : kv_S := (((0, 0), fun a => match a with
  | 0 => (11, 6)
  | 1 => (10, 6)
  | 2 => (10, 8)
  | 3 => (10, 3)
  | 4 => (10, 7)
  | 5 => (10, 4)
  | 6 => (10, L)
  | _ => (99, 0)), (fun a j => if a = 6 then xs j else (kv_ki a).getD j 0), (fun a j => if a = 0 then kv_kL.getD j 0 else 0), fun _ _ => none)
theorem kv_s0_pur (L : Nat) (xs : Nat → Int32) : kv_pur (kv_s0 L xs) := by
  refine ⟨fun a h => ?_, fun a h k => ?_⟩
  · left
    have h : ((kv_s0 L xs).1.2 a).1 < 16 := h
    unfold kv_s0 at h
    dsimp only at h
    split at h <;> first | omega | (exact absurd h (by decide))
  · have h : 8 ≤ a := h
    refine ⟨?_, ?_, rfl⟩
    · show (if a = 6 then xs k else (kv_ki a).getD k 0) = 0
      rw [if_neg (by omega)]
      unfold kv_ki
      split <;> first | omega | rfl
    · show (if a = 0 then kv_kL.getD k 0 else 0) = 0
      rw [if_neg (by omega)]
theorem kv_A_no {g : kv_G} {s : State} (hg : g.1 = s.heap.size) : ∀ a : Nat, a < s.heap.size → ¬ kv_A g a := fun a h q => by have q : g.1 ≤ a := q; omega
set_option maxRecDepth 100000 in
theorem kv_stat_0 {s : State} {args : Array Value} {A : Nat → Prop} (hts : ∀ w ∈ lw_tbl, w.before args s = true) (hgv : (Jvm.Cond.and given_1 narrow_1).before args s = true) (hA : ∀ a : Nat, a < s.heap.size → ¬ A a) : ∃ t : Nat, va_Z "LogicSmith" "LETTER" "[J" (.ref t) A s s.heap ∧ va_T .long t 6 (fun j => .long (kv_kL.getD j 0)) A s s.heap := by
  have hs := flat_of_before _ hgv
  have h1 : (Cond.arrayOf (.static "LogicSmith" "LETTER" "[J") .long).before args s = true := hs _ (by decide +kernel)
  have h2 : (Cond.eq (.length (.static "LogicSmith" "LETTER" "[J")) (.int (Int32.ofNat 6))).before args s = true := hs _ (by decide +kernel)
  have h3 : ∀ j, j < 6 → Cond.eq (.elem (.static "LogicSmith" "LETTER" "[J") (.int (Int32.ofNat j))) (.long (kv_kL.getD j 0)) ∈ flatC (Jvm.Cond.and given_1 narrow_1) := by decide +kernel
  obtain ⟨t, ht, hT⟩ := va_Tof (A := A) (f := fun j => .long (kv_kL.getD j 0)) (by decide) h1 (va_eqt h2) (fun j hj => va_eqtl (hs _ (h3 j hj))) hA
  exact ⟨t, va_Zof (hts _ (List.mem_of_getElem? (i := 431) rfl)) (hts _ (List.mem_of_getElem? (i := 56) rfl)) ht hA, hT⟩
set_option maxRecDepth 100000 in
theorem kv_stat_1 {s : State} {args : Array Value} {A : Nat → Prop} (hts : ∀ w ∈ lw_tbl, w.before args s = true) (hgv : (Jvm.Cond.and given_1 narrow_1).before args s = true) (hA : ∀ a : Nat, a < s.heap.size → ¬ A a) : ∃ t : Nat, va_Z "LogicSmith$Products" "POWER" "[I" (.ref t) A s s.heap ∧ va_T .int t 6 (fun j => .int ((kv_ki 1).getD j 0)) A s s.heap := by
  have hs := flat_of_before _ hgv
  have h1 : (Cond.arrayOf (.static "LogicSmith$Products" "POWER" "[I") .int).before args s = true := hs _ (by decide +kernel)
  have h2 : (Cond.eq (.length (.static "LogicSmith$Products" "POWER" "[I")) (.int (Int32.ofNat 6))).before args s = true := hs _ (by decide +kernel)
  have h3 : ∀ j, j < 6 → Cond.eq (.elem (.static "LogicSmith$Products" "POWER" "[I") (.int (Int32.ofNat j))) (.int ((kv_ki 1).getD j 0)) ∈ flatC (Jvm.Cond.and given_1 narrow_1) := by decide +kernel
  obtain ⟨t, ht, hT⟩ := va_Tof (A := A) (f := fun j => .int ((kv_ki 1).getD j 0)) (by decide) h1 (va_eqt h2) (fun j hj => va_eqt (hs _ (h3 j hj))) hA
  exact ⟨t, va_Zof (hts _ (List.mem_of_getElem? (i := 459) rfl)) (hts _ (List.mem_of_getElem? (i := 57) rfl)) ht hA, hT⟩
set_option maxRecDepth 100000 in
theorem kv_stat_2 {s : State} {args : Array Value} {A : Nat → Prop} (hts : ∀ w ∈ lw_tbl, w.before args s = true) (hgv : (Jvm.Cond.and given_1 narrow_1).before args s = true) (hA : ∀ a : Nat, a < s.heap.size → ¬ A a) : ∃ t : Nat, va_Z "LogicSmith$Products" "ROW_NUMBER" "[I" (.ref t) A s s.heap ∧ va_T .int t 8 (fun j => .int ((kv_ki 2).getD j 0)) A s s.heap := by
  have hs := flat_of_before _ hgv
  have h1 : (Cond.arrayOf (.static "LogicSmith$Products" "ROW_NUMBER" "[I") .int).before args s = true := hs _ (by decide +kernel)
  have h2 : (Cond.eq (.length (.static "LogicSmith$Products" "ROW_NUMBER" "[I")) (.int (Int32.ofNat 8))).before args s = true := hs _ (by decide +kernel)
  have h3 : ∀ j, j < 8 → Cond.eq (.elem (.static "LogicSmith$Products" "ROW_NUMBER" "[I") (.int (Int32.ofNat j))) (.int ((kv_ki 2).getD j 0)) ∈ flatC (Jvm.Cond.and given_1 narrow_1) := by decide +kernel
  obtain ⟨t, ht, hT⟩ := va_Tof (A := A) (f := fun j => .int ((kv_ki 2).getD j 0)) (by decide) h1 (va_eqt h2) (fun j hj => va_eqt (hs _ (h3 j hj))) hA
  exact ⟨t, va_Zof (hts _ (List.mem_of_getElem? (i := 462) rfl)) (hts _ (List.mem_of_getElem? (i := 57) rfl)) ht hA, hT⟩
set_option maxRecDepth 100000 in
theorem kv_stat_3 {s : State} {args : Array Value} {A : Nat → Prop} (hts : ∀ w ∈ lw_tbl, w.before args s = true) (hgv : (Jvm.Cond.and given_1 narrow_1).before args s = true) (hA : ∀ a : Nat, a < s.heap.size → ¬ A a) : ∃ t : Nat, va_Z "LogicSmith$Products" "LEFT_OUT" "[I" (.ref t) A s s.heap ∧ va_T .int t 3 (fun j => .int ((kv_ki 3).getD j 0)) A s s.heap := by
  have hs := flat_of_before _ hgv
  have h1 : (Cond.arrayOf (.static "LogicSmith$Products" "LEFT_OUT" "[I") .int).before args s = true := hs _ (by decide +kernel)
  have h2 : (Cond.eq (.length (.static "LogicSmith$Products" "LEFT_OUT" "[I")) (.int (Int32.ofNat 3))).before args s = true := hs _ (by decide +kernel)
  have h3 : ∀ j, j < 3 → Cond.eq (.elem (.static "LogicSmith$Products" "LEFT_OUT" "[I") (.int (Int32.ofNat j))) (.int ((kv_ki 3).getD j 0)) ∈ flatC (Jvm.Cond.and given_1 narrow_1) := by decide +kernel
  obtain ⟨t, ht, hT⟩ := va_Tof (A := A) (f := fun j => .int ((kv_ki 3).getD j 0)) (by decide) h1 (va_eqt h2) (fun j hj => va_eqt (hs _ (h3 j hj))) hA
  exact ⟨t, va_Zof (hts _ (List.mem_of_getElem? (i := 471) rfl)) (hts _ (List.mem_of_getElem? (i := 57) rfl)) ht hA, hT⟩
set_option maxRecDepth 100000 in
theorem kv_stat_4 {s : State} {args : Array Value} {A : Nat → Prop} (hts : ∀ w ∈ lw_tbl, w.before args s = true) (hgv : (Jvm.Cond.and given_1 narrow_1).before args s = true) (hA : ∀ a : Nat, a < s.heap.size → ¬ A a) : ∃ t : Nat, va_Z "LogicSmith$Choices" "WAYS" "[I" (.ref t) A s s.heap ∧ va_T .int t 7 (fun j => .int ((kv_ki 4).getD j 0)) A s s.heap := by
  have hs := flat_of_before _ hgv
  have h1 : (Cond.arrayOf (.static "LogicSmith$Choices" "WAYS" "[I") .int).before args s = true := hs _ (by decide +kernel)
  have h2 : (Cond.eq (.length (.static "LogicSmith$Choices" "WAYS" "[I")) (.int (Int32.ofNat 7))).before args s = true := hs _ (by decide +kernel)
  have h3 : ∀ j, j < 7 → Cond.eq (.elem (.static "LogicSmith$Choices" "WAYS" "[I") (.int (Int32.ofNat j))) (.int ((kv_ki 4).getD j 0)) ∈ flatC (Jvm.Cond.and given_1 narrow_1) := by decide +kernel
  obtain ⟨t, ht, hT⟩ := va_Tof (A := A) (f := fun j => .int ((kv_ki 4).getD j 0)) (by decide) h1 (va_eqt h2) (fun j hj => va_eqt (hs _ (h3 j hj))) hA
  exact ⟨t, va_Zof (hts _ (List.mem_of_getElem? (i := 569) rfl)) (hts _ (List.mem_of_getElem? (i := 59) rfl)) ht hA, hT⟩
set_option maxRecDepth 100000 in
theorem kv_stat_5 {s : State} {args : Array Value} {A : Nat → Prop} (hts : ∀ w ∈ lw_tbl, w.before args s = true) (hgv : (Jvm.Cond.and given_1 narrow_1).before args s = true) (hA : ∀ a : Nat, a < s.heap.size → ¬ A a) : ∃ t : Nat, va_Z "LogicSmith$Shaping" "RULE_TABLE" "[I" (.ref t) A s s.heap ∧ va_T .int t 4 (fun j => .int ((kv_ki 5).getD j 0)) A s s.heap := by
  have hs := flat_of_before _ hgv
  have h1 : (Cond.arrayOf (.static "LogicSmith$Shaping" "RULE_TABLE" "[I") .int).before args s = true := hs _ (by decide +kernel)
  have h2 : (Cond.eq (.length (.static "LogicSmith$Shaping" "RULE_TABLE" "[I")) (.int (Int32.ofNat 4))).before args s = true := hs _ (by decide +kernel)
  have h3 : ∀ j, j < 4 → Cond.eq (.elem (.static "LogicSmith$Shaping" "RULE_TABLE" "[I") (.int (Int32.ofNat j))) (.int ((kv_ki 5).getD j 0)) ∈ flatC (Jvm.Cond.and given_1 narrow_1) := by decide +kernel
  obtain ⟨t, ht, hT⟩ := va_Tof (A := A) (f := fun j => .int ((kv_ki 5).getD j 0)) (by decide) h1 (va_eqt h2) (fun j hj => va_eqt (hs _ (h3 j hj))) hA
  exact ⟨t, va_Zof (hts _ (List.mem_of_getElem? (i := 744) rfl)) (hts _ (List.mem_of_getElem? (i := 62) rfl)) ht hA, hT⟩
theorem kv_prim {s : State} {args : Array Value} {ty : FieldType} (hno : ∀ C, ty ≠ .object C) (h : (Cond.arrayClass ty).before args s = true) : ∃ cA : ClassId, ArrOfT s cA ty ∧ va_RA s cA ty := by
  obtain ⟨cA, k, comp, h1, h2, h3⟩ := Cond.arrayClass_spec h
  refine ⟨cA, fun N z => ⟨(fun k h => by cases h), k, h2, comp, h3⟩, ?_⟩
  unfold va_RA
  split
  · exact absurd rfl (hno _)
  · exact h1
theorem kv_over {s : State} {args : Array Value} {C : String} (h : (Cond.arrayOver (.object C)).before args s = true) : ∃ cA : ClassId, ArrOfT s cA (.object C) ∧ va_RA s cA (.object C) := by
  obtain ⟨comp, cA, k, h1, -, h2, h3, h4⟩ := Cond.arrayOver_spec h
  exact ⟨cA, fun N z => ⟨(fun k h => by cases h), k, h2, comp, h3⟩, k, comp, h2, h3, h1, h4⟩
theorem kv_pick6 {P : Nat → Nat → Prop} (h : ∀ k, k < 6 → ∃ t, P k t) (b : Nat) : ∃ f : Nat → Nat, f 6 = b ∧ ∀ k, k < 6 → P k (f k) := by
  refine ⟨fun k => if hk : k < 6 then Classical.choose (h k hk) else b, by simp, fun k hk => ?_⟩
  simp only [hk, dite_true]
  exact Classical.choose_spec (h k hk)
set_option maxRecDepth 100000 in
theorem kv_known {s : State} {args : Array Value} (hts : ∀ w ∈ lw_tbl, w.before args s = true) : ∃ (dC : Nat → ClassId) (dI : Nat → Nat → Nat), ∀ (k : Nat) (q : vw_C), kv_cl[k]? = some q → u_Kn s q.1 q.2.1 q.2.2 (dC k) (dI k) := by
  have key : ∀ k, k < 10 → ∃ (z : ClassId × (Nat → Nat)), ∀ q : vw_C, kv_cl[k]? = some q → u_Kn s q.1 q.2.1 q.2.2 z.1 z.2 := by
    intro k hk
    obtain ⟨C, hcl, hcn⟩ := kv_cl_at hk
    obtain ⟨c, iS, h⟩ := u_known (C := C) (T := kv_T k) (N := kv_N k) (n := kv_N k) hts (kv_lays_in hk C hcn) (hts _ (kv_made hk C hcn).1)
    exact ⟨(c, iS), fun q hq => by cases hcl.symm.trans hq; exact h⟩
  refine ⟨fun k => if hk : k < 10 then (Classical.choose (key k hk)).1 else 0, fun k => if hk : k < 10 then (Classical.choose (key k hk)).2 else fun _ => 0, fun k q hq => ?_⟩
  have hk : k < 10 := (List.getElem?_eq_some_iff.mp hq).1
  simp only [hk, dite_true]
  exact Classical.choose_spec (key k hk) q hq
set_option maxRecDepth 100000 in
theorem kv_tyk {s : State} {args : Array Value} (hts : ∀ w ∈ lw_tbl, w.before args s = true) : ∃ tc : Nat → ClassId, ∀ (k : Nat) (q : ClassId × FieldType), (kv_tys (0, (fun _ => 0), tc, (fun _ => 0), (fun _ _ => 0)))[k]? = some q → ArrOfT s q.1 q.2 ∧ va_RA s q.1 q.2 := by
  obtain ⟨c0, h0⟩ := kv_prim (ty := .int) (fun C h => by cases h) (hts _ (List.mem_of_getElem? (i := 99) rfl))
  obtain ⟨c1, h1⟩ := kv_prim (ty := .long) (fun C h => by cases h) (hts _ (List.mem_of_getElem? (i := 146) rfl))
  obtain ⟨c2, h2⟩ := kv_prim (ty := .boolean) (fun C h => by cases h) (hts _ (List.mem_of_getElem? (i := 286) rfl))
  obtain ⟨c3, h3⟩ := kv_prim (ty := .byte) (fun C h => by cases h) (hts _ (List.mem_of_getElem? (i := 954) rfl))
  obtain ⟨c4, h4⟩ := kv_over (hts _ kv_over_t)
  obtain ⟨c5, h5⟩ := kv_over (hts _ kv_over_n)
  refine ⟨fun t => match t with | 10 => c0 | 11 => c1 | 12 => c2 | 13 => c3 | 14 => c4 | _ => c5, fun k q hq => ?_⟩
  match k, hq with
  | 0, hq => cases hq; exact h0
  | 1, hq => cases hq; exact h1
  | 2, hq => cases hq; exact h2
  | 3, hq => cases hq; exact h3
  | 4, hq => cases hq; exact h4
  | 5, hq => cases hq; exact h5
  | k + 6, hq => simp [kv_tys] at hq

/-! ===== the machine does what the evaluator does: new cells ===== -/
section KVN
variable {p : Program} {l : Launch} {e : Env} {R : Room} {s : State} {m : MethodId} {args : Array Value} {below : List Frame} {meth : Method} {c : Code} {H : Heap} {locs : List Loc} {cells slots : Nat} {Q : State → Prop}
variable {cc : ByteArray} {pc : Nat} {ls : Array Slot} {g : kv_G} {σ : kv_S}
theorem kv_ws_len (g : kv_G) (σ : kv_S) : (kv_ws g σ).length = kv_n σ := by simp [kv_ws]
theorem kv_pin {q : Nat} {E : va_E} (hD : va_D (kv_A g) (kv_ws g σ ++ [(q, E)])) (hlt : q < g.1 + kv_n σ + 1) : q = g.1 + kv_n σ := by
  have hl : (kv_ws g σ ++ [(q, E)])[kv_n σ]? = some (q, E) := by
    rw [List.getElem?_append_right (by rw [kv_ws_len]; exact Nat.le_refl _), kv_ws_len]
    simp
  have hA : g.1 ≤ q := hD.2 _ _ hl
  rcases Nat.lt_or_ge q (g.1 + kv_n σ) with h | h
  · have h2 : (kv_ws g σ ++ [(q, E)])[q - g.1]? = some (kv_ad g (8 + (q - g.1)), kv_ce g σ (8 + (q - g.1))) := by
      rw [List.getElem?_append_left (by rw [kv_ws_len]; omega)]
      exact kv_ws_get g σ (by omega)
    have := hD.1 _ _ _ _ h2 hl (by rw [kv_ad_8]; show g.1 + (q - g.1) = q; omega)
    omega
  · omega
theorem kv_mkc_ce (g : kv_G) (σ : kv_S) (t n : Nat) {b : Nat} (h : b ≠ 8 + kv_n σ) : kv_ce g (kv_mkc σ t n) b = kv_ce g σ b := by
  have e1 : kv_sh (kv_mkc σ t n) b = kv_sh σ b := by show (if b = 8 + σ.1.1.1 then (t, n) else σ.1.2 b) = σ.1.2 b; exact if_neg h
  have e2 : kv_i (kv_mkc σ t n) = kv_i σ := rfl
  have e3 : kv_l (kv_mkc σ t n) = kv_l σ := rfl
  have e4 : kv_r (kv_mkc σ t n) = kv_r σ := rfl
  simp only [kv_ce, kv_fv, kv_ar, e1, e2, e3, e4]
theorem kv_mkc_ws (g : kv_G) (σ : kv_S) (t n : Nat) : kv_ws g (kv_mkc σ t n) = kv_ws g σ ++ [(g.1 + kv_n σ, kv_ce g (kv_mkc σ t n) (8 + kv_n σ))] := by
  have e1 : kv_n (kv_mkc σ t n) = kv_n σ + 1 := rfl
  unfold kv_ws
  rw [e1, List.range_succ, List.map_append]
  congr 1
  · apply List.map_congr_left
    intro k hk
    have hk := List.mem_range.mp hk
    rw [kv_mkc_ce g σ t n (by omega)]
  · simp [kv_ad_8]
theorem kv_mkc_pur {t n : Nat} (h : kv_pur σ) : kv_pur (kv_mkc σ t n) := by
  refine ⟨fun a ha => ?_, fun a ha k => h.2 a (by have : 8 + (kv_n σ + 1) ≤ a := ha; omega) k⟩
  by_cases e : a = 8 + kv_n σ
  · exact Or.inr ⟨by omega, by show a < 8 + (kv_n σ + 1); omega⟩
  · have e1 : kv_sh (kv_mkc σ t n) a = kv_sh σ a := by show (if a = 8 + σ.1.1.1 then (t, n) else σ.1.2 a) = σ.1.2 a; exact if_neg e
    rw [e1] at ha
    rcases h.1 a ha with q | q
    · exact Or.inl q
    · exact Or.inr ⟨q.1, by show a < 8 + (kv_n σ + 1); omega⟩
theorem kv_mkc_low (σ : kv_S) (t n : Nat) : kv_low σ (kv_mkc σ t n) := fun b hb => ⟨by show (if b = 8 + σ.1.1.1 then (t, n) else σ.1.2 b) = _; rw [if_neg (by omega)]; rfl, rfl, rfl⟩
theorem kv_mkc_sh (σ : kv_S) (t n : Nat) : kv_sh (kv_mkc σ t n) (8 + kv_n σ) = (t, n) := if_pos rfl
/-- the new cell lies where it should -/
theorem kv_place {g0 : JFrame} {q : Nat} {t n : Nat} {H1 : Heap} (hs0 : s.heap.size + cells = g.1 + kv_n σ) (hP : va_P (kv_D g) kv_cl (kv_ws g σ ++ [(q, kv_ce g (kv_mkc σ t n) (8 + kv_n σ))]) H1) (hD : va_D (kv_A g) (kv_ws g σ ++ [(q, kv_ce g (kv_mkc σ t n) (8 + kv_n σ))])) (hp : kv_pur σ)
    (kk : q = kv_ad g (8 + kv_n σ) → kv_rep g (kv_mkc σ t n) H1 → W p l e R s m args below meth c H1 locs (cells + 1) slots Q g0) : W p l e R s m args below meth c H1 locs (cells + 1) slots Q g0 := by
  intro T hT X
  have h1 : T.heap.size ≤ s.heap.size + (cells + 1) := X.same.2.2.1
  have hl : (kv_ws g σ ++ [(q, kv_ce g (kv_mkc σ t n) (8 + kv_n σ))])[kv_n σ]? = some (q, kv_ce g (kv_mkc σ t n) (8 + kv_n σ)) := by
    rw [List.getElem?_append_right (by rw [kv_ws_len]; exact Nat.le_refl _), kv_ws_len]
    simp
  have h2 := (hP _ _ hl).lt
  rw [hT] at h1
  have h2 : q < H1.size := h2
  have hq := kv_pin hD (by omega)
  rw [hq, ← kv_mkc_ws] at hP
  exact kk (by rw [hq, kv_ad_8]) ⟨hP, kv_mkc_pur hp⟩ T hT X
theorem kq_new (hx : p.tables.exec = Jvm.exec) (hb : c.code = cc) {own : String} (hown : s.vm.findClass own = some m.cls) (hts : ∀ w ∈ lw_tbl, goodWord w = true → w.before args s = true) (hI : kv_inv g s) (hR : kv_rep g σ H) (hS : va_S (kv_A g) s.heap H locs) (hbase : g.1 ≤ s.heap.size) (hs0 : s.heap.size + cells = g.1 + kv_n σ)
    {i ci : Nat} (hci : ci < 10) (hw : Cond.classLink own i (kv_cn.getD ci "") ∈ lw_tbl) (hcells : cells + 1 ≤ R.cells) (hslots : slots + kv_N ci ≤ R.slots) (hd : decode cc pc = .ok (.new i, 3)) {st : List Value}
    (kk : ∀ (H1 : Heap), kv_rep g (kv_mkc σ ci (kv_N ci)) H1 → va_S (kv_A g) s.heap H1 locs → W p l e R s m args below meth c H1 locs (cells + 1) (slots + kv_N ci) Q (F0 m (pc + 3) ls ((Value.ref (8 + kv_n σ) :: st).map (kv_cv g)))) : W p l e R s m args below meth c H locs cells slots Q (F0 m pc ls (st.map (kv_cv g))) := by
  obtain ⟨C, hcl, hcn⟩ := kv_cl_at hci
  have hC : kv_cn.getD ci "" = C := by rw [List.getD_eq_getElem?_getD, hcn]; rfl
  rw [hC] at hw
  obtain ⟨m1, m2⟩ := kv_made hci C hcn
  have hz := hR.2.2 (8 + kv_n σ) (Nat.le_refl _)
  have hce := kv_ce_obj g (kv_mkc_sh σ ci (kv_N ci)) hci
  refine va_new (D := kv_D g) (ci := ci) (fs := (List.range (kv_N ci)).map (fun k => kv_fv g (kv_mkc σ ci (kv_N ci)) ci (8 + kv_n σ) k)) (C := C) (T := kv_T ci) (N := kv_N ci) (Ts := u_ws C (kv_T ci) (kv_N ci)) hx hb (fun w hw => hts w (kv_lays_in hci C hcn w hw) (kv_lay_good w hw)) (fun _ h => h) (kv_ty0 ci) (fun k hk => (kv_ty0_ok hci hk).1) hown (hts _ hw rfl) (hts _ m1 rfl) (hts _ m2 rfl) hI.1 hR.1 (kv_D_ok g σ) hS (fun q hq => Nat.le_trans hbase hq) hcl ?_ hcells hslots hd (fun q H1 hP hD hS1 => ?_)
  · intro j hj
    have e1 : vp_V ((List.range (kv_N ci)).map (fun k => kv_fv g (kv_mkc σ ci (kv_N ci)) ci (8 + kv_n σ) k)) j = kv_fv g (kv_mkc σ ci (kv_N ci)) ci (8 + kv_n σ) j := by simp [vp_V, hj]
    rw [e1]
    have e2 : kv_i (kv_mkc σ ci (kv_N ci)) = kv_i σ := rfl
    have e3 : kv_l (kv_mkc σ ci (kv_N ci)) = kv_l σ := rfl
    have e4 : kv_r (kv_mkc σ ci (kv_N ci)) = kv_r σ := rfl
    obtain ⟨z1, z2, z3⟩ := hz j
    unfold kv_fv
    rw [e2, e3, e4, z1, z2, z3]
    rcases (kv_ty0_ok hci hj).2 with ⟨t1, t2⟩ | ⟨t1, t2⟩ | ⟨⟨n, t1⟩ | ⟨n, t1⟩, t2⟩ | ⟨t1, t2⟩ <;> rw [t1, t2] <;> rfl
  · rw [← hce] at hP hD
    refine kv_place hs0 hP hD hR.2 (fun hq hR1 => ?_)
    subst hq
    exact kk H1 hR1 hS1
theorem kv_zero_i (hR : kv_rep g σ H) : kv_i σ (8 + kv_n σ) = fun _ => 0 := by funext k; exact (hR.2.2 _ (Nat.le_refl _) k).1
theorem kv_zero_l (hR : kv_rep g σ H) : kv_l σ (8 + kv_n σ) = fun _ => 0 := by funext k; exact (hR.2.2 _ (Nat.le_refl _) k).2.1
theorem kv_zero_r (hR : kv_rep g σ H) : kv_r σ (8 + kv_n σ) = fun _ => none := by funext k; exact (hR.2.2 _ (Nat.le_refl _) k).2.2
theorem kq_na (hx : p.tables.exec = Jvm.exec) (hb : c.code = cc) (hts : ∀ w ∈ lw_tbl, goodWord w = true → w.before args s = true) (hI : kv_inv g s) (hR : kv_rep g σ H) (hS : va_S (kv_A g) s.heap H locs) (hbase : g.1 ≤ s.heap.size) (hs0 : s.heap.size + cells = g.1 + kv_n σ)
    {ty : ArrayType} {n : Int32} (ht : kv_at ty < 16) (hn : ¬ n < 0) (hn2 : n.toNatClampNeg ≤ 10000) (hcells : cells + 1 ≤ R.cells) (hslots : slots + n.toNatClampNeg ≤ R.slots) (hd : decode cc pc = .ok (.newarray ty, 2)) {st : List Value}
    (kk : ∀ (H1 : Heap), kv_rep g (kv_mkc σ (kv_at ty) n.toNatClampNeg) H1 → va_S (kv_A g) s.heap H1 locs → W p l e R s m args below meth c H1 locs (cells + 1) (slots + n.toNatClampNeg) Q (F0 m (pc + 2) ls ((Value.ref (8 + kv_n σ) :: st).map (kv_cv g)))) : W p l e R s m args below meth c H locs cells slots Q (F0 m pc ls ((Value.int n :: st).map (kv_cv g))) := by
  have hce := kv_ce_arr g (σ := kv_mkc σ (kv_at ty) n.toNatClampNeg) (a := 8 + kv_n σ) (t := kv_at ty) (by rw [kv_mkc_sh]) (by cases ty <;> first | decide | (exact absurd ht (by decide)))
  rw [kv_mkc_sh] at hce
  have e2 : kv_i (kv_mkc σ (kv_at ty) n.toNatClampNeg) (8 + kv_n σ) = fun _ => 0 := kv_zero_i hR
  have e3 : kv_l (kv_mkc σ (kv_at ty) n.toNatClampNeg) (8 + kv_n σ) = fun _ => 0 := kv_zero_l hR
  have key : ∀ (ft : FieldType) (t0 : Nat), newarray.typeOf ty = ft → (∀ C, ft ≠ .object C) → Cond.arrayClass ft ∈ lw_tbl → (kv_tys g)[t0]? = some (g.2.2.1 (kv_at ty), ft) → (∀ cA : ClassId, vp_cell cA (n.toNatClampNeg, kv_ar g (kv_mkc σ (kv_at ty) n.toNatClampNeg) (kv_at ty) (8 + kv_n σ)) = arrV cA n.toNatClampNeg (fun _ => defaultValue ft)) → componentBytes ft ≤ 8 → W p l e R s m args below meth c H locs cells slots Q (F0 m pc ls ((Value.int n :: st).map (kv_cv g))) := by
    intro ft t0 hft hno hin htys hcell hby
    refine va_newa (D := kv_D g) hx hb (atype := ty) (by rw [hft]; exact hts _ hin rfl) hft hI.1 hR.1 (kv_D_ok g σ) hS (fun q hq => Nat.le_trans hbase hq) hcell hn rfl (Nat.le_trans (Nat.mul_le_mul hn2 hby) (by decide)) hcells hslots hd (fun q cA H1 hK1 hP hD hS1 => ?_)
    have r1 := (hK1.2 6 (cA, ft) (by rw [List.getElem?_append_right (by simp [kv_tys])]; simp [kv_tys])).2
    have r2 := (hI.1.2 t0 _ htys).2
    have hcA : cA = g.2.2.1 (kv_at ty) := by
      unfold va_RA at r1 r2
      cases ft <;> first | exact absurd rfl (hno _) | exact Option.some.inj (r1.symm.trans r2)
    rw [hcA, ← hce] at hP hD
    refine kv_place hs0 hP hD hR.2 (fun hq hR1 => ?_)
    subst hq
    exact kk H1 hR1 hS1
  cases ty with
  | int => exact key .int 0 rfl (fun C h => by cases h) (by decide +kernel) rfl (fun cA => by unfold kv_ar; rw [e2]; rfl) (by decide)
  | long => exact key .long 1 rfl (fun C h => by cases h) (by decide +kernel) rfl (fun cA => by unfold kv_ar; rw [e3]; rfl) (by decide)
  | boolean => exact key .boolean 2 rfl (fun C h => by cases h) (by decide +kernel) rfl (fun cA => by unfold kv_ar; rw [e2]; rfl) (by decide)
  | byte => exact key .byte 3 rfl (fun C h => by cases h) (by decide +kernel) rfl (fun cA => by unfold kv_ar; rw [e2]; rfl) (by decide)
  | _ => exact absurd ht (by decide)
theorem kq_nq (hx : p.tables.exec = Jvm.exec) (hb : c.code = cc) {own : String} (hown : s.vm.findClass own = some m.cls) (hts : ∀ w ∈ lw_tbl, goodWord w = true → w.before args s = true) (hI : kv_inv g s) (hR : kv_rep g σ H) (hS : va_S (kv_A g) s.heap H locs) (hbase : g.1 ≤ s.heap.size) (hs0 : s.heap.size + cells = g.1 + kv_n σ)
    {i t : Nat} {C : String} (hw : Cond.classLink own i C ∈ lw_tbl) (hover : Cond.arrayOver (.object C) ∈ lw_tbl) (ht : 14 ≤ t) (htys : (kv_tys g)[t - 10]? = some (g.2.2.1 t, .object C)) {n : Int32} (hn : ¬ n < 0) (hn2 : n.toNatClampNeg ≤ 10000) (hcells : cells + 1 ≤ R.cells) (hslots : slots + n.toNatClampNeg ≤ R.slots) (hd : decode cc pc = .ok (.anewarray i, 3)) {st : List Value}
    (kk : ∀ (H1 : Heap), kv_rep g (kv_mkc σ t n.toNatClampNeg) H1 → va_S (kv_A g) s.heap H1 locs → W p l e R s m args below meth c H1 locs (cells + 1) (slots + n.toNatClampNeg) Q (F0 m (pc + 3) ls ((Value.ref (8 + kv_n σ) :: st).map (kv_cv g)))) : W p l e R s m args below meth c H locs cells slots Q (F0 m pc ls ((Value.int n :: st).map (kv_cv g))) := by
  have hce := kv_ce_arr g (σ := kv_mkc σ t n.toNatClampNeg) (a := 8 + kv_n σ) (t := t) (by rw [kv_mkc_sh]) (by omega)
  rw [kv_mkc_sh] at hce
  have e4 : kv_r (kv_mkc σ t n.toNatClampNeg) (8 + kv_n σ) = fun _ => none := kv_zero_r hR
  refine va_newq (D := kv_D g) hx hb hown (hts _ hw rfl) (hI.2.2 _ hover rfl) hI.1 hR.1 (kv_D_ok g σ) hS (fun q hq => Nat.le_trans hbase hq) hn rfl (Nat.le_trans (Nat.mul_le_mul hn2 (Nat.le_refl 4)) (by decide)) hcells hslots hd (fun q cA H1 hK1 hP hD hS1 => ?_)
  have r1 := (hK1.2 6 (cA, .object C) (by rw [List.getElem?_append_right (by simp [kv_tys])]; simp [kv_tys])).2
  have r2 := (hI.1.2 _ _ htys).2
  have hcA : cA = g.2.2.1 t := by
    obtain ⟨_, _, -, -, -, q1⟩ := r1
    obtain ⟨_, _, -, -, -, q2⟩ := r2
    exact Option.some.inj (q1.symm.trans q2)
  have har : kv_ar g (kv_mkc σ t n.toNatClampNeg) t (8 + kv_n σ) = .inr (.inr (.inr (.inr (fun _ => none)))) := by
    unfold kv_ar
    rw [if_neg (by omega), if_neg (by omega), e4]
    rfl
  rw [har] at hce
  rw [hcA, ← hce] at hP hD
  refine kv_place hs0 hP hD hR.2 (fun hq hR1 => ?_)
  subst hq
  exact kk H1 hR1 hS1
end KVN

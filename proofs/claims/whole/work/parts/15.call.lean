set_option maxRecDepth 100000 in
theorem kv_w_obj : Cond.instanceMethod objectInit ∈ lw_tbl ∧ Cond.code objectInit ⟨#[0xb1]⟩ 1 none ∈ lw_tbl := ⟨List.mem_of_getElem? (i := 77) rfl, List.mem_of_getElem? (i := 78) rfl⟩
set_option maxRecDepth 100000 in
theorem kv_w_acp : Cond.native arraycopyName ∈ lw_tbl ∧ Cond.static arraycopyName ∈ lw_tbl ∧ Cond.initialized "java/lang/System" ∈ lw_tbl := ⟨List.mem_of_getElem? (i := 734) rfl, List.mem_of_getElem? (i := 733) rfl, List.mem_of_getElem? (i := 70) rfl⟩
set_option maxRecDepth 100000 in
theorem kv_w_max : Cond.static Lib.Math.max.name ∈ lw_tbl ∧ Cond.initialized "java/lang/Math" ∈ lw_tbl ∧ Cond.code Lib.Math.max.name Lib.Math.max.code 2 (some .int) ∈ lw_tbl := ⟨List.mem_of_getElem? (i := 381) rfl, List.mem_of_getElem? (i := 67) rfl, List.mem_of_getElem? (i := 382) rfl⟩
set_option maxRecDepth 100000 in
theorem kv_w_min : Cond.static Lib.Math.min.name ∈ lw_tbl ∧ Cond.code Lib.Math.min.name Lib.Math.min.code 2 (some .int) ∈ lw_tbl := ⟨List.mem_of_getElem? (i := 341) rfl, List.mem_of_getElem? (i := 342) rfl⟩
set_option maxRecDepth 100000 in
theorem kv_w_minl : Cond.static Lib.MathLoose.min_long.x ∈ lw_tbl ∧ Cond.code Lib.MathLoose.min_long.x Lib.MathLoose.min_long.code 4 (some .long) ∈ lw_tbl := ⟨List.mem_of_getElem? (i := 554) rfl, List.mem_of_getElem? (i := 555) rfl⟩
theorem kv_cat_sum (g : kv_G) (r : List Value) : ((r.map (kv_cv g)).map fun v => v.category).sum = (r.map fun v => v.category).sum := by
  congr 1
  rw [List.map_map]
  apply List.map_congr_left
  intro v _
  exact kv_cv_cat g v
section KVI
variable {p : Program} {l : Launch} {e : Env} {R : Room} {s : State} {m : MethodId} {args : Array Value} {below : List Frame} {meth : Method} {c : Code} {H : Heap} {locs : List Loc} {cells slots : Nat} {Q : State → Prop}
variable {pc : Nat} {ls : Array Slot} {g : kv_G} {σ : kv_S} {M : Nat} {q : MethodName × ByteArray × Nat × Option FieldType}
theorem kq_int (hX : kv_X g M q p s m args meth c) (hR : kv_rep g σ H) (hS : va_S (kv_A g) s.heap H locs) {E : kv_E} (hins : kv_ins M pc = some E) {lsA st : List Value} (hl : kv_L g ls q.2.2.1 lsA) {z : List Value × kv_S} (h : kv_int E st σ = some z) (hf : 1 ≤ R.frames) (hlo : 64 ≤ R.locals) (hcells : cells ≤ R.cells) (hslots : slots ≤ R.slots)
    (kk : ∀ (H1 : Heap) (locs1 : List Loc), kv_rep g z.2 H1 → va_S (kv_A g) s.heap H1 locs1 → W p l e R s m args below meth c H1 locs1 cells slots Q (F0 m (pc + 3) ls (z.1.map (kv_cv g)))) : W p l e R s m args below meth c H locs cells slots Q (F0 m pc ls (st.map (kv_cv g))) := by
  obtain ⟨hd0, hw, hok, hokl⟩ := kv_row hins hX.1
  obtain ⟨-, hx, hb, hml, hown, hts, hin, hI, hbase⟩ := hX
  have hsz : c.maxLocals = ls.size := by rw [hml]; exact hl.1.1.symm
  obtain ⟨i, n0, a0, b0⟩ := E
  unfold kv_int at h
  dsimp only at h hd0
  split at h
  · rename_i idx
    have hl3 : n0 = 3 := of_decide_eq_true hokl
    subst hl3
    split at h
    · rename_i ha
      subst ha
      split at h
      · split at h
        · rename_i a r hc
          cases h
          have hc := of_decide_eq_true hc
          refine W.objInit hx hb hown (hts _ (hw _ List.mem_cons_self) rfl) (hts _ kv_w_obj.1 rfl) (hts _ kv_w_obj.2 rfl) rfl hsz.symm rfl hd0 hf ?_ (kk H locs hR hS)
          show 2 * 0 + _ + 12 ≤ R.locals
          rw [kv_cat_sum]
          omega
        · cases h
      · cases h
    · cases h
  · rename_i idx
    have hl3 : n0 = 3 := of_decide_eq_true hokl
    subst hl3
    split at h
    · split at h
      · split at h
        · rename_i n dp b sp a r hc
          cases h
          obtain ⟨hw8, ha8, hb8, hta, htb, h1, h2, h3, h4, h5⟩ := hc
          have hw8 := of_decide_eq_true hw8
          have hea := kv_ws_at g σ ha8 (kv_lift8 hR (a := a) (by rw [hta]; decide) ha8)
          have hlb := kv_lift8 hR (a := b) (by rw [htb]; decide) hb8
          have heb := kv_ws_at g σ hb8 hlb
          rw [kv_ce_arr g hta (by decide)] at hea
          rw [kv_ce_arr g htb (by decide)] at heb
          refine va_copyi (ty := .int) hx hb hsz hown (hts _ (hw _ List.mem_cons_self) rfl) (hts _ kv_w_acp.1 rfl) (hts _ kv_w_acp.2.1 rfl) (hts _ kv_w_acp.2.2 rfl) hI.1 hR.1 (kv_D_ok g σ) hS (a - 8) (b - 8) 0 0 hea heb rfl rfl rfl h1 h2 h3 h4 h5 (fun _ _ => rfl) hf (by rw [kv_cat_sum]; show _ + (7 + 11) ≤ _; omega) hd0 (fun H1 locs1 hP1 hD1 hS1 => ?_)
          have hce : ∀ b', b' ≠ b → kv_ce g (σ.1, kv_cpm σ.2.1 a b sp.toNatClampNeg dp.toNatClampNeg n.toNatClampNeg, σ.2.2) b' = kv_ce g σ b' := by
            intro b' hb'
            have e1 : kv_i (σ.1, kv_cpm σ.2.1 a b sp.toNatClampNeg dp.toNatClampNeg n.toNatClampNeg, σ.2.2) b' = kv_i σ b' := by funext j; show kv_cpm _ _ _ _ _ _ b' j = _; unfold kv_cpm; rw [if_neg hb']; rfl
            have e2 : kv_sh (σ.1, kv_cpm σ.2.1 a b sp.toNatClampNeg dp.toNatClampNeg n.toNatClampNeg, σ.2.2) = kv_sh σ := rfl
            have e3 : kv_l (σ.1, kv_cpm σ.2.1 a b sp.toNatClampNeg dp.toNatClampNeg n.toNatClampNeg, σ.2.2) = kv_l σ := rfl
            have e4 : kv_r (σ.1, kv_cpm σ.2.1 a b sp.toNatClampNeg dp.toNatClampNeg n.toNatClampNeg, σ.2.2) = kv_r σ := rfl
            simp only [kv_ce, kv_fv, kv_ar, e1, e2, e3, e4]
          have hnew : ((kv_ad g b, .inl (g.2.2.1 10, (kv_sh σ b).2, .inl (va_cpy (kv_i σ a) (kv_i σ b) sp.toNatClampNeg dp.toNatClampNeg n.toNatClampNeg))) : Nat × va_E) = (kv_ad g b, kv_ce g (σ.1, kv_cpm σ.2.1 a b sp.toNatClampNeg dp.toNatClampNeg n.toNatClampNeg, σ.2.2) b) := by
            rw [kv_ce_arr g (σ := (σ.1, kv_cpm σ.2.1 a b sp.toNatClampNeg dp.toNatClampNeg n.toNatClampNeg, σ.2.2)) (a := b) (t := 10) htb (by decide)]
            have e1 : kv_i (σ.1, kv_cpm σ.2.1 a b sp.toNatClampNeg dp.toNatClampNeg n.toNatClampNeg, σ.2.2) b = va_cpy (kv_i σ a) (kv_i σ b) sp.toNatClampNeg dp.toNatClampNeg n.toNatClampNeg := by funext j; show kv_cpm _ _ _ _ _ _ b j = _; unfold kv_cpm; rw [if_pos rfl]; rfl
            unfold kv_ar
            rw [e1]
            rfl
          rw [hnew, kv_ws_set g (σ := σ) (τ := (σ.1, kv_cpm σ.2.1 a b sp.toNatClampNeg dp.toNatClampNeg n.toNatClampNeg, σ.2.2)) hb8 rfl hce] at hP1
          refine kk H1 locs1 ⟨hP1, hR.2.1, fun b' hb' k => ?_⟩ hS1
          have hne : b' ≠ b := by
            have : 8 + kv_n σ ≤ b' := hb'
            intro e1
            rw [e1] at this
            exact absurd hlb (Nat.not_lt.mpr this)
          have e1 : kv_i (σ.1, kv_cpm σ.2.1 a b sp.toNatClampNeg dp.toNatClampNeg n.toNatClampNeg, σ.2.2) b' = kv_i σ b' := by funext j; show kv_cpm _ _ _ _ _ _ b' j = _; unfold kv_cpm; rw [if_neg hne]; rfl
          rw [e1]
          exact hR.2.2 b' hb' k
        · cases h
      · cases h
    · split at h
      · split at h
        · rename_i y x r hc
          cases h
          have hc := of_decide_eq_true hc
          exact va_mmax hx hb hsz hown (hts _ (hw _ List.mem_cons_self) rfl) (hts _ kv_w_max.1 rfl) (hts _ kv_w_max.2.1 rfl) (hts _ kv_w_max.2.2 rfl) hf (by rw [kv_cat_sum]; omega) hcells hslots hd0 (kk H locs hR hS)
        · cases h
      · cases h
    · split at h
      · split at h
        · rename_i y x r hc
          cases h
          have hc := of_decide_eq_true hc
          exact va_mmin hx hb hsz hown (hts _ (hw _ List.mem_cons_self) rfl) (hts _ kv_w_min.1 rfl) (hts _ kv_w_max.2.1 rfl) (hts _ kv_w_min.2 rfl) hf (by rw [kv_cat_sum]; omega) hcells hslots hd0 (kk H locs hR hS)
        · cases h
      · cases h
    · split at h
      · split at h
        · rename_i y x r hc
          cases h
          have hc := of_decide_eq_true hc
          exact va_mmin_long hx hb hsz hown (hts _ (hw _ List.mem_cons_self) rfl) (hts _ kv_w_minl.1 rfl) (hts _ kv_w_max.2.1 rfl) (hts _ kv_w_minl.2 rfl) hf (by rw [kv_cat_sum]; omega) hcells hslots hd0 (kk H locs hR hS)
        · cases h
      · cases h
    · cases h
  · cases h
end KVI

/-! ===== the machine does what the evaluator does: writes, new cells, calls of what has no code ===== -/
theorem kv_map_set {α : Type} {f f' : Nat → α} {N k : Nat} {v : α} (hv : f' k = v) (ho : ∀ j, j ≠ k → f' j = f j) : ((List.range N).map f).set k v = (List.range N).map f' := by
  apply List.ext_getElem?
  intro j
  rw [List.getElem?_set]
  by_cases hj : j < N
  · by_cases e : k = j
    · subst e
      rw [if_pos rfl, if_pos (by simpa using hj)]
      simp [hj, hv]
    · rw [if_neg e]
      simp [hj, ho j (fun q => e q.symm)]
  · by_cases e : k = j
    · subst e
      rw [if_pos rfl, if_neg (by simpa using hj)]
      simp [hj]
    · rw [if_neg e]
      simp [hj]
section KVW
variable {p : Program} {l : Launch} {e : Env} {R : Room} {s : State} {m : MethodId} {args : Array Value} {below : List Frame} {meth : Method} {c : Code} {H : Heap} {locs : List Loc} {cells slots : Nat} {Q : State → Prop}
variable {cc : ByteArray} {pc : Nat} {ls : Array Slot} {g : kv_G} {σ : kv_S}
theorem kv_si_ce (g : kv_G) (σ : kv_S) (a k : Nat) (x : Int32) {b : Nat} (h : b ≠ a) : kv_ce g (kv_si σ a k x) b = kv_ce g σ b := by
  have e1 : kv_i (kv_si σ a k x) b = kv_i σ b := kv_up_row σ.2.1 a k x h
  have e2 : kv_sh (kv_si σ a k x) = kv_sh σ := rfl
  have e3 : kv_l (kv_si σ a k x) = kv_l σ := rfl
  have e4 : kv_r (kv_si σ a k x) = kv_r σ := rfl
  simp only [kv_ce, kv_fv, kv_ar, e1, e2, e3, e4]
theorem kv_sl_ce (g : kv_G) (σ : kv_S) (a k : Nat) (x : Int64) {b : Nat} (h : b ≠ a) : kv_ce g (kv_sl σ a k x) b = kv_ce g σ b := by
  have e1 : kv_l (kv_sl σ a k x) b = kv_l σ b := kv_up_row σ.2.2.1 a k x h
  have e2 : kv_sh (kv_sl σ a k x) = kv_sh σ := rfl
  have e3 : kv_i (kv_sl σ a k x) = kv_i σ := rfl
  have e4 : kv_r (kv_sl σ a k x) = kv_r σ := rfl
  simp only [kv_ce, kv_fv, kv_ar, e1, e2, e3, e4]
theorem kv_sr_ce (g : kv_G) (σ : kv_S) (a k : Nat) (x : Option Nat) {b : Nat} (h : b ≠ a) : kv_ce g (kv_sr σ a k x) b = kv_ce g σ b := by
  have e1 : kv_r (kv_sr σ a k x) b = kv_r σ b := kv_up_row σ.2.2.2 a k x h
  have e2 : kv_sh (kv_sr σ a k x) = kv_sh σ := rfl
  have e3 : kv_i (kv_sr σ a k x) = kv_i σ := rfl
  have e4 : kv_l (kv_sr σ a k x) = kv_l σ := rfl
  simp only [kv_ce, kv_fv, kv_ar, e1, e2, e3, e4]
theorem kv_si_pur {a k : Nat} {x : Int32} (h : kv_pur σ) (ha : a < 8 + kv_n σ) : kv_pur (kv_si σ a k x) := by
  refine ⟨h.1, fun b hb j => ?_⟩
  have hb' : 8 + kv_n σ ≤ b := hb
  have e1 : kv_i (kv_si σ a k x) b = kv_i σ b := kv_up_row σ.2.1 a k x (by omega)
  rw [e1]
  exact h.2 b hb' j
theorem kv_sl_pur {a k : Nat} {x : Int64} (h : kv_pur σ) (ha : a < 8 + kv_n σ) : kv_pur (kv_sl σ a k x) := by
  refine ⟨h.1, fun b hb j => ?_⟩
  have hb' : 8 + kv_n σ ≤ b := hb
  have e1 : kv_l (kv_sl σ a k x) b = kv_l σ b := kv_up_row σ.2.2.1 a k x (by omega)
  rw [e1]
  exact h.2 b hb' j
theorem kv_sr_pur {a k : Nat} {x : Option Nat} (h : kv_pur σ) (ha : a < 8 + kv_n σ) : kv_pur (kv_sr σ a k x) := by
  refine ⟨h.1, fun b hb j => ?_⟩
  have hb' : 8 + kv_n σ ≤ b := hb
  have e1 : kv_r (kv_sr σ a k x) b = kv_r σ b := kv_up_row σ.2.2.2 a k x (by omega)
  rw [e1]
  exact h.2 b hb' j
theorem kv_si_low (σ : kv_S) {a : Nat} (k : Nat) (x : Int32) (h : 8 ≤ a) : kv_low σ (kv_si σ a k x) := fun b hb => ⟨rfl, kv_up_row σ.2.1 a k x (by omega), rfl⟩
theorem kv_sl_low (σ : kv_S) {a : Nat} (k : Nat) (x : Int64) (h : 8 ≤ a) : kv_low σ (kv_sl σ a k x) := fun b hb => ⟨rfl, rfl, kv_up_row σ.2.2.1 a k x (by omega)⟩
theorem kv_sr_low (σ : kv_S) (a k : Nat) (x : Option Nat) : kv_low σ (kv_sr σ a k x) := fun b hb => ⟨rfl, rfl, rfl⟩
/-- one word is put into a field, whichever -/
theorem kq_put (hx : p.tables.exec = Jvm.exec) (hb : c.code = cc) {own : String} (hown : s.vm.findClass own = some m.cls) (hts : ∀ w ∈ lw_tbl, goodWord w = true → w.before args s = true) (hI : kv_inv g s) (hR : kv_rep g σ H) (hC : kv_con g σ s) (hS : va_S (kv_A g) s.heap H locs)
    {i ci k : Nat} (hw : Cond.fieldLink own i (kv_T ci k).1 (kv_T ci k).2.1 (kv_T ci k).2.2.1 ∈ lw_tbl) (hci : ci < 10) (hk : k < kv_N ci) (hfin : (kv_T ci k).2.2.2 = true → meth.name = "<init>" ∧ (kv_T ci k).1 = own) (hd : decode cc pc = .ok (.putfield i, 3))
    {a : Nat} (hsh : kv_sh σ a = (ci, kv_N ci)) {τ : kv_S} {v : Value} (hn : narrow (kv_ty0 ci k) v = v) (hfit : fits (kv_ty0 ci k) v = true) (ht1 : kv_sh τ = kv_sh σ) (ht2 : kv_n τ = kv_n σ) (hto : ∀ b, b ≠ a → kv_ce g τ b = kv_ce g σ b) (hv1 : kv_fv g τ ci a k = v) (hv2 : ∀ j, j ≠ k → kv_fv g τ ci a j = kv_fv g σ ci a j) (htp : kv_pur τ) {rest : List Value}
    (kk : ∀ (H1 : Heap) (locs1 : List Loc), kv_rep g τ H1 → va_S (kv_A g) s.heap H1 locs1 → W p l e R s m args below meth c H1 locs1 cells slots Q (F0 m (pc + 3) ls rest)) : W p l e R s m args below meth c H locs cells slots Q (F0 m pc ls (v :: .ref (kv_ad g a) :: rest)) := by
  obtain ⟨C, hcl, hcn⟩ := kv_cl_at hci
  have h8 := kv_heap hR hC (a := a) (by rw [hsh]; show ci < 16; omega) (by rw [hsh]; show ci ≠ 10; omega) (by rw [hsh]; show ci ≠ 11; omega)
  have he := kv_ws_at g σ h8.1 h8.2
  rw [kv_ce_obj g hsh hci] at he
  have htw : ∀ w ∈ u_ws C (kv_T ci) (kv_N ci), w.before args s = true := fun w hw => hts w (kv_lays_in hci C hcn w hw) (kv_lay_good w hw)
  have hnew : (kv_ad g a, (.inr (ci, ((List.range (kv_N ci)).map (fun k => kv_fv g σ ci a k)).set k v) : va_E)) = (kv_ad g a, kv_ce g τ a) := by
    rw [kv_ce_obj g (by rw [ht1]; exact hsh) hci, kv_map_set hv1 hv2]
  by_cases hf : (kv_T ci k).2.2.2 = true
  · obtain ⟨f1, f2⟩ := hfin hf
    refine va_putF (D := kv_D g) (ci := ci) (C := C) (T := kv_T ci) (N := kv_N ci) hx hb htw (fun _ h => h) (kv_ty0 ci) (fun k hk => (kv_ty0_ok hci hk).1) (kv_names hci) hown hI.1 hR.1 (kv_D_ok g σ) hS (a - 8) he hcl k hk (hts _ hw rfl) (fun _ h => h) hf f1 f2 (kv_ty0_ok hci hk).1 hn hfit (by simpa using hk) hd (fun H1 locs1 hP1 hD1 hS1 => ?_)
    rw [hnew, kv_ws_set g h8.1 ht2 hto] at hP1
    exact kk H1 locs1 ⟨hP1, htp⟩ hS1
  · refine va_put (D := kv_D g) (ci := ci) (C := C) (T := kv_T ci) (N := kv_N ci) hx hb htw (fun _ h => h) (kv_ty0 ci) (fun k hk => (kv_ty0_ok hci hk).1) (kv_names hci) hown hI.1 hR.1 (kv_D_ok g σ) hS (a - 8) he hcl k hk (hts _ hw rfl) (fun _ h => h) (by simpa using hf) (kv_ty0_ok hci hk).1 hn hfit (by simpa using hk) hd (fun H1 locs1 hP1 hD1 hS1 => ?_)
    rw [hnew, kv_ws_set g h8.1 ht2 hto] at hP1
    exact kk H1 locs1 ⟨hP1, htp⟩ hS1
theorem kq_pf (hx : p.tables.exec = Jvm.exec) (hb : c.code = cc) {own : String} (hown : s.vm.findClass own = some m.cls) (hts : ∀ w ∈ lw_tbl, goodWord w = true → w.before args s = true) (hI : kv_inv g s) (hR : kv_rep g σ H) (hC : kv_con g σ s) (hS : va_S (kv_A g) s.heap H locs)
    {i ci k : Nat} (hw : Cond.fieldLink own i (kv_T ci k).1 (kv_T ci k).2.1 (kv_T ci k).2.2.1 ∈ lw_tbl) (hci : ci < 10) (hk : k < kv_N ci) (hfin : (kv_T ci k).2.2.2 = true → meth.name = "<init>" ∧ (kv_T ci k).1 = own) (hd : decode cc pc = .ok (.putfield i, 3))
    {st : List Value} {q : List Value × kv_S} (h : kv_pf ci k st σ = some q)
    (kk : ∀ (H1 : Heap) (locs1 : List Loc), kv_rep g q.2 H1 → va_S (kv_A g) s.heap H1 locs1 → W p l e R s m args below meth c H1 locs1 cells slots Q (F0 m (pc + 3) ls (q.1.map (kv_cv g)))) : W p l e R s m args below meth c H locs cells slots Q (F0 m pc ls (st.map (kv_cv g))) := by
  have hty := (kv_ty0_ok hci hk).2
  unfold kv_pf at h
  split at h
  · split at h
    · rename_i x a r hc
      cases h
      obtain ⟨-, hsh, hkd⟩ := hc
      have h8 := kv_heap hR hC (a := a) (by rw [hsh]; show ci < 16; omega) (by rw [hsh]; show ci ≠ 10; omega) (by rw [hsh]; show ci ≠ 11; omega)
      refine kq_put hx hb hown hts hI hR hC hS hw hci hk hfin hd hsh (τ := kv_si σ a k x) (v := .int x) ?_ ?_ rfl rfl (fun b hb => kv_si_ce g σ a k x hb) ?_ ?_ (kv_si_pur hR.2 h8.2) kk
      · rcases hkd with hkd | ⟨hkd, rfl | rfl⟩
        · rcases hty with ⟨t1, t2⟩ | ⟨t1, t2⟩ | ⟨t1, t2⟩ | ⟨t1, t2⟩ <;> rw [hkd] at t2 <;> first | (exact absurd t2 (by decide)) | (rw [t1]; rfl)
        · rcases hty with ⟨t1, t2⟩ | ⟨t1, t2⟩ | ⟨t1, t2⟩ | ⟨t1, t2⟩ <;> rw [hkd] at t2 <;> first | (exact absurd t2 (by decide)) | (rw [t1]; rfl)
        · rcases hty with ⟨t1, t2⟩ | ⟨t1, t2⟩ | ⟨t1, t2⟩ | ⟨t1, t2⟩ <;> rw [hkd] at t2 <;> first | (exact absurd t2 (by decide)) | (rw [t1]; rfl)
      · rcases hkd with hkd | ⟨hkd, rfl | rfl⟩
        · rcases hty with ⟨t1, t2⟩ | ⟨t1, t2⟩ | ⟨t1, t2⟩ | ⟨t1, t2⟩ <;> rw [hkd] at t2 <;> first | (exact absurd t2 (by decide)) | (rw [t1]; rfl)
        · rcases hty with ⟨t1, t2⟩ | ⟨t1, t2⟩ | ⟨t1, t2⟩ | ⟨t1, t2⟩ <;> rw [hkd] at t2 <;> first | (exact absurd t2 (by decide)) | (rw [t1]; rfl)
        · rcases hty with ⟨t1, t2⟩ | ⟨t1, t2⟩ | ⟨t1, t2⟩ | ⟨t1, t2⟩ <;> rw [hkd] at t2 <;> first | (exact absurd t2 (by decide)) | (rw [t1]; rfl)
      · have e1 : kv_i (kv_si σ a k x) a k = x := kv_up_self σ.2.1 a k x
        unfold kv_fv
        rcases hkd with hkd | ⟨hkd, -⟩ <;> rw [hkd] <;> simp only [e1]
      · intro j hj
        have e1 : kv_i (kv_si σ a k x) a j = kv_i σ a j := by show kv_up σ.2.1 a k x a j = _; simp [kv_up, hj, kv_i]
        have e3 : kv_l (kv_si σ a k x) = kv_l σ := rfl
        have e4 : kv_r (kv_si σ a k x) = kv_r σ := rfl
        simp only [kv_fv, e1, e3, e4]
    · cases h
  · split at h
    · rename_i x a r hc
      cases h
      obtain ⟨-, hsh, hkd⟩ := hc
      have h8 := kv_heap hR hC (a := a) (by rw [hsh]; show ci < 16; omega) (by rw [hsh]; show ci ≠ 10; omega) (by rw [hsh]; show ci ≠ 11; omega)
      refine kq_put hx hb hown hts hI hR hC hS hw hci hk hfin hd hsh (τ := kv_sl σ a k x) (v := .long x) ?_ ?_ rfl rfl (fun b hb => kv_sl_ce g σ a k x hb) ?_ ?_ (kv_sl_pur hR.2 h8.2) kk
      · rcases hty with ⟨t1, t2⟩ | ⟨t1, t2⟩ | ⟨t1, t2⟩ | ⟨t1, t2⟩ <;> rw [hkd] at t2 <;> first | (exact absurd t2 (by decide)) | (rw [t1]; rfl)
      · rcases hty with ⟨t1, t2⟩ | ⟨t1, t2⟩ | ⟨t1, t2⟩ | ⟨t1, t2⟩ <;> rw [hkd] at t2 <;> first | (exact absurd t2 (by decide)) | (rw [t1]; rfl)
      · have e1 : kv_l (kv_sl σ a k x) a k = x := kv_up_self σ.2.2.1 a k x
        unfold kv_fv
        rw [hkd]
        simp only [e1]
      · intro j hj
        have e1 : kv_l (kv_sl σ a k x) a j = kv_l σ a j := by show kv_up σ.2.2.1 a k x a j = _; simp [kv_up, hj, kv_l]
        have e3 : kv_i (kv_sl σ a k x) = kv_i σ := rfl
        have e4 : kv_r (kv_sl σ a k x) = kv_r σ := rfl
        simp only [kv_fv, e1, e3, e4]
    · cases h
  · split at h
    · rename_i x a r hc
      cases h
      obtain ⟨-, hsh, hkd⟩ := hc
      have h8 := kv_heap hR hC (a := a) (by rw [hsh]; show ci < 16; omega) (by rw [hsh]; show ci ≠ 10; omega) (by rw [hsh]; show ci ≠ 11; omega)
      refine kq_put hx hb hown hts hI hR hC hS hw hci hk hfin hd hsh (τ := kv_sr σ a k (some x)) (v := .ref (kv_ad g x)) ?_ ?_ rfl rfl (fun b hb => kv_sr_ce g σ a k (some x) hb) ?_ ?_ (kv_sr_pur hR.2 h8.2) kk
      · rcases hty with ⟨t1, t2⟩ | ⟨t1, t2⟩ | ⟨t1, t2⟩ | ⟨t1, t2⟩ <;> rw [hkd] at t2 <;> first | (exact absurd t2 (by decide)) | (rcases t1 with ⟨n, t1⟩ | ⟨n, t1⟩ <;> rw [t1] <;> rfl)
      · rcases hty with ⟨t1, t2⟩ | ⟨t1, t2⟩ | ⟨t1, t2⟩ | ⟨t1, t2⟩ <;> rw [hkd] at t2 <;> first | (exact absurd t2 (by decide)) | (rcases t1 with ⟨n, t1⟩ | ⟨n, t1⟩ <;> rw [t1] <;> rfl)
      · have e1 : kv_r (kv_sr σ a k (some x)) a k = some x := kv_up_self σ.2.2.2 a k (some x)
        unfold kv_fv
        rw [hkd]
        simp only [e1]
        rfl
      · intro j hj
        have e1 : kv_r (kv_sr σ a k (some x)) a j = kv_r σ a j := by show kv_up σ.2.2.2 a k (some x) a j = _; simp [kv_up, hj, kv_r]
        have e3 : kv_i (kv_sr σ a k (some x)) = kv_i σ := rfl
        have e4 : kv_l (kv_sr σ a k (some x)) = kv_l σ := rfl
        simp only [kv_fv, e1, e3, e4]
    · cases h
  · cases h
theorem kq_is (hx : p.tables.exec = Jvm.exec) (hb : c.code = cc) (hI : kv_inv g s) (hR : kv_rep g σ H) (hS : va_S (kv_A g) s.heap H locs) (hd : decode cc pc = .ok (.iastore, 1))
    {st : List Value} {q : List Value × kv_S} (h : kv_is st σ = some q)
    (kk : ∀ (H1 : Heap) (locs1 : List Loc), kv_rep g q.2 H1 → va_S (kv_A g) s.heap H1 locs1 → W p l e R s m args below meth c H1 locs1 cells slots Q (F0 m (pc + 1) ls (q.1.map (kv_cv g)))) : W p l e R s m args below meth c H locs cells slots Q (F0 m pc ls (st.map (kv_cv g))) := by
  unfold kv_is at h
  split at h
  · split at h
    · rename_i x i a r hc
      cases h
      obtain ⟨h0, h1, h2, h3⟩ := hc
      have h8 := kv_lift8 hR (a := a) (by omega) h0
      have he := kv_ws_at g σ h0 h8
      rw [kv_ce_arr g h1 (by omega)] at he
      have hin : vp_in i (kv_sh σ a).2 := fun q => q.elim h2 (fun q => by omega)
      refine va_iast hx hb hI.1 hR.1 (kv_D_ok g σ) hS (a - 8) 0 he rfl hin hd (fun H1 locs1 hP1 hD1 hS1 => ?_)
      have hnew : ((kv_ad g a, .inl (g.2.2.1 10, (kv_sh σ a).2, .inl (upd (kv_i σ a) i.toNatClampNeg x))) : Nat × va_E) = (kv_ad g a, kv_ce g (kv_si σ a i.toNatClampNeg x) a) := by
        rw [kv_ce_arr g (σ := kv_si σ a i.toNatClampNeg x) (a := a) (t := 10) h1 (by omega)]
        have e1 : kv_i (kv_si σ a i.toNatClampNeg x) a = upd (kv_i σ a) i.toNatClampNeg x := kv_up_upd σ.2.1 a _ x
        unfold kv_ar
        rw [e1]
        rfl
      rw [hnew, kv_ws_set g (σ := σ) (τ := kv_si σ a i.toNatClampNeg x) h0 rfl (fun b hb => kv_si_ce g σ a _ x hb)] at hP1
      exact kk H1 locs1 ⟨hP1, kv_si_pur hR.2 h8⟩ hS1
    · cases h
  · cases h
theorem kq_las (hx : p.tables.exec = Jvm.exec) (hb : c.code = cc) (hI : kv_inv g s) (hR : kv_rep g σ H) (hS : va_S (kv_A g) s.heap H locs) (hd : decode cc pc = .ok (.lastore, 1))
    {st : List Value} {q : List Value × kv_S} (h : kv_las st σ = some q)
    (kk : ∀ (H1 : Heap) (locs1 : List Loc), kv_rep g q.2 H1 → va_S (kv_A g) s.heap H1 locs1 → W p l e R s m args below meth c H1 locs1 cells slots Q (F0 m (pc + 1) ls (q.1.map (kv_cv g)))) : W p l e R s m args below meth c H locs cells slots Q (F0 m pc ls (st.map (kv_cv g))) := by
  unfold kv_las at h
  split at h
  · split at h
    · rename_i x i a r hc
      cases h
      obtain ⟨h0, h1, h2, h3⟩ := hc
      have h8 := kv_lift8 hR (a := a) (by omega) h0
      have he := kv_ws_at g σ h0 h8
      rw [kv_ce_arr g h1 (by omega)] at he
      have hin : vp_in i (kv_sh σ a).2 := fun q => q.elim h2 (fun q => by omega)
      refine va_last hx hb hI.1 hR.1 (kv_D_ok g σ) hS (a - 8) 1 he rfl hin hd (fun H1 locs1 hP1 hD1 hS1 => ?_)
      have hnew : ((kv_ad g a, .inl (g.2.2.1 11, (kv_sh σ a).2, .inr (.inl (vp_updL (kv_l σ a) i.toNatClampNeg x)))) : Nat × va_E) = (kv_ad g a, kv_ce g (kv_sl σ a i.toNatClampNeg x) a) := by
        rw [kv_ce_arr g (σ := kv_sl σ a i.toNatClampNeg x) (a := a) (t := 11) h1 (by omega)]
        have e1 : kv_l (kv_sl σ a i.toNatClampNeg x) a = vp_updL (kv_l σ a) i.toNatClampNeg x := kv_up_updL σ.2.2.1 a _ x
        unfold kv_ar
        rw [e1]
        rfl
      rw [hnew, kv_ws_set g (σ := σ) (τ := kv_sl σ a i.toNatClampNeg x) h0 rfl (fun b hb => kv_sl_ce g σ a _ x hb)] at hP1
      exact kk H1 locs1 ⟨hP1, kv_sl_pur hR.2 h8⟩ hS1
    · cases h
  · cases h
theorem kq_bs (hx : p.tables.exec = Jvm.exec) (hb : c.code = cc) (hI : kv_inv g s) (hR : kv_rep g σ H) (hS : va_S (kv_A g) s.heap H locs) (hd : decode cc pc = .ok (.bastore, 1))
    {st : List Value} {q : List Value × kv_S} (h : kv_bs st σ = some q)
    (kk : ∀ (H1 : Heap) (locs1 : List Loc), kv_rep g q.2 H1 → va_S (kv_A g) s.heap H1 locs1 → W p l e R s m args below meth c H1 locs1 cells slots Q (F0 m (pc + 1) ls (q.1.map (kv_cv g)))) : W p l e R s m args below meth c H locs cells slots Q (F0 m pc ls (st.map (kv_cv g))) := by
  unfold kv_bs at h
  split at h
  · split at h
    · rename_i x i a r hc
      cases h
      obtain ⟨h0, h1, h2, h3⟩ := hc
      have h8 := kv_lift8 hR (a := a) (by omega) h0
      have he := kv_ws_at g σ h0 h8
      have hin : vp_in i (kv_sh σ a).2 := fun q => q.elim h2 (fun q => by omega)
      rcases h1 with ⟨h1, hn⟩ | ⟨h1, hn⟩
      · rw [kv_ce_arr g h1 (by omega)] at he
        refine va_zast hx hb hI.1 hR.1 (kv_D_ok g σ) hS (a - 8) 2 he rfl hin hd (fun H1 locs1 hP1 hD1 hS1 => ?_)
        have hnew : ((kv_ad g a, .inl (g.2.2.1 12, (kv_sh σ a).2, .inl (upd (kv_i σ a) i.toNatClampNeg x))) : Nat × va_E) = (kv_ad g a, kv_ce g (kv_si σ a i.toNatClampNeg x) a) := by
          rw [kv_ce_arr g (σ := kv_si σ a i.toNatClampNeg x) (a := a) (t := 12) h1 (by omega)]
          have e1 : kv_i (kv_si σ a i.toNatClampNeg x) a = upd (kv_i σ a) i.toNatClampNeg x := kv_up_upd σ.2.1 a _ x
          unfold kv_ar
          rw [e1]
          rfl
        rw [hn, hnew, kv_ws_set g (σ := σ) (τ := kv_si σ a i.toNatClampNeg x) h0 rfl (fun b hb => kv_si_ce g σ a _ x hb)] at hP1
        exact kk H1 locs1 ⟨hP1, kv_si_pur hR.2 h8⟩ hS1
      · rw [kv_ce_arr g h1 (by omega)] at he
        refine va_bast hx hb hI.1 hR.1 (kv_D_ok g σ) hS (a - 8) 3 he rfl hin hd (fun H1 locs1 hP1 hD1 hS1 => ?_)
        have hnew : ((kv_ad g a, .inl (g.2.2.1 13, (kv_sh σ a).2, .inl (upd (kv_i σ a) i.toNatClampNeg x))) : Nat × va_E) = (kv_ad g a, kv_ce g (kv_si σ a i.toNatClampNeg x) a) := by
          rw [kv_ce_arr g (σ := kv_si σ a i.toNatClampNeg x) (a := a) (t := 13) h1 (by omega)]
          have e1 : kv_i (kv_si σ a i.toNatClampNeg x) a = upd (kv_i σ a) i.toNatClampNeg x := kv_up_upd σ.2.1 a _ x
          unfold kv_ar
          rw [e1]
          rfl
        rw [hn, hnew, kv_ws_set g (σ := σ) (τ := kv_si σ a i.toNatClampNeg x) h0 rfl (fun b hb => kv_si_ce g σ a _ x hb)] at hP1
        exact kk H1 locs1 ⟨hP1, kv_si_pur hR.2 h8⟩ hS1
    · cases h
  · cases h
theorem kv_rmap (g : kv_G) (f : Nat → Nat → Option Nat) (a k x : Nat) : (fun j => (kv_up f a k (some x) a j).map (kv_ad g)) = va_up (fun j => (f a j).map (kv_ad g)) k (some (kv_ad g x)) := by
  funext j
  by_cases h : j = k <;> simp [kv_up, va_up, h]
theorem kq_as (hx : p.tables.exec = Jvm.exec) (hb : c.code = cc) (hI : kv_inv g s) (hR : kv_rep g σ H) (hS : va_S (kv_A g) s.heap H locs) (hd : decode cc pc = .ok (.aastore, 1))
    {st : List Value} {q : List Value × kv_S} (h : kv_as st σ = some q)
    (kk : ∀ (H1 : Heap) (locs1 : List Loc), kv_rep g q.2 H1 → va_S (kv_A g) s.heap H1 locs1 → W p l e R s m args below meth c H1 locs1 cells slots Q (F0 m (pc + 1) ls (q.1.map (kv_cv g)))) : W p l e R s m args below meth c H locs cells slots Q (F0 m pc ls (st.map (kv_cv g))) := by
  unfold kv_as at h
  split at h
  · split at h
    · rename_i x i a r hc
      cases h
      obtain ⟨h0, hx0, h1, h2, h3⟩ := hc
      have h8 := kv_lift8 hR (a := a) (by omega) h0
      have he := kv_ws_at g σ h0 h8
      have hin : vp_in i (kv_sh σ a).2 := fun q => q.elim h2 (fun q => by omega)
      rcases h1 with ⟨h1, hn⟩ | ⟨h1, hn⟩
      · rw [kv_ce_arr g h1 (by omega)] at he
        have h8x := kv_lift8 hR (a := x) (by rw [hn]; decide) hx0
        have hex := kv_ws_at g σ hx0 h8x
        rw [kv_ce_obj g hn (by decide)] at hex
        refine va_astq (D := kv_D g) (cl := kv_cl) hx hb hI.1 hR.1 (kv_D_ok g σ) hS (a - 8) 4 (x - 8) 5 (r := ("LogicSmith$Table", kv_T 5, 4)) he rfl hex rfl hin hd (fun H1 locs1 hP1 hD1 hS1 => ?_)
        have hnew : ((kv_ad g a, .inl (g.2.2.1 14, (kv_sh σ a).2, .inr (.inr (.inr (.inr (va_up (fun j => (kv_r σ a j).map (kv_ad g)) i.toNatClampNeg (some (kv_ad g x)))))))) : Nat × va_E) = (kv_ad g a, kv_ce g (kv_sr σ a i.toNatClampNeg (some x)) a) := by
          rw [kv_ce_arr g (σ := kv_sr σ a i.toNatClampNeg (some x)) (a := a) (t := 14) h1 (by omega)]
          unfold kv_ar
          rw [← kv_rmap]
          rfl
        rw [hnew, kv_ws_set g (σ := σ) (τ := kv_sr σ a i.toNatClampNeg (some x)) h0 rfl (fun b hb => kv_sr_ce g σ a _ _ hb)] at hP1
        exact kk H1 locs1 ⟨hP1, kv_sr_pur hR.2 h8⟩ hS1
      · rw [kv_ce_arr g h1 (by omega)] at he
        have h8x := kv_lift8 hR (a := x) (by rw [hn]; decide) hx0
        have hex := kv_ws_at g σ hx0 h8x
        rw [kv_ce_obj g hn (by decide)] at hex
        refine va_astq (D := kv_D g) (cl := kv_cl) hx hb hI.1 hR.1 (kv_D_ok g σ) hS (a - 8) 5 (x - 8) 2 (r := ("LogicSmith$Net", kv_T 2, 7)) he rfl hex rfl hin hd (fun H1 locs1 hP1 hD1 hS1 => ?_)
        have hnew : ((kv_ad g a, .inl (g.2.2.1 15, (kv_sh σ a).2, .inr (.inr (.inr (.inr (va_up (fun j => (kv_r σ a j).map (kv_ad g)) i.toNatClampNeg (some (kv_ad g x)))))))) : Nat × va_E) = (kv_ad g a, kv_ce g (kv_sr σ a i.toNatClampNeg (some x)) a) := by
          rw [kv_ce_arr g (σ := kv_sr σ a i.toNatClampNeg (some x)) (a := a) (t := 15) h1 (by omega)]
          unfold kv_ar
          rw [← kv_rmap]
          rfl
        rw [hnew, kv_ws_set g (σ := σ) (τ := kv_sr σ a i.toNatClampNeg (some x)) h0 rfl (fun b hb => kv_sr_ce g σ a _ _ hb)] at hP1
        exact kk H1 locs1 ⟨hP1, kv_sr_pur hR.2 h8⟩ hS1
    · cases h
  · cases h
end KVW

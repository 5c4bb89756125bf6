/-! ===== the machine does what the evaluator does: memory ===== -/
theorem kv_fin10 {P : Nat → Prop} (h0 : P 0) (h1 : P 1) (h2 : P 2) (h3 : P 3) (h4 : P 4) (h5 : P 5) (h6 : P 6) (h7 : P 7) (h8 : P 8) (h9 : P 9) {c : Nat} (hc : c < 10) : P c := by
  match c, hc with
  | 0, _ => exact h0
  | 1, _ => exact h1
  | 2, _ => exact h2
  | 3, _ => exact h3
  | 4, _ => exact h4
  | 5, _ => exact h5
  | 6, _ => exact h6
  | 7, _ => exact h7
  | 8, _ => exact h8
  | 9, _ => exact h9
theorem kv_lays_in {c : Nat} (hc : c < 10) : ∀ C, kv_cn[c]? = some C → ∀ w ∈ u_ws C (kv_T c) (kv_N c), w ∈ lw_tbl := by
  refine kv_fin10 (P := fun c => ∀ C, kv_cn[c]? = some C → ∀ w ∈ u_ws C (kv_T c) (kv_N c), w ∈ lw_tbl) ?_ ?_ ?_ ?_ ?_ ?_ ?_ ?_ ?_ ?_ hc
  · intro C h; cases h; exact kf_0
  · intro C h; cases h; exact kf_1
  · intro C h; cases h; exact kf_2
  · intro C h; cases h; exact kf_3
  · intro C h; cases h; exact kf_4
  · intro C h; cases h; exact kf_5
  · intro C h; cases h; exact kf_6
  · intro C h; cases h; exact kf_7
  · intro C h; cases h; exact kf_8
  · intro C h; cases h; exact kf_9
theorem kv_names {c : Nat} (hc : c < 10) : ∀ a, a < kv_N c → ∀ b, b < kv_N c → a ≠ b → (kv_T c a).2.1 ≠ (kv_T c b).2.1 :=
  kv_fin10 (P := fun c => ∀ a, a < kv_N c → ∀ b, b < kv_N c → a ≠ b → (kv_T c a).2.1 ≠ (kv_T c b).2.1) kn_0 kn_1 kn_2 kn_3 kn_4 kn_5 kn_6 kn_7 kn_8 kn_9 hc
theorem kv_made {c : Nat} (hc : c < 10) : ∀ C, kv_cn[c]? = some C → Cond.instantiable C (kv_N c) ∈ lw_tbl ∧ Cond.initialized C ∈ lw_tbl := by
  refine kv_fin10 (P := fun c => ∀ C, kv_cn[c]? = some C → Cond.instantiable C (kv_N c) ∈ lw_tbl ∧ Cond.initialized C ∈ lw_tbl) ?_ ?_ ?_ ?_ ?_ ?_ ?_ ?_ ?_ ?_ hc
  · intro C h; cases h; exact kp_0
  · intro C h; cases h; exact kp_1
  · intro C h; cases h; exact kp_2
  · intro C h; cases h; exact kp_3
  · intro C h; cases h; exact kp_4
  · intro C h; cases h; exact kp_5
  · intro C h; cases h; exact kp_6
  · intro C h; cases h; exact kp_7
  · intro C h; cases h; exact kp_8
  · intro C h; cases h; exact kp_9
def kv_pd (c k : Nat) : Bool := match parseFieldDescriptor (kv_T c k).2.2.1, kv_kd c k with
  | some .int, 0 => true
  | some .long, 1 => true
  | some (.object _), 2 => true
  | some (.array _), 2 => true
  | some .boolean, 3 => true
  | _, _ => false
theorem kv_pd_ok : ∀ c, c < 10 → ∀ k, k < kv_N c → kv_pd c k = true := by decide +kernel
def kv_ty0 (c k : Nat) : FieldType := (parseFieldDescriptor (kv_T c k).2.2.1).getD .int
theorem kv_ty0_ok {c k : Nat} (hc : c < 10) (hk : k < kv_N c) : parseFieldDescriptor (kv_T c k).2.2.1 = some (kv_ty0 c k) ∧ ((kv_ty0 c k = .int ∧ kv_kd c k = 0) ∨ (kv_ty0 c k = .long ∧ kv_kd c k = 1) ∨ (((∃ n, kv_ty0 c k = .object n) ∨ ∃ t, kv_ty0 c k = .array t) ∧ kv_kd c k = 2) ∨ (kv_ty0 c k = .boolean ∧ kv_kd c k = 3)) := by
  have h := kv_pd_ok c hc k hk
  unfold kv_pd at h
  unfold kv_ty0
  split at h
  · rename_i h1 h2; rw [h1]; exact ⟨rfl, Or.inl ⟨rfl, h2⟩⟩
  · rename_i h1 h2; rw [h1]; exact ⟨rfl, Or.inr (Or.inl ⟨rfl, h2⟩)⟩
  · rename_i h1 h2; rw [h1]; exact ⟨rfl, Or.inr (Or.inr (Or.inl ⟨Or.inl ⟨_, rfl⟩, h2⟩))⟩
  · rename_i h1 h2; rw [h1]; exact ⟨rfl, Or.inr (Or.inr (Or.inl ⟨Or.inr ⟨_, rfl⟩, h2⟩))⟩
  · rename_i h1 h2; rw [h1]; exact ⟨rfl, Or.inr (Or.inr (Or.inr ⟨rfl, h2⟩))⟩
  · cases h
theorem kv_lay_good {C : String} {T : u_T} {N : Nat} : ∀ w ∈ u_ws C T N, goodWord w = true := by
  intro w hw
  obtain ⟨k, -, rfl⟩ := List.mem_map.mp hw
  unfold u_lay
  split <;> rfl
theorem kv_tys_at (g : kv_G) {t : Nat} (h : 10 ≤ t) (h2 : t < 16) : ∃ ty, (kv_tys g)[t - 10]? = some (g.2.2.1 t, ty) := by
  have : t = 10 ∨ t = 11 ∨ t = 12 ∨ t = 13 ∨ t = 14 ∨ t = 15 := by omega
  rcases this with rfl | rfl | rfl | rfl | rfl | rfl <;> exact ⟨_, rfl⟩
theorem kv_cv_lo (g : kv_G) {a : Nat} (h : a < 8) : kv_cv g (.ref a) = .ref (g.2.1 a) := by simp only [kv_cv, kv_ad, if_pos h]
section KVM
variable {p : Program} {l : Launch} {e : Env} {R : Room} {s : State} {m : MethodId} {args : Array Value} {below : List Frame} {meth : Method} {c : Code} {H : Heap} {locs : List Loc} {cells slots : Nat} {Q : State → Prop}
variable {cc : ByteArray} {pc : Nat} {ls : Array Slot} {g : kv_G} {σ : kv_S}
theorem kv_where (hR : kv_rep g σ H) {a : Nat} (h : (kv_sh σ a).1 < 16) : a < 7 ∨ (8 ≤ a ∧ a < 8 + kv_n σ) := hR.2.1 a h
theorem kv_heap (hR : kv_rep g σ H) (hC : kv_con g σ s) {a : Nat} (h : (kv_sh σ a).1 < 16) (h2 : (kv_sh σ a).1 ≠ 10) (h3 : (kv_sh σ a).1 ≠ 11) : 8 ≤ a ∧ a < 8 + kv_n σ := by
  rcases kv_where hR h with h7 | h8
  · rcases (hC a h7).1 with q | q
    · exact absurd q h2
    · exact absurd q h3
  · exact h8
theorem kv_lift8 (hR : kv_rep g σ H) {a : Nat} (h : (kv_sh σ a).1 < 16) (h8 : 8 ≤ a) : a < 8 + kv_n σ := by
  rcases kv_where hR h with q | q
  · omega
  · exact q.2
/-- what the machine has at a method's start: its words, its classes, the statics -/
def kv_inv (g : kv_G) (U : State) : Prop := va_K (kv_D g) kv_cl (kv_tys g) U ∧ (∀ k q, kv_sn[k]? = some q → va_Z q.1 q.2.1 q.2.2 (.ref (g.2.1 k)) (kv_A g) U U.heap) ∧ (∀ w ∈ lw_tbl, kv_isN w = true → va_Nw w U)
theorem kq_gf (hx : p.tables.exec = Jvm.exec) (hb : c.code = cc) {own : String} (hown : s.vm.findClass own = some m.cls) (hts : ∀ w ∈ lw_tbl, goodWord w = true → w.before args s = true) (hI : kv_inv g s) (hR : kv_rep g σ H) (hC : kv_con g σ s)
    {i ci k : Nat} (hw : Cond.fieldLink own i (kv_T ci k).1 (kv_T ci k).2.1 (kv_T ci k).2.2.1 ∈ lw_tbl) (hci : ci < 10) (hk : k < kv_N ci) (hd : decode cc pc = .ok (.getfield i, 3)) {st st' : List Value} (h : kv_gf ci k st σ = some st')
    (kk : W p l e R s m args below meth c H locs cells slots Q (F0 m (pc + 3) ls (st'.map (kv_cv g)))) : W p l e R s m args below meth c H locs cells slots Q (F0 m pc ls (st.map (kv_cv g))) := by
  unfold kv_gf at h
  split at h
  · split at h
    · rename_i a r hsh
      cases h
      obtain ⟨C, hcl, hcn⟩ := kv_cl_at hci
      have h8 := kv_heap hR hC (a := a) (by rw [hsh]; show ci < 16; omega) (by rw [hsh]; show ci ≠ 10; omega) (by rw [hsh]; show ci ≠ 11; omega)
      have he := kv_ws_at g σ h8.1 h8.2
      rw [kv_ce_obj g hsh hci] at he
      refine va_get (D := kv_D g) (ci := ci) (C := C) (T := kv_T ci) (N := kv_N ci) (Ts := u_ws C (kv_T ci) (kv_N ci)) (v := kv_fv g σ ci a k) hx hb (fun w hw => hts w (kv_lays_in hci C hcn w hw) (kv_lay_good w hw)) (fun _ h => h) hown hI.1 hR.1 (a - 8) he hcl k hk (hts _ hw rfl) (fun _ h => h) (by simp [hk]) hd ?_
      rw [← kv_fd_cv]
      exact kk
    · cases h
  · cases h
theorem kq_al (hx : p.tables.exec = Jvm.exec) (hb : c.code = cc) (hI : kv_inv g s) (hR : kv_rep g σ H) (hC : kv_con g σ s) (hS : va_S (kv_A g) s.heap H locs) (hd : decode cc pc = .ok (.arraylength, 1)) {st st' : List Value} (h : kv_al st σ = some st')
    (kk : W p l e R s m args below meth c H locs cells slots Q (F0 m (pc + 1) ls (st'.map (kv_cv g)))) : W p l e R s m args below meth c H locs cells slots Q (F0 m pc ls (st.map (kv_cv g))) := by
  unfold kv_al at h
  split at h
  · split at h
    · rename_i a r hsh
      cases h
      rcases kv_where hR hsh.2 with h7 | h8
      · have hT := (hC a h7).2
        have e1 : kv_cv g (.ref a) = .ref (g.2.1 a) := kv_cv_lo g (Nat.lt_succ_of_lt h7)
        rw [List.map_cons, e1]
        exact va_tlen hx hb hT hS rfl hd kk
      · have he := kv_ws_at g σ h8.1 h8.2
        rw [kv_ce_arr g rfl hsh.1] at he
        obtain ⟨ty, hty⟩ := kv_tys_at g hsh.1 hsh.2
        exact va_alen hx hb hI.1 hR.1 (a - 8) _ he hty rfl hd kk
    · cases h
  · cases h
theorem kq_ia (hx : p.tables.exec = Jvm.exec) (hb : c.code = cc) (hI : kv_inv g s) (hR : kv_rep g σ H) (hC : kv_con g σ s) (hS : va_S (kv_A g) s.heap H locs) (hd : decode cc pc = .ok (.iaload, 1)) {st st' : List Value} (h : kv_ia st σ = some st')
    (kk : W p l e R s m args below meth c H locs cells slots Q (F0 m (pc + 1) ls (st'.map (kv_cv g)))) : W p l e R s m args below meth c H locs cells slots Q (F0 m pc ls (st.map (kv_cv g))) := by
  unfold kv_ia at h
  split at h
  · split at h
    · rename_i i a r hsh
      obtain ⟨h1, h2, h3⟩ := hsh
      cases h
      have hin : vp_in i (kv_sh σ a).2 := fun q => q.elim h2 (fun q => by omega)
      rcases kv_where hR (a := a) (by omega) with h7 | h8
      · have hT := (hC a h7).2
        have e1 : kv_cv g (.ref a) = .ref (g.2.1 a) := kv_cv_lo g (Nat.lt_succ_of_lt h7)
        rw [h1] at hT
        rw [List.map_cons, List.map_cons, e1]
        refine va_ti hx hb hT hS hin (v := .int (kv_i σ a i.toNatClampNeg)) ?_ hd kk
        simp [kv_cval, h1]
      · have he := kv_ws_at g σ h8.1 h8.2
        rw [kv_ce_arr g h1 (by omega)] at he
        exact va_iald hx hb hI.1 hR.1 (a - 8) 0 he rfl hin hd kk
    · cases h
  · cases h
theorem kq_la (hx : p.tables.exec = Jvm.exec) (hb : c.code = cc) (hI : kv_inv g s) (hR : kv_rep g σ H) (hC : kv_con g σ s) (hS : va_S (kv_A g) s.heap H locs) (hd : decode cc pc = .ok (.laload, 1)) {st st' : List Value} (h : kv_la st σ = some st')
    (kk : W p l e R s m args below meth c H locs cells slots Q (F0 m (pc + 1) ls (st'.map (kv_cv g)))) : W p l e R s m args below meth c H locs cells slots Q (F0 m pc ls (st.map (kv_cv g))) := by
  unfold kv_la at h
  split at h
  · split at h
    · rename_i i a r hsh
      obtain ⟨h1, h2, h3⟩ := hsh
      cases h
      have hin : vp_in i (kv_sh σ a).2 := fun q => q.elim h2 (fun q => by omega)
      rcases kv_where hR (a := a) (by omega) with h7 | h8
      · have hT := (hC a h7).2
        have e1 : kv_cv g (.ref a) = .ref (g.2.1 a) := kv_cv_lo g (Nat.lt_succ_of_lt h7)
        rw [h1] at hT
        rw [List.map_cons, List.map_cons, e1]
        refine va_tl hx hb hT hS hin (v := .long (kv_l σ a i.toNatClampNeg)) ?_ hd kk
        simp [kv_cval, h1]
      · have he := kv_ws_at g σ h8.1 h8.2
        rw [kv_ce_arr g h1 (by omega)] at he
        exact va_lald hx hb hI.1 hR.1 (a - 8) 1 he rfl hin hd kk
    · cases h
  · cases h
theorem kq_ba (hx : p.tables.exec = Jvm.exec) (hb : c.code = cc) (hI : kv_inv g s) (hR : kv_rep g σ H) (hd : decode cc pc = .ok (.baload, 1)) {st st' : List Value} (h : kv_ba st σ = some st')
    (kk : W p l e R s m args below meth c H locs cells slots Q (F0 m (pc + 1) ls (st'.map (kv_cv g)))) : W p l e R s m args below meth c H locs cells slots Q (F0 m pc ls (st.map (kv_cv g))) := by
  unfold kv_ba at h
  split at h
  · split at h
    · rename_i i a r hsh
      obtain ⟨h0, h1, h2, h3⟩ := hsh
      cases h
      have hin : vp_in i (kv_sh σ a).2 := fun q => q.elim h2 (fun q => by omega)
      have he := kv_ws_at g σ h0 (kv_lift8 hR (by omega) h0)
      rcases h1 with h1 | h1
      · rw [kv_ce_arr g h1 (by omega)] at he
        exact va_zald hx hb hI.1 hR.1 (a - 8) 2 he rfl hin hd kk
      · rw [kv_ce_arr g h1 (by omega)] at he
        exact va_bald hx hb hI.1 hR.1 (a - 8) 3 he rfl hin hd kk
    · cases h
  · cases h
theorem kq_aa (hx : p.tables.exec = Jvm.exec) (hb : c.code = cc) (hI : kv_inv g s) (hR : kv_rep g σ H) (hd : decode cc pc = .ok (.aaload, 1)) {st st' : List Value} (h : kv_aa st σ = some st')
    (kk : W p l e R s m args below meth c H locs cells slots Q (F0 m (pc + 1) ls (st'.map (kv_cv g)))) : W p l e R s m args below meth c H locs cells slots Q (F0 m pc ls (st.map (kv_cv g))) := by
  unfold kv_aa at h
  split at h
  · split at h
    · rename_i i a r hsh
      obtain ⟨h0, h1, h2, h3⟩ := hsh
      cases h
      have hin : vp_in i (kv_sh σ a).2 := fun q => q.elim h2 (fun q => by omega)
      have he := kv_ws_at g σ h0 (kv_lift8 hR (by omega) h0)
      rw [List.map_cons, kv_rv_cv] at kk
      rcases h1 with h1 | h1
      · rw [kv_ce_arr g h1 (by omega)] at he
        exact va_aldq hx hb hI.1 hR.1 (a - 8) 4 he rfl hin hd kk
      · rw [kv_ce_arr g h1 (by omega)] at he
        exact va_aldq hx hb hI.1 hR.1 (a - 8) 5 he rfl hin hd kk
    · cases h
  · cases h
theorem kq_gs (hx : p.tables.exec = Jvm.exec) (hb : c.code = cc) {own : String} (hown : s.vm.findClass own = some m.cls) (hts : ∀ w ∈ lw_tbl, goodWord w = true → w.before args s = true) (hI : kv_inv g s) (hS : va_S (kv_A g) s.heap H locs)
    {i k b : Nat} {q : String × String × String} (hq : kv_sn[k]? = some q) (hk : k < 6) (hw : (if b = 100 then Cond.fieldLinkNest own i q.1 q.2.1 q.2.2 "LogicSmith" else Cond.fieldLink own i q.1 q.2.1 q.2.2) ∈ lw_tbl) (hd : decode cc pc = .ok (.getstatic i, 3)) {st : List Value}
    (kk : W p l e R s m args below meth c H locs cells slots Q (F0 m (pc + 3) ls ((Value.ref k :: st).map (kv_cv g)))) : W p l e R s m args below meth c H locs cells slots Q (F0 m pc ls (st.map (kv_cv g))) := by
  have hZ := hI.2.1 k q hq
  have e1 : kv_cv g (.ref k) = .ref (g.2.1 k) := kv_cv_lo g (by omega)
  rw [List.map_cons, e1] at kk
  by_cases h : b = 100
  · rw [if_pos h] at hw
    exact va_getsN hx hb hZ hS hown (va_Nw.use rfl (hI.2.2 _ hw rfl)) (fun _ h => h) hd kk
  · rw [if_neg h] at hw
    exact va_gets hx hb hZ hS hown (hts _ hw rfl) (fun _ h => h) hd kk
end KVM

section KVZ
variable {p : Program} {l : Launch} {e : Env} {R : Room} {s : State} {m : MethodId} {args : Array Value} {below : List Frame} {meth : Method} {c : Code} {H : Heap} {locs : List Loc} {cells slots : Nat} {Q : State → Prop}
variable {cc : ByteArray} {pc : Nat} {ls : Array Slot} {g : kv_G} {σ : kv_S}
theorem kv_W_size (hbase : g.1 ≤ s.heap.size) (hs0 : s.heap.size + cells = g.1 + kv_n σ) (hR : kv_rep g σ H) (hS : va_S (kv_A g) s.heap H locs) {g0 : JFrame} (k : H.size = g.1 + kv_n σ → W p l e R s m args below meth c H locs cells slots Q g0) : W p l e R s m args below meth c H locs cells slots Q g0 := by
  intro T hT X
  have h1 : T.heap.size ≤ s.heap.size + cells := X.same.2.2.1
  rw [hT] at h1
  have h2 : g.1 + kv_n σ ≤ H.size := by
    by_cases h0 : 0 < kv_n σ
    · exact hR.size_le h0
    · have := hS.1
      omega
  exact k (by omega) T hT X
/-- behind a call -/
theorem kv_goes {mc ms : Nat} {st0 rest : List Value} {Qa : State → Outcome → State → Prop} {free : Addr → Prop} (hr : va_Run p l e R s m args below meth c H locs cells slots mc ms (F0 m pc ls st0) rest Qa free)
    (kk : ∀ (v : Option Value) (st₀ t : State) (H1 : Heap) (L : List Loc), st₀.heap = H → Qa st₀ (.returned v) t → t.heap = H1 → (∀ q ∈ L, free q.base) → W p l e R s m args below meth c H1 (locs ++ L) (cells + mc) (slots + ms) Q (F0 m (pc + 3) ls (v.toList ++ rest))) : W p l e R s m args below meth c H locs cells slots Q (F0 m pc ls st0) := by
  intro T hT X
  obtain ⟨v, st₀, t, T', L, h0, X', hL, e1, e2, hq, st⟩ := hr T hT X
  obtain ⟨t2, a1, b1⟩ := kk v st₀ t T'.heap L h0 hq e1.symm hL T' rfl X'
  exact ⟨t2, st t2 a1, b1⟩
-- ===== a contract of every method that the evaluator ends
def kv_Pc (g : kv_G) (vs : List Value) (σ : kv_S) : Array Value → State → Prop := fun v U => v = (vs.map (kv_cv g)).toArray ∧ U.heap.size = g.1 + kv_n σ ∧ kv_inv g U ∧ kv_rep g σ U.heap ∧ kv_con g σ U
def kv_Qc (g : kv_G) (r : Option Value) (τ : kv_S) : Array Value → State → Outcome → State → Prop := fun _ st oc t => oc = .returned (r.map (kv_cv g)) ∧ kv_rep g τ t.heap ∧ va_F (kv_A g) st t
def kv_rm (d mc ms : Nat) : Room := { frames := d, cells := mc, slots := ms, locals := 64 * d }
theorem kv_nw_same {w : Jvm.Cond} (hn : kv_isN w = true) {U U' : State} (hvm : U.vm = U'.vm) (h0 : va_Nw w U) : va_Nw w U' := by
  unfold kv_isN at hn
  split at hn
  · exact va_Nw.same rfl hvm h0
  · exact va_Nw.same rfl hvm h0
  · exact va_AO.moved (by rw [hvm]; exact Vm.Alike.refl _) h0
  · cases hn
theorem kv_inv_same {U U' : State} (hvm : U.vm = U'.vm) (hh : U.heap = U'.heap) (h : kv_inv g U) : kv_inv g U' := by
  have ha : U.vm.Alike U'.vm := by rw [hvm]; exact Vm.Alike.refl _
  refine ⟨va_K.moved ha h.1, fun k q hq => ?_, fun w hw hn => kv_nw_same hn hvm (h.2.2 w hw hn)⟩
  rw [← hh]
  exact va_Z.moved ha (h.2.1 k q hq)
theorem kv_con_same {U U' : State} (hvm : U.vm = U'.vm) (hh : U.heap = U'.heap) (h : kv_con g σ U) : kv_con g σ U' := by
  have ha : U.vm.Alike U'.vm := by rw [hvm]; exact Vm.Alike.refl _
  intro k hk
  rw [← hh]
  exact ⟨(h k hk).1, va_T.moved ha (h k hk).2⟩
theorem kv_blind (g : kv_G) (vs : List Value) (σ : kv_S) : FrameBlind (kv_Pc g vs σ) := by
  intro a U f mk ⟨h1, h2, h3, h4, h5⟩
  exact ⟨h1, h2, kv_inv_same (U := U) rfl rfl h3, h4, kv_con_same (U := U) rfl rfl h5⟩
theorem kv_inv_warm (hI : kv_inv g s) (hS : va_S (kv_A g) s.heap H locs) {U : State} (hU : U.heap = H) (hW : s.WarmedH U.vm) : kv_inv g U := by
  refine ⟨va_K.moved hW.alike hI.1, fun k q hq => ?_, fun w hw hn => ?_⟩
  · rw [hU]
    exact va_Z.moved hW.alike ((hI.2.1 k q hq).kept (fun a h1 h2 => hS.2.1 a h1 h2))
  · have h0 := hI.2.2 w hw hn
    unfold kv_isN at hn
    split at hn
    · exact va_Nw.warmF hW h0
    · exact va_Nw.warmM hW h0
    · exact va_AO.moved hW.alike h0
    · cases hn
theorem kv_con_warm (hC : kv_con g σ s) (hS : va_S (kv_A g) s.heap H locs) {U : State} (hU : U.heap = H) (hW : s.WarmedH U.vm) : kv_con g σ U := by
  intro k hk
  rw [hU]
  exact ⟨(hC k hk).1, va_T.moved hW.alike ((hC k hk).2.kept (fun a h1 h2 => hS.2.1 a h1 h2))⟩
theorem kv_good_in (q : MethodName × ByteArray × Nat × Option FieldType) (hc : Cond.code q.1 q.2.1 q.2.2.1 q.2.2.2 ∈ lw_tbl) : GoodIn kv_gt (Cond.code q.1 q.2.1 q.2.2.1 q.2.2.2 :: kv_gt) := by
  intro w hw
  rcases List.mem_cons.mp hw with rfl | hw
  · exact ⟨List.mem_filter.mpr ⟨hc, rfl⟩, good_of_word rfl⟩
  · exact ⟨hw, good_of_word (List.mem_filter.mp hw).2⟩
theorem kv_mk_at {M : Nat} {q : MethodName × ByteArray × Nat × Option FieldType} {k : Bool × Nat} (hq : kv_mt[M]? = some q) (hk : kv_mk[M]? = some k) (h0 : 0 < M) : kv_mok q k := by
  have hz : (kv_mt.zip kv_mk)[M]? = some (q, k) := by
    rw [List.getElem?_zip_eq_some]
    exact ⟨hq, hk⟩
  refine kv_mok_all (q, k) (List.mem_of_getElem? (i := M - 1) ?_)
  rw [List.getElem?_drop, show 1 + (M - 1) = M by omega]
  exact hz
theorem kv_sl2_cons (u : Value) (vs : List Value) : kv_sl2 (u :: vs) = (if u.category = 2 then [u, .null] else [u]) ++ kv_sl2 vs := by simp [kv_sl2]
theorem kv_args_mem (g : kv_G) : ∀ (vs : List Value) (off i : Nat) (v : Value), (kv_sl2 vs)[i]? = some v → v ≠ .null → (off + i, kv_cv g v) ∈ lv_args off (vs.map (kv_cv g))
  | [], off, i, v, h, hn => by simp [kv_sl2] at h
  | u :: vs, off, i, v, h, hn => by
    rw [kv_sl2_cons] at h
    rw [List.map_cons]
    unfold lv_args
    by_cases hc : u.category = 2
    · rw [if_pos hc] at h
      rw [if_pos (by rw [kv_cv_cat]; exact hc)]
      match i, h with
      | 0, h =>
        have e : u = v := by simpa using h
        rw [← e]
        exact List.mem_cons_self
      | 1, h =>
        have e : Value.null = v := by simpa using h
        exact absurd e.symm hn
      | i + 2, h =>
        have h' : (kv_sl2 vs)[i]? = some v := by simpa using h
        have := kv_args_mem g vs (off + 2) i v h' hn
        rw [show off + (i + 2) = off + 2 + i by omega]
        exact List.mem_cons_of_mem _ this
    · rw [if_neg hc] at h
      rw [if_neg (by rw [kv_cv_cat]; exact hc)]
      match i, h with
      | 0, h =>
        have e : u = v := by simpa using h
        rw [← e]
        exact List.mem_cons_self
      | i + 1, h =>
        have h' : (kv_sl2 vs)[i]? = some v := by simpa using h
        have := kv_args_mem g vs (off + 1) i v h' hn
        rw [show off + (i + 1) = off + 1 + i by omega]
        exact List.mem_cons_of_mem _ this
theorem kv_sl2_len (g : kv_G) : ∀ vs : List Value, (lg_sl (vs.map (kv_cv g))).length = (kv_sl2 vs).length
  | [] => rfl
  | u :: vs => by
    have ih := kv_sl2_len g vs
    rw [kv_sl2_cons, List.length_append, List.map_cons, ← ih]
    cases u <;> simp [kv_cv, lg_sl, Value.category] <;> omega
theorem kv_entry (g : kv_G) {q : MethodName × ByteArray × Nat × Option FieldType} {M : Nat} (hq : kv_mt[M]? = some q) {vs : List Value} (hl : (kv_sl2 vs).length ≤ q.2.2.1) (m : MethodId) :
    ∃ lsR : Array Slot, entryFrame m (vs.map (kv_cv g)).toArray q.2.2.1 = F0 m 0 lsR [] ∧ kv_L g lsR q.2.2.1 (kv_ent M vs) := by
  have h0 := lv_entry (vs.map (kv_cv g)) (n := q.2.2.1) (by rw [kv_sl2_len]; exact hl)
  refine ⟨_, lg_entry_eq m (vs.map (kv_cv g)) q.2.2.1, ⟨h0.1, h0.2.1, fun z hz => h0.2.2 z ?_⟩, ?_⟩
  · obtain ⟨i, w⟩ := z
    obtain ⟨v, hv, hn, rfl⟩ := (kv_prs_mem g _ i w).mp hz
    unfold kv_ent at hv
    rw [hq] at hv
    dsimp only at hv
    rcases Nat.lt_or_ge i (kv_sl2 vs).length with h1 | h1
    · rw [List.getElem?_append_left h1] at hv
      have := kv_args_mem g vs 0 i v hv hn
      rwa [Nat.zero_add] at this
    · rw [List.getElem?_append_right h1, List.getElem?_replicate] at hv
      split at hv
      · cases hv; exact absurd rfl hn
      · cases hv
  · unfold kv_ent
    rw [hq]
    simp
    omega
end KVZ

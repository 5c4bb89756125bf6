theorem kv_ret_st {M : Nat} {E : kv_E} {st : List Value} {r : Option Value} (h : kv_ret M E st = some r) : st = r.toList := by
  unfold kv_ret at h
  split at h
  · split at h
    · split at h
      · cases h; rfl
      · cases h
    · cases h
  · split at h
    · split at h
      · cases h; rfl
      · cases h
    · cases h
  · split at h
    · split at h
      · cases h; rfl
      · cases h
    · cases h
  · cases h
theorem kv_rt_1 {M : Nat} {q : MethodName × ByteArray × Nat × Option FieldType} (hq : kv_mt[M]? = some q) (h : kv_rt M = 1) : q.2.2.2 = some .long := by
  unfold kv_rt at h
  rw [hq] at h
  dsimp only at h
  split at h
  · assumption
  · cases h
  · cases h
theorem kv_rt_0 {M : Nat} {q : MethodName × ByteArray × Nat × Option FieldType} (hq : kv_mt[M]? = some q) (h : kv_rt M = 0) : q.2.2.2 = none := by
  unfold kv_rt at h
  rw [hq] at h
  dsimp only at h
  split at h
  · cases h
  · assumption
  · cases h
/-- what the evaluator does, the machine does, in any room that is large enough -/
def kv_Snd (l : Launch) (g : kv_G) (n : Nat) : Prop := ∀ (d M pc : Nat) (lsA st : List Value) (σ : kv_S) (r : Option Value) (τ : kv_S), kv_ev n d M pc lsA st σ = some (r, τ) →
  ∀ (p : Program) (e : Env) (R : Room) (s : State) (m : MethodId) (args : Array Value) (below : List Frame) (meth : Method) (c : Code) (Q : State → Prop) (q : MethodName × ByteArray × Nat × Option FieldType) (n0 z0 : Nat), kv_X g M q p s m args meth c → s.heap.size = g.1 + n0 → d ≤ R.frames → 64 * d ≤ R.locals → kv_n τ - n0 ≤ R.cells → kv_z τ - z0 ≤ R.slots →
  (∀ (H' : Heap) (locs' : List Loc) (pc' : Nat) (ls' : Array Slot) (E' : kv_E), kv_ins M pc' = some E' → kv_ret M E' r.toList = some r → kv_rep g τ H' → va_S (kv_A g) s.heap H' locs' → W p l e R s m args below meth c H' locs' (kv_n τ - n0) (kv_z τ - z0) Q (F0 m pc' ls' (r.toList.map (kv_cv g)))) →
  ∀ (H : Heap) (locs : List Loc) (ls : Array Slot), n0 ≤ kv_n σ → z0 ≤ kv_z σ → kv_rep g σ H → kv_con g σ s → va_S (kv_A g) s.heap H locs → kv_L g ls q.2.2.1 lsA → W p l e R s m args below meth c H locs (kv_n σ - n0) (kv_z σ - z0) Q (F0 m pc ls (st.map (kv_cv g)))
/-- so it meets a contract -/
theorem kv_met {l : Launch} {g : kv_G} {n : Nat} (ih : kv_Snd l g n) {d M : Nat} {vs : List Value} {σ τ : kv_S} {r : Option Value} (h : kv_ev n d M 0 (kv_ent M vs) [] σ = some (r, τ)) {q : MethodName × ByteArray × Nat × Option FieldType} (hq : kv_mt[M]? = some q) (hfit : (kv_sl2 vs).length ≤ q.2.2.1) (hpl : plainName q.1.cls = true) :
    Met l q.1 (Cond.code q.1 q.2.1 q.2.2.1 q.2.2.2 :: kv_gt) (kv_rm d (kv_n τ - kv_n σ) (kv_z τ - kv_z σ)) (kv_Pc g vs σ) (kv_Qc g r τ) (kv_n τ - kv_n σ) (kv_z τ - kv_z σ) (kv_A g) := by
  refine Met.ofW (cc := q.2.1) (maxL := q.2.2.1) (ret := q.2.2.2) hpl rfl ?_
  intro p e s m args below meth c s₁ B hml hv
  obtain ⟨rfl, hsz, hI, hR, hC⟩ := hv
  obtain ⟨lsR, he, hL⟩ := kv_entry g hq hfit m
  rw [he]
  have hts := atoms_spec (ws := Cond.code q.1 q.2.1 q.2.2.1 q.2.2.2 :: kv_gt) B.pre
  have hX : kv_X g M q p s m (vs.map (kv_cv g)).toArray meth c := ⟨hq, B.exec, B.bytes, hml, findClass_of_methodNamed B.named, fun w hw hg => hts w (List.mem_cons_of_mem _ (List.mem_filter.mpr ⟨hw, hg⟩)), fun hn => by rw [(name_of_methodNamed B.named B.method).1]; exact hn, hI, by omega⟩
  have := ih d M 0 (kv_ent M vs) [] σ r τ h p e (kv_rm d (kv_n τ - kv_n σ) (kv_z τ - kv_z σ)) s m (vs.map (kv_cv g)).toArray below meth c (MQ below (kv_Qc g r τ) (vs.map (kv_cv g)).toArray s (kv_n τ - kv_n σ) (kv_z τ - kv_z σ) (kv_A g)) q (kv_n σ) (kv_z σ) hX hsz (Nat.le_refl _) (Nat.le_refl _) (Nat.le_refl _) (Nat.le_refl _) ?_ s.heap [] lsR (Nat.le_refl _) (Nat.le_refl _) hR hC va_S.rf hL
  · rw [Nat.sub_self, Nat.sub_self] at this
    exact this
  · intro H' locs' pc' ls' E' hins hret hR' hS'
    obtain ⟨hd0, -, -, hokl⟩ := kv_row hins hq
    have hrt := B.returns
    have hpost : ∀ t : State, t.heap = H' → s.WarmedH t.vm → kv_Qc g r τ (vs.map (kv_cv g)).toArray s (.returned (r.map (kv_cv g))) t := fun t ht _ => ⟨rfl, by rw [ht]; exact hR', hS'.F ht⟩
    obtain ⟨i, k0, a0, b0⟩ := E'
    unfold kv_ret at hret
    dsimp only at hret hd0
    split at hret
    · have hl1 : k0 = 1 := of_decide_eq_true hokl
      subst hl1
      split at hret
      · split at hret
        · rename_i v hst hok
          cases hret
          unfold kv_rok at hok
          rw [hq] at hok
          dsimp only at hok
          split at hok
          · rename_i hq2
            rw [hq2] at hrt
            exact W.iret B.exec B.bytes hrt hpost hS'.2.2 hd0 B.notSynchronized
          · rename_i hq2
            rw [hq2] at hrt
            refine W.zret B.exec B.bytes hrt ?_ hpost hS'.2.2 hd0 B.notSynchronized
            rcases of_decide_eq_true hok with h1 | h1 <;> rw [h1] <;> rfl
          · cases hok
        · cases hret
      · cases hret
    · have hl1 : k0 = 1 := of_decide_eq_true hokl
      subst hl1
      split at hret
      · split at hret
        · rename_i v hst hrt1
          cases hret
          rw [kv_rt_1 hq hrt1] at hrt
          exact W.lret B.exec B.bytes hrt hpost hS'.2.2 hd0 B.notSynchronized
        · cases hret
      · cases hret
    · have hl1 : k0 = 1 := of_decide_eq_true hokl
      subst hl1
      split at hret
      · split at hret
        · rename_i hst hrt1
          cases hret
          rw [kv_rt_0 hq hrt1] at hrt
          exact W.vret B.exec B.bytes hrt hpost hS'.2.2 hd0 B.notSynchronized
        · cases hret
      · cases hret
    · cases hret

theorem kv_toList_map (g : kv_G) (r : Option Value) (st : List Value) : (r.map (kv_cv g)).toList ++ st.map (kv_cv g) = (r.toList ++ st).map (kv_cv g) := by cases r <;> rfl
/-- behind a call that met its contract -/
theorem kv_back {l : Launch} {g : kv_G} {p : Program} {e : Env} {R : Room} {s : State} {m : MethodId} {args : Array Value} {below : List Frame} {meth : Method} {c : Code} {H : Heap} {locs : List Loc} {cells slots : Nat} {Q : State → Prop} {pc mc ms : Nat} {ls : Array Slot} {st0 rest : List Value} {a : Array Value} {r : Option Value} {τ : kv_S}
    (hS : va_S (kv_A g) s.heap H locs) (hr : va_Run p l e R s m args below meth c H locs cells slots mc ms (F0 m pc ls st0) (rest.map (kv_cv g)) (kv_Qc g r τ a) (kv_A g))
    (kk : ∀ (H1 : Heap) (locs1 : List Loc), kv_rep g τ H1 → va_S (kv_A g) s.heap H1 locs1 → W p l e R s m args below meth c H1 locs1 (cells + mc) (slots + ms) Q (F0 m (pc + 3) ls ((r.toList ++ rest).map (kv_cv g)))) : W p l e R s m args below meth c H locs cells slots Q (F0 m pc ls st0) := by
  refine kv_goes hr (fun v st₀ t H1 L h0 hq ht hL => ?_)
  obtain ⟨h1, h2, h3, h4⟩ := hq
  cases h1
  rw [kv_toList_map]
  rw [ht] at h2 h3 h4
  rw [h0] at h3 h4
  refine kk H1 (locs ++ L) h2 ⟨Nat.le_trans hS.1 h3, fun q hq hA => ?_, fun z hz => ?_⟩
  · rw [h4 q (Nat.lt_of_lt_of_le hq hS.1) hA]
    exact hS.2.1 q hq hA
  · rcases List.mem_append.mp hz with h5 | h5
    · exact hS.2.2 z h5
    · exact hL z h5

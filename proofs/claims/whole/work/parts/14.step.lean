set_option maxRecDepth 100000 in
theorem kv_over_t : Cond.arrayOver (.object "LogicSmith$Table") ∈ lw_tbl := List.mem_of_getElem? (i := 80) rfl
set_option maxRecDepth 100000 in
theorem kv_over_n : Cond.arrayOver (.object "LogicSmith$Net") ∈ lw_tbl := List.mem_of_getElem? (i := 82) rfl
section KVY
variable {p : Program} {l : Launch} {e : Env} {R : Room} {s : State} {m : MethodId} {args : Array Value} {below : List Frame} {meth : Method} {c : Code} {H : Heap} {locs : List Loc} {cells slots : Nat} {Q : State → Prop}
variable {pc : Nat} {ls : Array Slot} {g : kv_G} {σ : kv_S} {M : Nat} {q : MethodName × ByteArray × Nat × Option FieldType}
theorem kv_okL_eq {E : kv_E} (h : kv_okL E = true) (hn : ∀ a b c d, E.1 ≠ .tableswitch a b c d) : E.2.1 = kv_len E.1 := by
  unfold kv_okL at h
  split at h
  · rename_i h1; exact absurd h1 (hn _ _ _ _)
  · exact of_decide_eq_true h
theorem kq_rd (hX : kv_X g M q p s m args meth c) (hR : kv_rep g σ H) (hC : kv_con g σ s) (hS : va_S (kv_A g) s.heap H locs) {E : kv_E} (hd : decode q.2.1 pc = .ok (E.1, kv_len E.1)) (hw : ∀ w ∈ kv_need q.1.cls E, w ∈ lw_tbl) (hok : kv_okE q E = true)
    {st st' : List Value} (h : kv_rd E st σ = some st') (kk : W p l e R s m args below meth c H locs cells slots Q (F0 m (pc + kv_len E.1) ls (st'.map (kv_cv g)))) : W p l e R s m args below meth c H locs cells slots Q (F0 m pc ls (st.map (kv_cv g))) := by
  obtain ⟨-, hx, hb, -, hown, hts, -, hI, -⟩ := hX
  obtain ⟨i, n0, a0, b0⟩ := E
  unfold kv_rd at h
  dsimp only at h hd kk
  split at h
  · simp only [kv_okE, Bool.and_eq_true, decide_eq_true_eq] at hok
    exact kq_gf hx hb hown hts hI hR hC (hw _ List.mem_cons_self) hok.1 hok.2 hd h kk
  · simp only [kv_okE, Bool.and_eq_true, decide_eq_true_eq] at hok
    cases h
    have hk := hok.1
    obtain ⟨qs, hqs⟩ : ∃ qs, kv_sn[a0]? = some qs := ⟨_, List.getElem?_eq_getElem (show a0 < kv_sn.length from hk)⟩
    refine kq_gs (b := b0) hx hb hown hts hI hS hqs hk (hw _ ?_) hd kk
    unfold kv_need
    dsimp only
    rw [hqs]
    exact List.mem_cons_self
  · exact kq_al hx hb hI hR hC hS hd h kk
  · exact kq_ia hx hb hI hR hC hS hd h kk
  · exact kq_la hx hb hI hR hC hS hd h kk
  · exact kq_ba hx hb hI hR hd h kk
  · exact kq_aa hx hb hI hR hd h kk
  · cases h
theorem kq_wr (hX : kv_X g M q p s m args meth c) (hR : kv_rep g σ H) (hC : kv_con g σ s) (hS : va_S (kv_A g) s.heap H locs) {E : kv_E} (hd : decode q.2.1 pc = .ok (E.1, kv_len E.1)) (hw : ∀ w ∈ kv_need q.1.cls E, w ∈ lw_tbl) (hok : kv_okE q E = true)
    {st : List Value} {z : List Value × kv_S} (h : kv_wr E st σ = some z) (kk : ∀ (H1 : Heap) (locs1 : List Loc), kv_rep g z.2 H1 → va_S (kv_A g) s.heap H1 locs1 → W p l e R s m args below meth c H1 locs1 cells slots Q (F0 m (pc + kv_len E.1) ls (z.1.map (kv_cv g)))) : W p l e R s m args below meth c H locs cells slots Q (F0 m pc ls (st.map (kv_cv g))) := by
  obtain ⟨-, hx, hb, -, hown, hts, hin, hI, -⟩ := hX
  obtain ⟨i, n0, a0, b0⟩ := E
  unfold kv_wr at h
  dsimp only at h hd kk
  split at h
  · simp only [kv_okE, Bool.and_eq_true, decide_eq_true_eq, Bool.or_eq_true, Bool.not_eq_true'] at hok
    refine kq_pf hx hb hown hts hI hR hC hS (hw _ List.mem_cons_self) hok.1.1 hok.1.2 (fun hf => ?_) hd h kk
    rcases hok.2 with h1 | h1
    · rw [h1] at hf; cases hf
    · exact ⟨hin h1.1, h1.2⟩
  · exact kq_is hx hb hI hR hS hd h kk
  · exact kq_las hx hb hI hR hS hd h kk
  · exact kq_bs hx hb hI hR hS hd h kk
  · exact kq_as hx hb hI hR hS hd h kk
  · cases h
theorem kv_wr_n {E : kv_E} {st : List Value} {z : List Value × kv_S} (h : kv_wr E st σ = some z) : z.2.1 = σ.1 := by
  unfold kv_wr at h
  split at h
  · unfold kv_pf at h
    split at h
    · split at h
      · cases h; rfl
      · cases h
    · split at h
      · cases h; rfl
      · cases h
    · split at h
      · cases h; rfl
      · cases h
    · cases h
  · unfold kv_is at h
    split at h
    · split at h
      · cases h; rfl
      · cases h
    · cases h
  · unfold kv_las at h
    split at h
    · split at h
      · cases h; rfl
      · cases h
    · cases h
  · unfold kv_bs at h
    split at h
    · split at h
      · cases h; rfl
      · cases h
    · cases h
  · unfold kv_as at h
    split at h
    · split at h
      · cases h; rfl
      · cases h
    · cases h
  · cases h
theorem kq_nw (hX : kv_X g M q p s m args meth c) (hR : kv_rep g σ H) (hS : va_S (kv_A g) s.heap H locs) (hs0 : s.heap.size + cells = g.1 + kv_n σ) {E : kv_E} (hd : decode q.2.1 pc = .ok (E.1, kv_len E.1)) (hw : ∀ w ∈ kv_need q.1.cls E, w ∈ lw_tbl) (hok : kv_okE q E = true)
    {st : List Value} {z : List Value × kv_S} (h : kv_nw E st σ = some z) (hcells : cells + (kv_n z.2 - kv_n σ) ≤ R.cells) (hslots : slots + (kv_z z.2 - kv_z σ) ≤ R.slots)
    (kk : ∀ (H1 : Heap) (locs1 : List Loc), kv_rep g z.2 H1 → va_S (kv_A g) s.heap H1 locs1 → W p l e R s m args below meth c H1 locs1 (cells + (kv_n z.2 - kv_n σ)) (slots + (kv_z z.2 - kv_z σ)) Q (F0 m (pc + kv_len E.1) ls (z.1.map (kv_cv g)))) : W p l e R s m args below meth c H locs cells slots Q (F0 m pc ls (st.map (kv_cv g))) := by
  obtain ⟨-, hx, hb, -, hown, hts, hin, hI, hbase⟩ := hX
  obtain ⟨i, n0, a0, b0⟩ := E
  have e1 : ∀ t n : Nat, kv_n (kv_mkc σ t n) - kv_n σ = 1 := fun t n => by show kv_n σ + 1 - kv_n σ = 1; omega
  have e2 : ∀ t n : Nat, kv_z (kv_mkc σ t n) - kv_z σ = n := fun t n => by show kv_z σ + n - kv_z σ = n; omega
  unfold kv_nw at h
  dsimp only at h hd kk
  split at h
  · simp only [kv_okE, decide_eq_true_eq] at hok
    cases h
    dsimp only at hcells hslots kk
    rw [e1] at hcells kk
    rw [e2] at hslots kk
    exact kq_new hx hb hown hts hI hR hS hbase hs0 hok (hw _ List.mem_cons_self) hcells hslots hd (fun H1 r1 r2 => kk H1 locs r1 r2)
  · rename_i ty
    unfold kv_na at h
    split at h
    · split at h
      · rename_i n r hc
        cases h
        dsimp only at hcells hslots kk
        rw [e1] at hcells kk
        rw [e2] at hslots kk
        exact kq_na hx hb hts hI hR hS hbase hs0 hc.1 hc.2.1 hc.2.2 hcells hslots hd (fun H1 r1 r2 => kk H1 locs r1 r2)
      · cases h
    · cases h
  · split at h
    · rename_i ha
      subst ha
      unfold kv_na at h
      split at h
      · split at h
        · rename_i n r hc
          cases h
          dsimp only at hcells hslots kk
          rw [e1] at hcells kk
          rw [e2] at hslots kk
          exact kq_nq (C := "LogicSmith$Table") hx hb hown hts hI hR hS hbase hs0 (hw _ List.mem_cons_self) kv_over_t (by decide) rfl hc.2.1 hc.2.2 hcells hslots hd (fun H1 r1 r2 => kk H1 locs r1 r2)
        · cases h
      · cases h
    · split at h
      · rename_i ha
        subst ha
        unfold kv_na at h
        split at h
        · split at h
          · rename_i n r hc
            cases h
            dsimp only at hcells hslots kk
            rw [e1] at hcells kk
            rw [e2] at hslots kk
            exact kq_nq (C := "LogicSmith$Net") hx hb hown hts hI hR hS hbase hs0 (hw _ List.mem_cons_self) kv_over_n (by decide) rfl hc.2.1 hc.2.2 hcells hslots hd (fun H1 r1 r2 => kk H1 locs r1 r2)
          · cases h
        · cases h
      · cases h
  · cases h
/-- a step that is no call and no return -/
theorem kq_s1 (hX : kv_X g M q p s m args meth c) (hR : kv_rep g σ H) (hC : kv_con g σ s) (hS : va_S (kv_A g) s.heap H locs) (hs0 : s.heap.size + cells = g.1 + kv_n σ) {E : kv_E} (hins : kv_ins M pc = some E) {lsA st : List Value} (hl : kv_L g ls q.2.2.1 lsA)
    {z : Nat × List Value × List Value × kv_S} (h : kv_s1 E pc lsA st σ = some z) (hcells : cells + (kv_n z.2.2.2 - kv_n σ) ≤ R.cells) (hslots : slots + (kv_z z.2.2.2 - kv_z σ) ≤ R.slots)
    (kk : ∀ (H1 : Heap) (locs1 : List Loc) (ls1 : Array Slot), kv_rep g z.2.2.2 H1 → va_S (kv_A g) s.heap H1 locs1 → kv_L g ls1 q.2.2.1 z.2.1 → W p l e R s m args below meth c H1 locs1 (cells + (kv_n z.2.2.2 - kv_n σ)) (slots + (kv_z z.2.2.2 - kv_z σ)) Q (F0 m z.1 ls1 (z.2.2.1.map (kv_cv g)))) : W p l e R s m args below meth c H locs cells slots Q (F0 m pc ls (st.map (kv_cv g))) := by
  obtain ⟨hd0, hw, hok, hokl⟩ := kv_row hins hX.1
  have hX' := hX
  obtain ⟨-, hx, hb, -, hown, hts, hin, hI, hbase⟩ := hX'
  have hd : (∀ a b c d, E.1 ≠ .tableswitch a b c d) → decode q.2.1 pc = .ok (E.1, kv_len E.1) := fun hn => by rw [← kv_okL_eq hokl hn]; exact hd0
  unfold kv_s1 at h
  split at h
  · rename_i u hu
    cases h
    dsimp only at kk
    rw [Nat.sub_self, Nat.sub_self] at kk
    refine kq_pu hx hb hown (fun w hw1 hg => hts w (hw w hw1) hg) (hd ?_) hu (kk H locs ls hR hS hl)
    intro a b c d he
    unfold kv_pu at hu
    rw [he] at hu
    cases hu
  split at h
  · rename_i u hu
    cases h
    dsimp only at kk
    rw [Nat.sub_self, Nat.sub_self] at kk
    refine kq_ld hx hb hl (hd ?_) hu (kk H locs ls hR hS hl)
    intro a b c d he
    unfold kv_ld at hu
    rw [he] at hu
    cases hu
  split at h
  · rename_i u hu
    cases h
    dsimp only at kk
    rw [Nat.sub_self, Nat.sub_self] at kk
    refine kq_sto hx hb hl (hd ?_) hu (fun ls1 hl1 => kk H locs ls1 hR hS hl1)
    intro a b c d he
    unfold kv_sto at hu
    rw [he] at hu
    cases hu
  split at h
  · rename_i u hu
    cases h
    dsimp only at kk
    rw [Nat.sub_self, Nat.sub_self] at kk
    exact kq_jp hx hb hd0 hokl hu (kk H locs ls hR hS hl)
  split at h
  · rename_i u hu
    cases h
    dsimp only at kk
    rw [Nat.sub_self, Nat.sub_self] at kk
    refine kq_rd hX hR hC hS (hd ?_) hw hok hu (kk H locs ls hR hS hl)
    intro a b c d he
    unfold kv_rd at hu
    rw [he] at hu
    cases hu
  split at h
  · rename_i u hu
    cases h
    dsimp only at kk
    have e0 := kv_wr_n hu
    have e1 : kv_n u.2 = kv_n σ := by unfold kv_n; rw [e0]
    have e2 : kv_z u.2 = kv_z σ := by unfold kv_z; rw [e0]
    rw [e1, e2, Nat.sub_self, Nat.sub_self] at kk
    refine kq_wr hX hR hC hS (hd ?_) hw hok hu (fun H1 locs1 r1 r2 => kk H1 locs1 ls r1 r2 hl)
    intro a b c d he
    unfold kv_wr at hu
    rw [he] at hu
    cases hu
  split at h
  · rename_i u hu
    cases h
    dsimp only at kk
    refine kq_nw hX hR hS hs0 (hd ?_) hw hok hu hcells hslots (fun H1 locs1 r1 r2 => kk H1 locs1 ls r1 r2 hl)
    intro a b c d he
    unfold kv_nw at hu
    rw [he] at hu
    cases hu
  · cases h
end KVY

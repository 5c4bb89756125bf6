/-! ===== THE MACHINE DOES WHAT THE EVALUATOR DOES ===== -/
-- ===== what never changes: cells never go, the old arrays stay
def kv_gr (σ τ : kv_S) : Prop := kv_n σ ≤ kv_n τ ∧ kv_z σ ≤ kv_z τ ∧ kv_low σ τ
theorem kv_gr.rf (σ : kv_S) : kv_gr σ σ := ⟨Nat.le_refl _, Nat.le_refl _, kv_low.rf σ⟩
theorem kv_gr.tr {σ τ υ : kv_S} (h1 : kv_gr σ τ) (h2 : kv_gr τ υ) : kv_gr σ υ := ⟨Nat.le_trans h1.1 h2.1, Nat.le_trans h1.2.1 h2.2.1, h1.2.2.tr h2.2.2⟩
theorem kv_wr_gr {e : kv_E} {st : List Value} {σ : kv_S} {w : List Value × kv_S} (hw : kv_wr e st σ = some w) : kv_gr σ w.2 := by
  unfold kv_wr at hw
  split at hw
  · unfold kv_pf at hw
    split at hw
    · split at hw
      · rename_i hc; cases hw; exact ⟨Nat.le_refl _, Nat.le_refl _, kv_si_low σ _ _ hc.1⟩
      · cases hw
    · split at hw
      · rename_i hc; cases hw; exact ⟨Nat.le_refl _, Nat.le_refl _, kv_sl_low σ _ _ hc.1⟩
      · cases hw
    · split at hw
      · rename_i hc; cases hw; exact ⟨Nat.le_refl _, Nat.le_refl _, kv_sr_low σ _ _ _⟩
      · cases hw
    · cases hw
  · unfold kv_is at hw
    split at hw
    · split at hw
      · rename_i hc; cases hw; exact ⟨Nat.le_refl _, Nat.le_refl _, kv_si_low σ _ _ hc.1⟩
      · cases hw
    · cases hw
  · unfold kv_las at hw
    split at hw
    · split at hw
      · rename_i hc; cases hw; exact ⟨Nat.le_refl _, Nat.le_refl _, kv_sl_low σ _ _ hc.1⟩
      · cases hw
    · cases hw
  · unfold kv_bs at hw
    split at hw
    · split at hw
      · rename_i hc; cases hw; exact ⟨Nat.le_refl _, Nat.le_refl _, kv_si_low σ _ _ hc.1⟩
      · cases hw
    · cases hw
  · unfold kv_as at hw
    split at hw
    · split at hw
      · rename_i hc; cases hw; exact ⟨Nat.le_refl _, Nat.le_refl _, kv_sr_low σ _ _ _⟩
      · cases hw
    · cases hw
  · cases hw
theorem kv_mkc_gr (σ : kv_S) (t n : Nat) : kv_gr σ (kv_mkc σ t n) := ⟨Nat.le_succ _, Nat.le_add_right _ _, kv_mkc_low σ t n⟩
theorem kv_na_gr {t : Nat} {st : List Value} {σ : kv_S} {w : List Value × kv_S} (hw : kv_na t st σ = some w) : kv_gr σ w.2 := by
  unfold kv_na at hw
  split at hw
  · split at hw
    · cases hw; exact kv_mkc_gr σ _ _
    · cases hw
  · cases hw
theorem kv_nw_gr {e : kv_E} {st : List Value} {σ : kv_S} {w : List Value × kv_S} (hw : kv_nw e st σ = some w) : kv_gr σ w.2 := by
  unfold kv_nw at hw
  split at hw
  · cases hw; exact kv_mkc_gr σ _ _
  · exact kv_na_gr hw
  · split at hw
    · exact kv_na_gr hw
    · split at hw
      · exact kv_na_gr hw
      · cases hw
  · cases hw
theorem kv_s1_gr {e : kv_E} {pc : Nat} {ls st : List Value} {σ : kv_S} {q : Nat × List Value × List Value × kv_S} (h : kv_s1 e pc ls st σ = some q) : kv_gr σ q.2.2.2 := by
  unfold kv_s1 at h
  split at h
  · cases h; exact kv_gr.rf σ
  split at h
  · cases h; exact kv_gr.rf σ
  split at h
  · cases h; exact kv_gr.rf σ
  split at h
  · cases h; exact kv_gr.rf σ
  split at h
  · cases h; exact kv_gr.rf σ
  split at h
  · rename_i w hw; cases h; exact kv_wr_gr hw
  split at h
  · rename_i w hw; cases h; exact kv_nw_gr hw
  · cases h
theorem kv_int_gr {e : kv_E} {st : List Value} {σ : kv_S} {w : List Value × kv_S} (hw : kv_int e st σ = some w) : kv_gr σ w.2 := by
  unfold kv_int at hw
  split at hw
  · split at hw
    · split at hw
      · split at hw
        · cases hw; exact kv_gr.rf σ
        · cases hw
      · cases hw
    · cases hw
  · split at hw
    · split at hw
      · split at hw
        · rename_i hc
          cases hw
          refine ⟨Nat.le_refl _, Nat.le_refl _, fun b hb => ⟨rfl, ?_, rfl⟩⟩
          funext j
          show kv_cpm σ.2.1 _ _ _ _ _ b j = σ.2.1 b j
          unfold kv_cpm
          rw [if_neg (Nat.ne_of_lt (Nat.lt_of_lt_of_le hb hc.2.2.1))]
        · cases hw
      · cases hw
    · split at hw
      · split at hw
        · cases hw; exact kv_gr.rf σ
        · cases hw
      · cases hw
    · split at hw
      · split at hw
        · cases hw; exact kv_gr.rf σ
        · cases hw
      · cases hw
    · split at hw
      · split at hw
        · cases hw; exact kv_gr.rf σ
        · cases hw
      · cases hw
    · cases hw
  · cases hw
theorem kv_ev_gr : ∀ (n d M pc : Nat) (ls st : List Value) (σ : kv_S) (r : Option Value) (τ : kv_S), kv_ev n d M pc ls st σ = some (r, τ) → kv_gr σ τ := by
  intro n
  induction n with
  | zero => intro d M pc ls st σ r τ h; cases h
  | succ n ih =>
    intro d M pc ls st σ r τ h
    unfold kv_ev at h
    split at h
    · cases h
    split at h
    · cases h; exact kv_gr.rf σ
    split at h
    · rename_i q hq
      exact (kv_s1_gr hq).tr (ih _ _ _ _ _ _ _ _ h)
    split at h
    · cases h
    split at h
    · rename_i q hq
      exact (kv_int_gr hq).tr (ih _ _ _ _ _ _ _ _ h)
    split at h
    · cases h
    split at h
    · cases h
    · rename_i w hw
      obtain ⟨w1, w2⟩ := w
      exact (ih _ _ _ _ _ _ _ _ hw).tr (ih _ _ _ _ _ _ _ _ h)
-- ===== a method's words and its start
def kv_gt : List Jvm.Cond := lw_tbl.filter goodWord
def kv_X (g : kv_G) (M : Nat) (q : MethodName × ByteArray × Nat × Option FieldType) (p : Program) (s : State) (m : MethodId) (args : Array Value) (meth : Method) (c : Code) : Prop :=
  kv_mt[M]? = some q ∧ p.tables.exec = Jvm.exec ∧ c.code = q.2.1 ∧ c.maxLocals = q.2.2.1 ∧ s.vm.findClass q.1.cls = some m.cls ∧ (∀ w ∈ lw_tbl, goodWord w = true → w.before args s = true) ∧ (q.1.name = "<init>" → meth.name = "<init>") ∧ kv_inv g s ∧ g.1 ≤ s.heap.size
theorem kv_lookup_mem {pc : Nat} {E : kv_E} : ∀ {t : List (Nat × kv_E)}, List.lookup pc t = some E → (pc, E) ∈ t
  | [], h => by cases h
  | (a, b) :: t, h => by
    rw [List.lookup_cons] at h
    split at h
    · rename_i he
      cases h
      have : pc = a := by simpa using he
      rw [this]
      exact List.mem_cons_self
    · exact List.mem_cons_of_mem _ (kv_lookup_mem h)
theorem kv_row {M pc : Nat} {E : kv_E} {q : MethodName × ByteArray × Nat × Option FieldType} (h : kv_ins M pc = some E) (hq : kv_mt[M]? = some q) : decode q.2.1 pc = .ok (E.1, E.2.1) ∧ (∀ w ∈ kv_need q.1.cls E, w ∈ lw_tbl) ∧ kv_okE q E = true ∧ kv_okL E = true := by
  have hM : M < kv_it.length := by
    rcases Nat.lt_or_ge M kv_it.length with h1 | h1
    · exact h1
    · unfold kv_ins at h
      rw [List.getD_eq_getElem?_getD, List.getElem?_eq_none h1] at h
      cases h
  have hz : (q, kv_it[M]) ∈ kv_mt.zip kv_it := by
    refine List.mem_of_getElem? (i := M) ?_
    rw [List.getElem?_zip_eq_some]
    exact ⟨hq, List.getElem?_eq_getElem hM⟩
  have hmem : (pc, E) ∈ kv_it[M] := by
    unfold kv_ins at h
    rw [List.getD_eq_getElem?_getD, List.getElem?_eq_getElem hM] at h
    exact kv_lookup_mem h
  have h1 := kv_chk_all _ hz
  have h2 := kv_wok_all _ hz
  have h3 := List.all_eq_true.mp h1 _ hmem
  have h4 := List.all_eq_true.mp h2.2 _ hmem
  rw [Bool.and_eq_true] at h4
  refine ⟨?_, fun w hw => h2.1 w (List.mem_flatMap.mpr ⟨_, hmem, hw⟩), h4.1, h4.2⟩
  dsimp only at h3
  split at h3
  · rename_i x hx
    rw [hx, of_decide_eq_true h3]
  · cases h3

/-! THE CLAIM OUT OF ONE WALK OF THE LAW'S BODY. Your part is whole_start (and what it stands on); all else here is the same for every law, but numbers. -/
def R_law : String := "LogicSmithLaw"
def lw_P (b : Addr) (xs : List Int32) (args : Array Value) (s : State) : Prop := args = #[.ref b] ∧ s.IntsAt b xs ∧ xs.length ≤ 2560 ∧ (Jvm.Cond.and given_1 narrow_1).before args s = true
def lw_Q (_ : Array Value) (s : State) (o : Outcome) (t : State) : Prop := o = .returned (some (.int 1)) ∧ Framed s o t [] 600000 7302250
def lw_Z (below : List Frame) (a : Array Value) (s : State) : State → Prop := fun t => ∃ o, t.status = .running ∧ Ended t below o ∧ lw_Q a s o t
/-- the law's own end, with 1 on the stack, nothing written that was there before, its room as the claim has it -/
theorem lw_ret {p : Program} {l : Launch} {e : Env} {s : State} {m : MethodId} {below : List Frame} {meth : Method} {c : Code} {b : Nat} (hx : p.tables.exec = Jvm.exec) (hb : c.code = code) (hr : meth.sig.returnType = ret) (hlocks : meth.locks = false) {pc : Nat} {H : Heap} {ls : Array Slot} (hdg : decode code pc = .ok (.ireturn, 1)) : W p l e room_1 s m #[Value.ref b] below meth c H [] 600000 7302250 (lw_Z below #[Value.ref b] s) (F0 m pc ls [.int 1]) := by
  intro T hT X
  obtain ⟨fs, hret, hrun, hended, hW, hframe⟩ := X.leave (v := some (.int 1)) (hlocks := hlocks) (fun h => by rw [hr] at h; cases h)
  have hmeth' : T.vm.method? m = some meth := X.method'
  refine ⟨T.setFrames fs, ?_, .returned (some (.int 1)), hrun, hended, rfl, ⟨_, rfl⟩, hW, hframe⟩
  jvm_step X.here [X.here.top, hx, hb, hdg, hmeth', hr, ret, narrow_b1]
  (try refine ⟨rfl, ?_⟩); (try refine ⟨rfl, ?_⟩)
  first | (intro acts; rw [hret _ acts rfl rfl rfl]) | rw [hret _ _ rfl rfl rfl]
  exact Steps.refl _
/-- what holds at the law's entry: the machine, the code, the tables' words (any of lw_tbl by 'hts w (by decide +kernel)'), the script of L ints xs at the cell b, what the Statement gives of the start (any of its parts by flat_of_before) -/
def lw_At (p : Program) (s : State) (m : MethodId) (meth : Method) (c : Code) (b L : Nat) (xs : Nat → Int32) : Prop :=
  p.tables.exec = Jvm.exec ∧ c.code = code ∧ meth.sig.returnType = ret ∧ c.maxLocals = 4 ∧ s.vm.findClass R_law = some m.cls ∧ (∀ w ∈ lw_tbl, w.before #[Value.ref b] s = true) ∧ va_X b L xs s s.heap ∧ b < s.heap.size ∧ meth.locks = false ∧ (Jvm.Cond.and given_1 narrow_1).before #[Value.ref b] s = true
/-- THE PURE CLAIM: the evaluator ends the law with 1, within the room -/
def kv_claim : Prop := ∀ (L : Nat) (xs : Nat → Int32), L ≤ 2560 → ∃ (n : Nat) (τ : kv_S), kv_ev n 1000 0 0 [.ref 6, .null, .null, .null] [] (kv_s0 L xs) = some (some (.int 1), τ) ∧ kv_n τ ≤ 600000 ∧ kv_z τ ≤ 7302250
set_option maxHeartbeats 4000000 in
theorem kv_whole (hpure : kv_claim) {p : Program} {e : Env} {s : State} {m : MethodId} {below : List Frame} {meth : Method} {c : Code} (l : Launch) {b L : Nat} {xs : Nat → Int32} (hL : L ≤ 2560) (C0 : lw_At p s m meth c b L xs) : W p l e room_1 s m #[Value.ref b] below meth c s.heap [] 0 0 (lw_Z below #[Value.ref b] s) (entryFrame m ([Value.ref b] : List Value).toArray 4) := by
  obtain ⟨hx, hb, hr, hml, hown, hts, hX, hbl, hlocks, hgv⟩ := id C0
  obtain ⟨n, τ, hev, hcn, hcz⟩ := hpure L xs hL
  obtain ⟨dC, dI, hKc⟩ := kv_known hts
  obtain ⟨tc, hKt⟩ := kv_tyk hts
  have hA0 : ∀ a : Nat, a < s.heap.size → ¬ (fun q : Nat => s.heap.size ≤ q) a := fun a h q => by have q : s.heap.size ≤ a := q; omega
  obtain ⟨cad, hcad6, hcad⟩ := kv_pick6 (P := fun k t => (∀ q, kv_sn[k]? = some q → va_Z q.1 q.2.1 q.2.2 (.ref t) (fun q : Nat => s.heap.size ≤ q) s s.heap) ∧ va_T (kv_fty (kv_sh (kv_s0 L xs) k).1) t (kv_sh (kv_s0 L xs) k).2 (kv_cval (kv_s0 L xs) k) (fun q : Nat => s.heap.size ≤ q) s s.heap) (fun k hk => by
    match k, hk with
    | 0, _ => obtain ⟨t, h1, h2⟩ := kv_stat_0 hts hgv hA0; exact ⟨t, (fun q hq => by cases hq; exact h1), h2⟩
    | 1, _ => obtain ⟨t, h1, h2⟩ := kv_stat_1 hts hgv hA0; exact ⟨t, (fun q hq => by cases hq; exact h1), h2⟩
    | 2, _ => obtain ⟨t, h1, h2⟩ := kv_stat_2 hts hgv hA0; exact ⟨t, (fun q hq => by cases hq; exact h1), h2⟩
    | 3, _ => obtain ⟨t, h1, h2⟩ := kv_stat_3 hts hgv hA0; exact ⟨t, (fun q hq => by cases hq; exact h1), h2⟩
    | 4, _ => obtain ⟨t, h1, h2⟩ := kv_stat_4 hts hgv hA0; exact ⟨t, (fun q hq => by cases hq; exact h1), h2⟩
    | 5, _ => obtain ⟨t, h1, h2⟩ := kv_stat_5 hts hgv hA0; exact ⟨t, (fun q hq => by cases hq; exact h1), h2⟩) b
  obtain ⟨g, hg⟩ : ∃ g : kv_G, g = (s.heap.size, cad, tc, dC, dI) := ⟨_, rfl⟩
  have hgA : kv_A g = fun q : Nat => s.heap.size ≤ q := by rw [hg]; rfl
  have hI : kv_inv g s := by
    refine ⟨⟨?_, ?_⟩, ?_, ?_⟩
    · rw [hg]; exact hKc
    · intro k q hq; rw [hg] at hq; exact hKt k q hq
    · intro k q hq
      have hk : k < 6 := (List.getElem?_eq_some_iff.mp hq).1
      rw [hgA, hg]
      exact (hcad k hk).1 q hq
    · intro w hw hn
      have h0 := hts w hw
      unfold kv_isN at hn
      split at hn
      · exact va_Nw.of rfl h0
      · exact va_Nw.of rfl h0
      · exact va_AO.of h0
      · cases hn
  have hC : kv_con g (kv_s0 L xs) s := by
    intro k hk
    refine ⟨?_, ?_⟩
    · match k, hk with
      | 0, _ => exact Or.inr rfl
      | 1, _ => exact Or.inl rfl
      | 2, _ => exact Or.inl rfl
      | 3, _ => exact Or.inl rfl
      | 4, _ => exact Or.inl rfl
      | 5, _ => exact Or.inl rfl
      | 6, _ => exact Or.inl rfl
    · rw [hgA, hg]
      rcases Nat.lt_or_ge k 6 with h6 | h6
      · exact (hcad k h6).2
      · have hk6 : k = 6 := by omega
        subst hk6
        show va_T _ (cad 6) _ _ _ s s.heap
        rw [hcad6]
        obtain ⟨scr, x1, x2, x3, x4, x5⟩ := hX
        refine ⟨scr, x1, x2, x3, ?_, ?_, ?_, ?_⟩
        · show L ≤ _; rw [x4]; exact Nat.le_refl _
        · show scr.slots.size.toInt32 = Int32.ofNat L; rw [x4]
        · intro j hj; exact x5 j hj
        · show ¬ s.heap.size ≤ b; omega
  have hR : kv_rep g (kv_s0 L xs) s.heap := ⟨fun k q h => by simp [kv_ws, kv_n, kv_s0] at h, kv_s0_pur L xs⟩
  have hq0 : kv_mt[0]? = some (⟨"LogicSmithLaw", "law", "([I)Z"⟩, code, 4, some .boolean) := rfl
  have hXX : kv_X g 0 (⟨"LogicSmithLaw", "law", "([I)Z"⟩, code, 4, some .boolean) p s m #[Value.ref b] meth c := ⟨hq0, hx, hb, hml, hown, fun w hw _ => hts w hw, fun h => absurd h (by decide), hI, by rw [hg]; exact Nat.le_refl _⟩
  obtain ⟨lsR, he, hLL⟩ := kv_entry g (M := 0) hq0 (vs := [.ref 6]) (by decide) m
  have hvs : ([Value.ref 6].map (kv_cv g)).toArray = ([Value.ref b] : List Value).toArray := by
    rw [hg]
    show ([Value.ref (cad 6)] : List Value).toArray = _
    rw [hcad6]
  rw [hvs] at he
  rw [he]
  have := kv_sound l g n 1000 0 0 [.ref 6, .null, .null, .null] [] (kv_s0 L xs) (some (.int 1)) τ hev p e room_1 s m #[Value.ref b] below meth c (lw_Z below #[Value.ref b] s) _ 0 0 hXX (by rw [hg]; rfl) (by decide) (by decide) (by rw [Nat.sub_zero]; exact hcn) (by rw [Nat.sub_zero]; exact hcz) ?_ s.heap [] lsR (Nat.zero_le _) (Nat.zero_le _) hR hC va_S.rf hLL
  · exact this
  · intro H' locs' pc' ls' E' hins hret hR' hS'
    obtain ⟨hd0, -, -, hokl⟩ := kv_row hins hq0
    refine va_forget (fun q hq => by have := hS'.2.2 q hq; rw [hgA] at this; exact this) ?_
    refine W.widen (k := 600000) (n := 7302250) (by omega) (by omega) ?_
    obtain ⟨i, k0, a0, b0⟩ := E'
    unfold kv_ret at hret
    dsimp only at hret hd0
    split at hret
    · have hl1 : k0 = 1 := of_decide_eq_true hokl
      subst hl1
      exact lw_ret hx hb hr hlocks hd0
    · cases hret
    · cases hret
    · cases hret

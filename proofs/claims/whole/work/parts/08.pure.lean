/-! ===== the machine does what the evaluator does: stack, locals, jumps ===== -/
section KVP
variable {p : Program} {l : Launch} {e : Env} {R : Room} {s : State} {m : MethodId} {args : Array Value} {below : List Frame} {meth : Method} {c : Code} {H : Heap} {locs : List Loc} {cells slots : Nat} {Q : State → Prop}
variable {cc : ByteArray} {pc : Nat} {ls : Array Slot} {g : kv_G}
theorem kq_ii {f : Int32 → Int32 → Int32} {n : Nat} {st st' : List Value} (row : ∀ (x y : Int32) (rest : List Value), W p l e R s m args below meth c H locs cells slots Q (F0 m n ls (.int (f x y) :: rest)) → W p l e R s m args below meth c H locs cells slots Q (F0 m pc ls (.int y :: .int x :: rest)))
    (h : kv_ii f st = some st') (k : W p l e R s m args below meth c H locs cells slots Q (F0 m n ls (st'.map (kv_cv g)))) : W p l e R s m args below meth c H locs cells slots Q (F0 m pc ls (st.map (kv_cv g))) := by
  unfold kv_ii at h
  split at h
  · cases h; exact row _ _ _ k
  · cases h
theorem kq_ll {f : Int64 → Int64 → Int64} {n : Nat} {st st' : List Value} (row : ∀ (x y : Int64) (rest : List Value), W p l e R s m args below meth c H locs cells slots Q (F0 m n ls (.long (f x y) :: rest)) → W p l e R s m args below meth c H locs cells slots Q (F0 m pc ls (.long y :: .long x :: rest)))
    (h : kv_ll f st = some st') (k : W p l e R s m args below meth c H locs cells slots Q (F0 m n ls (st'.map (kv_cv g)))) : W p l e R s m args below meth c H locs cells slots Q (F0 m pc ls (st.map (kv_cv g))) := by
  unfold kv_ll at h
  split at h
  · cases h; exact row _ _ _ k
  · cases h
theorem kq_li {f : Int64 → Int32 → Int64} {n : Nat} {st st' : List Value} (row : ∀ (x : Int64) (y : Int32) (rest : List Value), W p l e R s m args below meth c H locs cells slots Q (F0 m n ls (.long (f x y) :: rest)) → W p l e R s m args below meth c H locs cells slots Q (F0 m pc ls (.int y :: .long x :: rest)))
    (h : kv_li f st = some st') (k : W p l e R s m args below meth c H locs cells slots Q (F0 m n ls (st'.map (kv_cv g)))) : W p l e R s m args below meth c H locs cells slots Q (F0 m pc ls (st.map (kv_cv g))) := by
  unfold kv_li at h
  split at h
  · cases h; exact row _ _ _ k
  · cases h
theorem kq_i1 {f : Int32 → Value} {n : Nat} {st st' : List Value} (row : ∀ (x : Int32) (rest : List Value), W p l e R s m args below meth c H locs cells slots Q (F0 m n ls (kv_cv g (f x) :: rest)) → W p l e R s m args below meth c H locs cells slots Q (F0 m pc ls (.int x :: rest)))
    (h : kv_i1 f st = some st') (k : W p l e R s m args below meth c H locs cells slots Q (F0 m n ls (st'.map (kv_cv g)))) : W p l e R s m args below meth c H locs cells slots Q (F0 m pc ls (st.map (kv_cv g))) := by
  unfold kv_i1 at h
  split at h
  · cases h; exact row _ _ k
  · cases h
theorem kq_l1 {f : Int64 → Value} {n : Nat} {st st' : List Value} (row : ∀ (x : Int64) (rest : List Value), W p l e R s m args below meth c H locs cells slots Q (F0 m n ls (kv_cv g (f x) :: rest)) → W p l e R s m args below meth c H locs cells slots Q (F0 m pc ls (.long x :: rest)))
    (h : kv_l1 f st = some st') (k : W p l e R s m args below meth c H locs cells slots Q (F0 m n ls (st'.map (kv_cv g)))) : W p l e R s m args below meth c H locs cells slots Q (F0 m pc ls (st.map (kv_cv g))) := by
  unfold kv_l1 at h
  split at h
  · cases h; exact row _ _ k
  · cases h
theorem kq_dv {f : Int32 → Int32 → Int32} {n : Nat} {st st' : List Value} (row : ∀ (x y : Int32) (rest : List Value), ¬ y = 0 → W p l e R s m args below meth c H locs cells slots Q (F0 m n ls (.int (f x y) :: rest)) → W p l e R s m args below meth c H locs cells slots Q (F0 m pc ls (.int y :: .int x :: rest)))
    (h : kv_dv f st = some st') (k : W p l e R s m args below meth c H locs cells slots Q (F0 m n ls (st'.map (kv_cv g)))) : W p l e R s m args below meth c H locs cells slots Q (F0 m pc ls (st.map (kv_cv g))) := by
  unfold kv_dv at h
  split at h
  · split at h
    · cases h
    · rename_i hz; cases h; exact row _ _ _ hz k
  · cases h
/-- instructions on the stack alone -/
theorem kq_pu (hx : p.tables.exec = Jvm.exec) (hb : c.code = cc) {own : String} (hown : s.vm.findClass own = some m.cls) {E : kv_E} (hw : ∀ w ∈ kv_need own E, goodWord w = true → w.before args s = true) (hd : decode cc pc = .ok (E.1, kv_len E.1)) {st st' : List Value} (h : kv_pu E st = some st')
    (k : W p l e R s m args below meth c H locs cells slots Q (F0 m (pc + kv_len E.1) ls (st'.map (kv_cv g)))) : W p l e R s m args below meth c H locs cells slots Q (F0 m pc ls (st.map (kv_cv g))) := by
  obtain ⟨i, n0, a0, b0⟩ := E
  unfold kv_pu at h
  dsimp only at h hd k
  split at h
  · cases h; exact lv_iconst hx hb hd rfl k
  · cases h; exact lv_bipush hx hb hd rfl k
  · cases h; exact lv_sipush hx hb hd rfl k
  · cases h; exact lv_lconst hx hb hd rfl k
  · cases h; exact lv_ldc hx hb hown (hw _ (List.mem_cons_self) rfl) hd k
  · cases h; exact lv_ldcw hx hb hown (hw _ (List.mem_cons_self) rfl) hd k
  · cases h; exact lv_ldc2 hx hb hown (hw _ (List.mem_cons_self) rfl) hd k
  · exact kq_ii (fun x y r k => lv_iadd hx hb hd k) h k
  · exact kq_ii (fun x y r k => lv_isub hx hb hd k) h k
  · exact kq_ii (fun x y r k => lv_imul hx hb hd k) h k
  · exact kq_dv (fun x y r hz k => lv_idiv hx hb hd hz k) h k
  · exact kq_dv (fun x y r hz k => lv_irem hx hb hd hz k) h k
  · exact kq_i1 (fun x r k => lv_ineg hx hb hd k) h k
  · exact kq_ii (fun x y r k => lv_ishl hx hb hd k) h k
  · exact kq_ii (fun x y r k => lv_ishr hx hb hd k) h k
  · exact kq_ii (fun x y r k => lv_iushr hx hb hd rfl k) h k
  · exact kq_ii (fun x y r k => lv_iand hx hb hd k) h k
  · exact kq_ii (fun x y r k => lv_ior hx hb hd k) h k
  · exact kq_ii (fun x y r k => lv_ixor hx hb hd k) h k
  · exact kq_ll (fun x y r k => lv_ladd hx hb hd k) h k
  · exact kq_ll (fun x y r k => lv_lsub hx hb hd k) h k
  · exact kq_ll (fun x y r k => lv_lmul hx hb hd k) h k
  · exact kq_l1 (fun x r k => lv_lneg hx hb hd k) h k
  · exact kq_li (fun x y r k => lv_lshl hx hb hd rfl k) h k
  · exact kq_li (fun x y r k => lv_lshr hx hb hd rfl k) h k
  · exact kq_li (fun x y r k => lv_lushr hx hb hd rfl k) h k
  · exact kq_ll (fun x y r k => lv_land hx hb hd k) h k
  · exact kq_ll (fun x y r k => lv_lor hx hb hd k) h k
  · exact kq_ll (fun x y r k => lv_lxor hx hb hd k) h k
  · exact kq_i1 (fun x r k => lv_i2l hx hb hd rfl k) h k
  · exact kq_l1 (fun x r k => lv_l2i hx hb hd rfl k) h k
  · exact kq_i1 (fun x r k => lv_i2b hx hb hd rfl k) h k
  · unfold kv_cm at h
    split at h
    · cases h; exact W.lcmp hx hb hd k
    · cases h
  · unfold kv_d1 at h
    split at h
    · split at h
      · rename_i v r hv
        cases h
        exact lv_dup hx hb hd (by rw [kv_cv_cat]; simpa [kv_c1] using hv) k
      · cases h
    · cases h
  · unfold kv_d2 at h
    split at h
    · split at h
      · split at h
        · rename_i v w r hv hw2
          cases h
          exact lv_dup2_11 hx hb hd (by rw [kv_cv_cat]; simpa [kv_c1] using hv) (by rw [kv_cv_cat]; simpa [kv_c1] using hw2) k
        · cases h
      · split at h
        · rename_i v w r hv hw2
          cases h
          exact lv_dup2_2 hx hb hd (by rw [kv_cv_cat]; exact hw2) k
        · cases h
    · cases h
  · cases h
theorem kq_ldi {nL i n : Nat} {lsA st st' : List Value} (hl : kv_L g ls nL lsA) (row : ∀ (x : Int32) (rest : List Value), ls[i]? = some (.val (.int x)) → W p l e R s m args below meth c H locs cells slots Q (F0 m n ls (.int x :: rest)) → W p l e R s m args below meth c H locs cells slots Q (F0 m pc ls rest))
    (h : kv_ldi i lsA st = some st') (k : W p l e R s m args below meth c H locs cells slots Q (F0 m n ls (st'.map (kv_cv g)))) : W p l e R s m args below meth c H locs cells slots Q (F0 m pc ls (st.map (kv_cv g))) := by
  unfold kv_ldi at h
  split at h
  · rename_i x hv
    cases h
    exact row _ _ (hl.at hv (fun q => by cases q)) k
  · cases h
theorem kq_ldl {nL i n : Nat} {lsA st st' : List Value} (hl : kv_L g ls nL lsA) (row : ∀ (x : Int64) (rest : List Value), ls[i]? = some (.val (.long x)) → W p l e R s m args below meth c H locs cells slots Q (F0 m n ls (.long x :: rest)) → W p l e R s m args below meth c H locs cells slots Q (F0 m pc ls rest))
    (h : kv_ldl i lsA st = some st') (k : W p l e R s m args below meth c H locs cells slots Q (F0 m n ls (st'.map (kv_cv g)))) : W p l e R s m args below meth c H locs cells slots Q (F0 m pc ls (st.map (kv_cv g))) := by
  unfold kv_ldl at h
  split at h
  · rename_i x hv
    cases h
    exact row _ _ (hl.at hv (fun q => by cases q)) k
  · cases h
theorem kq_lda {nL i n : Nat} {lsA st st' : List Value} (hl : kv_L g ls nL lsA) (row : ∀ (x : Nat) (rest : List Value), ls[i]? = some (.val (.ref x)) → W p l e R s m args below meth c H locs cells slots Q (F0 m n ls (.ref x :: rest)) → W p l e R s m args below meth c H locs cells slots Q (F0 m pc ls rest))
    (h : kv_lda i lsA st = some st') (k : W p l e R s m args below meth c H locs cells slots Q (F0 m n ls (st'.map (kv_cv g)))) : W p l e R s m args below meth c H locs cells slots Q (F0 m pc ls (st.map (kv_cv g))) := by
  unfold kv_lda at h
  split at h
  · rename_i x hv
    cases h
    exact row _ _ (hl.at hv (fun q => by cases q)) k
  · cases h
theorem kq_ld (hx : p.tables.exec = Jvm.exec) (hb : c.code = cc) {nL : Nat} {lsA : List Value} (hl : kv_L g ls nL lsA) {E : kv_E} (hd : decode cc pc = .ok (E.1, kv_len E.1)) {st st' : List Value} (h : kv_ld E lsA st = some st')
    (k : W p l e R s m args below meth c H locs cells slots Q (F0 m (pc + kv_len E.1) ls (st'.map (kv_cv g)))) : W p l e R s m args below meth c H locs cells slots Q (F0 m pc ls (st.map (kv_cv g))) := by
  obtain ⟨i, n0, a0, b0⟩ := E
  unfold kv_ld at h
  dsimp only at h hd k
  split at h
  · exact kq_ldi hl (fun x r hv k => lv_iload hx hb hd hv k) h k
  · exact kq_ldi hl (fun x r hv k => lv_iload_n hx hb hd rfl hv k) h k
  · exact kq_ldl hl (fun x r hv k => lv_lload hx hb hd hv k) h k
  · exact kq_ldl hl (fun x r hv k => lv_lload_n hx hb hd rfl hv k) h k
  · exact kq_lda hl (fun x r hv k => lv_aload hx hb hd hv k) h k
  · exact kq_lda hl (fun x r hv k => lv_aload_n hx hb hd rfl hv k) h k
  · cases h
theorem kv_st_lt {i : Nat} {v : Value} {ls ls' : List Value} (h : kv_st i v ls = some ls') : i < ls.length := by
  unfold kv_st at h
  split at h
  · rename_i hc; exact hc.1
  · cases h
theorem kv_s2_lt {i : Nat} {v : Value} {ls ls' : List Value} (h : kv_s2 i v ls = some ls') : i + 1 < ls.length := by
  unfold kv_s2 at h
  split at h
  · rename_i hc; exact hc.1
  · cases h
theorem kq_sto (hx : p.tables.exec = Jvm.exec) (hb : c.code = cc) {nL : Nat} {lsA : List Value} (hl : kv_L g ls nL lsA) {E : kv_E} (hd : decode cc pc = .ok (E.1, kv_len E.1)) {st : List Value} {q : List Value × List Value} (h : kv_sto E lsA st = some q)
    (k : ∀ ls' : Array Slot, kv_L g ls' nL q.1 → W p l e R s m args below meth c H locs cells slots Q (F0 m (pc + kv_len E.1) ls' (q.2.map (kv_cv g)))) : W p l e R s m args below meth c H locs cells slots Q (F0 m pc ls (st.map (kv_cv g))) := by
  obtain ⟨i, n0, a0, b0⟩ := E
  have hn := hl.2
  unfold kv_sto at h
  dsimp only at h hd k
  split at h
  · unfold kv_sti at h
    split at h
    · obtain ⟨z, hz, rfl⟩ := Option.map_eq_some_iff.mp h
      exact lv_istore hx hb hd hl.1 (by rw [← hn]; exact kv_st_lt hz) rfl (fun ls' hl' => k ls' (kv_L.st hn hz hl'))
    · cases h
  · unfold kv_sti at h
    split at h
    · obtain ⟨z, hz, rfl⟩ := Option.map_eq_some_iff.mp h
      exact lv_istore_n hx hb hd rfl hl.1 (by rw [← hn]; exact kv_st_lt hz) rfl (fun ls' hl' => k ls' (kv_L.st hn hz hl'))
    · cases h
  · unfold kv_stl at h
    split at h
    · obtain ⟨z, hz, rfl⟩ := Option.map_eq_some_iff.mp h
      exact lv_lstore hx hb hd hl.1 (by rw [← hn]; exact kv_s2_lt hz) rfl (fun ls' hl' => k ls' (kv_L.s2 hn hz hl'))
    · cases h
  · unfold kv_stl at h
    split at h
    · obtain ⟨z, hz, rfl⟩ := Option.map_eq_some_iff.mp h
      exact lv_lstore_n hx hb hd rfl hl.1 (by rw [← hn]; exact kv_s2_lt hz) rfl (fun ls' hl' => k ls' (kv_L.s2 hn hz hl'))
    · cases h
  · unfold kv_sta at h
    split at h
    · obtain ⟨z, hz, rfl⟩ := Option.map_eq_some_iff.mp h
      exact lv_astore hx hb hd hl.1 (by rw [← hn]; exact kv_st_lt hz) rfl (fun ls' hl' => k ls' (kv_L.st hn hz hl'))
    · cases h
  · unfold kv_sta at h
    split at h
    · obtain ⟨z, hz, rfl⟩ := Option.map_eq_some_iff.mp h
      exact lv_astore_n hx hb hd rfl hl.1 (by rw [← hn]; exact kv_st_lt hz) rfl (fun ls' hl' => k ls' (kv_L.st hn hz hl'))
    · cases h
  · unfold kv_inc at h
    split at h
    · rename_i x hv
      obtain ⟨z, hz, rfl⟩ := Option.map_eq_some_iff.mp h
      obtain ⟨j, hj⟩ := List.getElem?_of_mem ((kv_prs_mem g lsA _ (.int x)).mpr ⟨.int x, hv, (fun q => by cases q), rfl⟩)
      exact lv_iinc hx hb hd hl.1 hj rfl (by rw [← hn]; exact kv_st_lt hz) rfl (fun ls' hl' => k ls' (kv_L.st (v := .int _) hn hz hl'))
    · cases h
  · cases h
theorem kq_to {n : Nat} {off : Int} {st : List Value} {q : Nat × List Value} (row : ∀ tgt : Nat, (n : Int) + off = (tgt : Int) → W p l e R s m args below meth c H locs cells slots Q (F0 m tgt ls (st.map (kv_cv g))) → W p l e R s m args below meth c H locs cells slots Q (F0 m pc ls (st.map (kv_cv g))))
    (h : kv_to n off st = some q) (k : W p l e R s m args below meth c H locs cells slots Q (F0 m q.1 ls (q.2.map (kv_cv g)))) : W p l e R s m args below meth c H locs cells slots Q (F0 m pc ls (st.map (kv_cv g))) := by
  unfold kv_to at h
  split at h
  · rename_i h0
    cases h
    exact row _ (Int.toNat_of_nonneg h0).symm k
  · cases h
theorem kv_to_eq {n : Nat} {off : Int} {st : List Value} {q : Nat × List Value} (h : kv_to n off st = some q) : (n : Int) + off = (q.1 : Int) ∧ q.2 = st := by
  unfold kv_to at h
  split at h
  · rename_i h0
    cases h
    exact ⟨(Int.toNat_of_nonneg h0).symm, rfl⟩
  · cases h
theorem kq_jp (hx : p.tables.exec = Jvm.exec) (hb : c.code = cc) {E : kv_E} {len : Nat} (hd : decode cc pc = .ok (E.1, len)) (hlen : kv_okL (E.1, len, E.2.2) = true) {st : List Value} {q : Nat × List Value} (h : kv_jp E pc st = some q)
    (k : W p l e R s m args below meth c H locs cells slots Q (F0 m q.1 ls (q.2.map (kv_cv g)))) : W p l e R s m args below meth c H locs cells slots Q (F0 m pc ls (st.map (kv_cv g))) := by
  obtain ⟨i, n0, a0, b0⟩ := E
  unfold kv_jp at h
  dsimp only at h hd
  split at h
  · have hl3 : len = 3 := of_decide_eq_true hlen
    subst hl3
    obtain ⟨e1, e2⟩ := kv_to_eq h
    rw [e2] at k
    exact lv_goto hx hb hd e1 k
  · have hl3 : len = 3 := of_decide_eq_true hlen
    subst hl3
    rename_i cnd off
    unfold kv_j2 at h
    split at h
    · split at h
      · rename_i y x r h0
        cases h
        dsimp only at k
        cases cnd
        · exact lv_icmp_eq hx hb hd (Int.toNat_of_nonneg h0).symm (fun hc => by rw [if_pos (by simp [kv_cnd, hc])] at k; exact k) (fun hc => by rw [if_neg (by simp [kv_cnd, hc])] at k; exact k)
        · exact lv_icmp_ne hx hb hd (Int.toNat_of_nonneg h0).symm (fun hc => by rw [if_pos (by simp [kv_cnd, hc])] at k; exact k) (fun hc => by rw [if_neg (by simp [kv_cnd, hc])] at k; exact k)
        · exact lv_icmp_lt hx hb hd (Int.toNat_of_nonneg h0).symm (fun hc => by rw [if_pos (by simp [kv_cnd, hc])] at k; exact k) (fun hc => by rw [if_neg (by simp [kv_cnd, hc])] at k; exact k)
        · exact lv_icmp_ge hx hb hd (Int.toNat_of_nonneg h0).symm (fun hc => by rw [if_pos (by simp [kv_cnd, hc])] at k; exact k) (fun hc => by rw [if_neg (by simp [kv_cnd, hc])] at k; exact k)
        · exact lv_icmp_gt hx hb hd (Int.toNat_of_nonneg h0).symm (fun hc => by rw [if_pos (by simp [kv_cnd, hc])] at k; exact k) (fun hc => by rw [if_neg (by simp [kv_cnd, hc])] at k; exact k)
        · exact lv_icmp_le hx hb hd (Int.toNat_of_nonneg h0).symm (fun hc => by rw [if_pos (by simp [kv_cnd, hc])] at k; exact k) (fun hc => by rw [if_neg (by simp [kv_cnd, hc])] at k; exact k)
      · cases h
    · cases h
  · have hl3 : len = 3 := of_decide_eq_true hlen
    subst hl3
    rename_i cnd off
    unfold kv_j1 at h
    split at h
    · split at h
      · rename_i x r h0
        cases h
        dsimp only at k
        cases cnd
        · exact lv_if_eq hx hb hd (Int.toNat_of_nonneg h0).symm (fun hc => by rw [if_pos (by simp [kv_cnd, hc])] at k; exact k) (fun hc => by rw [if_neg (by simp [kv_cnd, hc])] at k; exact k)
        · exact lv_if_ne hx hb hd (Int.toNat_of_nonneg h0).symm (fun hc => by rw [if_pos (by simp [kv_cnd, hc])] at k; exact k) (fun hc => by rw [if_neg (by simp [kv_cnd, hc])] at k; exact k)
        · exact lv_if_lt hx hb hd (Int.toNat_of_nonneg h0).symm (fun hc => by rw [if_pos (by simp [kv_cnd, hc])] at k; exact k) (fun hc => by rw [if_neg (by simp [kv_cnd, hc])] at k; exact k)
        · exact lv_if_ge hx hb hd (Int.toNat_of_nonneg h0).symm (fun hc => by rw [if_pos (by simp [kv_cnd, hc])] at k; exact k) (fun hc => by rw [if_neg (by simp [kv_cnd, hc])] at k; exact k)
        · exact lv_if_gt hx hb hd (Int.toNat_of_nonneg h0).symm (fun hc => by rw [if_pos (by simp [kv_cnd, hc])] at k; exact k) (fun hc => by rw [if_neg (by simp [kv_cnd, hc])] at k; exact k)
        · exact lv_if_le hx hb hd (Int.toNat_of_nonneg h0).symm (fun hc => by rw [if_pos (by simp [kv_cnd, hc])] at k; exact k) (fun hc => by rw [if_neg (by simp [kv_cnd, hc])] at k; exact k)
      · cases h
    · cases h
  · unfold kv_tsw at h
    split at h
    · split at h
      · rename_i hc
        obtain ⟨e1, e2⟩ := kv_to_eq h
        rw [e2] at k
        exact lv_tableOut hx hb hd hc e1 k
      · rename_i hc
        split at h
        · rename_i off ho
          obtain ⟨e1, e2⟩ := kv_to_eq h
          rw [e2] at k
          exact lv_tableIn hx hb hd (fun q => hc (Or.inl q)) (fun q => hc (Or.inr q)) ho e1 k
        · cases h
    · cases h
  · cases h
end KVP

theorem kv_init_chk : kv_mt.all (fun q => !decide (q.1.name = "<init>") || decide (q.2.2.2 = none)) = true := by decide +kernel
theorem kv_init_ret {M : Nat} {q : MethodName × ByteArray × Nat × Option FieldType} (hq : kv_mt[M]? = some q) (hn : q.1.name = "<init>") : q.2.2.2 = none := by
  have h := List.all_eq_true.mp kv_init_chk q (List.mem_of_getElem? hq)
  rw [Bool.or_eq_true] at h
  rcases h with h | h
  · rw [hn] at h
    cases h
  · exact of_decide_eq_true h
theorem kv_int_n {E : kv_E} {st : List Value} {σ : kv_S} {z : List Value × kv_S} (h : kv_int E st σ = some z) : z.2.1 = σ.1 := by
  unfold kv_int at h
  split at h
  · split at h
    · split at h
      · split at h
        · cases h; rfl
        · cases h
      · cases h
    · cases h
  · split at h
    · split at h
      · split at h
        · cases h; rfl
        · cases h
      · cases h
    · split at h
      · split at h
        · cases h; rfl
        · cases h
      · cases h
    · split at h
      · split at h
        · cases h; rfl
        · cases h
      · cases h
    · split at h
      · split at h
        · cases h; rfl
        · cases h
      · cases h
    · cases h
  · cases h
theorem kq_cal {l : Launch} {g : kv_G} {n : Nat} (ih : kv_Snd l g n) {p : Program} {e : Env} {R : Room} {s : State} {m : MethodId} {args : Array Value} {below : List Frame} {meth : Method} {c : Code} {H : Heap} {locs : List Loc} {cells slots : Nat} {Q : State → Prop} {pc : Nat} {ls : Array Slot} {σ τ : kv_S} {M d : Nat} {q : MethodName × ByteArray × Nat × Option FieldType}
    (hX : kv_X g M q p s m args meth c) (hR : kv_rep g σ H) (hC : kv_con g σ s) (hS : va_S (kv_A g) s.heap H locs) (hs0 : s.heap.size + cells = g.1 + kv_n σ) {E : kv_E} (hins : kv_ins M pc = some E) {lsA st : List Value} (hl : kv_L g ls q.2.2.1 lsA) {z : Nat × List Value × List Value} (h : kv_cal E st σ = some z) {r : Option Value} (hev : kv_ev n d z.1 0 (kv_ent z.1 z.2.1) [] σ = some (r, τ))
    (hf : d + 1 ≤ R.frames) (hlo : 64 * (d + 1) ≤ R.locals) (hcells : cells + (kv_n τ - kv_n σ) ≤ R.cells) (hslots : slots + (kv_z τ - kv_z σ) ≤ R.slots)
    (kk : ∀ (H1 : Heap) (locs1 : List Loc), kv_rep g τ H1 → va_S (kv_A g) s.heap H1 locs1 → W p l e R s m args below meth c H1 locs1 (cells + (kv_n τ - kv_n σ)) (slots + (kv_z τ - kv_z σ)) Q (F0 m (pc + 3) ls ((r.toList ++ z.2.2).map (kv_cv g)))) : W p l e R s m args below meth c H locs cells slots Q (F0 m pc ls (st.map (kv_cv g))) := by
  obtain ⟨hd0, hw, hok, hokl⟩ := kv_row hins hX.1
  obtain ⟨-, hx, hb, hml, hown, hts, hin, hI, hbase⟩ := hX
  refine kv_W_size hbase hs0 hR hS (fun hsz => ?_)
  have hht : ∀ w ∈ kv_gt, w.before args s = true := fun w hw => hts w (List.mem_filter.mp hw).1 (List.mem_filter.mp hw).2
  unfold kv_cal at h
  split at h
  · rename_i c0 hc0
    split at h
    · rename_i hfit
      cases h
      unfold kv_fit at hfit
      split at hfit
      · rename_i q2 hq2
        have hfit := of_decide_eq_true hfit
        have hPc : ∀ U : State, U.heap = H → s.WarmedH U.vm → kv_Pc g z.2.1 σ (z.2.1.map (kv_cv g)).toArray U := fun U hU hW => ⟨rfl, by rw [hU]; exact hsz, kv_inv_warm hI hS hU hW, by rw [hU]; exact hR, kv_con_warm hC hS hU hW⟩
        obtain ⟨i, k0, a0, b0⟩ := E
        unfold kv_cal0 at hc0
        dsimp only at hc0 hd0
        split at hc0
        · -- invokevirtual
          rename_i idx
          have hl3 : k0 = 3 := of_decide_eq_true hokl
          subst hl3
          split at hc0
          · rename_i a rest hdrop
            split at hc0
            · rename_i q3 hq3
              split at hc0
              · rename_i hcnd
                cases hc0
                obtain ⟨c1, c2, c3, c4, c5⟩ := hcnd
                cases hq2.symm.trans hq3
                unfold kv_okE at hok
                dsimp only at hok
                split at hok
                · rename_i rr hrr
                  simp only [Bool.and_eq_true, decide_eq_true_eq, Bool.not_eq_true'] at hok
                  obtain ⟨⟨⟨⟨o1, o2⟩, o3⟩, o4⟩, o5⟩ := hok
                  have hyn : kv_yn a0 = q2.1 := by unfold kv_yn; rw [hq2]
                  rw [hyn] at o5
                  obtain ⟨w1, w2, -, w4, w5, w6⟩ := kv_mk_at hq2 hrr o3
                  obtain ⟨w7, w8⟩ := w4 o1
                  have hwl : Cond.methodLink q.1.cls idx q2.1 ∈ lw_tbl := by rw [← hyn]; exact hw _ List.mem_cons_self
                  have hM := kv_met ih hev hq2 hfit o5
                  have ht10 : (kv_sh σ a).1 < 10 := (List.getElem?_eq_some_iff.mp c3).1
                  have hsh : kv_sh σ a = ((kv_sh σ a).1, kv_N (kv_sh σ a).1) := by rw [← c4]
                  have h8 := kv_heap hR hC (a := a) (by omega) (by omega) (by omega)
                  have he := kv_ws_at g σ h8.1 h8.2
                  rw [kv_ce_obj g hsh ht10] at he
                  obtain ⟨C, hcl, hcn⟩ := kv_cl_at ht10
                  have hCq : C = q2.1.cls := Option.some.inj (hcn.symm.trans c3)
                  subst hCq
                  have hrecv := va_recv hI.1 hR.1 hcl he
                  have hsel : Cond.selects q2.1.cls q2.1 q2.1 ∈ lw_tbl := by
                    rcases w8 with h9 | h9
                    · exact absurd h9 c5
                    · exact h9
                  have hgood : GoodIn kv_gt (wsV q.1.cls idx q2.1.cls q2.1 (Cond.code q2.1 q2.2.1 q2.2.2.1 q2.2.2.2 :: kv_gt)) := by
                    intro w hw
                    unfold wsV at hw
                    rcases List.mem_append.mp hw with h9 | h9
                    · simp only [List.mem_cons, List.not_mem_nil, or_false] at h9
                      rcases h9 with rfl | rfl | rfl | rfl
                      · exact ⟨List.mem_filter.mpr ⟨hwl, rfl⟩, good_of_word rfl⟩
                      · exact ⟨List.mem_filter.mpr ⟨w7, rfl⟩, good_of_word rfl⟩
                      · exact ⟨List.mem_filter.mpr ⟨hsel, rfl⟩, good_of_word rfl⟩
                      · exact ⟨List.mem_filter.mpr ⟨w2, rfl⟩, good_of_word rfl⟩
                    · exact kv_good_in q2 w1 w h9
                  have hst : st.map (kv_cv g) = (((st.take b0).reverse.map (kv_cv g)).reverse ++ .ref (kv_ad g a) :: rest.map (kv_cv g)) := by
                    rw [← List.map_reverse, List.reverse_reverse]
                    have h9 : st = st.take b0 ++ .ref a :: rest := by rw [← hdrop, List.take_append_drop]
                    conv => lhs; rw [h9]
                    rw [List.map_append]
                    rfl
                  rw [hst]
                  refine kv_back (rest := rest) hS (va_runV (Ts := kv_gt) (As := (st.take b0).reverse.map (kv_cv g)) (rest := rest.map (kv_cv g)) (b := kv_ad g a) ⟨hx, hb, hml, hown, hht⟩ hM (cwV b0 hht hgood rfl rfl rfl ⟨rfl, w5.1, w5.2.1, by rw [w5.2.2, o2]⟩ ⟨by show d + 1 ≤ _; exact hf, by show 8 + (q2.2.2.1 + 11) + 64 * d ≤ _; omega⟩) ⟨kv_blind g _ σ, hrecv, hPc⟩ rfl (by simpa using c2) hl.1.1 rfl (lv_room (by rw [kv_cat_sum]; exact of_decide_eq_true c1)) hd0 ⟨hcells, hslots⟩) kk
                · cases hok
              · cases hc0
            · cases hc0
          · cases hc0
        · -- invokespecial
          rename_i idx
          have hl3 : k0 = 3 := of_decide_eq_true hokl
          subst hl3
          split at hc0
          · rename_i a rest
            split at hc0
            · rename_i hcnd
              cases hc0
              obtain ⟨c1, c2⟩ := hcnd
              unfold kv_okE at hok
              dsimp only at hok
              rw [Bool.or_eq_true] at hok
              rcases hok with hok | hok
              · have := of_decide_eq_true hok
                omega
              split at hok
              · rename_i rr hrr
                simp only [Bool.and_eq_true, decide_eq_true_eq, Bool.not_eq_true', Bool.or_eq_true] at hok
                obtain ⟨⟨⟨⟨⟨⟨o1, o2⟩, o6⟩, o3⟩, o4⟩, o5⟩, o7⟩ := hok
                have hyn : kv_yn a0 = q2.1 := by unfold kv_yn; rw [hq2]
                rw [hyn] at o5 o7
                obtain ⟨w1, w2, -, w4, w5, w6⟩ := kv_mk_at hq2 hrr o3
                obtain ⟨w7, -⟩ := w4 o1
                have hM := kv_met ih hev hq2 hfit o5
                have hret : q2.2.2.2 = none := kv_init_ret hq2 o7
                have hws : (Cond.code q2.1 q2.2.1 q2.2.2.1 q2.2.2.2 :: kv_gt) = (Cond.code q2.1 q2.2.1 q2.2.2.1 none :: kv_gt) := by rw [hret]
                have hroom : (kv_rm d (kv_n τ - kv_n σ) (kv_z τ - kv_z σ)).frames + 1 ≤ R.frames ∧ 8 + (q2.2.2.1 + 11) + (kv_rm d (kv_n τ - kv_n σ) (kv_z τ - kv_z σ)).locals ≤ R.locals := ⟨hf, by show 8 + (q2.2.2.1 + 11) + 64 * d ≤ _; omega⟩
                have hneed := hw _ List.mem_cons_self
                unfold kv_need at hneed
                dsimp only at hneed
                rw [if_neg (by omega), hyn] at hneed
                by_cases hb9 : 100 ≤ b0
                · rw [if_pos hb9] at hneed
                  exact kv_back (rest := rest) hS (va_runIN (Ts := kv_gt) (As := []) (rest := rest.map (kv_cv g)) (b := kv_ad g a) ⟨hx, hb, hml, hown, hht⟩ hM ⟨va_cnB 0 hht (kv_good_in q2 w1) hws rfl rfl (hI.2.2 _ hneed rfl) (hht _ (List.mem_filter.mpr ⟨w2, rfl⟩)) ⟨w5.1, w5.2.1, by rw [w5.2.2, o2]⟩ hroom, o7, hht _ (List.mem_filter.mpr ⟨w7, rfl⟩)⟩ ⟨kv_blind g _ σ, hPc⟩ rfl rfl hl.1.1 rfl (lv_room (by rw [kv_cat_sum]; exact of_decide_eq_true c1)) hd0 ⟨hcells, hslots⟩) kk
                · rw [if_neg hb9] at hneed
                  exact kv_back (rest := rest) hS (va_runI (Ts := kv_gt) (As := []) (rest := rest.map (kv_cv g)) (b := kv_ad g a) ⟨hx, hb, hml, hown, hht⟩ hM (cwI 0 hht (kv_good_in q2 w1) hws rfl rfl (hht _ (List.mem_filter.mpr ⟨w2, rfl⟩)) (hht _ (List.mem_filter.mpr ⟨hneed, rfl⟩)) (hht _ (List.mem_filter.mpr ⟨w7, rfl⟩)) o7 ⟨w5.1, w5.2.1, by rw [w5.2.2, o2]⟩ hroom) ⟨kv_blind g _ σ, hPc⟩ rfl rfl hl.1.1 rfl (lv_room (by rw [kv_cat_sum]; exact of_decide_eq_true c1)) hd0 ⟨hcells, hslots⟩) kk
              · cases hok
            · cases hc0
          · cases hc0
        · -- invokestatic
          rename_i idx
          have hl3 : k0 = 3 := of_decide_eq_true hokl
          subst hl3
          split at hc0
          · rename_i hcnd
            cases hc0
            obtain ⟨c1, c2, c3⟩ := hcnd
            unfold kv_okE at hok
            dsimp only at hok
            rw [Bool.or_eq_true] at hok
            rcases hok with hok | hok
            · have := of_decide_eq_true hok
              omega
            split at hok
            · rename_i rr hrr
              simp only [Bool.and_eq_true, decide_eq_true_eq] at hok
              obtain ⟨⟨⟨⟨o1, o2⟩, o3⟩, o4⟩, o5⟩ := hok
              have hyn : kv_yn a0 = q2.1 := by unfold kv_yn; rw [hq2]
              have hsy : kv_sy a0 = q2.1 := by
                rw [← hyn]
                unfold kv_sy
                split <;> first | omega | rfl
              rw [hyn] at o5
              obtain ⟨w1, w2, w3, -, w5, w6⟩ := kv_mk_at hq2 hrr o3
              have hM := kv_met ih hev hq2 hfit o5
              have hneed : Cond.methodLink q.1.cls idx q2.1 ∈ lw_tbl := by rw [← hsy]; exact hw _ List.mem_cons_self
              have hst : st.map (kv_cv g) = (((st.take b0).reverse.map (kv_cv g)).reverse ++ (st.drop b0).map (kv_cv g)) := by
                rw [← List.map_reverse, List.reverse_reverse, ← List.map_append, List.take_append_drop]
              rw [hst]
              exact kv_back (rest := st.drop b0) hS (va_runS (Ts := kv_gt) (As := (st.take b0).reverse.map (kv_cv g)) (rest := (st.drop b0).map (kv_cv g)) ⟨hx, hb, hml, hown, hht⟩ hM ⟨callB_of b0 hht (kv_good_in q2 w1) rfl rfl rfl (hht _ (List.mem_filter.mpr ⟨w2, rfl⟩)) (hht _ (List.mem_filter.mpr ⟨hneed, rfl⟩)) ⟨w5.1, w5.2.1, by rw [w5.2.2, o2]⟩ ⟨by show d + 1 ≤ _; exact hf, by show 8 + (q2.2.2.1 + 11) + 64 * d ≤ _; omega⟩, hht _ (List.mem_filter.mpr ⟨w3 o1, rfl⟩)⟩ ⟨kv_blind g _ σ, hPc⟩ rfl (by simpa using c3) hl.1.1 rfl (lv_room (by rw [kv_cat_sum]; exact of_decide_eq_true c1)) hd0 ⟨hcells, hslots⟩) kk
            · cases hok
          · cases hc0
        · cases hc0
      · cases hfit
    · cases h
  · cases h

theorem kv_sound (l : Launch) (g : kv_G) : ∀ n, kv_Snd l g n := by
  intro n
  induction n with
  | zero => intro d M pc lsA st σ r τ h; cases h
  | succ n ih =>
    intro d M pc lsA st σ r τ h p e R s m args below meth c Q q n0 z0 hX hsz hf hlo hRc hRs K H locs ls hn hz hR hC hS hl
    have hgr := kv_ev_gr _ _ _ _ _ _ _ _ _ h
    have hs0 : s.heap.size + (kv_n σ - n0) = g.1 + kv_n σ := by omega
    unfold kv_ev at h
    split at h
    · cases h
    rename_i E hins
    split at h
    · rename_i r' hret
      cases h
      have := K H locs pc ls E hins (by rw [← kv_ret_st hret]; exact hret) hR hS
      rw [kv_ret_st hret]
      exact this
    split at h
    · rename_i z hs1
      have g1 := kv_s1_gr hs1
      have g2 := kv_ev_gr _ _ _ _ _ _ _ _ _ h
      have a1 := g1.1
      have a2 := g1.2.1
      have a3 := g2.1
      have a4 := g2.2.1
      refine kq_s1 hX hR hC hS hs0 hins hl hs1 (by omega) (by omega) (fun H1 locs1 ls1 r1 r2 r3 => ?_)
      rw [show kv_n σ - n0 + (kv_n z.2.2.2 - kv_n σ) = kv_n z.2.2.2 - n0 by omega, show kv_z σ - z0 + (kv_z z.2.2.2 - kv_z σ) = kv_z z.2.2.2 - z0 by omega]
      exact ih d M z.1 z.2.1 z.2.2.1 z.2.2.2 r τ h p e R s m args below meth c Q q n0 z0 hX hsz hf hlo hRc hRs K H1 locs1 ls1 (by omega) (by omega) r1 (hC.low g1.2.2) r2 r3
    split at h
    · cases h
    rename_i d
    split at h
    · rename_i z hs1
      have g1 := kv_int_gr hs1
      have g2 := kv_ev_gr _ _ _ _ _ _ _ _ _ h
      have e0 := kv_int_n hs1
      have e1 : kv_n z.2 = kv_n σ := by unfold kv_n; rw [e0]
      have e2 : kv_z z.2 = kv_z σ := by unfold kv_z; rw [e0]
      have a3 := g2.1
      have a4 := g2.2.1
      refine kq_int hX hR hS hins hl hs1 (by omega) (by omega) (by omega) (by omega) (fun H1 locs1 r1 r2 => ?_)
      rw [← e1, ← e2]
      exact ih (d + 1) M (pc + 3) lsA z.1 z.2 r τ h p e R s m args below meth c Q q n0 z0 hX hsz hf hlo hRc hRs K H1 locs1 ls (by omega) (by omega) r1 (hC.low g1.2.2) r2 hl
    split at h
    · cases h
    rename_i z hcal
    split at h
    · cases h
    rename_i w hw
    obtain ⟨w1, w2⟩ := w
    have g1 := kv_ev_gr _ _ _ _ _ _ _ _ _ hw
    have g2 := kv_ev_gr _ _ _ _ _ _ _ _ _ h
    have a1 := g1.1
    have a2 := g1.2.1
    have a3 := g2.1
    have a4 := g2.2.1
    dsimp only at h a3 a4
    refine kq_cal ih hX hR hC hS hs0 hins hl hcal hw hf hlo (by omega) (by omega) (fun H1 locs1 r1 r2 => ?_)
    rw [show kv_n σ - n0 + (kv_n w2 - kv_n σ) = kv_n w2 - n0 by omega, show kv_z σ - z0 + (kv_z w2 - kv_z σ) = kv_z w2 - z0 by omega]
    exact ih (d + 1) M (pc + 3) lsA (w1.toList ++ z.2.2) w2 r τ h p e R s m args below meth c Q q n0 z0 hX hsz hf hlo hRc hRs K H1 locs1 ls (by omega) (by omega) r1 (hC.low g1.2.2) r2 hl

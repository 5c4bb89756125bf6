/-! ===== what the evaluator's memory stands for in the machine's heap ===== -/
abbrev kv_G : Type := Nat × (Nat → Nat) × (Nat → ClassId) × (Nat → ClassId) × (Nat → Nat → Nat)
def kv_ad (g : kv_G) (a : Nat) : Nat := if a < 8 then g.2.1 a else g.1 + (a - 8)
def kv_cv (g : kv_G) (v : Value) : Value := match v with
  | .ref a => .ref (kv_ad g a)
  | v => v
def kv_A (g : kv_G) : Nat → Prop := fun q => g.1 ≤ q
abbrev kv_D (g : kv_G) : va_G := (g.2.2.2.1, g.2.2.2.2)
def kv_tys (g : kv_G) : List (ClassId × FieldType) := [(g.2.2.1 10, .int), (g.2.2.1 11, .long), (g.2.2.1 12, .boolean), (g.2.2.1 13, .byte), (g.2.2.1 14, .object "LogicSmith$Table"), (g.2.2.1 15, .object "LogicSmith$Net")]
def kv_fv (g : kv_G) (σ : kv_S) (c a k : Nat) : Value := match kv_kd c k with
  | 1 => .long (kv_l σ a k)
  | 2 => va_rf ((kv_r σ a k).map (kv_ad g))
  | _ => .int (kv_i σ a k)
def kv_ar (g : kv_G) (σ : kv_S) (t a : Nat) : (Nat → Int32) ⊕ (Nat → Int64) ⊕ (Nat → UInt32) ⊕ (Nat → UInt64) ⊕ (Nat → Option Nat) :=
  if t = 11 then .inr (.inl (kv_l σ a)) else if t < 14 then .inl (kv_i σ a) else .inr (.inr (.inr (.inr (fun j => (kv_r σ a j).map (kv_ad g)))))
def kv_ce (g : kv_G) (σ : kv_S) (a : Nat) : va_E :=
  if (kv_sh σ a).1 < 10 then .inr ((kv_sh σ a).1, (List.range (kv_sh σ a).2).map (fun k => kv_fv g σ (kv_sh σ a).1 a k))
  else .inl (g.2.2.1 (kv_sh σ a).1, (kv_sh σ a).2, kv_ar g σ (kv_sh σ a).1 a)
def kv_ws (g : kv_G) (σ : kv_S) : va_W := (List.range (kv_n σ)).map (fun k => (kv_ad g (8 + k), kv_ce g σ (8 + k)))
/-- kinds stand at cells that were made; cells that weren't made hold nothing -/
def kv_pur (σ : kv_S) : Prop := (∀ a, (kv_sh σ a).1 < 16 → a < 7 ∨ 8 ≤ a ∧ a < 8 + kv_n σ) ∧ (∀ a, 8 + kv_n σ ≤ a → ∀ k, kv_i σ a k = 0 ∧ kv_l σ a k = 0 ∧ kv_r σ a k = none)
def kv_rep (g : kv_G) (σ : kv_S) (H : Heap) : Prop := va_P (kv_D g) kv_cl (kv_ws g σ) H ∧ kv_pur σ
def kv_fty (t : Nat) : FieldType := if t = 11 then .long else .int
def kv_cval (σ : kv_S) (k j : Nat) : Value := if (kv_sh σ k).1 = 11 then .long (kv_l σ k j) else .int (kv_i σ k j)
/-- the arrays that were there before: the statics and the script -/
def kv_con (g : kv_G) (σ : kv_S) (s : State) : Prop := ∀ k, k < 7 → ((kv_sh σ k).1 = 10 ∨ (kv_sh σ k).1 = 11) ∧ va_T (kv_fty (kv_sh σ k).1) (g.2.1 k) (kv_sh σ k).2 (kv_cval σ k) (kv_A g) s s.heap
def kv_low (σ τ : kv_S) : Prop := ∀ k, k < 8 → kv_sh τ k = kv_sh σ k ∧ kv_i τ k = kv_i σ k ∧ kv_l τ k = kv_l σ k
theorem kv_con.low {g : kv_G} {σ τ : kv_S} {s : State} (h : kv_con g σ s) (hl : kv_low σ τ) : kv_con g τ s := by
  intro k hk
  obtain ⟨e1, e2, e3⟩ := hl k (by omega)
  have e4 : kv_cval τ k = kv_cval σ k := by funext j; simp only [kv_cval, e1, e2, e3]
  rw [e4, e1]
  exact h k hk
theorem kv_low.rf (σ : kv_S) : kv_low σ σ := fun _ _ => ⟨rfl, rfl, rfl⟩
theorem kv_low.tr {σ τ υ : kv_S} (h1 : kv_low σ τ) (h2 : kv_low τ υ) : kv_low σ υ := fun k hk => ⟨(h2 k hk).1.trans (h1 k hk).1, (h2 k hk).2.1.trans (h1 k hk).2.1, (h2 k hk).2.2.trans (h1 k hk).2.2⟩
theorem kv_ad_hi (g : kv_G) {a : Nat} (h : 8 ≤ a) : kv_ad g a = g.1 + (a - 8) := by unfold kv_ad; rw [if_neg (by omega)]
theorem kv_ad_8 (g : kv_G) (k : Nat) : kv_ad g (8 + k) = g.1 + k := by rw [kv_ad_hi g (by omega)]; congr 1; omega
theorem kv_ws_get (g : kv_G) (σ : kv_S) {k : Nat} (h : k < kv_n σ) : (kv_ws g σ)[k]? = some (kv_ad g (8 + k), kv_ce g σ (8 + k)) := by
  simp [kv_ws, h]
theorem kv_ws_at (g : kv_G) (σ : kv_S) {a : Nat} (h : 8 ≤ a) (h2 : a < 8 + kv_n σ) : (kv_ws g σ)[a - 8]? = some (kv_ad g a, kv_ce g σ a) := by
  have := kv_ws_get g σ (k := a - 8) (by omega)
  rwa [show 8 + (a - 8) = a by omega] at this
theorem kv_D_ok (g : kv_G) (σ : kv_S) : va_D (kv_A g) (kv_ws g σ) := by
  have key : ∀ (k : Nat) (q : Nat × va_E), (kv_ws g σ)[k]? = some q → q.1 = g.1 + k := by
    intro k q h
    have hk : k < kv_n σ := by
      have := (List.getElem?_eq_some_iff.mp h).1
      simpa [kv_ws] using this
    rw [kv_ws_get g σ hk] at h
    cases h
    exact kv_ad_8 g k
  refine ⟨fun i j p q hi hj e => ?_, fun k q h => ?_⟩
  · rw [key i p hi, key j q hj] at e
    omega
  · show g.1 ≤ q.1
    rw [key k q h]
    omega
theorem kv_ws_set (g : kv_G) {σ τ : kv_S} {a : Nat} (h : 8 ≤ a) (hn : kv_n τ = kv_n σ) (ho : ∀ b, b ≠ a → kv_ce g τ b = kv_ce g σ b) : (kv_ws g σ).set (a - 8) (kv_ad g a, kv_ce g τ a) = kv_ws g τ := by
  apply List.ext_getElem?
  intro k
  by_cases hk : k < kv_n σ
  · rw [kv_ws_get g τ (by rw [hn]; exact hk), List.getElem?_set, kv_ws_get g σ hk]
    by_cases e : a - 8 = k
    · rw [if_pos e, if_pos (by simp [kv_ws]; omega)]
      rw [show 8 + k = a by omega]
    · rw [if_neg e, ho (8 + k) (by omega)]
  · rw [List.getElem?_eq_none (by simp [kv_ws]; omega), List.getElem?_eq_none (by simp [kv_ws]; omega)]
theorem kv_rep.size_le {g : kv_G} {σ : kv_S} {H : Heap} (h : kv_rep g σ H) (h0 : 0 < kv_n σ) : g.1 + kv_n σ ≤ H.size := by
  have h1 := (h.1 (kv_n σ - 1) _ (kv_ws_get g σ (by omega))).lt
  simp only [kv_ad_8] at h1
  omega
theorem kv_fd_cv (g : kv_G) (σ : kv_S) (c a k : Nat) : kv_cv g (kv_fd σ c a k) = kv_fv g σ c a k := by
  unfold kv_fd kv_fv
  generalize kv_kd c k = t
  match t with
  | 0 => rfl
  | 1 => rfl
  | 2 => cases kv_r σ a k <;> rfl
  | n + 3 => rfl
theorem kv_rv_cv (g : kv_G) (r : Option Nat) : kv_cv g (kv_rv r) = va_rf (r.map (kv_ad g)) := by cases r <;> rfl
theorem kv_ce_obj (g : kv_G) {σ : kv_S} {a c : Nat} (h : kv_sh σ a = (c, kv_N c)) (hc : c < 10) : kv_ce g σ a = .inr (c, (List.range (kv_N c)).map (fun k => kv_fv g σ c a k)) := by
  unfold kv_ce
  rw [h, if_pos hc]
theorem kv_ce_arr (g : kv_G) {σ : kv_S} {a t : Nat} (h : (kv_sh σ a).1 = t) (ht : 10 ≤ t) : kv_ce g σ a = .inl (g.2.2.1 t, (kv_sh σ a).2, kv_ar g σ t a) := by
  unfold kv_ce
  rw [if_neg (by omega), h]
theorem kv_cl_at {c : Nat} (hc : c < 10) : ∃ C, kv_cl[c]? = some (C, kv_T c, kv_N c) ∧ kv_cn[c]? = some C := by
  match c, hc with
  | 0, _ => exact ⟨_, rfl, rfl⟩
  | 1, _ => exact ⟨_, rfl, rfl⟩
  | 2, _ => exact ⟨_, rfl, rfl⟩
  | 3, _ => exact ⟨_, rfl, rfl⟩
  | 4, _ => exact ⟨_, rfl, rfl⟩
  | 5, _ => exact ⟨_, rfl, rfl⟩
  | 6, _ => exact ⟨_, rfl, rfl⟩
  | 7, _ => exact ⟨_, rfl, rfl⟩
  | 8, _ => exact ⟨_, rfl, rfl⟩
  | 9, _ => exact ⟨_, rfl, rfl⟩
theorem kv_up_self {α : Type} (f : Nat → Nat → α) (a k : Nat) (x : α) : kv_up f a k x a k = x := by simp [kv_up]
theorem kv_up_row {α : Type} (f : Nat → Nat → α) (a k : Nat) (x : α) {b : Nat} (h : b ≠ a) : kv_up f a k x b = f b := by funext j; simp [kv_up, h]
theorem kv_up_upd (f : Nat → Nat → Int32) (a k : Nat) (x : Int32) : kv_up f a k x a = upd (f a) k x := by funext j; by_cases h : j = k <;> simp [kv_up, upd, h]
theorem kv_up_updL (f : Nat → Nat → Int64) (a k : Nat) (x : Int64) : kv_up f a k x a = vp_updL (f a) k x := by funext j; by_cases h : j = k <;> simp [kv_up, vp_updL, h]
theorem kv_up_upr (f : Nat → Nat → Option Nat) (a k : Nat) (x : Option Nat) : kv_up f a k x a = va_up (f a) k x := by funext j; by_cases h : j = k <;> simp [kv_up, va_up, h]
-- ===== locals
def kv_prs (g : kv_G) (ls : List Value) : List (Nat × Value) := (List.range ls.length).filterMap (fun i => match (ls[i]? : Option Value) with
  | some Value.null => none
  | some v => some (i, kv_cv g v)
  | none => none)
def kv_L (g : kv_G) (lsR : Array Slot) (nL : Nat) (ls : List Value) : Prop := lv_has lsR nL (kv_prs g ls) ∧ ls.length = nL
theorem kv_prs_mem (g : kv_G) (ls : List Value) (i : Nat) (w : Value) : (i, w) ∈ kv_prs g ls ↔ ∃ v, ls[i]? = some v ∧ v ≠ .null ∧ w = kv_cv g v := by
  unfold kv_prs
  rw [List.mem_filterMap]
  constructor
  · rintro ⟨j, -, hj⟩
    split at hj
    · cases hj
    · rename_i v hn hv
      cases hj
      exact ⟨v, hv, fun e => hn (by rw [← e]), rfl⟩
    · cases hj
  · rintro ⟨v, hv, hn, rfl⟩
    refine ⟨i, List.mem_range.mpr (List.getElem?_eq_some_iff.mp hv).1, ?_⟩
    rw [hv]
    cases v <;> first | rfl | exact absurd rfl hn
theorem kv_L.at {g : kv_G} {lsR : Array Slot} {nL : Nat} {ls : List Value} (h : kv_L g lsR nL ls) {i : Nat} {v : Value} (hv : ls[i]? = some v) (hn : v ≠ .null) : lsR[i]? = some (.val (kv_cv g v)) :=
  h.1.2.2 (i, kv_cv g v) ((kv_prs_mem g ls i _).mpr ⟨v, hv, hn, rfl⟩)
theorem kv_cv_cat (g : kv_G) (v : Value) : (kv_cv g v).category = v.category := by cases v <;> rfl
/-- behind a store of one word -/
theorem kv_L.st {g : kv_G} {lsR' : Array Slot} {nL i : Nat} {ls ls' : List Value} {v : Value} (hlen : ls.length = nL) (hs : kv_st i v ls = some ls')
    (h' : lv_has lsR' nL ((i, kv_cv g v) :: (kv_prs g ls).filter (fun q => !(q.1 == i) && !(q.1 + 1 == i && q.2.category == 2)))) : kv_L g lsR' nL ls' := by
  unfold kv_st at hs
  split at hs
  · rename_i hc
    cases hs
    refine ⟨⟨h'.1, h'.2.1, fun q hq => h'.2.2 q ?_⟩, by rw [List.length_set]; exact hlen⟩
    obtain ⟨j, w⟩ := q
    obtain ⟨u, hu, hn, rfl⟩ := (kv_prs_mem g _ j w).mp hq
    rw [List.getElem?_set] at hu
    by_cases e : i = j
    · subst e
      rw [if_pos rfl, if_pos hc.1] at hu
      cases hu
      exact List.mem_cons_self
    · rw [if_neg e] at hu
      refine List.mem_cons_of_mem _ (List.mem_filter.mpr ⟨(kv_prs_mem g ls j _).mpr ⟨u, hu, hn, rfl⟩, ?_⟩)
      have hne : (j == i) = false := by simpa using fun q => e q.symm
      rw [Bool.and_eq_true]
      refine ⟨by simp [hne], ?_⟩
      by_cases e2 : j + 1 = i
      · subst e2
        have h3 := hc.2
        simp only [kv_pr, hu] at h3
        simp only [kv_c1, beq_iff_eq] at h3
        simp [kv_cv_cat, h3]
      · simp [e2]
  · cases hs
theorem kv_L.s2 {g : kv_G} {lsR' : Array Slot} {nL i : Nat} {ls ls' : List Value} {v : Value} (hlen : ls.length = nL) (hs : kv_s2 i v ls = some ls')
    (h' : lv_has lsR' nL ((i, kv_cv g v) :: (kv_prs g ls).filter (fun q => !(q.1 == i) && (!(q.1 == i + 1) && !(q.1 + 1 == i && q.2.category == 2))))) : kv_L g lsR' nL ls' := by
  unfold kv_s2 at hs
  split at hs
  · rename_i hc
    cases hs
    refine ⟨⟨h'.1, h'.2.1, fun q hq => h'.2.2 q ?_⟩, by rw [List.length_set, List.length_set]; exact hlen⟩
    obtain ⟨j, w⟩ := q
    obtain ⟨u, hu, hn, rfl⟩ := (kv_prs_mem g _ j w).mp hq
    rw [List.getElem?_set] at hu
    by_cases e0 : i + 1 = j
    · subst e0
      rw [if_pos rfl, if_pos (by rw [List.length_set]; exact hc.1)] at hu
      cases hu
      exact absurd rfl hn
    · rw [if_neg e0, List.getElem?_set] at hu
      by_cases e : i = j
      · subst e
        rw [if_pos rfl, if_pos (by omega)] at hu
        cases hu
        exact List.mem_cons_self
      · rw [if_neg e] at hu
        refine List.mem_cons_of_mem _ (List.mem_filter.mpr ⟨(kv_prs_mem g ls j _).mpr ⟨u, hu, hn, rfl⟩, ?_⟩)
        have hne : (j == i) = false := by simpa using fun q => e q.symm
        have hne2 : (j == i + 1) = false := by simpa using fun q => e0 q.symm
        rw [Bool.and_eq_true, Bool.and_eq_true]
        refine ⟨by simp [hne], by simp [hne2], ?_⟩
        by_cases e2 : j + 1 = i
        · subst e2
          have h3 := hc.2
          simp only [kv_pr, hu] at h3
          simp only [kv_c1, beq_iff_eq] at h3
          simp [kv_cv_cat, h3]
        · simp [e2]
  · cases hs

/-! ===== the law: its loop ===== -/
def kv_obs (J : kv_S → Prop) (d : Nat) : Prop := ob_0 J d ∧ ob_1 J d ∧ ob_2 J d ∧ ob_3 J d ∧ ob_4 J d ∧ ob_5 J d ∧ ob_6 J d ∧ ob_7 J d ∧ ob_8 J d ∧ ob_9 J d ∧ ob_10 J d ∧ ob_11 J d ∧ ob_12 J d ∧ ob_13 J d ∧ ob_14 J d ∧ ob_15 J d ∧ ob_16 J d ∧ ob_17 J d ∧ ob_18 J d ∧ ob_19 J d ∧ ob_20 J d ∧ ob_21 J d ∧ ob_22 J d ∧ ob_23 J d ∧ ob_24 J d ∧ ob_25 J d ∧ ob_26 J d ∧ ob_27 J d ∧ ob_28 J d ∧ ob_29 J d ∧ ob_30 J d
theorem law_and (x : Int32) : ∃ j, j < 32 ∧ x &&& 31 = Int32.ofNat j := by
  refine ⟨(x &&& 31).toBitVec.toNat, ?_, ?_⟩
  · rw [Int32.toBitVec_and, BitVec.toNat_and]
    exact Nat.lt_of_le_of_lt Nat.and_le_right (by decide)
  · apply Int32.toBitVec_inj.mp
    rw [Int32.toBitVec_ofNat']
    simp
theorem law_gt {n L : Nat} (hn : n ≤ 2560) (hL : L ≤ 2560) : (Int32.ofNat L - 5 < Int32.ofNat n) ↔ L < n + 5 := by
  have h1 : (Int32.ofNat n).toInt = n := nI_toInt (n := n) (by omega)
  have h2 : (Int32.ofNat L).toInt = L := nI_toInt (n := L) (by omega)
  rw [Int32.lt_iff_toInt_lt, Int32.toInt_sub, h1, h2]
  have h5 : (5 : Int32).toInt = 5 := by decide
  rw [h5]
  rw [Int.bmod_eq_of_le (by omega) (by omega)]
  omega
set_option maxRecDepth 10000 in
theorem law_sw {J : kv_S → Prop} {d L : Nat} {X : Nat → Int32} (obs : kv_obs J d) (hJ : ∀ σ, J σ → kv_n σ = 176 ∧ kv_sh σ 8 = (8, 11) ∧ kv_sh σ 149 = (9, 47)) (hL : L ≤ 2560) {n : Nat} (hn : n + 5 ≤ L) {σ : kv_S} (h : J σ) (h6 : kv_sh σ 6 = (10, L)) (hX : kv_i σ 6 = X) {Φ : Option Value → kv_S → Prop} (k : ∀ τ, J τ → kv_sh τ 6 = (10, L) → kv_i τ 6 = X → Wp (d + 1) 0 1175 [.ref 6, .ref 8, .ref 149, .int (Int32.ofNat n)] [] τ Φ) (x : Int32) : Wp (d + 1) 0 32 [.ref 6, .ref 8, .ref 149, .int (Int32.ofNat n)] [.int (x &&& 31)] σ Φ := by
  obtain ⟨o0, o1, o2, o3, o4, o5, o6, o7, o8, o9, o10, o11, o12, o13, o14, o15, o16, o17, o18, o19, o20, o21, o22, o23, o24, o25, o26, o27, o28, o29, o30⟩ := obs
  obtain ⟨j, hj, e⟩ := law_and x
  rw [e]
  have hc : j = 0 ∨ j = 1 ∨ j = 2 ∨ j = 3 ∨ j = 4 ∨ j = 5 ∨ j = 6 ∨ j = 7 ∨ j = 8 ∨ j = 9 ∨ j = 10 ∨ j = 11 ∨ j = 12 ∨ j = 13 ∨ j = 14 ∨ j = 15 ∨ j = 16 ∨ j = 17 ∨ j = 18 ∨ j = 19 ∨ j = 20 ∨ j = 21 ∨ j = 22 ∨ j = 23 ∨ j = 24 ∨ j = 25 ∨ j = 26 ∨ j = 27 ∨ j = 28 ∨ j = 29 ∨ j = 30 ∨ j = 31 := by omega
  rcases hc with rfl | rfl | rfl | rfl | rfl | rfl | rfl | rfl | rfl | rfl | rfl | rfl | rfl | rfl | rfl | rfl | rfl | rfl | rfl | rfl | rfl | rfl | rfl | rfl | rfl | rfl | rfl | rfl | rfl | rfl | rfl | rfl
  · rw [show Int32.ofNat 0 = (0 : Int32) by decide, g_0_32_0]; exact law_c0 o0 hJ hn hL h h6 hX k
  · rw [show Int32.ofNat 1 = (1 : Int32) by decide, g_0_32_1]; exact law_c1 o1 hJ hn hL h h6 hX k
  · rw [show Int32.ofNat 2 = (2 : Int32) by decide, g_0_32_2]; exact law_c2 o2 hJ hn hL h h6 hX k
  · rw [show Int32.ofNat 3 = (3 : Int32) by decide, g_0_32_3]; exact law_c3 o3 hJ hn hL h h6 hX k
  · rw [show Int32.ofNat 4 = (4 : Int32) by decide, g_0_32_4]; exact law_c4 o4 hJ hn hL h h6 hX k
  · rw [show Int32.ofNat 5 = (5 : Int32) by decide, g_0_32_5]; exact law_c5 o5 hJ hn hL h h6 hX k
  · rw [show Int32.ofNat 6 = (6 : Int32) by decide, g_0_32_6]; exact law_c6 o6 hJ hn hL h h6 hX k
  · rw [show Int32.ofNat 7 = (7 : Int32) by decide, g_0_32_7]; exact law_c7 o7 hJ hn hL h h6 hX k
  · rw [show Int32.ofNat 8 = (8 : Int32) by decide, g_0_32_8]; exact law_c8 o8 hJ hn hL h h6 hX k
  · rw [show Int32.ofNat 9 = (9 : Int32) by decide, g_0_32_9]; exact law_c9 o9 hJ hn hL h h6 hX k
  · rw [show Int32.ofNat 10 = (10 : Int32) by decide, g_0_32_10]; exact law_c10 o10 hJ hn hL h h6 hX k
  · rw [show Int32.ofNat 11 = (11 : Int32) by decide, g_0_32_11]; exact law_c11 o11 hJ hn hL h h6 hX k
  · rw [show Int32.ofNat 12 = (12 : Int32) by decide, g_0_32_12]; exact law_c12 o12 hJ hn hL h h6 hX k
  · rw [show Int32.ofNat 13 = (13 : Int32) by decide, g_0_32_13]; exact law_c13 o13 hJ hn hL h h6 hX k
  · rw [show Int32.ofNat 14 = (14 : Int32) by decide, g_0_32_14]; exact law_c14 o14 hJ hn hL h h6 hX k
  · rw [show Int32.ofNat 15 = (15 : Int32) by decide, g_0_32_15]; exact law_c15 o15 hJ hn hL h h6 hX k
  · rw [show Int32.ofNat 16 = (16 : Int32) by decide, g_0_32_16]; exact law_c16 o16 hJ hn hL h h6 hX k
  · rw [show Int32.ofNat 17 = (17 : Int32) by decide, g_0_32_17]; exact law_c17 o17 hJ hn hL h h6 hX k
  · rw [show Int32.ofNat 18 = (18 : Int32) by decide, g_0_32_18]; exact law_c18 o18 hJ hn hL h h6 hX k
  · rw [show Int32.ofNat 19 = (19 : Int32) by decide, g_0_32_19]; exact law_c19 o19 hJ hn hL h h6 hX k
  · rw [show Int32.ofNat 20 = (20 : Int32) by decide, g_0_32_20]; exact law_c20 o20 hJ hn hL h h6 hX k
  · rw [show Int32.ofNat 21 = (21 : Int32) by decide, g_0_32_21]; exact law_c21 o21 hJ hn hL h h6 hX k
  · rw [show Int32.ofNat 22 = (22 : Int32) by decide, g_0_32_22]; exact law_c22 o22 hJ hn hL h h6 hX k
  · rw [show Int32.ofNat 23 = (23 : Int32) by decide, g_0_32_23]; exact law_c23 o23 hJ hn hL h h6 hX k
  · rw [show Int32.ofNat 24 = (24 : Int32) by decide, g_0_32_24]; exact law_c24 o24 hJ hn hL h h6 hX k
  · rw [show Int32.ofNat 25 = (25 : Int32) by decide, g_0_32_25]; exact law_c25 o25 hJ hn hL h h6 hX k
  · rw [show Int32.ofNat 26 = (26 : Int32) by decide, g_0_32_26]; exact law_c26 o26 hJ hn hL h h6 hX k
  · rw [show Int32.ofNat 27 = (27 : Int32) by decide, g_0_32_27]; exact law_c27 o27 hJ hn hL h h6 hX k
  · rw [show Int32.ofNat 28 = (28 : Int32) by decide, g_0_32_28]; exact law_c28 o28 hJ hn hL h h6 hX k
  · rw [show Int32.ofNat 29 = (29 : Int32) by decide, g_0_32_29]; exact law_c29 o29 hJ hn hL h h6 hX k
  · rw [show Int32.ofNat 30 = (30 : Int32) by decide, g_0_32_30]; exact law_c30 o30 hJ hn hL h h6 hX k
  · rw [g_0_32_x (Or.inr (by decide))]; exact k σ h h6 hX
theorem law_loop {J : kv_S → Prop} {d L : Nat} {X : Nat → Int32} (obs : kv_obs J d) (hJ : ∀ σ, J σ → kv_n σ = 176 ∧ kv_sh σ 8 = (8, 11) ∧ kv_sh σ 149 = (9, 47)) (hL : L ≤ 2560) {Φ : Option Value → kv_S → Prop} (hΦ : ∀ τ, J τ → Φ (some (.int 1)) τ) : ∀ (m n : Nat) (σ : kv_S), n ≤ 2560 → L < n + m → J σ → kv_sh σ 6 = (10, L) → kv_i σ 6 = X → Wp (d + 1) 0 18 [.ref 6, .ref 8, .ref 149, .int (Int32.ofNat n)] [] σ Φ
  | 0, n, σ, hn, hm, h, h6, hX => by
    rw [g_0_18, g_0_19, g_0_20 (by rw [h6]; show 10 ≤ 10; decide) (by rw [h6]; show 10 < 16; decide), g_0_21, g_0_22, g_0_23, h6, if_pos ((law_gt hn hL).mpr (by omega)), g_0_1181, g_0_1182 (Or.inr rfl)]
    exact hΦ σ h
  | m + 1, n, σ, hn, hm, h, h6, hX => by
    rw [g_0_18, g_0_19, g_0_20 (by rw [h6]; show 10 ≤ 10; decide) (by rw [h6]; show 10 < 16; decide), g_0_21, g_0_22, g_0_23, h6]
    by_cases hc : L < n + 5
    · rw [if_pos ((law_gt hn hL).mpr hc), g_0_1181, g_0_1182 (Or.inr rfl)]
      exact hΦ σ h
    · rw [if_neg (fun q => hc ((law_gt hn hL).mp q))]
      have c3 : (Int32.ofNat n).toNatClampNeg = n := nI_cl (by omega)
      have c2 : ¬ Int32.ofNat n < 0 := nI_pos (n := n) (by omega)
      rw [g_0_26, g_0_27, g_0_28 (by rw [h6]) c2 (by rw [h6, c3]; show n < L; omega), g_0_29, g_0_31]
      refine law_sw obs hJ hL (by omega) h h6 hX (fun τ h' h6' hX' => ?_) _
      rw [g_0_1175 rfl, g_0_1178, show Int32.ofNat n + 5 = Int32.ofNat (n + 5) from (Int32.ofNat_add n 5).symm]
      exact law_loop obs hJ hL hΦ m (n + 5) τ (by omega) (by omega) h' h6' hX'
theorem s0_n (L : Nat) (xs : Nat → Int32) : kv_n (kv_s0 L xs) = 0 := Eq.trans rfl rfl
/-- from the law's entry to its loop -/
theorem law_init (d L : Nat) (xs : Nat → Int32) (Φ : Option Value → kv_S → Prop) : Wp (d + 3) 0 0 [.ref 6, .null, .null, .null] [] (kv_s0 L xs) Φ = Wp (d + 3) 0 18 [.ref 6, .ref 8, .ref 149, .int 0] [] (kv_ops kv_OPS (kv_s0 L xs)) Φ := by
  rw [g_0_0, s0_n, g_0_3r, g_0_4 (kv_w8_1 _), a_LogicSmith d _ rfl rfl]
  generalize hτ : kv_ops (kv_opA ++ (kv_opTs 16 ++ kv_opNs 8)) (kv_mkc (kv_s0 L xs) 8 11) = τ
  have hn : kv_n τ = 141 := by rw [← hτ, kv_n_ops, kv_on_app, kv_on_app, kv_opTs_n, kv_opNs_n]; rfl
  simp only [Option.toList_none, List.nil_append]
  rw [g_0_7 rfl, g_0_8, hn, g_0_11r, g_0_12 (kv_w8_1 _), a_Model (d + 1) _ (by rw [n_mk, hn]) (by rw [sh_mk, hn]; rfl)]
  simp only [Option.toList_none, List.nil_append]
  rw [g_0_15 rfl, g_0_16, g_0_17 rfl]
  have e1 : ∀ (σ : kv_S) (t n : Nat), kv_ops [(0, t, n, 0)] σ = kv_mkc σ t n := fun _ _ _ => rfl
  have e2 : kv_OPS = [(0, 8, 11, 0)] ++ (kv_opA ++ (kv_opTs 16 ++ (kv_opNs 8 ++ ([(0, 9, 47, 0)] ++ kv_opM.tail)))) := rfl
  rw [e2, ← hτ]
  simp only [kv_ops_app, e1]
/-- THE CLAIM OUT OF AN INVARIANT: it holds behind the constructors, and each pair of calls answers alike and keeps it -/
theorem kv_claim_of (J : kv_S → Prop) (d : Nat) (hd : d + 3 = 1000) (obs : kv_obs J (d + 2)) (hJ : ∀ σ, J σ → kv_n σ = 176 ∧ kv_sh σ 8 = (8, 11) ∧ kv_sh σ 149 = (9, 47)) (hz : ∀ σ, J σ → kv_z σ ≤ 7302250) (h0 : ∀ L xs, J (kv_ops kv_OPS (kv_s0 L xs))) : kv_claim := by
  intro L xs hL
  have h6 : kv_sh (kv_ops kv_OPS (kv_s0 L xs)) 6 = (10, L) := by rw [kv_sh_ops, kv_osh_lt _ _ _ (by rw [s0_n]; decide)]; rfl
  have key : Wp (d + 2 + 1) 0 18 [.ref 6, .ref 8, .ref 149, .int (Int32.ofNat 0)] [] (kv_ops kv_OPS (kv_s0 L xs)) (fun r τ => r = some (.int 1) ∧ kv_n τ ≤ 600000 ∧ kv_z τ ≤ 7302250) :=
    law_loop obs hJ hL (fun τ h => ⟨rfl, by rw [(hJ τ h).1]; decide, hz τ h⟩) (L + 1) 0 _ (by omega) (by omega) (h0 L xs) h6 rfl
  rw [show Int32.ofNat 0 = (0 : Int32) by decide, show d + 2 + 1 = d + 3 from rfl, ← law_init, hd] at key
  obtain ⟨n, r, τ, h1, h2, h3, h4⟩ := key
  rw [h2] at h1
  exact ⟨n, τ, h1, h3, h4⟩

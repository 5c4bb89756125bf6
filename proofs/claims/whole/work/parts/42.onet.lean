/-! ===== net: its promise ===== -/
theorem JN1.fine {σ τ : kv_S} {k : Nat} (h : ∀ b j, 101 + 6 * k ≤ b → b ≤ 106 + 6 * k → kv_i τ b j = kv_i σ b j) (h1 : kv_i τ 168 k = kv_i σ 168 k) (h2 : kv_i τ 169 k = kv_i σ 169 k) (h3 : ∀ b g, 170 ≤ b → b ≤ 173 → g < 40 → kv_i τ b (40 * k + g) = kv_i σ b (40 * k + g)) (h4 : ∀ i, i < 6 → kv_i τ 174 (6 * k + i) = kv_i σ 174 (6 * k + i)) (H : JN1 σ k) : JN1 τ k := by
  obtain ⟨w, G, w1, w2, w3, w4, w5, w6, w7, w8, w9⟩ := H
  refine ⟨w, G, w1, w2, w3, ?_, h1.trans w5, ?_, h2.trans w7, fun j hj => ?_, fun i hi => ?_⟩
  · rw [h _ _ (by omega) (by omega)]; exact w4
  · rw [h _ _ (by omega) (by omega)]; exact w6
  · have := w8 j hj
    unfold JN2 at *
    rw [h (102 + 6 * k) j (by omega) (by omega), h3 170 j (by omega) (by omega) (by omega), h3 171 j (by omega) (by omega) (by omega), h (103 + 6 * k) j (by omega) (by omega), h3 172 j (by omega) (by omega) (by omega), h (104 + 6 * k) j (by omega) (by omega), h3 173 j (by omega) (by omega) (by omega), h (105 + 6 * k) j (by omega) (by omega)]
    exact this
  · rw [h4 i hi, h (106 + 6 * k) i (by omega) (by omega)]
    exact w9 i hi
/-- promise 16: net -/
theorem o_14 (d : Nat) : ob_14 JJ (d + 2) := by
  intro σ h n
  have h' := h
  obtain ⟨a1, a2, a3, a4, ⟨K, hK, k1, k2, k3⟩, a6, a7⟩ := h'
  by_cases hb : n < 1 ∨ ¬ n ≤ 8
  · rw [m_net_cb n hb]
    refine ⟨_, rfl, ?_⟩
    rw [m_net_mb n hb]
    exact ⟨rfl, h⟩
  · rw [not_or, Classical.not_not] at hb
    by_cases h8 : K = 8
    · subst h8
      rw [m_net_cf a1 (k1.trans (by decide)) n hb.1 hb.2]
      refine ⟨_, rfl, ?_⟩
      rw [m_net_mf a1 (k2.trans (by decide)) n hb.1 hb.2]
      exact ⟨rfl, h⟩
    · have hK8 : K < 8 := by omega
      rw [m_net_c a1 hK8 k1 n hb.1 hb.2]
      refine ⟨_, rfl, ?_⟩
      obtain ⟨τ, hτ⟩ : ∃ τ, τ = kv_si (kv_fil (kv_si (kv_si σ (101 + 6 * K) 5 n) (101 + 6 * K) 6 0) (106 + 6 * K) 6 (-3)) 8 10 (Int32.ofNat (K + 1)) := ⟨_, rfl⟩
      rw [← hτ]
      have b1 : JS τ := by rw [hτ]; exact (((a1.si _ _ _).si _ _ _).fil _ _ _).si _ _ _
      have l1 : kv_low σ τ := by rw [hτ]; exact (((kv_si_low σ _ _ (by omega)).tr (kv_si_low _ _ _ (by omega))).tr (fil_low _ _ _ (by omega))).tr (kv_si_low _ _ _ (by decide))
      have f1 : ∀ b j, ¬ (b = 101 + 6 * K ∧ (j = 5 ∨ j = 6)) → ¬ (b = 106 + 6 * K ∧ j < 6) → ¬ (b = 8 ∧ j = 10) → kv_i τ b j = kv_i σ b j := fun b j q1 q2 q3 => by rw [hτ, ne_ess q3, fil_i, if_neg q2, ne_ess (by omega), ne_ess (by omega)]
      have f2 : kv_i τ (101 + 6 * K) 5 = n := by rw [hτ, ne_ess (by omega), fil_i, if_neg (by omega), ne_ess (by omega), i_si, if_pos ⟨rfl, rfl⟩]
      have f3 : kv_i τ (101 + 6 * K) 6 = 0 := by rw [hτ, ne_ess (by omega), fil_i, if_neg (by omega), i_si, if_pos ⟨rfl, rfl⟩]
      have f4 : ∀ i, i < 6 → kv_i τ (106 + 6 * K) i = -3 := fun i hi => by rw [hτ, ne_ess (by omega), fil_i, if_pos ⟨rfl, hi⟩]
      have f5 : kv_i τ 8 10 = Int32.ofNat (K + 1) := by rw [hτ, i_si, if_pos ⟨rfl, rfl⟩]
      rw [m_net_m b1 hK8 (by rw [f1 _ _ (by omega) (by omega) (by omega)]; exact k2) n hb.1 hb.2]
      refine ⟨rfl, ?_⟩
      obtain ⟨υ, hυ⟩ : ∃ υ, υ = kv_si (kv_frg (kv_si (kv_si τ 168 K n) 169 K 0) 174 (6 * K) 6 (-3)) 149 26 (Int32.ofNat (K + 1)) := ⟨_, rfl⟩
      rw [← hυ]
      have b2 : JS υ := by rw [hυ]; exact (((b1.si _ _ _).si _ _ _).frg _ _ _ _).si _ _ _
      have l2 : kv_low τ υ := by rw [hυ]; exact (((kv_si_low τ _ _ (by omega)).tr (kv_si_low _ _ _ (by omega))).tr (frg_low _ _ _ _ (by omega))).tr (kv_si_low _ _ _ (by decide))
      have g1 : ∀ b j, ¬ (b = 168 ∧ j = K) → ¬ (b = 169 ∧ j = K) → ¬ (b = 174 ∧ 6 * K ≤ j ∧ j < 6 * K + 6) → ¬ (b = 149 ∧ j = 26) → kv_i υ b j = kv_i τ b j := fun b j q1 q2 q3 q4 => by rw [hυ, ne_ess q4, frg_i, if_neg q3, ne_ess q2, ne_ess q1]
      have g2 : kv_i υ 168 K = n := by rw [hυ, ne_ess (by omega), frg_i, if_neg (by omega), ne_ess (by omega), i_si, if_pos ⟨rfl, rfl⟩]
      have g3 : kv_i υ 169 K = 0 := by rw [hυ, ne_ess (by omega), frg_i, if_neg (by omega), i_si, if_pos ⟨rfl, rfl⟩]
      have g4 : ∀ i, i < 6 → kv_i υ 174 (6 * K + i) = -3 := fun i hi => by rw [hυ, ne_ess (by omega), frg_i, if_pos ⟨rfl, by omega, by omega⟩]
      have g5 : kv_i υ 149 26 = Int32.ofNat (K + 1) := by rw [hυ, i_si, if_pos ⟨rfl, rfl⟩]
      have cg : ∀ b j, ¬ (b = 101 + 6 * K ∧ (j = 5 ∨ j = 6)) → ¬ (b = 106 + 6 * K ∧ j < 6) → ¬ (b = 8 ∧ j = 10) → ¬ (b = 168 ∧ j = K) → ¬ (b = 169 ∧ j = K) → ¬ (b = 174 ∧ 6 * K ≤ j ∧ j < 6 * K + 6) → ¬ (b = 149 ∧ j = 26) → kv_i υ b j = kv_i σ b j := fun b j q1 q2 q3 q4 q5 q6 q7 => (g1 b j q4 q5 q6 q7).trans (f1 b j q1 q2 q3)
      have n1 := mt Int32.lt_iff_toInt_lt.mpr hb.1
      have n2 := Int32.le_iff_toInt_le.mp hb.2
      rw [show (1 : Int32).toInt = 1 by decide] at n1
      rw [show (8 : Int32).toInt = 8 by decide] at n2
      have en : n = Int32.ofNat n.toInt.toNat := by rw [i32_eq, oN_toInt (by omega)]; omega
      refine ⟨b2, (a2.low l1).low l2, a3.cong (fun j => cg _ _ (by omega) (by omega) (by omega) (by omega) (by omega) (by omega) (by omega)), a4.cong (fun b j hb => cg _ _ (by omega) (by omega) (by omega) (by omega) (by omega) (by omega) (by omega)) (cg _ _ (by omega) (by omega) (by omega) (by omega) (by omega) (by omega) (by omega)) (cg _ _ (by omega) (by omega) (by omega) (by omega) (by omega) (by omega) (by omega)), ⟨K + 1, by omega, ?_, g5, fun k hk => ?_⟩, a6.cong (fun j => cg _ _ (by omega) (by omega) (by omega) (by omega) (by omega) (by omega) (by omega)) (fun j => cg _ _ (by omega) (by omega) (by omega) (by omega) (by omega) (by omega) (by omega)) (cg _ _ (by omega) (by omega) (by omega) (by omega) (by omega) (by omega) (by omega)) (cg _ _ (by omega) (by omega) (by omega) (by omega) (by omega) (by omega) (by omega)) (cg _ _ (by omega) (by omega) (by omega) (by omega) (by omega) (by omega) (by omega)) (cg _ _ (by omega) (by omega) (by omega) (by omega) (by omega) (by omega) (by omega)), ?_⟩
      · rw [g1 _ _ (by omega) (by omega) (by omega) (by omega)]; exact f5
      · by_cases e : k = K
        · subst e
          refine ⟨n.toInt.toNat, 0, by omega, by omega, by omega, ?_, g2.trans en, ?_, g3, fun g hg => absurd hg (by omega), fun i hi => ?_⟩
          · rw [g1 _ _ (by omega) (by omega) (by omega) (by omega), f2]; exact en
          · rw [g1 _ _ (by omega) (by omega) (by omega) (by omega)]; exact f3
          · rw [g4 i hi, g1 _ _ (by omega) (by omega) (by omega) (by omega), f4 i hi]
            exact ⟨rfl, Or.inl rfl⟩
        · exact (k3 k (by omega)).fine (fun b j q1 q2 => cg _ _ (by omega) (by omega) (by omega) (by omega) (by omega) (by omega) (by omega)) (cg _ _ (by omega) (by omega) (by omega) (by omega) (by omega) (by omega) (by omega)) (cg _ _ (by omega) (by omega) (by omega) (by omega) (by omega) (by omega) (by omega)) (fun b g q1 q2 q3 => cg _ _ (by omega) (by omega) (by omega) (by omega) (by omega) (by omega) (by omega)) (fun i hi => cg _ _ (by omega) (by omega) (by omega) (by omega) (by omega) (by omega) (by omega))
      · obtain ⟨⟨S, t1, t2, t3, t4⟩, t5, t6⟩ := a7
        refine ⟨⟨S, t1, (cg _ _ (by omega) (by omega) (by omega) (by omega) (by omega) (by omega) (by omega)).trans t2, (cg _ _ (by omega) (by omega) (by omega) (by omega) (by omega) (by omega) (by omega)).trans t3, fun i hi => JH2.cong (fun b j hb => cg _ _ (by omega) (by omega) (by omega) (by omega) (by omega) (by omega) (by omega)) (t4 i hi)⟩, ?_, ?_⟩
        · rw [cg 149 34 (by omega) (by omega) (by omega) (by omega) (by omega) (by omega) (by omega), cg 32 5 (by omega) (by omega) (by omega) (by omega) (by omega) (by omega) (by omega)]; exact t5
        · rw [cg 32 5 (by omega) (by omega) (by omega) (by omega) (by omega) (by omega) (by omega)]
          rcases t6 with t6 | ⟨k, K', q1, q2, q3, q4, q5⟩
          · exact Or.inl t6
          · have hKK : K' = K := by rw [k1, i32_inj (by omega) (by omega)] at q2; exact q2.symm
            exact Or.inr ⟨k, K + 1, by omega, by rw [g1 _ _ (by omega) (by omega) (by omega) (by omega)]; exact f5, by omega, q4, q5.cong (fun b j hb => cg _ _ (by omega) (by omega) (by omega) (by omega) (by omega) (by omega) (by omega)) (cg _ _ (by omega) (by omega) (by omega) (by omega) (by omega) (by omega) (by omega)) (cg _ _ (by omega) (by omega) (by omega) (by omega) (by omega) (by omega) (by omega))⟩

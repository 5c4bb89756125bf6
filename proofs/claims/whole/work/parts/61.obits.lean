/-- promise 4: bits -/
theorem o_2 (d : Nat) : ob_2 JJ (d + 2) := by
  intro σ h p q x n
  have h' := h
  obtain ⟨a1, a2, a3, ⟨F, hF, f1, f2, f3⟩, a5, a6, a7⟩ := h'
  by_cases hp : ¬ p < 0 ∧ p < Int32.ofNat F
  · obtain ⟨f, hf, rfl, ec⟩ := i32_nat (by omega) hp.1 hp.2
    obtain ⟨w, hj⟩ := f3 f hf
    have hj : JF1' σ f w := hj
    have hW := pw8 hj.2.1
    have hf16 : f < 16 := by omega
    by_cases hq : ¬ q < 0 ∧ q < Int32.ofNat (2 ^ w)
    · obtain ⟨row, hr, rfl, eq_⟩ := i32_nat (by omega) hq.1 hq.2
      by_cases hn : ¬ n < 1 ∧ n ≤ 32
      · have n1 := mt Int32.lt_iff_toInt_lt.mpr hn.1
        have n2 := Int32.le_iff_toInt_le.mp hn.2
        rw [show (1 : Int32).toInt = 1 by decide] at n1
        rw [show (32 : Int32).toInt = 32 by decide] at n2
        obtain ⟨n, hn1, hn2, rfl⟩ : ∃ k, 1 ≤ k ∧ k ≤ 32 ∧ n = Int32.ofNat k := ⟨n.toInt.toNat, by omega, by omega, by rw [i32_eq, oN_toInt (by omega)]; omega⟩
        by_cases hb : row + n ≤ 2 ^ w
        · rw [bits_c0 a1 hF f1 hf hj hr hn1 hn2 hb]
          refine bits_lc a1 hf16 hj hb (fun hz v7 => ?_) (fun hz => ?_) n 0 (by omega) rfl _
          · have hlk : ∀ i, i < n → lck σ f (row + i) = 0 := fun i hi => by have := fla_0 n 0 hz i hi; rw [Nat.zero_add] at this; exact this
            obtain ⟨L, H, hLH, hC, hM⟩ := hj.fv
            have hl : ∀ i, i < n → (row + i) % 8 < L ((row + i) / 8) := fun i hi => by
              rw [← hM.lft hLH.2.1 hLH.le (show row + i < 2 ^ w by omega)]
              exact lck_0.mp (hlk i hi)
            simp only [g_22_83, g_22_84, Nat.not_lt_zero, Bool.false_eq_true, Option.toList_some, Option.toList_none, List.cons_append, List.nil_append, kv_rv, kc1_i, kc1_r, kc1_n, n10, n01, n1514, n1213, n1312, if_true, if_false, not_true_eq_false, not_false_eq_true, and_self, true_and, and_true, false_and, and_false, or_true, true_or, or_false, false_or, Nat.reduceLeDiff, Nat.reduceLT, Nat.reduceEqDiff, Nat.reduceAdd]
            refine bits_wc hf16 hLH.2.1 hLH.le hb hl σ a1 (fun τ fr hc => ⟨_, rfl, ?_⟩) n 0 (by omega) σ (FR.rf _ σ) (by rw [upN_0]; exact hC) v7
            have hM2 : MF τ f w L H := hM.fr fr hLH.2.1 hLH.le (fun b j q => by omega)
            rw [bits_m0 (fr.js a1) hF (by rw [fr.i (by omega)]; exact f2) hf hLH.2.1 hM2.1 hr hn1 hn2 hb]
            have hfl : fla τ f row n 0 = 0 := by
              have : ∀ m j, fla τ f row m j = fla σ f row m j := by
                intro m
                induction m with
                | zero => intro j; rfl
                | succ m ih =>
                  intro j
                  have e : lck τ f (row + j) = lck σ f (row + j) := by unfold lck lft; rw [fr.i (by omega)]
                  show (if lck τ f (row + j) = 0 then fla τ f row m (j + 1) else lck τ f (row + j)) = (if lck σ f (row + j) = 0 then fla σ f row m (j + 1) else lck σ f (row + j))
                  rw [e, ih]
              rw [this]; exact hz
            refine bits_lm (fr.js a1) hf16 hLH.2.1 hLH.le hM2 hb (fun _ v7 => ?_) (fun hz2 => absurd hfl hz2) n 0 (by omega) rfl _
            simp only [g_130_71, g_130_72, Nat.not_lt_zero, Bool.false_eq_true, Option.toList_some, Option.toList_none, List.cons_append, List.nil_append, kv_rv, kc1_i, kc1_r, kc1_n, n10, n01, n1514, n1213, n1312, if_true, if_false, not_true_eq_false, not_false_eq_true, and_self, true_and, and_true, false_and, and_false, or_true, true_or, or_false, false_or, Nat.reduceLeDiff, Nat.reduceLT, Nat.reduceEqDiff, Nat.reduceAdd]
            refine bits_wm (H := H) hf16 hLH.2.1 hLH.le hb τ (fr.js a1) (fun υ fr2 hm => ⟨rfl, ?_⟩) n 0 (by omega) τ (FR.rf _ τ) (by rw [upN_0]; exact hM2) v7
            exact JJ.fun (f := f) (w := w) ((fr.mono (Q := fun b j => 38 + 4 * f ≤ b ∧ b ≤ 39 + 4 * f ∨ b = 151 ∧ 256 * f ≤ j ∧ j < 256 * f + 256) (fun b j q => Or.inl q)).tr (fr2.mono (fun b j q => Or.inr q))) hf16 (fun b j q => Or.inl (by unfold cFf; omega)) (FV.jf hLH.upN (hc.fr fr2 (fun b j q => by omega)) hm) h
          · refine ⟨_, rfl, ?_⟩
            rw [bits_m0 a1 hF f2 hf hj.2.1 hj.2.2.2.1 hr hn1 hn2 hb]
            obtain ⟨L, H, hLH, hC, hM⟩ := hj.fv
            exact bits_lm a1 hf16 hLH.2.1 hLH.le hM hb (fun hz2 => absurd hz2 hz) (fun _ => ⟨rfl, h⟩) n 0 (by omega) rfl _
        · rw [bits_cb2 a1 hF f1 hf hj hr hn1 hn2 hb]
          refine ⟨_, rfl, ?_⟩
          rw [bits_mb2 a1 hF f2 hf hj hr hn1 hn2 hb]
          exact ⟨rfl, h⟩
      · rw [bits_cb1 a1 hF f1 hf hj hr hn]
        refine ⟨_, rfl, ?_⟩
        rw [bits_mb1 a1 hn]
        exact ⟨rfl, h⟩
    · simp only [c_22, g_22_0, g_22_1, g_22_2, g_22_3, g_22_6, g_22_9, g_22_11, g_22_12, g_22_15, g_22_17, g_22_19, g_22_22, g_22_24, g_22_25, g_22_28, g_22_29, g_22_30, g_22_33, g_22_34, g_22_35, g_22_38, g_22_39, kv_w8_0, kv_w8_1, kv_w8_2, kv_w8_3, kv_w8_4, Nat.not_lt_zero, Bool.false_eq_true, Option.toList_some, Option.toList_none, List.cons_append, List.nil_append, kv_rv, kc1_i, kc1_r, kc1_n, n10, n01, n1514, n1213, n1312, if_true, if_false, not_true_eq_false, not_false_eq_true, and_self, true_and, and_true, false_and, and_false, or_true, true_or, or_false, false_or, Nat.reduceLeDiff, Nat.reduceLT, Nat.reduceEqDiff, Nat.reduceAdd, m_isFR_b a1 hF f1 hf hj.2.1 hj.2.2.1 hq, s_8 a1]
      refine ⟨_, rfl, ?_⟩
      by_cases hn : ¬ n < 1 ∧ n ≤ 32
      · have hn2 : ¬ (32 : Int32) < n := by rw [Int32.not_lt]; exact hn.2
        simp only [c_130, g_130_0, g_130_2, g_130_3, g_130_6, g_130_8, g_130_10, g_130_13, g_130_14, g_130_15, g_130_16, g_130_19, g_130_22, g_130_23, g_130_25, g_130_26, g_130_27, g_130_28, g_130_31, g_130_34, g_130_35, kv_w8_0, kv_w8_1, kv_w8_2, kv_w8_3, kv_w8_4, Nat.not_lt_zero, Bool.false_eq_true, Option.toList_some, Option.toList_none, List.cons_append, List.nil_append, kv_rv, kc1_i, kc1_r, kc1_n, n10, n01, n1514, n1213, n1312, if_true, if_false, not_true_eq_false, not_false_eq_true, and_self, true_and, and_true, false_and, and_false, or_true, true_or, or_false, false_or, Nat.reduceLeDiff, Nat.reduceLT, Nat.reduceEqDiff, Nat.reduceAdd, hn.1, hn2, m_isRow_b a1 hF f2 hf hj.2.1 hj.2.2.2.1 hq, s_149 a1]
        exact h
      · rw [bits_mb1 a1 hn]
        exact ⟨rfl, h⟩
  · simp only [c_22, g_22_0, g_22_1, g_22_2, g_22_3, g_22_6, g_22_9, g_22_11, g_22_12, g_22_15, g_22_17, g_22_19, g_22_22, g_22_24, g_22_25, g_22_28, g_22_29, g_22_30, g_22_33, g_22_34, g_22_35, g_22_38, g_22_39, kv_w8_0, kv_w8_1, kv_w8_2, kv_w8_3, kv_w8_4, Nat.not_lt_zero, Bool.false_eq_true, Option.toList_some, Option.toList_none, List.cons_append, List.nil_append, kv_rv, kc1_i, kc1_r, kc1_n, n10, n01, n1514, n1213, n1312, if_true, if_false, not_true_eq_false, not_false_eq_true, and_self, true_and, and_true, false_and, and_false, or_true, true_or, or_false, false_or, Nat.reduceLeDiff, Nat.reduceLT, Nat.reduceEqDiff, Nat.reduceAdd, m_isFR_n a1 f1 hp, s_8 a1]
    refine ⟨_, rfl, ?_⟩
    by_cases hn : ¬ n < 1 ∧ n ≤ 32
    · have hn2 : ¬ (32 : Int32) < n := by rw [Int32.not_lt]; exact hn.2
      simp only [c_130, g_130_0, g_130_2, g_130_3, g_130_6, g_130_8, g_130_10, g_130_13, g_130_14, g_130_15, g_130_16, g_130_19, g_130_22, g_130_23, g_130_25, g_130_26, g_130_27, g_130_28, g_130_31, g_130_34, g_130_35, kv_w8_0, kv_w8_1, kv_w8_2, kv_w8_3, kv_w8_4, Nat.not_lt_zero, Bool.false_eq_true, Option.toList_some, Option.toList_none, List.cons_append, List.nil_append, kv_rv, kc1_i, kc1_r, kc1_n, n10, n01, n1514, n1213, n1312, if_true, if_false, not_true_eq_false, not_false_eq_true, and_self, true_and, and_true, false_and, and_false, or_true, true_or, or_false, false_or, Nat.reduceLeDiff, Nat.reduceLT, Nat.reduceEqDiff, Nat.reduceAdd, hn.1, hn2, m_isRow_n a1 f2 hp, s_149 a1]
      exact h
    · rw [bits_mb1 a1 hn]
      exact ⟨rfl, h⟩

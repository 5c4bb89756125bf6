/-! ===== Arrays.fill ===== -/
/-- the first n places of a row are v -/
def kv_fil (σ : kv_S) (a n : Nat) (v : Int32) : kv_S := (σ.1, (fun b k => if b = a ∧ k < n then v else σ.2.1 b k), σ.2.2)
theorem fil_i (σ : kv_S) (a n : Nat) (v : Int32) (b k : Nat) : kv_i (kv_fil σ a n v) b k = if b = a ∧ k < n then v else kv_i σ b k := Eq.trans rfl rfl
theorem fil_sh (σ : kv_S) (a n : Nat) (v : Int32) : kv_sh (kv_fil σ a n v) = kv_sh σ := Eq.trans rfl rfl
theorem fil_0 (σ : kv_S) (a : Nat) (v : Int32) : kv_fil σ a 0 v = σ := by
  have : (fun (b k : Nat) => if b = a ∧ k < 0 then v else σ.2.1 b k) = σ.2.1 := by funext b k; simp
  unfold kv_fil
  rw [this]
theorem fil_s (σ : kv_S) (a n : Nat) (v : Int32) : kv_si (kv_fil σ a n v) a n v = kv_fil σ a (n + 1) v := by
  unfold kv_si kv_fil kv_up
  dsimp only
  congr 2
  funext b k
  by_cases h1 : b = a
  · by_cases h2 : k = n
    · simp [h1, h2]
    · by_cases h3 : k < n
      · simp [h1, h2, h3, show k < n + 1 by omega]
      · simp [h1, h2, h3, show ¬ k < n + 1 by omega]
  · simp [h1]
theorem JS.fil {σ : kv_S} (h : JS σ) (a n : Nat) (v : Int32) : JS (kv_fil σ a n v) := h.of rfl rfl
theorem fil_low (σ : kv_S) {a : Nat} (n : Nat) (v : Int32) (h : 8 ≤ a) : kv_low σ (kv_fil σ a n v) := fun b hb => ⟨rfl, by funext k; rw [fil_i, if_neg (by omega)], rfl⟩
theorem m_fill_loop {d : Nat} {Φ : Option Value → kv_S → Prop} (σ : kv_S) (a N : Nat) (v : Int32) (h8 : 8 ≤ a) (hs : kv_sh σ a = (10, N)) (hN : N ≤ 10000) : ∀ m n, n + m = N → Wp d 12 5 [.ref a, .int v, .int (Int32.ofNat n), .int (Int32.ofNat N)] [] (kv_fil σ a n v) Φ = Φ none (kv_fil σ a N v)
  | 0, n, e => by
    have : n = N := by omega
    subst this
    rw [g_12_5, g_12_6, g_12_7, if_pos (show Int32.ofNat n ≤ Int32.ofNat n from nI_le (a := n) (b := n) (Nat.le_refl _) (by omega)), g_12_20]
  | m + 1, n, e => by
    have c1 : ¬ Int32.ofNat N ≤ Int32.ofNat n := nI_ge (a := n) (b := N) (by omega) (by omega)
    have c2 : ¬ Int32.ofNat n < 0 := nI_pos (n := n) (by omega)
    have c3 : (Int32.ofNat n).toNatClampNeg = n := nI_cl (by omega)
    have hn : n < N := by omega
    rw [g_12_5, g_12_6, g_12_7, if_neg c1]
    simp only [g_12_10, g_12_11, g_12_12, g_12_13, g_12_14, g_12_17, fil_sh, hs, h8, c2, c3, hn, fil_s, not_false_eq_true, (show ∀ x : Int32, kv_c1 (.int x) = true from fun _ => rfl)]
    rw [show Int32.ofNat n + 1 = Int32.ofNat (n + 1) from (Int32.ofNat_add n 1).symm]
    exact m_fill_loop σ a N v h8 hs hN m (n + 1) (by omega)
theorem m_fill {d : Nat} {Φ : Option Value → kv_S → Prop} (σ : kv_S) (a N : Nat) (v : Int32) (h8 : 8 ≤ a) (hs : kv_sh σ a = (10, N)) (hN : N ≤ 10000) : Wc d 12 [.ref a, .int v] σ Φ = Φ none (kv_fil σ a N v) := by
  rw [Wc_eq, show kv_ent 12 [.ref a, .int v] = [.ref a, .int v, .null, .null] from rfl]
  rw [g_12_0, g_12_1 rfl, g_12_2, g_12_3 (by rw [hs]; show 10 ≤ 10; decide) (by rw [hs]; show 10 < 16; decide), g_12_4 rfl, hs]
  have := m_fill_loop (d := d) (Φ := Φ) σ a N v h8 hs hN N 0 (by omega)
  rw [fil_0, show Int32.ofNat 0 = (0 : Int32) by decide] at this
  exact this

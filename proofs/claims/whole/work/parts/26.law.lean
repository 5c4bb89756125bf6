/-! ===== the law: a case each ===== -/
theorem law_ix {j n L : Nat} {x : Int32} (hx : x = Int32.ofNat j) (h : n + j < L) (hL : L ≤ 2560) : ¬ (Int32.ofNat n + x) < 0 ∧ (Int32.ofNat n + x).toNatClampNeg = n + j ∧ n + j < L := by
  rw [hx, ← Int32.ofNat_add]
  exact ⟨nI_pos (n := n + j) (by omega), nI_cl (by omega), h⟩
/-- case 0: function -/
def ob_0 (J : kv_S → Prop) (d : Nat) : Prop := ∀ σ, J σ → ∀ p0 : Int32, Wc d 10 [.ref 8, .int p0] σ (fun r τ => ∃ v : Int32, r = some (.int v) ∧ Wc d 123 [.ref 149, .int p0] τ (fun r2 τ2 => r2 = some (.int v) ∧ J τ2))
theorem law_c0 {J : kv_S → Prop} {d L n : Nat} {X : Nat → Int32} (ob : ob_0 J d) (hJ : ∀ σ, J σ → kv_n σ = 176 ∧ kv_sh σ 8 = (8, 11) ∧ kv_sh σ 149 = (9, 47)) (hn : n + 5 ≤ L) (hL : L ≤ 2560) {σ : kv_S} (h : J σ) (h6 : kv_sh σ 6 = (10, L)) (hX : kv_i σ 6 = X) {Φ : Option Value → kv_S → Prop} (k : ∀ τ, J τ → kv_sh τ 6 = (10, L) → kv_i τ 6 = X → Wp (d + 1) 0 1175 [.ref 6, .ref 8, .ref 149, .int (Int32.ofNat n)] [] τ Φ) : Wp (d + 1) 0 172 [.ref 6, .ref 8, .ref 149, .int (Int32.ofNat n)] [] σ Φ := by
  obtain ⟨hn0, h8, h9⟩ := hJ σ h
  obtain ⟨a1, b1, c1⟩ := law_ix (j := 1) (x := 1) (n := n) (L := L) (by decide) (by omega) hL
  obtain ⟨a2, b2, c2⟩ := law_ix (j := 2) (x := 2) (n := n) (L := L) (by decide) (by omega) hL
  obtain ⟨a3, b3, c3⟩ := law_ix (j := 3) (x := 3) (n := n) (L := L) (by decide) (by omega) hL
  obtain ⟨a4, b4, c4⟩ := law_ix (j := 4) (x := 4) (n := n) (L := L) (by decide) (by omega) hL
  simp only [g_0_172, g_0_173, g_0_174, g_0_175, g_0_176, g_0_177, g_0_178, kv_w8_0, kv_w8_1, kv_w8_2, kv_w8_3, kv_w8_4, h6, h8, hX, a1, b1, c1, not_false_eq_true]
  refine (Wc.keep (ob σ h _)).mono (fun r τ hw => ?_)
  obtain ⟨⟨v, rfl, h2⟩, hkp⟩ := hw
  have g6 : kv_sh τ 6 = (10, L) := (hkp.1.2.2 6 (by decide)).1.trans h6
  have gX : kv_i τ 6 = X := (hkp.1.2.2 6 (by decide)).2.1.trans hX
  have g9 : kv_sh τ 149 = (9, 47) := (hkp.2 149 (by omega)).trans h9
  simp only [Option.toList_some, List.cons_append, List.nil_append, g_0_181, g_0_182, g_0_183, g_0_184, g_0_185, g_0_186, g_0_187, kv_w8_0, kv_w8_1, kv_w8_2, kv_w8_3, kv_w8_4, g6, g9, gX, a1, b1, c1, not_false_eq_true]
  refine (Wc.keep h2).mono (fun r τ2 hw => ?_)
  obtain ⟨⟨rfl, hJ2⟩, hkp2⟩ := hw
  simp only [Option.toList_some, List.cons_append, List.nil_append, g_0_190, if_true]
  exact k τ2 hJ2 ((hkp2.1.2.2 6 (by decide)).1.trans g6) ((hkp2.1.2.2 6 (by decide)).2.1.trans gX)
/-- case 1: put -/
def ob_1 (J : kv_S → Prop) (d : Nat) : Prop := ∀ σ, J σ → ∀ p0 p1 p2 : Int32, Wc d 16 [.ref 8, .int p0, .int p1, .int p2] σ (fun r τ => ∃ v : Int32, r = some (.int v) ∧ Wc d 126 [.ref 149, .int p0, .int p1, .int p2] τ (fun r2 τ2 => r2 = some (.int v) ∧ J τ2))
theorem law_c1 {J : kv_S → Prop} {d L n : Nat} {X : Nat → Int32} (ob : ob_1 J d) (hJ : ∀ σ, J σ → kv_n σ = 176 ∧ kv_sh σ 8 = (8, 11) ∧ kv_sh σ 149 = (9, 47)) (hn : n + 5 ≤ L) (hL : L ≤ 2560) {σ : kv_S} (h : J σ) (h6 : kv_sh σ 6 = (10, L)) (hX : kv_i σ 6 = X) {Φ : Option Value → kv_S → Prop} (k : ∀ τ, J τ → kv_sh τ 6 = (10, L) → kv_i τ 6 = X → Wp (d + 1) 0 1175 [.ref 6, .ref 8, .ref 149, .int (Int32.ofNat n)] [] τ Φ) : Wp (d + 1) 0 195 [.ref 6, .ref 8, .ref 149, .int (Int32.ofNat n)] [] σ Φ := by
  obtain ⟨hn0, h8, h9⟩ := hJ σ h
  obtain ⟨a1, b1, c1⟩ := law_ix (j := 1) (x := 1) (n := n) (L := L) (by decide) (by omega) hL
  obtain ⟨a2, b2, c2⟩ := law_ix (j := 2) (x := 2) (n := n) (L := L) (by decide) (by omega) hL
  obtain ⟨a3, b3, c3⟩ := law_ix (j := 3) (x := 3) (n := n) (L := L) (by decide) (by omega) hL
  obtain ⟨a4, b4, c4⟩ := law_ix (j := 4) (x := 4) (n := n) (L := L) (by decide) (by omega) hL
  simp only [g_0_195, g_0_196, g_0_197, g_0_198, g_0_199, g_0_200, g_0_201, g_0_202, g_0_203, g_0_204, g_0_205, g_0_206, g_0_207, g_0_208, g_0_209, g_0_210, g_0_211, kv_w8_0, kv_w8_1, kv_w8_2, kv_w8_3, kv_w8_4, h6, h8, hX, a1, b1, c1, a2, b2, c2, a3, b3, c3, not_false_eq_true]
  refine (Wc.keep (ob σ h _ _ _)).mono (fun r τ hw => ?_)
  obtain ⟨⟨v, rfl, h2⟩, hkp⟩ := hw
  have g6 : kv_sh τ 6 = (10, L) := (hkp.1.2.2 6 (by decide)).1.trans h6
  have gX : kv_i τ 6 = X := (hkp.1.2.2 6 (by decide)).2.1.trans hX
  have g9 : kv_sh τ 149 = (9, 47) := (hkp.2 149 (by omega)).trans h9
  simp only [Option.toList_some, List.cons_append, List.nil_append, g_0_214, g_0_215, g_0_216, g_0_217, g_0_218, g_0_219, g_0_220, g_0_221, g_0_222, g_0_223, g_0_224, g_0_225, g_0_226, g_0_227, g_0_228, g_0_229, g_0_230, kv_w8_0, kv_w8_1, kv_w8_2, kv_w8_3, kv_w8_4, g6, g9, gX, a1, b1, c1, a2, b2, c2, a3, b3, c3, not_false_eq_true]
  refine (Wc.keep h2).mono (fun r τ2 hw => ?_)
  obtain ⟨⟨rfl, hJ2⟩, hkp2⟩ := hw
  simp only [Option.toList_some, List.cons_append, List.nil_append, g_0_233, if_true]
  exact k τ2 hJ2 ((hkp2.1.2.2 6 (by decide)).1.trans g6) ((hkp2.1.2.2 6 (by decide)).2.1.trans gX)
/-- case 2: bits -/
def ob_2 (J : kv_S → Prop) (d : Nat) : Prop := ∀ σ, J σ → ∀ p0 p1 p2 p3 : Int32, Wc d 22 [.ref 8, .int p0, .int p1, .int p2, .int p3] σ (fun r τ => ∃ v : Int32, r = some (.int v) ∧ Wc d 130 [.ref 149, .int p0, .int p1, .int p2, .int p3] τ (fun r2 τ2 => r2 = some (.int v) ∧ J τ2))
theorem law_c2 {J : kv_S → Prop} {d L n : Nat} {X : Nat → Int32} (ob : ob_2 J d) (hJ : ∀ σ, J σ → kv_n σ = 176 ∧ kv_sh σ 8 = (8, 11) ∧ kv_sh σ 149 = (9, 47)) (hn : n + 5 ≤ L) (hL : L ≤ 2560) {σ : kv_S} (h : J σ) (h6 : kv_sh σ 6 = (10, L)) (hX : kv_i σ 6 = X) {Φ : Option Value → kv_S → Prop} (k : ∀ τ, J τ → kv_sh τ 6 = (10, L) → kv_i τ 6 = X → Wp (d + 1) 0 1175 [.ref 6, .ref 8, .ref 149, .int (Int32.ofNat n)] [] τ Φ) : Wp (d + 1) 0 238 [.ref 6, .ref 8, .ref 149, .int (Int32.ofNat n)] [] σ Φ := by
  obtain ⟨hn0, h8, h9⟩ := hJ σ h
  obtain ⟨a1, b1, c1⟩ := law_ix (j := 1) (x := 1) (n := n) (L := L) (by decide) (by omega) hL
  obtain ⟨a2, b2, c2⟩ := law_ix (j := 2) (x := 2) (n := n) (L := L) (by decide) (by omega) hL
  obtain ⟨a3, b3, c3⟩ := law_ix (j := 3) (x := 3) (n := n) (L := L) (by decide) (by omega) hL
  obtain ⟨a4, b4, c4⟩ := law_ix (j := 4) (x := 4) (n := n) (L := L) (by decide) (by omega) hL
  simp only [g_0_238, g_0_239, g_0_240, g_0_241, g_0_242, g_0_243, g_0_244, g_0_245, g_0_246, g_0_247, g_0_248, g_0_249, g_0_250, g_0_251, g_0_252, g_0_253, g_0_254, g_0_255, g_0_256, g_0_257, g_0_258, g_0_259, kv_w8_0, kv_w8_1, kv_w8_2, kv_w8_3, kv_w8_4, h6, h8, hX, a1, b1, c1, a2, b2, c2, a3, b3, c3, a4, b4, c4, not_false_eq_true]
  refine (Wc.keep (ob σ h _ _ _ _)).mono (fun r τ hw => ?_)
  obtain ⟨⟨v, rfl, h2⟩, hkp⟩ := hw
  have g6 : kv_sh τ 6 = (10, L) := (hkp.1.2.2 6 (by decide)).1.trans h6
  have gX : kv_i τ 6 = X := (hkp.1.2.2 6 (by decide)).2.1.trans hX
  have g9 : kv_sh τ 149 = (9, 47) := (hkp.2 149 (by omega)).trans h9
  simp only [Option.toList_some, List.cons_append, List.nil_append, g_0_262, g_0_263, g_0_264, g_0_265, g_0_266, g_0_267, g_0_268, g_0_269, g_0_270, g_0_271, g_0_272, g_0_273, g_0_274, g_0_275, g_0_276, g_0_277, g_0_278, g_0_279, g_0_280, g_0_281, g_0_282, g_0_283, kv_w8_0, kv_w8_1, kv_w8_2, kv_w8_3, kv_w8_4, g6, g9, gX, a1, b1, c1, a2, b2, c2, a3, b3, c3, a4, b4, c4, not_false_eq_true]
  refine (Wc.keep h2).mono (fun r τ2 hw => ?_)
  obtain ⟨⟨rfl, hJ2⟩, hkp2⟩ := hw
  simp only [Option.toList_some, List.cons_append, List.nil_append, g_0_286, if_true]
  exact k τ2 hJ2 ((hkp2.1.2.2 6 (by decide)).1.trans g6) ((hkp2.1.2.2 6 (by decide)).2.1.trans gX)
/-- case 3: tear -/
def ob_3 (J : kv_S → Prop) (d : Nat) : Prop := ∀ σ, J σ → ∀ p0 p1 p2 : Int32, Wc d 23 [.ref 8, .int p0, .int p1, .int p2] σ (fun r τ => ∃ v : Int32, r = some (.int v) ∧ Wc d 131 [.ref 149, .int p0, .int p1, .int p2] τ (fun r2 τ2 => r2 = some (.int v) ∧ J τ2))
theorem law_c3 {J : kv_S → Prop} {d L n : Nat} {X : Nat → Int32} (ob : ob_3 J d) (hJ : ∀ σ, J σ → kv_n σ = 176 ∧ kv_sh σ 8 = (8, 11) ∧ kv_sh σ 149 = (9, 47)) (hn : n + 5 ≤ L) (hL : L ≤ 2560) {σ : kv_S} (h : J σ) (h6 : kv_sh σ 6 = (10, L)) (hX : kv_i σ 6 = X) {Φ : Option Value → kv_S → Prop} (k : ∀ τ, J τ → kv_sh τ 6 = (10, L) → kv_i τ 6 = X → Wp (d + 1) 0 1175 [.ref 6, .ref 8, .ref 149, .int (Int32.ofNat n)] [] τ Φ) : Wp (d + 1) 0 291 [.ref 6, .ref 8, .ref 149, .int (Int32.ofNat n)] [] σ Φ := by
  obtain ⟨hn0, h8, h9⟩ := hJ σ h
  obtain ⟨a1, b1, c1⟩ := law_ix (j := 1) (x := 1) (n := n) (L := L) (by decide) (by omega) hL
  obtain ⟨a2, b2, c2⟩ := law_ix (j := 2) (x := 2) (n := n) (L := L) (by decide) (by omega) hL
  obtain ⟨a3, b3, c3⟩ := law_ix (j := 3) (x := 3) (n := n) (L := L) (by decide) (by omega) hL
  obtain ⟨a4, b4, c4⟩ := law_ix (j := 4) (x := 4) (n := n) (L := L) (by decide) (by omega) hL
  simp only [g_0_291, g_0_292, g_0_293, g_0_294, g_0_295, g_0_296, g_0_297, g_0_298, g_0_299, g_0_300, g_0_301, g_0_302, g_0_303, g_0_304, g_0_305, g_0_306, g_0_307, kv_w8_0, kv_w8_1, kv_w8_2, kv_w8_3, kv_w8_4, h6, h8, hX, a1, b1, c1, a2, b2, c2, a3, b3, c3, not_false_eq_true]
  refine (Wc.keep (ob σ h _ _ _)).mono (fun r τ hw => ?_)
  obtain ⟨⟨v, rfl, h2⟩, hkp⟩ := hw
  have g6 : kv_sh τ 6 = (10, L) := (hkp.1.2.2 6 (by decide)).1.trans h6
  have gX : kv_i τ 6 = X := (hkp.1.2.2 6 (by decide)).2.1.trans hX
  have g9 : kv_sh τ 149 = (9, 47) := (hkp.2 149 (by omega)).trans h9
  simp only [Option.toList_some, List.cons_append, List.nil_append, g_0_310, g_0_311, g_0_312, g_0_313, g_0_314, g_0_315, g_0_316, g_0_317, g_0_318, g_0_319, g_0_320, g_0_321, g_0_322, g_0_323, g_0_324, g_0_325, g_0_326, kv_w8_0, kv_w8_1, kv_w8_2, kv_w8_3, kv_w8_4, g6, g9, gX, a1, b1, c1, a2, b2, c2, a3, b3, c3, not_false_eq_true]
  refine (Wc.keep h2).mono (fun r τ2 hw => ?_)
  obtain ⟨⟨rfl, hJ2⟩, hkp2⟩ := hw
  simp only [Option.toList_some, List.cons_append, List.nil_append, g_0_329, if_true]
  exact k τ2 hJ2 ((hkp2.1.2.2 6 (by decide)).1.trans g6) ((hkp2.1.2.2 6 (by decide)).2.1.trans gX)
/-- case 4: at -/
def ob_4 (J : kv_S → Prop) (d : Nat) : Prop := ∀ σ, J σ → ∀ p0 p1 : Int32, Wc d 28 [.ref 8, .int p0, .int p1] σ (fun r τ => ∃ v : Int32, r = some (.int v) ∧ Wc d 132 [.ref 149, .int p0, .int p1] τ (fun r2 τ2 => r2 = some (.int v) ∧ J τ2))
theorem law_c4 {J : kv_S → Prop} {d L n : Nat} {X : Nat → Int32} (ob : ob_4 J d) (hJ : ∀ σ, J σ → kv_n σ = 176 ∧ kv_sh σ 8 = (8, 11) ∧ kv_sh σ 149 = (9, 47)) (hn : n + 5 ≤ L) (hL : L ≤ 2560) {σ : kv_S} (h : J σ) (h6 : kv_sh σ 6 = (10, L)) (hX : kv_i σ 6 = X) {Φ : Option Value → kv_S → Prop} (k : ∀ τ, J τ → kv_sh τ 6 = (10, L) → kv_i τ 6 = X → Wp (d + 1) 0 1175 [.ref 6, .ref 8, .ref 149, .int (Int32.ofNat n)] [] τ Φ) : Wp (d + 1) 0 334 [.ref 6, .ref 8, .ref 149, .int (Int32.ofNat n)] [] σ Φ := by
  obtain ⟨hn0, h8, h9⟩ := hJ σ h
  obtain ⟨a1, b1, c1⟩ := law_ix (j := 1) (x := 1) (n := n) (L := L) (by decide) (by omega) hL
  obtain ⟨a2, b2, c2⟩ := law_ix (j := 2) (x := 2) (n := n) (L := L) (by decide) (by omega) hL
  obtain ⟨a3, b3, c3⟩ := law_ix (j := 3) (x := 3) (n := n) (L := L) (by decide) (by omega) hL
  obtain ⟨a4, b4, c4⟩ := law_ix (j := 4) (x := 4) (n := n) (L := L) (by decide) (by omega) hL
  simp only [g_0_334, g_0_335, g_0_336, g_0_337, g_0_338, g_0_339, g_0_340, g_0_341, g_0_342, g_0_343, g_0_344, g_0_345, kv_w8_0, kv_w8_1, kv_w8_2, kv_w8_3, kv_w8_4, h6, h8, hX, a1, b1, c1, a2, b2, c2, not_false_eq_true]
  refine (Wc.keep (ob σ h _ _)).mono (fun r τ hw => ?_)
  obtain ⟨⟨v, rfl, h2⟩, hkp⟩ := hw
  have g6 : kv_sh τ 6 = (10, L) := (hkp.1.2.2 6 (by decide)).1.trans h6
  have gX : kv_i τ 6 = X := (hkp.1.2.2 6 (by decide)).2.1.trans hX
  have g9 : kv_sh τ 149 = (9, 47) := (hkp.2 149 (by omega)).trans h9
  simp only [Option.toList_some, List.cons_append, List.nil_append, g_0_348, g_0_349, g_0_350, g_0_351, g_0_352, g_0_353, g_0_354, g_0_355, g_0_356, g_0_357, g_0_358, g_0_359, kv_w8_0, kv_w8_1, kv_w8_2, kv_w8_3, kv_w8_4, g6, g9, gX, a1, b1, c1, a2, b2, c2, not_false_eq_true]
  refine (Wc.keep h2).mono (fun r τ2 hw => ?_)
  obtain ⟨⟨rfl, hJ2⟩, hkp2⟩ := hw
  simp only [Option.toList_some, List.cons_append, List.nil_append, g_0_362, if_true]
  exact k τ2 hJ2 ((hkp2.1.2.2 6 (by decide)).1.trans g6) ((hkp2.1.2.2 6 (by decide)).2.1.trans gX)
/-- case 5: places -/
def ob_5 (J : kv_S → Prop) (d : Nat) : Prop := ∀ σ, J σ → ∀ p0 p1 : Int32, Wc d 29 [.ref 8, .int p0, .int p1] σ (fun r τ => ∃ v : Int32, r = some (.int v) ∧ Wc d 134 [.ref 149, .int p0, .int p1] τ (fun r2 τ2 => r2 = some (.int v) ∧ J τ2))
theorem law_c5 {J : kv_S → Prop} {d L n : Nat} {X : Nat → Int32} (ob : ob_5 J d) (hJ : ∀ σ, J σ → kv_n σ = 176 ∧ kv_sh σ 8 = (8, 11) ∧ kv_sh σ 149 = (9, 47)) (hn : n + 5 ≤ L) (hL : L ≤ 2560) {σ : kv_S} (h : J σ) (h6 : kv_sh σ 6 = (10, L)) (hX : kv_i σ 6 = X) {Φ : Option Value → kv_S → Prop} (k : ∀ τ, J τ → kv_sh τ 6 = (10, L) → kv_i τ 6 = X → Wp (d + 1) 0 1175 [.ref 6, .ref 8, .ref 149, .int (Int32.ofNat n)] [] τ Φ) : Wp (d + 1) 0 367 [.ref 6, .ref 8, .ref 149, .int (Int32.ofNat n)] [] σ Φ := by
  obtain ⟨hn0, h8, h9⟩ := hJ σ h
  obtain ⟨a1, b1, c1⟩ := law_ix (j := 1) (x := 1) (n := n) (L := L) (by decide) (by omega) hL
  obtain ⟨a2, b2, c2⟩ := law_ix (j := 2) (x := 2) (n := n) (L := L) (by decide) (by omega) hL
  obtain ⟨a3, b3, c3⟩ := law_ix (j := 3) (x := 3) (n := n) (L := L) (by decide) (by omega) hL
  obtain ⟨a4, b4, c4⟩ := law_ix (j := 4) (x := 4) (n := n) (L := L) (by decide) (by omega) hL
  simp only [g_0_367, g_0_368, g_0_369, g_0_370, g_0_371, g_0_372, g_0_373, g_0_374, g_0_375, g_0_376, g_0_377, g_0_378, kv_w8_0, kv_w8_1, kv_w8_2, kv_w8_3, kv_w8_4, h6, h8, hX, a1, b1, c1, a2, b2, c2, not_false_eq_true]
  refine (Wc.keep (ob σ h _ _)).mono (fun r τ hw => ?_)
  obtain ⟨⟨v, rfl, h2⟩, hkp⟩ := hw
  have g6 : kv_sh τ 6 = (10, L) := (hkp.1.2.2 6 (by decide)).1.trans h6
  have gX : kv_i τ 6 = X := (hkp.1.2.2 6 (by decide)).2.1.trans hX
  have g9 : kv_sh τ 149 = (9, 47) := (hkp.2 149 (by omega)).trans h9
  simp only [Option.toList_some, List.cons_append, List.nil_append, g_0_381, g_0_382, g_0_383, g_0_384, g_0_385, g_0_386, g_0_387, g_0_388, g_0_389, g_0_390, g_0_391, g_0_392, kv_w8_0, kv_w8_1, kv_w8_2, kv_w8_3, kv_w8_4, g6, g9, gX, a1, b1, c1, a2, b2, c2, not_false_eq_true]
  refine (Wc.keep h2).mono (fun r τ2 hw => ?_)
  obtain ⟨⟨rfl, hJ2⟩, hkp2⟩ := hw
  simp only [Option.toList_some, List.cons_append, List.nil_append, g_0_395, if_true]
  exact k τ2 hJ2 ((hkp2.1.2.2 6 (by decide)).1.trans g6) ((hkp2.1.2.2 6 (by decide)).2.1.trans gX)
/-- case 6: take -/
def ob_6 (J : kv_S → Prop) (d : Nat) : Prop := ∀ σ, J σ → ∀ p0 p1 p2 : Int32, Wc d 32 [.ref 8, .int p0, .int p1, .int p2] σ (fun r τ => ∃ v : Int32, r = some (.int v) ∧ Wc d 169 [.ref 149, .int p0, .int p1, .int p2] τ (fun r2 τ2 => r2 = some (.int v) ∧ J τ2))
theorem law_c6 {J : kv_S → Prop} {d L n : Nat} {X : Nat → Int32} (ob : ob_6 J d) (hJ : ∀ σ, J σ → kv_n σ = 176 ∧ kv_sh σ 8 = (8, 11) ∧ kv_sh σ 149 = (9, 47)) (hn : n + 5 ≤ L) (hL : L ≤ 2560) {σ : kv_S} (h : J σ) (h6 : kv_sh σ 6 = (10, L)) (hX : kv_i σ 6 = X) {Φ : Option Value → kv_S → Prop} (k : ∀ τ, J τ → kv_sh τ 6 = (10, L) → kv_i τ 6 = X → Wp (d + 1) 0 1175 [.ref 6, .ref 8, .ref 149, .int (Int32.ofNat n)] [] τ Φ) : Wp (d + 1) 0 400 [.ref 6, .ref 8, .ref 149, .int (Int32.ofNat n)] [] σ Φ := by
  obtain ⟨hn0, h8, h9⟩ := hJ σ h
  obtain ⟨a1, b1, c1⟩ := law_ix (j := 1) (x := 1) (n := n) (L := L) (by decide) (by omega) hL
  obtain ⟨a2, b2, c2⟩ := law_ix (j := 2) (x := 2) (n := n) (L := L) (by decide) (by omega) hL
  obtain ⟨a3, b3, c3⟩ := law_ix (j := 3) (x := 3) (n := n) (L := L) (by decide) (by omega) hL
  obtain ⟨a4, b4, c4⟩ := law_ix (j := 4) (x := 4) (n := n) (L := L) (by decide) (by omega) hL
  simp only [g_0_400, g_0_401, g_0_402, g_0_403, g_0_404, g_0_405, g_0_406, g_0_407, g_0_408, g_0_409, g_0_410, g_0_411, g_0_412, g_0_413, g_0_414, g_0_415, g_0_416, kv_w8_0, kv_w8_1, kv_w8_2, kv_w8_3, kv_w8_4, h6, h8, hX, a1, b1, c1, a2, b2, c2, a3, b3, c3, not_false_eq_true]
  refine (Wc.keep (ob σ h _ _ _)).mono (fun r τ hw => ?_)
  obtain ⟨⟨v, rfl, h2⟩, hkp⟩ := hw
  have g6 : kv_sh τ 6 = (10, L) := (hkp.1.2.2 6 (by decide)).1.trans h6
  have gX : kv_i τ 6 = X := (hkp.1.2.2 6 (by decide)).2.1.trans hX
  have g9 : kv_sh τ 149 = (9, 47) := (hkp.2 149 (by omega)).trans h9
  simp only [Option.toList_some, List.cons_append, List.nil_append, g_0_419, g_0_420, g_0_421, g_0_422, g_0_423, g_0_424, g_0_425, g_0_426, g_0_427, g_0_428, g_0_429, g_0_430, g_0_431, g_0_432, g_0_433, g_0_434, g_0_435, kv_w8_0, kv_w8_1, kv_w8_2, kv_w8_3, kv_w8_4, g6, g9, gX, a1, b1, c1, a2, b2, c2, a3, b3, c3, not_false_eq_true]
  refine (Wc.keep h2).mono (fun r τ2 hw => ?_)
  obtain ⟨⟨rfl, hJ2⟩, hkp2⟩ := hw
  simp only [Option.toList_some, List.cons_append, List.nil_append, g_0_438, if_true]
  exact k τ2 hJ2 ((hkp2.1.2.2 6 (by decide)).1.trans g6) ((hkp2.1.2.2 6 (by decide)).2.1.trans gX)
/-- case 7: primes -/
def ob_7 (J : kv_S → Prop) (d : Nat) : Prop := ∀ σ, J σ → ∀ p0 : Int32, Wc d 41 [.ref 8, .int p0] σ (fun r τ => ∃ v : Int32, r = some (.int v) ∧ Wc d 135 [.ref 149, .int p0] τ (fun r2 τ2 => r2 = some (.int v) ∧ J τ2))
theorem law_c7 {J : kv_S → Prop} {d L n : Nat} {X : Nat → Int32} (ob : ob_7 J d) (hJ : ∀ σ, J σ → kv_n σ = 176 ∧ kv_sh σ 8 = (8, 11) ∧ kv_sh σ 149 = (9, 47)) (hn : n + 5 ≤ L) (hL : L ≤ 2560) {σ : kv_S} (h : J σ) (h6 : kv_sh σ 6 = (10, L)) (hX : kv_i σ 6 = X) {Φ : Option Value → kv_S → Prop} (k : ∀ τ, J τ → kv_sh τ 6 = (10, L) → kv_i τ 6 = X → Wp (d + 1) 0 1175 [.ref 6, .ref 8, .ref 149, .int (Int32.ofNat n)] [] τ Φ) : Wp (d + 1) 0 443 [.ref 6, .ref 8, .ref 149, .int (Int32.ofNat n)] [] σ Φ := by
  obtain ⟨hn0, h8, h9⟩ := hJ σ h
  obtain ⟨a1, b1, c1⟩ := law_ix (j := 1) (x := 1) (n := n) (L := L) (by decide) (by omega) hL
  obtain ⟨a2, b2, c2⟩ := law_ix (j := 2) (x := 2) (n := n) (L := L) (by decide) (by omega) hL
  obtain ⟨a3, b3, c3⟩ := law_ix (j := 3) (x := 3) (n := n) (L := L) (by decide) (by omega) hL
  obtain ⟨a4, b4, c4⟩ := law_ix (j := 4) (x := 4) (n := n) (L := L) (by decide) (by omega) hL
  simp only [g_0_443, g_0_444, g_0_445, g_0_446, g_0_447, g_0_448, g_0_449, kv_w8_0, kv_w8_1, kv_w8_2, kv_w8_3, kv_w8_4, h6, h8, hX, a1, b1, c1, not_false_eq_true]
  refine (Wc.keep (ob σ h _)).mono (fun r τ hw => ?_)
  obtain ⟨⟨v, rfl, h2⟩, hkp⟩ := hw
  have g6 : kv_sh τ 6 = (10, L) := (hkp.1.2.2 6 (by decide)).1.trans h6
  have gX : kv_i τ 6 = X := (hkp.1.2.2 6 (by decide)).2.1.trans hX
  have g9 : kv_sh τ 149 = (9, 47) := (hkp.2 149 (by omega)).trans h9
  simp only [Option.toList_some, List.cons_append, List.nil_append, g_0_452, g_0_453, g_0_454, g_0_455, g_0_456, g_0_457, g_0_458, kv_w8_0, kv_w8_1, kv_w8_2, kv_w8_3, kv_w8_4, g6, g9, gX, a1, b1, c1, not_false_eq_true]
  refine (Wc.keep h2).mono (fun r τ2 hw => ?_)
  obtain ⟨⟨rfl, hJ2⟩, hkp2⟩ := hw
  simp only [Option.toList_some, List.cons_append, List.nil_append, g_0_461, if_true]
  exact k τ2 hJ2 ((hkp2.1.2.2 6 (by decide)).1.trans g6) ((hkp2.1.2.2 6 (by decide)).2.1.trans gX)
/-- case 8: prime -/
def ob_8 (J : kv_S → Prop) (d : Nat) : Prop := ∀ σ, J σ → ∀ p0 p1 : Int32, Wc d 49 [.ref 8, .int p0, .int p1] σ (fun r τ => ∃ v : Int32, r = some (.int v) ∧ Wc d 138 [.ref 149, .int p0, .int p1] τ (fun r2 τ2 => r2 = some (.int v) ∧ J τ2))
theorem law_c8 {J : kv_S → Prop} {d L n : Nat} {X : Nat → Int32} (ob : ob_8 J d) (hJ : ∀ σ, J σ → kv_n σ = 176 ∧ kv_sh σ 8 = (8, 11) ∧ kv_sh σ 149 = (9, 47)) (hn : n + 5 ≤ L) (hL : L ≤ 2560) {σ : kv_S} (h : J σ) (h6 : kv_sh σ 6 = (10, L)) (hX : kv_i σ 6 = X) {Φ : Option Value → kv_S → Prop} (k : ∀ τ, J τ → kv_sh τ 6 = (10, L) → kv_i τ 6 = X → Wp (d + 1) 0 1175 [.ref 6, .ref 8, .ref 149, .int (Int32.ofNat n)] [] τ Φ) : Wp (d + 1) 0 466 [.ref 6, .ref 8, .ref 149, .int (Int32.ofNat n)] [] σ Φ := by
  obtain ⟨hn0, h8, h9⟩ := hJ σ h
  obtain ⟨a1, b1, c1⟩ := law_ix (j := 1) (x := 1) (n := n) (L := L) (by decide) (by omega) hL
  obtain ⟨a2, b2, c2⟩ := law_ix (j := 2) (x := 2) (n := n) (L := L) (by decide) (by omega) hL
  obtain ⟨a3, b3, c3⟩ := law_ix (j := 3) (x := 3) (n := n) (L := L) (by decide) (by omega) hL
  obtain ⟨a4, b4, c4⟩ := law_ix (j := 4) (x := 4) (n := n) (L := L) (by decide) (by omega) hL
  simp only [g_0_466, g_0_467, g_0_468, g_0_469, g_0_470, g_0_471, g_0_472, g_0_473, g_0_474, g_0_475, g_0_476, g_0_477, kv_w8_0, kv_w8_1, kv_w8_2, kv_w8_3, kv_w8_4, h6, h8, hX, a1, b1, c1, a2, b2, c2, not_false_eq_true]
  refine (Wc.keep (ob σ h _ _)).mono (fun r τ hw => ?_)
  obtain ⟨⟨v, rfl, h2⟩, hkp⟩ := hw
  have g6 : kv_sh τ 6 = (10, L) := (hkp.1.2.2 6 (by decide)).1.trans h6
  have gX : kv_i τ 6 = X := (hkp.1.2.2 6 (by decide)).2.1.trans hX
  have g9 : kv_sh τ 149 = (9, 47) := (hkp.2 149 (by omega)).trans h9
  simp only [Option.toList_some, List.cons_append, List.nil_append, g_0_480, g_0_481, g_0_482, g_0_483, g_0_484, g_0_485, g_0_486, g_0_487, g_0_488, g_0_489, g_0_490, g_0_491, kv_w8_0, kv_w8_1, kv_w8_2, kv_w8_3, kv_w8_4, g6, g9, gX, a1, b1, c1, a2, b2, c2, not_false_eq_true]
  refine (Wc.keep h2).mono (fun r τ2 hw => ?_)
  obtain ⟨⟨rfl, hJ2⟩, hkp2⟩ := hw
  simp only [Option.toList_some, List.cons_append, List.nil_append, g_0_494, if_true]
  exact k τ2 hJ2 ((hkp2.1.2.2 6 (by decide)).1.trans g6) ((hkp2.1.2.2 6 (by decide)).2.1.trans gX)
/-- case 9: least -/
def ob_9 (J : kv_S → Prop) (d : Nat) : Prop := ∀ σ, J σ → ∀ p0 : Int32, Wc d 52 [.ref 8, .int p0] σ (fun r τ => ∃ v : Int32, r = some (.int v) ∧ Wc d 139 [.ref 149, .int p0] τ (fun r2 τ2 => r2 = some (.int v) ∧ J τ2))
theorem law_c9 {J : kv_S → Prop} {d L n : Nat} {X : Nat → Int32} (ob : ob_9 J d) (hJ : ∀ σ, J σ → kv_n σ = 176 ∧ kv_sh σ 8 = (8, 11) ∧ kv_sh σ 149 = (9, 47)) (hn : n + 5 ≤ L) (hL : L ≤ 2560) {σ : kv_S} (h : J σ) (h6 : kv_sh σ 6 = (10, L)) (hX : kv_i σ 6 = X) {Φ : Option Value → kv_S → Prop} (k : ∀ τ, J τ → kv_sh τ 6 = (10, L) → kv_i τ 6 = X → Wp (d + 1) 0 1175 [.ref 6, .ref 8, .ref 149, .int (Int32.ofNat n)] [] τ Φ) : Wp (d + 1) 0 499 [.ref 6, .ref 8, .ref 149, .int (Int32.ofNat n)] [] σ Φ := by
  obtain ⟨hn0, h8, h9⟩ := hJ σ h
  obtain ⟨a1, b1, c1⟩ := law_ix (j := 1) (x := 1) (n := n) (L := L) (by decide) (by omega) hL
  obtain ⟨a2, b2, c2⟩ := law_ix (j := 2) (x := 2) (n := n) (L := L) (by decide) (by omega) hL
  obtain ⟨a3, b3, c3⟩ := law_ix (j := 3) (x := 3) (n := n) (L := L) (by decide) (by omega) hL
  obtain ⟨a4, b4, c4⟩ := law_ix (j := 4) (x := 4) (n := n) (L := L) (by decide) (by omega) hL
  simp only [g_0_499, g_0_500, g_0_501, g_0_502, g_0_503, g_0_504, g_0_505, kv_w8_0, kv_w8_1, kv_w8_2, kv_w8_3, kv_w8_4, h6, h8, hX, a1, b1, c1, not_false_eq_true]
  refine (Wc.keep (ob σ h _)).mono (fun r τ hw => ?_)
  obtain ⟨⟨v, rfl, h2⟩, hkp⟩ := hw
  have g6 : kv_sh τ 6 = (10, L) := (hkp.1.2.2 6 (by decide)).1.trans h6
  have gX : kv_i τ 6 = X := (hkp.1.2.2 6 (by decide)).2.1.trans hX
  have g9 : kv_sh τ 149 = (9, 47) := (hkp.2 149 (by omega)).trans h9
  simp only [Option.toList_some, List.cons_append, List.nil_append, g_0_508, g_0_509, g_0_510, g_0_511, g_0_512, g_0_513, g_0_514, kv_w8_0, kv_w8_1, kv_w8_2, kv_w8_3, kv_w8_4, g6, g9, gX, a1, b1, c1, not_false_eq_true]
  refine (Wc.keep h2).mono (fun r τ2 hw => ?_)
  obtain ⟨⟨rfl, hJ2⟩, hkp2⟩ := hw
  simp only [Option.toList_some, List.cons_append, List.nil_append, g_0_517, if_true]
  exact k τ2 hJ2 ((hkp2.1.2.2 6 (by decide)).1.trans g6) ((hkp2.1.2.2 6 (by decide)).2.1.trans gX)
/-- case 10: summed -/
def ob_10 (J : kv_S → Prop) (d : Nat) : Prop := ∀ σ, J σ → ∀ p0 : Int32, Wc d 64 [.ref 8, .int p0] σ (fun r τ => ∃ v : Int32, r = some (.int v) ∧ Wc d 146 [.ref 149, .int p0] τ (fun r2 τ2 => r2 = some (.int v) ∧ J τ2))
theorem law_c10 {J : kv_S → Prop} {d L n : Nat} {X : Nat → Int32} (ob : ob_10 J d) (hJ : ∀ σ, J σ → kv_n σ = 176 ∧ kv_sh σ 8 = (8, 11) ∧ kv_sh σ 149 = (9, 47)) (hn : n + 5 ≤ L) (hL : L ≤ 2560) {σ : kv_S} (h : J σ) (h6 : kv_sh σ 6 = (10, L)) (hX : kv_i σ 6 = X) {Φ : Option Value → kv_S → Prop} (k : ∀ τ, J τ → kv_sh τ 6 = (10, L) → kv_i τ 6 = X → Wp (d + 1) 0 1175 [.ref 6, .ref 8, .ref 149, .int (Int32.ofNat n)] [] τ Φ) : Wp (d + 1) 0 522 [.ref 6, .ref 8, .ref 149, .int (Int32.ofNat n)] [] σ Φ := by
  obtain ⟨hn0, h8, h9⟩ := hJ σ h
  obtain ⟨a1, b1, c1⟩ := law_ix (j := 1) (x := 1) (n := n) (L := L) (by decide) (by omega) hL
  obtain ⟨a2, b2, c2⟩ := law_ix (j := 2) (x := 2) (n := n) (L := L) (by decide) (by omega) hL
  obtain ⟨a3, b3, c3⟩ := law_ix (j := 3) (x := 3) (n := n) (L := L) (by decide) (by omega) hL
  obtain ⟨a4, b4, c4⟩ := law_ix (j := 4) (x := 4) (n := n) (L := L) (by decide) (by omega) hL
  simp only [g_0_522, g_0_523, g_0_524, g_0_525, g_0_526, g_0_527, g_0_528, kv_w8_0, kv_w8_1, kv_w8_2, kv_w8_3, kv_w8_4, h6, h8, hX, a1, b1, c1, not_false_eq_true]
  refine (Wc.keep (ob σ h _)).mono (fun r τ hw => ?_)
  obtain ⟨⟨v, rfl, h2⟩, hkp⟩ := hw
  have g6 : kv_sh τ 6 = (10, L) := (hkp.1.2.2 6 (by decide)).1.trans h6
  have gX : kv_i τ 6 = X := (hkp.1.2.2 6 (by decide)).2.1.trans hX
  have g9 : kv_sh τ 149 = (9, 47) := (hkp.2 149 (by omega)).trans h9
  simp only [Option.toList_some, List.cons_append, List.nil_append, g_0_531, g_0_532, g_0_533, g_0_534, g_0_535, g_0_536, g_0_537, kv_w8_0, kv_w8_1, kv_w8_2, kv_w8_3, kv_w8_4, g6, g9, gX, a1, b1, c1, not_false_eq_true]
  refine (Wc.keep h2).mono (fun r τ2 hw => ?_)
  obtain ⟨⟨rfl, hJ2⟩, hkp2⟩ := hw
  simp only [Option.toList_some, List.cons_append, List.nil_append, g_0_540, if_true]
  exact k τ2 hJ2 ((hkp2.1.2.2 6 (by decide)).1.trans g6) ((hkp2.1.2.2 6 (by decide)).2.1.trans gX)
/-- case 11: letters -/
def ob_11 (J : kv_S → Prop) (d : Nat) : Prop := ∀ σ, J σ → Wc d 65 [.ref 8] σ (fun r τ => ∃ v : Int32, r = some (.int v) ∧ Wc d 147 [.ref 149] τ (fun r2 τ2 => r2 = some (.int v) ∧ J τ2))
theorem law_c11 {J : kv_S → Prop} {d L n : Nat} {X : Nat → Int32} (ob : ob_11 J d) (hJ : ∀ σ, J σ → kv_n σ = 176 ∧ kv_sh σ 8 = (8, 11) ∧ kv_sh σ 149 = (9, 47)) (hn : n + 5 ≤ L) (hL : L ≤ 2560) {σ : kv_S} (h : J σ) (h6 : kv_sh σ 6 = (10, L)) (hX : kv_i σ 6 = X) {Φ : Option Value → kv_S → Prop} (k : ∀ τ, J τ → kv_sh τ 6 = (10, L) → kv_i τ 6 = X → Wp (d + 1) 0 1175 [.ref 6, .ref 8, .ref 149, .int (Int32.ofNat n)] [] τ Φ) : Wp (d + 1) 0 545 [.ref 6, .ref 8, .ref 149, .int (Int32.ofNat n)] [] σ Φ := by
  obtain ⟨hn0, h8, h9⟩ := hJ σ h
  obtain ⟨a1, b1, c1⟩ := law_ix (j := 1) (x := 1) (n := n) (L := L) (by decide) (by omega) hL
  obtain ⟨a2, b2, c2⟩ := law_ix (j := 2) (x := 2) (n := n) (L := L) (by decide) (by omega) hL
  obtain ⟨a3, b3, c3⟩ := law_ix (j := 3) (x := 3) (n := n) (L := L) (by decide) (by omega) hL
  obtain ⟨a4, b4, c4⟩ := law_ix (j := 4) (x := 4) (n := n) (L := L) (by decide) (by omega) hL
  simp only [g_0_545, g_0_546, kv_w8_0, kv_w8_1, kv_w8_2, kv_w8_3, kv_w8_4, h6, h8, hX, not_false_eq_true]
  refine (Wc.keep (ob σ h)).mono (fun r τ hw => ?_)
  obtain ⟨⟨v, rfl, h2⟩, hkp⟩ := hw
  have g6 : kv_sh τ 6 = (10, L) := (hkp.1.2.2 6 (by decide)).1.trans h6
  have gX : kv_i τ 6 = X := (hkp.1.2.2 6 (by decide)).2.1.trans hX
  have g9 : kv_sh τ 149 = (9, 47) := (hkp.2 149 (by omega)).trans h9
  simp only [Option.toList_some, List.cons_append, List.nil_append, g_0_549, g_0_550, kv_w8_0, kv_w8_1, kv_w8_2, kv_w8_3, kv_w8_4, g6, g9, gX, not_false_eq_true]
  refine (Wc.keep h2).mono (fun r τ2 hw => ?_)
  obtain ⟨⟨rfl, hJ2⟩, hkp2⟩ := hw
  simp only [Option.toList_some, List.cons_append, List.nil_append, g_0_553, if_true]
  exact k τ2 hJ2 ((hkp2.1.2.2 6 (by decide)).1.trans g6) ((hkp2.1.2.2 6 (by decide)).2.1.trans gX)
/-- case 12: graph -/
def ob_12 (J : kv_S → Prop) (d : Nat) : Prop := ∀ σ, J σ → ∀ p0 p1 : Int32, Wc d 66 [.ref 8, .int p0, .int p1] σ (fun r τ => ∃ v : Int32, r = some (.int v) ∧ Wc d 148 [.ref 149, .int p0, .int p1] τ (fun r2 τ2 => r2 = some (.int v) ∧ J τ2))
theorem law_c12 {J : kv_S → Prop} {d L n : Nat} {X : Nat → Int32} (ob : ob_12 J d) (hJ : ∀ σ, J σ → kv_n σ = 176 ∧ kv_sh σ 8 = (8, 11) ∧ kv_sh σ 149 = (9, 47)) (hn : n + 5 ≤ L) (hL : L ≤ 2560) {σ : kv_S} (h : J σ) (h6 : kv_sh σ 6 = (10, L)) (hX : kv_i σ 6 = X) {Φ : Option Value → kv_S → Prop} (k : ∀ τ, J τ → kv_sh τ 6 = (10, L) → kv_i τ 6 = X → Wp (d + 1) 0 1175 [.ref 6, .ref 8, .ref 149, .int (Int32.ofNat n)] [] τ Φ) : Wp (d + 1) 0 558 [.ref 6, .ref 8, .ref 149, .int (Int32.ofNat n)] [] σ Φ := by
  obtain ⟨hn0, h8, h9⟩ := hJ σ h
  obtain ⟨a1, b1, c1⟩ := law_ix (j := 1) (x := 1) (n := n) (L := L) (by decide) (by omega) hL
  obtain ⟨a2, b2, c2⟩ := law_ix (j := 2) (x := 2) (n := n) (L := L) (by decide) (by omega) hL
  obtain ⟨a3, b3, c3⟩ := law_ix (j := 3) (x := 3) (n := n) (L := L) (by decide) (by omega) hL
  obtain ⟨a4, b4, c4⟩ := law_ix (j := 4) (x := 4) (n := n) (L := L) (by decide) (by omega) hL
  simp only [g_0_558, g_0_559, g_0_560, g_0_561, g_0_562, g_0_563, g_0_564, g_0_565, g_0_566, g_0_567, g_0_568, g_0_569, kv_w8_0, kv_w8_1, kv_w8_2, kv_w8_3, kv_w8_4, h6, h8, hX, a1, b1, c1, a2, b2, c2, not_false_eq_true]
  refine (Wc.keep (ob σ h _ _)).mono (fun r τ hw => ?_)
  obtain ⟨⟨v, rfl, h2⟩, hkp⟩ := hw
  have g6 : kv_sh τ 6 = (10, L) := (hkp.1.2.2 6 (by decide)).1.trans h6
  have gX : kv_i τ 6 = X := (hkp.1.2.2 6 (by decide)).2.1.trans hX
  have g9 : kv_sh τ 149 = (9, 47) := (hkp.2 149 (by omega)).trans h9
  simp only [Option.toList_some, List.cons_append, List.nil_append, g_0_572, g_0_573, g_0_574, g_0_575, g_0_576, g_0_577, g_0_578, g_0_579, g_0_580, g_0_581, g_0_582, g_0_583, kv_w8_0, kv_w8_1, kv_w8_2, kv_w8_3, kv_w8_4, g6, g9, gX, a1, b1, c1, a2, b2, c2, not_false_eq_true]
  refine (Wc.keep h2).mono (fun r τ2 hw => ?_)
  obtain ⟨⟨rfl, hJ2⟩, hkp2⟩ := hw
  simp only [Option.toList_some, List.cons_append, List.nil_append, g_0_586, if_true]
  exact k τ2 hJ2 ((hkp2.1.2.2 6 (by decide)).1.trans g6) ((hkp2.1.2.2 6 (by decide)).2.1.trans gX)
/-- case 13: order -/
def ob_13 (J : kv_S → Prop) (d : Nat) : Prop := ∀ σ, J σ → ∀ p0 : Int32, Wc d 73 [.ref 8, .int p0] σ (fun r τ => ∃ v : Int32, r = some (.int v) ∧ Wc d 153 [.ref 149, .int p0] τ (fun r2 τ2 => r2 = some (.int v) ∧ J τ2))
theorem law_c13 {J : kv_S → Prop} {d L n : Nat} {X : Nat → Int32} (ob : ob_13 J d) (hJ : ∀ σ, J σ → kv_n σ = 176 ∧ kv_sh σ 8 = (8, 11) ∧ kv_sh σ 149 = (9, 47)) (hn : n + 5 ≤ L) (hL : L ≤ 2560) {σ : kv_S} (h : J σ) (h6 : kv_sh σ 6 = (10, L)) (hX : kv_i σ 6 = X) {Φ : Option Value → kv_S → Prop} (k : ∀ τ, J τ → kv_sh τ 6 = (10, L) → kv_i τ 6 = X → Wp (d + 1) 0 1175 [.ref 6, .ref 8, .ref 149, .int (Int32.ofNat n)] [] τ Φ) : Wp (d + 1) 0 591 [.ref 6, .ref 8, .ref 149, .int (Int32.ofNat n)] [] σ Φ := by
  obtain ⟨hn0, h8, h9⟩ := hJ σ h
  obtain ⟨a1, b1, c1⟩ := law_ix (j := 1) (x := 1) (n := n) (L := L) (by decide) (by omega) hL
  obtain ⟨a2, b2, c2⟩ := law_ix (j := 2) (x := 2) (n := n) (L := L) (by decide) (by omega) hL
  obtain ⟨a3, b3, c3⟩ := law_ix (j := 3) (x := 3) (n := n) (L := L) (by decide) (by omega) hL
  obtain ⟨a4, b4, c4⟩ := law_ix (j := 4) (x := 4) (n := n) (L := L) (by decide) (by omega) hL
  simp only [g_0_591, g_0_592, g_0_593, g_0_594, g_0_595, g_0_596, g_0_597, kv_w8_0, kv_w8_1, kv_w8_2, kv_w8_3, kv_w8_4, h6, h8, hX, a1, b1, c1, not_false_eq_true]
  refine (Wc.keep (ob σ h _)).mono (fun r τ hw => ?_)
  obtain ⟨⟨v, rfl, h2⟩, hkp⟩ := hw
  have g6 : kv_sh τ 6 = (10, L) := (hkp.1.2.2 6 (by decide)).1.trans h6
  have gX : kv_i τ 6 = X := (hkp.1.2.2 6 (by decide)).2.1.trans hX
  have g9 : kv_sh τ 149 = (9, 47) := (hkp.2 149 (by omega)).trans h9
  simp only [Option.toList_some, List.cons_append, List.nil_append, g_0_600, g_0_601, g_0_602, g_0_603, g_0_604, g_0_605, g_0_606, kv_w8_0, kv_w8_1, kv_w8_2, kv_w8_3, kv_w8_4, g6, g9, gX, a1, b1, c1, not_false_eq_true]
  refine (Wc.keep h2).mono (fun r τ2 hw => ?_)
  obtain ⟨⟨rfl, hJ2⟩, hkp2⟩ := hw
  simp only [Option.toList_some, List.cons_append, List.nil_append, g_0_609, if_true]
  exact k τ2 hJ2 ((hkp2.1.2.2 6 (by decide)).1.trans g6) ((hkp2.1.2.2 6 (by decide)).2.1.trans gX)
/-- case 14: net -/
def ob_14 (J : kv_S → Prop) (d : Nat) : Prop := ∀ σ, J σ → ∀ p0 : Int32, Wc d 76 [.ref 8, .int p0] σ (fun r τ => ∃ v : Int32, r = some (.int v) ∧ Wc d 154 [.ref 149, .int p0] τ (fun r2 τ2 => r2 = some (.int v) ∧ J τ2))
theorem law_c14 {J : kv_S → Prop} {d L n : Nat} {X : Nat → Int32} (ob : ob_14 J d) (hJ : ∀ σ, J σ → kv_n σ = 176 ∧ kv_sh σ 8 = (8, 11) ∧ kv_sh σ 149 = (9, 47)) (hn : n + 5 ≤ L) (hL : L ≤ 2560) {σ : kv_S} (h : J σ) (h6 : kv_sh σ 6 = (10, L)) (hX : kv_i σ 6 = X) {Φ : Option Value → kv_S → Prop} (k : ∀ τ, J τ → kv_sh τ 6 = (10, L) → kv_i τ 6 = X → Wp (d + 1) 0 1175 [.ref 6, .ref 8, .ref 149, .int (Int32.ofNat n)] [] τ Φ) : Wp (d + 1) 0 614 [.ref 6, .ref 8, .ref 149, .int (Int32.ofNat n)] [] σ Φ := by
  obtain ⟨hn0, h8, h9⟩ := hJ σ h
  obtain ⟨a1, b1, c1⟩ := law_ix (j := 1) (x := 1) (n := n) (L := L) (by decide) (by omega) hL
  obtain ⟨a2, b2, c2⟩ := law_ix (j := 2) (x := 2) (n := n) (L := L) (by decide) (by omega) hL
  obtain ⟨a3, b3, c3⟩ := law_ix (j := 3) (x := 3) (n := n) (L := L) (by decide) (by omega) hL
  obtain ⟨a4, b4, c4⟩ := law_ix (j := 4) (x := 4) (n := n) (L := L) (by decide) (by omega) hL
  simp only [g_0_614, g_0_615, g_0_616, g_0_617, g_0_618, g_0_619, g_0_620, kv_w8_0, kv_w8_1, kv_w8_2, kv_w8_3, kv_w8_4, h6, h8, hX, a1, b1, c1, not_false_eq_true]
  refine (Wc.keep (ob σ h _)).mono (fun r τ hw => ?_)
  obtain ⟨⟨v, rfl, h2⟩, hkp⟩ := hw
  have g6 : kv_sh τ 6 = (10, L) := (hkp.1.2.2 6 (by decide)).1.trans h6
  have gX : kv_i τ 6 = X := (hkp.1.2.2 6 (by decide)).2.1.trans hX
  have g9 : kv_sh τ 149 = (9, 47) := (hkp.2 149 (by omega)).trans h9
  simp only [Option.toList_some, List.cons_append, List.nil_append, g_0_623, g_0_624, g_0_625, g_0_626, g_0_627, g_0_628, g_0_629, kv_w8_0, kv_w8_1, kv_w8_2, kv_w8_3, kv_w8_4, g6, g9, gX, a1, b1, c1, not_false_eq_true]
  refine (Wc.keep h2).mono (fun r τ2 hw => ?_)
  obtain ⟨⟨rfl, hJ2⟩, hkp2⟩ := hw
  simp only [Option.toList_some, List.cons_append, List.nil_append, g_0_632, if_true]
  exact k τ2 hJ2 ((hkp2.1.2.2 6 (by decide)).1.trans g6) ((hkp2.1.2.2 6 (by decide)).2.1.trans gX)
/-- case 15: gate -/
def ob_15 (J : kv_S → Prop) (d : Nat) : Prop := ∀ σ, J σ → ∀ p0 p1 p2 p3 : Int32, Wc d 78 [.ref 8, .int p0, .int p1, .int p2, .int p3] σ (fun r τ => ∃ v : Int32, r = some (.int v) ∧ Wc d 155 [.ref 149, .int p0, .int p1, .int p2, .int p3] τ (fun r2 τ2 => r2 = some (.int v) ∧ J τ2))
theorem law_c15 {J : kv_S → Prop} {d L n : Nat} {X : Nat → Int32} (ob : ob_15 J d) (hJ : ∀ σ, J σ → kv_n σ = 176 ∧ kv_sh σ 8 = (8, 11) ∧ kv_sh σ 149 = (9, 47)) (hn : n + 5 ≤ L) (hL : L ≤ 2560) {σ : kv_S} (h : J σ) (h6 : kv_sh σ 6 = (10, L)) (hX : kv_i σ 6 = X) {Φ : Option Value → kv_S → Prop} (k : ∀ τ, J τ → kv_sh τ 6 = (10, L) → kv_i τ 6 = X → Wp (d + 1) 0 1175 [.ref 6, .ref 8, .ref 149, .int (Int32.ofNat n)] [] τ Φ) : Wp (d + 1) 0 637 [.ref 6, .ref 8, .ref 149, .int (Int32.ofNat n)] [] σ Φ := by
  obtain ⟨hn0, h8, h9⟩ := hJ σ h
  obtain ⟨a1, b1, c1⟩ := law_ix (j := 1) (x := 1) (n := n) (L := L) (by decide) (by omega) hL
  obtain ⟨a2, b2, c2⟩ := law_ix (j := 2) (x := 2) (n := n) (L := L) (by decide) (by omega) hL
  obtain ⟨a3, b3, c3⟩ := law_ix (j := 3) (x := 3) (n := n) (L := L) (by decide) (by omega) hL
  obtain ⟨a4, b4, c4⟩ := law_ix (j := 4) (x := 4) (n := n) (L := L) (by decide) (by omega) hL
  simp only [g_0_637, g_0_638, g_0_639, g_0_640, g_0_641, g_0_642, g_0_643, g_0_644, g_0_645, g_0_646, g_0_647, g_0_648, g_0_649, g_0_650, g_0_651, g_0_652, g_0_653, g_0_654, g_0_655, g_0_656, g_0_657, g_0_658, kv_w8_0, kv_w8_1, kv_w8_2, kv_w8_3, kv_w8_4, h6, h8, hX, a1, b1, c1, a2, b2, c2, a3, b3, c3, a4, b4, c4, not_false_eq_true]
  refine (Wc.keep (ob σ h _ _ _ _)).mono (fun r τ hw => ?_)
  obtain ⟨⟨v, rfl, h2⟩, hkp⟩ := hw
  have g6 : kv_sh τ 6 = (10, L) := (hkp.1.2.2 6 (by decide)).1.trans h6
  have gX : kv_i τ 6 = X := (hkp.1.2.2 6 (by decide)).2.1.trans hX
  have g9 : kv_sh τ 149 = (9, 47) := (hkp.2 149 (by omega)).trans h9
  simp only [Option.toList_some, List.cons_append, List.nil_append, g_0_661, g_0_662, g_0_663, g_0_664, g_0_665, g_0_666, g_0_667, g_0_668, g_0_669, g_0_670, g_0_671, g_0_672, g_0_673, g_0_674, g_0_675, g_0_676, g_0_677, g_0_678, g_0_679, g_0_680, g_0_681, g_0_682, kv_w8_0, kv_w8_1, kv_w8_2, kv_w8_3, kv_w8_4, g6, g9, gX, a1, b1, c1, a2, b2, c2, a3, b3, c3, a4, b4, c4, not_false_eq_true]
  refine (Wc.keep h2).mono (fun r τ2 hw => ?_)
  obtain ⟨⟨rfl, hJ2⟩, hkp2⟩ := hw
  simp only [Option.toList_some, List.cons_append, List.nil_append, g_0_685, if_true]
  exact k τ2 hJ2 ((hkp2.1.2.2 6 (by decide)).1.trans g6) ((hkp2.1.2.2 6 (by decide)).2.1.trans gX)
/-- case 16: keep -/
def ob_16 (J : kv_S → Prop) (d : Nat) : Prop := ∀ σ, J σ → ∀ p0 p1 p2 : Int32, Wc d 81 [.ref 8, .int p0, .int p1, .int p2] σ (fun r τ => ∃ v : Int32, r = some (.int v) ∧ Wc d 159 [.ref 149, .int p0, .int p1, .int p2] τ (fun r2 τ2 => r2 = some (.int v) ∧ J τ2))
theorem law_c16 {J : kv_S → Prop} {d L n : Nat} {X : Nat → Int32} (ob : ob_16 J d) (hJ : ∀ σ, J σ → kv_n σ = 176 ∧ kv_sh σ 8 = (8, 11) ∧ kv_sh σ 149 = (9, 47)) (hn : n + 5 ≤ L) (hL : L ≤ 2560) {σ : kv_S} (h : J σ) (h6 : kv_sh σ 6 = (10, L)) (hX : kv_i σ 6 = X) {Φ : Option Value → kv_S → Prop} (k : ∀ τ, J τ → kv_sh τ 6 = (10, L) → kv_i τ 6 = X → Wp (d + 1) 0 1175 [.ref 6, .ref 8, .ref 149, .int (Int32.ofNat n)] [] τ Φ) : Wp (d + 1) 0 690 [.ref 6, .ref 8, .ref 149, .int (Int32.ofNat n)] [] σ Φ := by
  obtain ⟨hn0, h8, h9⟩ := hJ σ h
  obtain ⟨a1, b1, c1⟩ := law_ix (j := 1) (x := 1) (n := n) (L := L) (by decide) (by omega) hL
  obtain ⟨a2, b2, c2⟩ := law_ix (j := 2) (x := 2) (n := n) (L := L) (by decide) (by omega) hL
  obtain ⟨a3, b3, c3⟩ := law_ix (j := 3) (x := 3) (n := n) (L := L) (by decide) (by omega) hL
  obtain ⟨a4, b4, c4⟩ := law_ix (j := 4) (x := 4) (n := n) (L := L) (by decide) (by omega) hL
  simp only [g_0_690, g_0_691, g_0_692, g_0_693, g_0_694, g_0_695, g_0_696, g_0_697, g_0_698, g_0_699, g_0_700, g_0_701, g_0_702, g_0_703, g_0_704, g_0_705, g_0_706, kv_w8_0, kv_w8_1, kv_w8_2, kv_w8_3, kv_w8_4, h6, h8, hX, a1, b1, c1, a2, b2, c2, a3, b3, c3, not_false_eq_true]
  refine (Wc.keep (ob σ h _ _ _)).mono (fun r τ hw => ?_)
  obtain ⟨⟨v, rfl, h2⟩, hkp⟩ := hw
  have g6 : kv_sh τ 6 = (10, L) := (hkp.1.2.2 6 (by decide)).1.trans h6
  have gX : kv_i τ 6 = X := (hkp.1.2.2 6 (by decide)).2.1.trans hX
  have g9 : kv_sh τ 149 = (9, 47) := (hkp.2 149 (by omega)).trans h9
  simp only [Option.toList_some, List.cons_append, List.nil_append, g_0_709, g_0_710, g_0_711, g_0_712, g_0_713, g_0_714, g_0_715, g_0_716, g_0_717, g_0_718, g_0_719, g_0_720, g_0_721, g_0_722, g_0_723, g_0_724, g_0_725, kv_w8_0, kv_w8_1, kv_w8_2, kv_w8_3, kv_w8_4, g6, g9, gX, a1, b1, c1, a2, b2, c2, a3, b3, c3, not_false_eq_true]
  refine (Wc.keep h2).mono (fun r τ2 hw => ?_)
  obtain ⟨⟨rfl, hJ2⟩, hkp2⟩ := hw
  simp only [Option.toList_some, List.cons_append, List.nil_append, g_0_728, if_true]
  exact k τ2 hJ2 ((hkp2.1.2.2 6 (by decide)).1.trans g6) ((hkp2.1.2.2 6 (by decide)).2.1.trans gX)
/-- case 17: out -/
def ob_17 (J : kv_S → Prop) (d : Nat) : Prop := ∀ σ, J σ → ∀ p0 p1 p2 : Int32, Wc d 83 [.ref 8, .int p0, .int p1, .int p2] σ (fun r τ => ∃ v : Int32, r = some (.int v) ∧ Wc d 161 [.ref 149, .int p0, .int p1, .int p2] τ (fun r2 τ2 => r2 = some (.int v) ∧ J τ2))
theorem law_c17 {J : kv_S → Prop} {d L n : Nat} {X : Nat → Int32} (ob : ob_17 J d) (hJ : ∀ σ, J σ → kv_n σ = 176 ∧ kv_sh σ 8 = (8, 11) ∧ kv_sh σ 149 = (9, 47)) (hn : n + 5 ≤ L) (hL : L ≤ 2560) {σ : kv_S} (h : J σ) (h6 : kv_sh σ 6 = (10, L)) (hX : kv_i σ 6 = X) {Φ : Option Value → kv_S → Prop} (k : ∀ τ, J τ → kv_sh τ 6 = (10, L) → kv_i τ 6 = X → Wp (d + 1) 0 1175 [.ref 6, .ref 8, .ref 149, .int (Int32.ofNat n)] [] τ Φ) : Wp (d + 1) 0 733 [.ref 6, .ref 8, .ref 149, .int (Int32.ofNat n)] [] σ Φ := by
  obtain ⟨hn0, h8, h9⟩ := hJ σ h
  obtain ⟨a1, b1, c1⟩ := law_ix (j := 1) (x := 1) (n := n) (L := L) (by decide) (by omega) hL
  obtain ⟨a2, b2, c2⟩ := law_ix (j := 2) (x := 2) (n := n) (L := L) (by decide) (by omega) hL
  obtain ⟨a3, b3, c3⟩ := law_ix (j := 3) (x := 3) (n := n) (L := L) (by decide) (by omega) hL
  obtain ⟨a4, b4, c4⟩ := law_ix (j := 4) (x := 4) (n := n) (L := L) (by decide) (by omega) hL
  simp only [g_0_733, g_0_734, g_0_735, g_0_736, g_0_737, g_0_738, g_0_739, g_0_740, g_0_741, g_0_742, g_0_743, g_0_744, g_0_745, g_0_746, g_0_747, g_0_748, g_0_749, kv_w8_0, kv_w8_1, kv_w8_2, kv_w8_3, kv_w8_4, h6, h8, hX, a1, b1, c1, a2, b2, c2, a3, b3, c3, not_false_eq_true]
  refine (Wc.keep (ob σ h _ _ _)).mono (fun r τ hw => ?_)
  obtain ⟨⟨v, rfl, h2⟩, hkp⟩ := hw
  have g6 : kv_sh τ 6 = (10, L) := (hkp.1.2.2 6 (by decide)).1.trans h6
  have gX : kv_i τ 6 = X := (hkp.1.2.2 6 (by decide)).2.1.trans hX
  have g9 : kv_sh τ 149 = (9, 47) := (hkp.2 149 (by omega)).trans h9
  simp only [Option.toList_some, List.cons_append, List.nil_append, g_0_752, g_0_753, g_0_754, g_0_755, g_0_756, g_0_757, g_0_758, g_0_759, g_0_760, g_0_761, g_0_762, g_0_763, g_0_764, g_0_765, g_0_766, g_0_767, g_0_768, kv_w8_0, kv_w8_1, kv_w8_2, kv_w8_3, kv_w8_4, g6, g9, gX, a1, b1, c1, a2, b2, c2, a3, b3, c3, not_false_eq_true]
  refine (Wc.keep h2).mono (fun r τ2 hw => ?_)
  obtain ⟨⟨rfl, hJ2⟩, hkp2⟩ := hw
  simp only [Option.toList_some, List.cons_append, List.nil_append, g_0_771, if_true]
  exact k τ2 hJ2 ((hkp2.1.2.2 6 (by decide)).1.trans g6) ((hkp2.1.2.2 6 (by decide)).2.1.trans gX)
/-- case 18: told -/
def ob_18 (J : kv_S → Prop) (d : Nat) : Prop := ∀ σ, J σ → ∀ p0 p1 p2 : Int32, Wc d 84 [.ref 8, .int p0, .int p1, .int p2] σ (fun r τ => ∃ v : Int32, r = some (.int v) ∧ Wc d 163 [.ref 149, .int p0, .int p1, .int p2] τ (fun r2 τ2 => r2 = some (.int v) ∧ J τ2))
theorem law_c18 {J : kv_S → Prop} {d L n : Nat} {X : Nat → Int32} (ob : ob_18 J d) (hJ : ∀ σ, J σ → kv_n σ = 176 ∧ kv_sh σ 8 = (8, 11) ∧ kv_sh σ 149 = (9, 47)) (hn : n + 5 ≤ L) (hL : L ≤ 2560) {σ : kv_S} (h : J σ) (h6 : kv_sh σ 6 = (10, L)) (hX : kv_i σ 6 = X) {Φ : Option Value → kv_S → Prop} (k : ∀ τ, J τ → kv_sh τ 6 = (10, L) → kv_i τ 6 = X → Wp (d + 1) 0 1175 [.ref 6, .ref 8, .ref 149, .int (Int32.ofNat n)] [] τ Φ) : Wp (d + 1) 0 776 [.ref 6, .ref 8, .ref 149, .int (Int32.ofNat n)] [] σ Φ := by
  obtain ⟨hn0, h8, h9⟩ := hJ σ h
  obtain ⟨a1, b1, c1⟩ := law_ix (j := 1) (x := 1) (n := n) (L := L) (by decide) (by omega) hL
  obtain ⟨a2, b2, c2⟩ := law_ix (j := 2) (x := 2) (n := n) (L := L) (by decide) (by omega) hL
  obtain ⟨a3, b3, c3⟩ := law_ix (j := 3) (x := 3) (n := n) (L := L) (by decide) (by omega) hL
  obtain ⟨a4, b4, c4⟩ := law_ix (j := 4) (x := 4) (n := n) (L := L) (by decide) (by omega) hL
  simp only [g_0_776, g_0_777, g_0_778, g_0_779, g_0_780, g_0_781, g_0_782, g_0_783, g_0_784, g_0_785, g_0_786, g_0_787, g_0_788, g_0_789, g_0_790, g_0_791, g_0_792, kv_w8_0, kv_w8_1, kv_w8_2, kv_w8_3, kv_w8_4, h6, h8, hX, a1, b1, c1, a2, b2, c2, a3, b3, c3, not_false_eq_true]
  refine (Wc.keep (ob σ h _ _ _)).mono (fun r τ hw => ?_)
  obtain ⟨⟨v, rfl, h2⟩, hkp⟩ := hw
  have g6 : kv_sh τ 6 = (10, L) := (hkp.1.2.2 6 (by decide)).1.trans h6
  have gX : kv_i τ 6 = X := (hkp.1.2.2 6 (by decide)).2.1.trans hX
  have g9 : kv_sh τ 149 = (9, 47) := (hkp.2 149 (by omega)).trans h9
  simp only [Option.toList_some, List.cons_append, List.nil_append, g_0_795, g_0_796, g_0_797, g_0_798, g_0_799, g_0_800, g_0_801, g_0_802, g_0_803, g_0_804, g_0_805, g_0_806, g_0_807, g_0_808, g_0_809, g_0_810, g_0_811, kv_w8_0, kv_w8_1, kv_w8_2, kv_w8_3, kv_w8_4, g6, g9, gX, a1, b1, c1, a2, b2, c2, a3, b3, c3, not_false_eq_true]
  refine (Wc.keep h2).mono (fun r τ2 hw => ?_)
  obtain ⟨⟨rfl, hJ2⟩, hkp2⟩ := hw
  simp only [Option.toList_some, List.cons_append, List.nil_append, g_0_814, if_true]
  exact k τ2 hJ2 ((hkp2.1.2.2 6 (by decide)).1.trans g6) ((hkp2.1.2.2 6 (by decide)).2.1.trans gX)
/-- case 19: output -/
def ob_19 (J : kv_S → Prop) (d : Nat) : Prop := ∀ σ, J σ → ∀ p0 p1 : Int32, Wc d 89 [.ref 8, .int p0, .int p1] σ (fun r τ => ∃ v : Int32, r = some (.int v) ∧ Wc d 165 [.ref 149, .int p0, .int p1] τ (fun r2 τ2 => r2 = some (.int v) ∧ J τ2))
theorem law_c19 {J : kv_S → Prop} {d L n : Nat} {X : Nat → Int32} (ob : ob_19 J d) (hJ : ∀ σ, J σ → kv_n σ = 176 ∧ kv_sh σ 8 = (8, 11) ∧ kv_sh σ 149 = (9, 47)) (hn : n + 5 ≤ L) (hL : L ≤ 2560) {σ : kv_S} (h : J σ) (h6 : kv_sh σ 6 = (10, L)) (hX : kv_i σ 6 = X) {Φ : Option Value → kv_S → Prop} (k : ∀ τ, J τ → kv_sh τ 6 = (10, L) → kv_i τ 6 = X → Wp (d + 1) 0 1175 [.ref 6, .ref 8, .ref 149, .int (Int32.ofNat n)] [] τ Φ) : Wp (d + 1) 0 819 [.ref 6, .ref 8, .ref 149, .int (Int32.ofNat n)] [] σ Φ := by
  obtain ⟨hn0, h8, h9⟩ := hJ σ h
  obtain ⟨a1, b1, c1⟩ := law_ix (j := 1) (x := 1) (n := n) (L := L) (by decide) (by omega) hL
  obtain ⟨a2, b2, c2⟩ := law_ix (j := 2) (x := 2) (n := n) (L := L) (by decide) (by omega) hL
  obtain ⟨a3, b3, c3⟩ := law_ix (j := 3) (x := 3) (n := n) (L := L) (by decide) (by omega) hL
  obtain ⟨a4, b4, c4⟩ := law_ix (j := 4) (x := 4) (n := n) (L := L) (by decide) (by omega) hL
  simp only [g_0_819, g_0_820, g_0_821, g_0_822, g_0_823, g_0_824, g_0_825, g_0_826, g_0_827, g_0_828, g_0_829, g_0_830, kv_w8_0, kv_w8_1, kv_w8_2, kv_w8_3, kv_w8_4, h6, h8, hX, a1, b1, c1, a2, b2, c2, not_false_eq_true]
  refine (Wc.keep (ob σ h _ _)).mono (fun r τ hw => ?_)
  obtain ⟨⟨v, rfl, h2⟩, hkp⟩ := hw
  have g6 : kv_sh τ 6 = (10, L) := (hkp.1.2.2 6 (by decide)).1.trans h6
  have gX : kv_i τ 6 = X := (hkp.1.2.2 6 (by decide)).2.1.trans hX
  have g9 : kv_sh τ 149 = (9, 47) := (hkp.2 149 (by omega)).trans h9
  simp only [Option.toList_some, List.cons_append, List.nil_append, g_0_833, g_0_834, g_0_835, g_0_836, g_0_837, g_0_838, g_0_839, g_0_840, g_0_841, g_0_842, g_0_843, g_0_844, kv_w8_0, kv_w8_1, kv_w8_2, kv_w8_3, kv_w8_4, g6, g9, gX, a1, b1, c1, a2, b2, c2, not_false_eq_true]
  refine (Wc.keep h2).mono (fun r τ2 hw => ?_)
  obtain ⟨⟨rfl, hJ2⟩, hkp2⟩ := hw
  simp only [Option.toList_some, List.cons_append, List.nil_append, g_0_847, if_true]
  exact k τ2 hJ2 ((hkp2.1.2.2 6 (by decide)).1.trans g6) ((hkp2.1.2.2 6 (by decide)).2.1.trans gX)
/-- case 20: value -/
def ob_20 (J : kv_S → Prop) (d : Nat) : Prop := ∀ σ, J σ → ∀ p0 p1 p2 : Int32, Wc d 90 [.ref 8, .int p0, .int p1, .int p2] σ (fun r τ => ∃ v : Int32, r = some (.int v) ∧ Wc d 166 [.ref 149, .int p0, .int p1, .int p2] τ (fun r2 τ2 => r2 = some (.int v) ∧ J τ2))
theorem law_c20 {J : kv_S → Prop} {d L n : Nat} {X : Nat → Int32} (ob : ob_20 J d) (hJ : ∀ σ, J σ → kv_n σ = 176 ∧ kv_sh σ 8 = (8, 11) ∧ kv_sh σ 149 = (9, 47)) (hn : n + 5 ≤ L) (hL : L ≤ 2560) {σ : kv_S} (h : J σ) (h6 : kv_sh σ 6 = (10, L)) (hX : kv_i σ 6 = X) {Φ : Option Value → kv_S → Prop} (k : ∀ τ, J τ → kv_sh τ 6 = (10, L) → kv_i τ 6 = X → Wp (d + 1) 0 1175 [.ref 6, .ref 8, .ref 149, .int (Int32.ofNat n)] [] τ Φ) : Wp (d + 1) 0 852 [.ref 6, .ref 8, .ref 149, .int (Int32.ofNat n)] [] σ Φ := by
  obtain ⟨hn0, h8, h9⟩ := hJ σ h
  obtain ⟨a1, b1, c1⟩ := law_ix (j := 1) (x := 1) (n := n) (L := L) (by decide) (by omega) hL
  obtain ⟨a2, b2, c2⟩ := law_ix (j := 2) (x := 2) (n := n) (L := L) (by decide) (by omega) hL
  obtain ⟨a3, b3, c3⟩ := law_ix (j := 3) (x := 3) (n := n) (L := L) (by decide) (by omega) hL
  obtain ⟨a4, b4, c4⟩ := law_ix (j := 4) (x := 4) (n := n) (L := L) (by decide) (by omega) hL
  simp only [g_0_852, g_0_853, g_0_854, g_0_855, g_0_856, g_0_857, g_0_858, g_0_859, g_0_860, g_0_861, g_0_862, g_0_863, g_0_864, g_0_865, g_0_866, g_0_867, g_0_868, kv_w8_0, kv_w8_1, kv_w8_2, kv_w8_3, kv_w8_4, h6, h8, hX, a1, b1, c1, a2, b2, c2, a3, b3, c3, not_false_eq_true]
  refine (Wc.keep (ob σ h _ _ _)).mono (fun r τ hw => ?_)
  obtain ⟨⟨v, rfl, h2⟩, hkp⟩ := hw
  have g6 : kv_sh τ 6 = (10, L) := (hkp.1.2.2 6 (by decide)).1.trans h6
  have gX : kv_i τ 6 = X := (hkp.1.2.2 6 (by decide)).2.1.trans hX
  have g9 : kv_sh τ 149 = (9, 47) := (hkp.2 149 (by omega)).trans h9
  simp only [Option.toList_some, List.cons_append, List.nil_append, g_0_871, g_0_872, g_0_873, g_0_874, g_0_875, g_0_876, g_0_877, g_0_878, g_0_879, g_0_880, g_0_881, g_0_882, g_0_883, g_0_884, g_0_885, g_0_886, g_0_887, kv_w8_0, kv_w8_1, kv_w8_2, kv_w8_3, kv_w8_4, g6, g9, gX, a1, b1, c1, a2, b2, c2, a3, b3, c3, not_false_eq_true]
  refine (Wc.keep h2).mono (fun r τ2 hw => ?_)
  obtain ⟨⟨rfl, hJ2⟩, hkp2⟩ := hw
  simp only [Option.toList_some, List.cons_append, List.nil_append, g_0_890, if_true]
  exact k τ2 hJ2 ((hkp2.1.2.2 6 (by decide)).1.trans g6) ((hkp2.1.2.2 6 (by decide)).2.1.trans gX)
/-- case 21: same -/
def ob_21 (J : kv_S → Prop) (d : Nat) : Prop := ∀ σ, J σ → ∀ p0 p1 : Int32, Wc d 91 [.ref 8, .int p0, .int p1] σ (fun r τ => ∃ v : Int32, r = some (.int v) ∧ Wc d 170 [.ref 149, .int p0, .int p1] τ (fun r2 τ2 => r2 = some (.int v) ∧ J τ2))
theorem law_c21 {J : kv_S → Prop} {d L n : Nat} {X : Nat → Int32} (ob : ob_21 J d) (hJ : ∀ σ, J σ → kv_n σ = 176 ∧ kv_sh σ 8 = (8, 11) ∧ kv_sh σ 149 = (9, 47)) (hn : n + 5 ≤ L) (hL : L ≤ 2560) {σ : kv_S} (h : J σ) (h6 : kv_sh σ 6 = (10, L)) (hX : kv_i σ 6 = X) {Φ : Option Value → kv_S → Prop} (k : ∀ τ, J τ → kv_sh τ 6 = (10, L) → kv_i τ 6 = X → Wp (d + 1) 0 1175 [.ref 6, .ref 8, .ref 149, .int (Int32.ofNat n)] [] τ Φ) : Wp (d + 1) 0 895 [.ref 6, .ref 8, .ref 149, .int (Int32.ofNat n)] [] σ Φ := by
  obtain ⟨hn0, h8, h9⟩ := hJ σ h
  obtain ⟨a1, b1, c1⟩ := law_ix (j := 1) (x := 1) (n := n) (L := L) (by decide) (by omega) hL
  obtain ⟨a2, b2, c2⟩ := law_ix (j := 2) (x := 2) (n := n) (L := L) (by decide) (by omega) hL
  obtain ⟨a3, b3, c3⟩ := law_ix (j := 3) (x := 3) (n := n) (L := L) (by decide) (by omega) hL
  obtain ⟨a4, b4, c4⟩ := law_ix (j := 4) (x := 4) (n := n) (L := L) (by decide) (by omega) hL
  simp only [g_0_895, g_0_896, g_0_897, g_0_898, g_0_899, g_0_900, g_0_901, g_0_902, g_0_903, g_0_904, g_0_905, g_0_906, kv_w8_0, kv_w8_1, kv_w8_2, kv_w8_3, kv_w8_4, h6, h8, hX, a1, b1, c1, a2, b2, c2, not_false_eq_true]
  refine (Wc.keep (ob σ h _ _)).mono (fun r τ hw => ?_)
  obtain ⟨⟨v, rfl, h2⟩, hkp⟩ := hw
  have g6 : kv_sh τ 6 = (10, L) := (hkp.1.2.2 6 (by decide)).1.trans h6
  have gX : kv_i τ 6 = X := (hkp.1.2.2 6 (by decide)).2.1.trans hX
  have g9 : kv_sh τ 149 = (9, 47) := (hkp.2 149 (by omega)).trans h9
  simp only [Option.toList_some, List.cons_append, List.nil_append, g_0_909, g_0_910, g_0_911, g_0_912, g_0_913, g_0_914, g_0_915, g_0_916, g_0_917, g_0_918, g_0_919, g_0_920, kv_w8_0, kv_w8_1, kv_w8_2, kv_w8_3, kv_w8_4, g6, g9, gX, a1, b1, c1, a2, b2, c2, not_false_eq_true]
  refine (Wc.keep h2).mono (fun r τ2 hw => ?_)
  obtain ⟨⟨rfl, hJ2⟩, hkp2⟩ := hw
  simp only [Option.toList_some, List.cons_append, List.nil_append, g_0_923, if_true]
  exact k τ2 hJ2 ((hkp2.1.2.2 6 (by decide)).1.trans g6) ((hkp2.1.2.2 6 (by decide)).2.1.trans gX)
/-- case 22: parts -/
def ob_22 (J : kv_S → Prop) (d : Nat) : Prop := ∀ σ, J σ → ∀ p0 p1 : Int32, Wc d 94 [.ref 8, .int p0, .int p1] σ (fun r τ => ∃ v : Int32, r = some (.int v) ∧ Wc d 172 [.ref 149, .int p0, .int p1] τ (fun r2 τ2 => r2 = some (.int v) ∧ J τ2))
theorem law_c22 {J : kv_S → Prop} {d L n : Nat} {X : Nat → Int32} (ob : ob_22 J d) (hJ : ∀ σ, J σ → kv_n σ = 176 ∧ kv_sh σ 8 = (8, 11) ∧ kv_sh σ 149 = (9, 47)) (hn : n + 5 ≤ L) (hL : L ≤ 2560) {σ : kv_S} (h : J σ) (h6 : kv_sh σ 6 = (10, L)) (hX : kv_i σ 6 = X) {Φ : Option Value → kv_S → Prop} (k : ∀ τ, J τ → kv_sh τ 6 = (10, L) → kv_i τ 6 = X → Wp (d + 1) 0 1175 [.ref 6, .ref 8, .ref 149, .int (Int32.ofNat n)] [] τ Φ) : Wp (d + 1) 0 928 [.ref 6, .ref 8, .ref 149, .int (Int32.ofNat n)] [] σ Φ := by
  obtain ⟨hn0, h8, h9⟩ := hJ σ h
  obtain ⟨a1, b1, c1⟩ := law_ix (j := 1) (x := 1) (n := n) (L := L) (by decide) (by omega) hL
  obtain ⟨a2, b2, c2⟩ := law_ix (j := 2) (x := 2) (n := n) (L := L) (by decide) (by omega) hL
  obtain ⟨a3, b3, c3⟩ := law_ix (j := 3) (x := 3) (n := n) (L := L) (by decide) (by omega) hL
  obtain ⟨a4, b4, c4⟩ := law_ix (j := 4) (x := 4) (n := n) (L := L) (by decide) (by omega) hL
  simp only [g_0_928, g_0_929, g_0_930, g_0_931, g_0_932, g_0_933, g_0_934, g_0_935, g_0_936, g_0_937, g_0_938, g_0_939, kv_w8_0, kv_w8_1, kv_w8_2, kv_w8_3, kv_w8_4, h6, h8, hX, a1, b1, c1, a2, b2, c2, not_false_eq_true]
  refine (Wc.keep (ob σ h _ _)).mono (fun r τ hw => ?_)
  obtain ⟨⟨v, rfl, h2⟩, hkp⟩ := hw
  have g6 : kv_sh τ 6 = (10, L) := (hkp.1.2.2 6 (by decide)).1.trans h6
  have gX : kv_i τ 6 = X := (hkp.1.2.2 6 (by decide)).2.1.trans hX
  have g9 : kv_sh τ 149 = (9, 47) := (hkp.2 149 (by omega)).trans h9
  simp only [Option.toList_some, List.cons_append, List.nil_append, g_0_942, g_0_943, g_0_944, g_0_945, g_0_946, g_0_947, g_0_948, g_0_949, g_0_950, g_0_951, g_0_952, g_0_953, kv_w8_0, kv_w8_1, kv_w8_2, kv_w8_3, kv_w8_4, g6, g9, gX, a1, b1, c1, a2, b2, c2, not_false_eq_true]
  refine (Wc.keep h2).mono (fun r τ2 hw => ?_)
  obtain ⟨⟨rfl, hJ2⟩, hkp2⟩ := hw
  simp only [Option.toList_some, List.cons_append, List.nil_append, g_0_956, if_true]
  exact k τ2 hJ2 ((hkp2.1.2.2 6 (by decide)).1.trans g6) ((hkp2.1.2.2 6 (by decide)).2.1.trans gX)
/-- case 23: comes -/
def ob_23 (J : kv_S → Prop) (d : Nat) : Prop := ∀ σ, J σ → ∀ p0 p1 : Int32, Wc d 95 [.ref 8, .int p0, .int p1] σ (fun r τ => ∃ v : Int32, r = some (.int v) ∧ Wc d 173 [.ref 149, .int p0, .int p1] τ (fun r2 τ2 => r2 = some (.int v) ∧ J τ2))
theorem law_c23 {J : kv_S → Prop} {d L n : Nat} {X : Nat → Int32} (ob : ob_23 J d) (hJ : ∀ σ, J σ → kv_n σ = 176 ∧ kv_sh σ 8 = (8, 11) ∧ kv_sh σ 149 = (9, 47)) (hn : n + 5 ≤ L) (hL : L ≤ 2560) {σ : kv_S} (h : J σ) (h6 : kv_sh σ 6 = (10, L)) (hX : kv_i σ 6 = X) {Φ : Option Value → kv_S → Prop} (k : ∀ τ, J τ → kv_sh τ 6 = (10, L) → kv_i τ 6 = X → Wp (d + 1) 0 1175 [.ref 6, .ref 8, .ref 149, .int (Int32.ofNat n)] [] τ Φ) : Wp (d + 1) 0 961 [.ref 6, .ref 8, .ref 149, .int (Int32.ofNat n)] [] σ Φ := by
  obtain ⟨hn0, h8, h9⟩ := hJ σ h
  obtain ⟨a1, b1, c1⟩ := law_ix (j := 1) (x := 1) (n := n) (L := L) (by decide) (by omega) hL
  obtain ⟨a2, b2, c2⟩ := law_ix (j := 2) (x := 2) (n := n) (L := L) (by decide) (by omega) hL
  obtain ⟨a3, b3, c3⟩ := law_ix (j := 3) (x := 3) (n := n) (L := L) (by decide) (by omega) hL
  obtain ⟨a4, b4, c4⟩ := law_ix (j := 4) (x := 4) (n := n) (L := L) (by decide) (by omega) hL
  simp only [g_0_961, g_0_962, g_0_963, g_0_964, g_0_965, g_0_966, g_0_967, g_0_968, g_0_969, g_0_970, g_0_971, g_0_972, kv_w8_0, kv_w8_1, kv_w8_2, kv_w8_3, kv_w8_4, h6, h8, hX, a1, b1, c1, a2, b2, c2, not_false_eq_true]
  refine (Wc.keep (ob σ h _ _)).mono (fun r τ hw => ?_)
  obtain ⟨⟨v, rfl, h2⟩, hkp⟩ := hw
  have g6 : kv_sh τ 6 = (10, L) := (hkp.1.2.2 6 (by decide)).1.trans h6
  have gX : kv_i τ 6 = X := (hkp.1.2.2 6 (by decide)).2.1.trans hX
  have g9 : kv_sh τ 149 = (9, 47) := (hkp.2 149 (by omega)).trans h9
  simp only [Option.toList_some, List.cons_append, List.nil_append, g_0_975, g_0_976, g_0_977, g_0_978, g_0_979, g_0_980, g_0_981, g_0_982, g_0_983, g_0_984, g_0_985, g_0_986, kv_w8_0, kv_w8_1, kv_w8_2, kv_w8_3, kv_w8_4, g6, g9, gX, a1, b1, c1, a2, b2, c2, not_false_eq_true]
  refine (Wc.keep h2).mono (fun r τ2 hw => ?_)
  obtain ⟨⟨rfl, hJ2⟩, hkp2⟩ := hw
  simp only [Option.toList_some, List.cons_append, List.nil_append, g_0_989, if_true]
  exact k τ2 hJ2 ((hkp2.1.2.2 6 (by decide)).1.trans g6) ((hkp2.1.2.2 6 (by decide)).2.1.trans gX)
/-- case 24: cared -/
def ob_24 (J : kv_S → Prop) (d : Nat) : Prop := ∀ σ, J σ → ∀ p0 p1 : Int32, Wc d 98 [.ref 8, .int p0, .int p1] σ (fun r τ => ∃ v : Int32, r = some (.int v) ∧ Wc d 175 [.ref 149, .int p0, .int p1] τ (fun r2 τ2 => r2 = some (.int v) ∧ J τ2))
theorem law_c24 {J : kv_S → Prop} {d L n : Nat} {X : Nat → Int32} (ob : ob_24 J d) (hJ : ∀ σ, J σ → kv_n σ = 176 ∧ kv_sh σ 8 = (8, 11) ∧ kv_sh σ 149 = (9, 47)) (hn : n + 5 ≤ L) (hL : L ≤ 2560) {σ : kv_S} (h : J σ) (h6 : kv_sh σ 6 = (10, L)) (hX : kv_i σ 6 = X) {Φ : Option Value → kv_S → Prop} (k : ∀ τ, J τ → kv_sh τ 6 = (10, L) → kv_i τ 6 = X → Wp (d + 1) 0 1175 [.ref 6, .ref 8, .ref 149, .int (Int32.ofNat n)] [] τ Φ) : Wp (d + 1) 0 994 [.ref 6, .ref 8, .ref 149, .int (Int32.ofNat n)] [] σ Φ := by
  obtain ⟨hn0, h8, h9⟩ := hJ σ h
  obtain ⟨a1, b1, c1⟩ := law_ix (j := 1) (x := 1) (n := n) (L := L) (by decide) (by omega) hL
  obtain ⟨a2, b2, c2⟩ := law_ix (j := 2) (x := 2) (n := n) (L := L) (by decide) (by omega) hL
  obtain ⟨a3, b3, c3⟩ := law_ix (j := 3) (x := 3) (n := n) (L := L) (by decide) (by omega) hL
  obtain ⟨a4, b4, c4⟩ := law_ix (j := 4) (x := 4) (n := n) (L := L) (by decide) (by omega) hL
  simp only [g_0_994, g_0_995, g_0_996, g_0_997, g_0_998, g_0_999, g_0_1000, g_0_1001, g_0_1002, g_0_1003, g_0_1004, g_0_1005, kv_w8_0, kv_w8_1, kv_w8_2, kv_w8_3, kv_w8_4, h6, h8, hX, a1, b1, c1, a2, b2, c2, not_false_eq_true]
  refine (Wc.keep (ob σ h _ _)).mono (fun r τ hw => ?_)
  obtain ⟨⟨v, rfl, h2⟩, hkp⟩ := hw
  have g6 : kv_sh τ 6 = (10, L) := (hkp.1.2.2 6 (by decide)).1.trans h6
  have gX : kv_i τ 6 = X := (hkp.1.2.2 6 (by decide)).2.1.trans hX
  have g9 : kv_sh τ 149 = (9, 47) := (hkp.2 149 (by omega)).trans h9
  simp only [Option.toList_some, List.cons_append, List.nil_append, g_0_1008, g_0_1009, g_0_1010, g_0_1011, g_0_1012, g_0_1013, g_0_1014, g_0_1015, g_0_1016, g_0_1017, g_0_1018, g_0_1019, kv_w8_0, kv_w8_1, kv_w8_2, kv_w8_3, kv_w8_4, g6, g9, gX, a1, b1, c1, a2, b2, c2, not_false_eq_true]
  refine (Wc.keep h2).mono (fun r τ2 hw => ?_)
  obtain ⟨⟨rfl, hJ2⟩, hkp2⟩ := hw
  simp only [Option.toList_some, List.cons_append, List.nil_append, g_0_1022, if_true]
  exact k τ2 hJ2 ((hkp2.1.2.2 6 (by decide)).1.trans g6) ((hkp2.1.2.2 6 (by decide)).2.1.trans gX)
/-- case 25: shape -/
def ob_25 (J : kv_S → Prop) (d : Nat) : Prop := ∀ σ, J σ → ∀ p0 : Int32, Wc d 103 [.ref 8, .int p0] σ (fun r τ => ∃ v : Int32, r = some (.int v) ∧ Wc d 177 [.ref 149, .int p0] τ (fun r2 τ2 => r2 = some (.int v) ∧ J τ2))
theorem law_c25 {J : kv_S → Prop} {d L n : Nat} {X : Nat → Int32} (ob : ob_25 J d) (hJ : ∀ σ, J σ → kv_n σ = 176 ∧ kv_sh σ 8 = (8, 11) ∧ kv_sh σ 149 = (9, 47)) (hn : n + 5 ≤ L) (hL : L ≤ 2560) {σ : kv_S} (h : J σ) (h6 : kv_sh σ 6 = (10, L)) (hX : kv_i σ 6 = X) {Φ : Option Value → kv_S → Prop} (k : ∀ τ, J τ → kv_sh τ 6 = (10, L) → kv_i τ 6 = X → Wp (d + 1) 0 1175 [.ref 6, .ref 8, .ref 149, .int (Int32.ofNat n)] [] τ Φ) : Wp (d + 1) 0 1027 [.ref 6, .ref 8, .ref 149, .int (Int32.ofNat n)] [] σ Φ := by
  obtain ⟨hn0, h8, h9⟩ := hJ σ h
  obtain ⟨a1, b1, c1⟩ := law_ix (j := 1) (x := 1) (n := n) (L := L) (by decide) (by omega) hL
  obtain ⟨a2, b2, c2⟩ := law_ix (j := 2) (x := 2) (n := n) (L := L) (by decide) (by omega) hL
  obtain ⟨a3, b3, c3⟩ := law_ix (j := 3) (x := 3) (n := n) (L := L) (by decide) (by omega) hL
  obtain ⟨a4, b4, c4⟩ := law_ix (j := 4) (x := 4) (n := n) (L := L) (by decide) (by omega) hL
  simp only [g_0_1027, g_0_1028, g_0_1029, g_0_1030, g_0_1031, g_0_1032, g_0_1033, kv_w8_0, kv_w8_1, kv_w8_2, kv_w8_3, kv_w8_4, h6, h8, hX, a1, b1, c1, not_false_eq_true]
  refine (Wc.keep (ob σ h _)).mono (fun r τ hw => ?_)
  obtain ⟨⟨v, rfl, h2⟩, hkp⟩ := hw
  have g6 : kv_sh τ 6 = (10, L) := (hkp.1.2.2 6 (by decide)).1.trans h6
  have gX : kv_i τ 6 = X := (hkp.1.2.2 6 (by decide)).2.1.trans hX
  have g9 : kv_sh τ 149 = (9, 47) := (hkp.2 149 (by omega)).trans h9
  simp only [Option.toList_some, List.cons_append, List.nil_append, g_0_1036, g_0_1037, g_0_1038, g_0_1039, g_0_1040, g_0_1041, g_0_1042, kv_w8_0, kv_w8_1, kv_w8_2, kv_w8_3, kv_w8_4, g6, g9, gX, a1, b1, c1, not_false_eq_true]
  refine (Wc.keep h2).mono (fun r τ2 hw => ?_)
  obtain ⟨⟨rfl, hJ2⟩, hkp2⟩ := hw
  simp only [Option.toList_some, List.cons_append, List.nil_append, g_0_1045, if_true]
  exact k τ2 hJ2 ((hkp2.1.2.2 6 (by decide)).1.trans g6) ((hkp2.1.2.2 6 (by decide)).2.1.trans gX)
/-- case 26: step -/
def ob_26 (J : kv_S → Prop) (d : Nat) : Prop := ∀ σ, J σ → ∀ p0 p1 : Int32, Wc d 112 [.ref 8, .int p0, .int p1] σ (fun r τ => ∃ v : Int32, r = some (.int v) ∧ Wc d 181 [.ref 149, .int p0, .int p1] τ (fun r2 τ2 => r2 = some (.int v) ∧ J τ2))
theorem law_c26 {J : kv_S → Prop} {d L n : Nat} {X : Nat → Int32} (ob : ob_26 J d) (hJ : ∀ σ, J σ → kv_n σ = 176 ∧ kv_sh σ 8 = (8, 11) ∧ kv_sh σ 149 = (9, 47)) (hn : n + 5 ≤ L) (hL : L ≤ 2560) {σ : kv_S} (h : J σ) (h6 : kv_sh σ 6 = (10, L)) (hX : kv_i σ 6 = X) {Φ : Option Value → kv_S → Prop} (k : ∀ τ, J τ → kv_sh τ 6 = (10, L) → kv_i τ 6 = X → Wp (d + 1) 0 1175 [.ref 6, .ref 8, .ref 149, .int (Int32.ofNat n)] [] τ Φ) : Wp (d + 1) 0 1050 [.ref 6, .ref 8, .ref 149, .int (Int32.ofNat n)] [] σ Φ := by
  obtain ⟨hn0, h8, h9⟩ := hJ σ h
  obtain ⟨a1, b1, c1⟩ := law_ix (j := 1) (x := 1) (n := n) (L := L) (by decide) (by omega) hL
  obtain ⟨a2, b2, c2⟩ := law_ix (j := 2) (x := 2) (n := n) (L := L) (by decide) (by omega) hL
  obtain ⟨a3, b3, c3⟩ := law_ix (j := 3) (x := 3) (n := n) (L := L) (by decide) (by omega) hL
  obtain ⟨a4, b4, c4⟩ := law_ix (j := 4) (x := 4) (n := n) (L := L) (by decide) (by omega) hL
  simp only [g_0_1050, g_0_1051, g_0_1052, g_0_1053, g_0_1054, g_0_1055, g_0_1056, g_0_1057, g_0_1058, g_0_1059, g_0_1060, g_0_1061, kv_w8_0, kv_w8_1, kv_w8_2, kv_w8_3, kv_w8_4, h6, h8, hX, a1, b1, c1, a2, b2, c2, not_false_eq_true]
  refine (Wc.keep (ob σ h _ _)).mono (fun r τ hw => ?_)
  obtain ⟨⟨v, rfl, h2⟩, hkp⟩ := hw
  have g6 : kv_sh τ 6 = (10, L) := (hkp.1.2.2 6 (by decide)).1.trans h6
  have gX : kv_i τ 6 = X := (hkp.1.2.2 6 (by decide)).2.1.trans hX
  have g9 : kv_sh τ 149 = (9, 47) := (hkp.2 149 (by omega)).trans h9
  simp only [Option.toList_some, List.cons_append, List.nil_append, g_0_1064, g_0_1065, g_0_1066, g_0_1067, g_0_1068, g_0_1069, g_0_1070, g_0_1071, g_0_1072, g_0_1073, g_0_1074, g_0_1075, kv_w8_0, kv_w8_1, kv_w8_2, kv_w8_3, kv_w8_4, g6, g9, gX, a1, b1, c1, a2, b2, c2, not_false_eq_true]
  refine (Wc.keep h2).mono (fun r τ2 hw => ?_)
  obtain ⟨⟨rfl, hJ2⟩, hkp2⟩ := hw
  simp only [Option.toList_some, List.cons_append, List.nil_append, g_0_1078, if_true]
  exact k τ2 hJ2 ((hkp2.1.2.2 6 (by decide)).1.trans g6) ((hkp2.1.2.2 6 (by decide)).2.1.trans gX)
/-- case 27: back -/
def ob_27 (J : kv_S → Prop) (d : Nat) : Prop := ∀ σ, J σ → ∀ p0 : Int32, Wc d 116 [.ref 8, .int p0] σ (fun r τ => ∃ v : Int32, r = some (.int v) ∧ Wc d 182 [.ref 149, .int p0] τ (fun r2 τ2 => r2 = some (.int v) ∧ J τ2))
theorem law_c27 {J : kv_S → Prop} {d L n : Nat} {X : Nat → Int32} (ob : ob_27 J d) (hJ : ∀ σ, J σ → kv_n σ = 176 ∧ kv_sh σ 8 = (8, 11) ∧ kv_sh σ 149 = (9, 47)) (hn : n + 5 ≤ L) (hL : L ≤ 2560) {σ : kv_S} (h : J σ) (h6 : kv_sh σ 6 = (10, L)) (hX : kv_i σ 6 = X) {Φ : Option Value → kv_S → Prop} (k : ∀ τ, J τ → kv_sh τ 6 = (10, L) → kv_i τ 6 = X → Wp (d + 1) 0 1175 [.ref 6, .ref 8, .ref 149, .int (Int32.ofNat n)] [] τ Φ) : Wp (d + 1) 0 1083 [.ref 6, .ref 8, .ref 149, .int (Int32.ofNat n)] [] σ Φ := by
  obtain ⟨hn0, h8, h9⟩ := hJ σ h
  obtain ⟨a1, b1, c1⟩ := law_ix (j := 1) (x := 1) (n := n) (L := L) (by decide) (by omega) hL
  obtain ⟨a2, b2, c2⟩ := law_ix (j := 2) (x := 2) (n := n) (L := L) (by decide) (by omega) hL
  obtain ⟨a3, b3, c3⟩ := law_ix (j := 3) (x := 3) (n := n) (L := L) (by decide) (by omega) hL
  obtain ⟨a4, b4, c4⟩ := law_ix (j := 4) (x := 4) (n := n) (L := L) (by decide) (by omega) hL
  simp only [g_0_1083, g_0_1084, g_0_1085, g_0_1086, g_0_1087, g_0_1088, g_0_1089, kv_w8_0, kv_w8_1, kv_w8_2, kv_w8_3, kv_w8_4, h6, h8, hX, a1, b1, c1, not_false_eq_true]
  refine (Wc.keep (ob σ h _)).mono (fun r τ hw => ?_)
  obtain ⟨⟨v, rfl, h2⟩, hkp⟩ := hw
  have g6 : kv_sh τ 6 = (10, L) := (hkp.1.2.2 6 (by decide)).1.trans h6
  have gX : kv_i τ 6 = X := (hkp.1.2.2 6 (by decide)).2.1.trans hX
  have g9 : kv_sh τ 149 = (9, 47) := (hkp.2 149 (by omega)).trans h9
  simp only [Option.toList_some, List.cons_append, List.nil_append, g_0_1092, g_0_1093, g_0_1094, g_0_1095, g_0_1096, g_0_1097, g_0_1098, kv_w8_0, kv_w8_1, kv_w8_2, kv_w8_3, kv_w8_4, g6, g9, gX, a1, b1, c1, not_false_eq_true]
  refine (Wc.keep h2).mono (fun r τ2 hw => ?_)
  obtain ⟨⟨rfl, hJ2⟩, hkp2⟩ := hw
  simp only [Option.toList_some, List.cons_append, List.nil_append, g_0_1101, if_true]
  exact k τ2 hJ2 ((hkp2.1.2.2 6 (by decide)).1.trans g6) ((hkp2.1.2.2 6 (by decide)).2.1.trans gX)
/-- case 28: weight -/
def ob_28 (J : kv_S → Prop) (d : Nat) : Prop := ∀ σ, J σ → ∀ p0 : Int32, Wc d 118 [.ref 8, .int p0] σ (fun r τ => ∃ v : Int32, r = some (.int v) ∧ Wc d 183 [.ref 149, .int p0] τ (fun r2 τ2 => r2 = some (.int v) ∧ J τ2))
theorem law_c28 {J : kv_S → Prop} {d L n : Nat} {X : Nat → Int32} (ob : ob_28 J d) (hJ : ∀ σ, J σ → kv_n σ = 176 ∧ kv_sh σ 8 = (8, 11) ∧ kv_sh σ 149 = (9, 47)) (hn : n + 5 ≤ L) (hL : L ≤ 2560) {σ : kv_S} (h : J σ) (h6 : kv_sh σ 6 = (10, L)) (hX : kv_i σ 6 = X) {Φ : Option Value → kv_S → Prop} (k : ∀ τ, J τ → kv_sh τ 6 = (10, L) → kv_i τ 6 = X → Wp (d + 1) 0 1175 [.ref 6, .ref 8, .ref 149, .int (Int32.ofNat n)] [] τ Φ) : Wp (d + 1) 0 1106 [.ref 6, .ref 8, .ref 149, .int (Int32.ofNat n)] [] σ Φ := by
  obtain ⟨hn0, h8, h9⟩ := hJ σ h
  obtain ⟨a1, b1, c1⟩ := law_ix (j := 1) (x := 1) (n := n) (L := L) (by decide) (by omega) hL
  obtain ⟨a2, b2, c2⟩ := law_ix (j := 2) (x := 2) (n := n) (L := L) (by decide) (by omega) hL
  obtain ⟨a3, b3, c3⟩ := law_ix (j := 3) (x := 3) (n := n) (L := L) (by decide) (by omega) hL
  obtain ⟨a4, b4, c4⟩ := law_ix (j := 4) (x := 4) (n := n) (L := L) (by decide) (by omega) hL
  simp only [g_0_1106, g_0_1107, g_0_1108, g_0_1109, g_0_1110, g_0_1111, g_0_1112, kv_w8_0, kv_w8_1, kv_w8_2, kv_w8_3, kv_w8_4, h6, h8, hX, a1, b1, c1, not_false_eq_true]
  refine (Wc.keep (ob σ h _)).mono (fun r τ hw => ?_)
  obtain ⟨⟨v, rfl, h2⟩, hkp⟩ := hw
  have g6 : kv_sh τ 6 = (10, L) := (hkp.1.2.2 6 (by decide)).1.trans h6
  have gX : kv_i τ 6 = X := (hkp.1.2.2 6 (by decide)).2.1.trans hX
  have g9 : kv_sh τ 149 = (9, 47) := (hkp.2 149 (by omega)).trans h9
  simp only [Option.toList_some, List.cons_append, List.nil_append, g_0_1115, g_0_1116, g_0_1117, g_0_1118, g_0_1119, g_0_1120, g_0_1121, kv_w8_0, kv_w8_1, kv_w8_2, kv_w8_3, kv_w8_4, g6, g9, gX, a1, b1, c1, not_false_eq_true]
  refine (Wc.keep h2).mono (fun r τ2 hw => ?_)
  obtain ⟨⟨rfl, hJ2⟩, hkp2⟩ := hw
  simp only [Option.toList_some, List.cons_append, List.nil_append, g_0_1124, if_true]
  exact k τ2 hJ2 ((hkp2.1.2.2 6 (by decide)).1.trans g6) ((hkp2.1.2.2 6 (by decide)).2.1.trans gX)
/-- case 29: count -/
def ob_29 (J : kv_S → Prop) (d : Nat) : Prop := ∀ σ, J σ → ∀ p0 : Int32, Wc d 120 [.ref 8, .int p0] σ (fun r τ => ∃ v : Int32, r = some (.int v) ∧ Wc d 185 [.ref 149, .int p0] τ (fun r2 τ2 => r2 = some (.int v) ∧ J τ2))
theorem law_c29 {J : kv_S → Prop} {d L n : Nat} {X : Nat → Int32} (ob : ob_29 J d) (hJ : ∀ σ, J σ → kv_n σ = 176 ∧ kv_sh σ 8 = (8, 11) ∧ kv_sh σ 149 = (9, 47)) (hn : n + 5 ≤ L) (hL : L ≤ 2560) {σ : kv_S} (h : J σ) (h6 : kv_sh σ 6 = (10, L)) (hX : kv_i σ 6 = X) {Φ : Option Value → kv_S → Prop} (k : ∀ τ, J τ → kv_sh τ 6 = (10, L) → kv_i τ 6 = X → Wp (d + 1) 0 1175 [.ref 6, .ref 8, .ref 149, .int (Int32.ofNat n)] [] τ Φ) : Wp (d + 1) 0 1129 [.ref 6, .ref 8, .ref 149, .int (Int32.ofNat n)] [] σ Φ := by
  obtain ⟨hn0, h8, h9⟩ := hJ σ h
  obtain ⟨a1, b1, c1⟩ := law_ix (j := 1) (x := 1) (n := n) (L := L) (by decide) (by omega) hL
  obtain ⟨a2, b2, c2⟩ := law_ix (j := 2) (x := 2) (n := n) (L := L) (by decide) (by omega) hL
  obtain ⟨a3, b3, c3⟩ := law_ix (j := 3) (x := 3) (n := n) (L := L) (by decide) (by omega) hL
  obtain ⟨a4, b4, c4⟩ := law_ix (j := 4) (x := 4) (n := n) (L := L) (by decide) (by omega) hL
  simp only [g_0_1129, g_0_1130, g_0_1131, g_0_1132, g_0_1133, g_0_1134, g_0_1135, kv_w8_0, kv_w8_1, kv_w8_2, kv_w8_3, kv_w8_4, h6, h8, hX, a1, b1, c1, not_false_eq_true]
  refine (Wc.keep (ob σ h _)).mono (fun r τ hw => ?_)
  obtain ⟨⟨v, rfl, h2⟩, hkp⟩ := hw
  have g6 : kv_sh τ 6 = (10, L) := (hkp.1.2.2 6 (by decide)).1.trans h6
  have gX : kv_i τ 6 = X := (hkp.1.2.2 6 (by decide)).2.1.trans hX
  have g9 : kv_sh τ 149 = (9, 47) := (hkp.2 149 (by omega)).trans h9
  simp only [Option.toList_some, List.cons_append, List.nil_append, g_0_1138, g_0_1139, g_0_1140, g_0_1141, g_0_1142, g_0_1143, g_0_1144, kv_w8_0, kv_w8_1, kv_w8_2, kv_w8_3, kv_w8_4, g6, g9, gX, a1, b1, c1, not_false_eq_true]
  refine (Wc.keep h2).mono (fun r τ2 hw => ?_)
  obtain ⟨⟨rfl, hJ2⟩, hkp2⟩ := hw
  simp only [Option.toList_some, List.cons_append, List.nil_append, g_0_1147, if_true]
  exact k τ2 hJ2 ((hkp2.1.2.2 6 (by decide)).1.trans g6) ((hkp2.1.2.2 6 (by decide)).2.1.trans gX)
/-- case 30: remove -/
def ob_30 (J : kv_S → Prop) (d : Nat) : Prop := ∀ σ, J σ → ∀ p0 : Int32, Wc d 121 [.ref 8, .int p0] σ (fun r τ => ∃ v : Int32, r = some (.int v) ∧ Wc d 186 [.ref 149, .int p0] τ (fun r2 τ2 => r2 = some (.int v) ∧ J τ2))
theorem law_c30 {J : kv_S → Prop} {d L n : Nat} {X : Nat → Int32} (ob : ob_30 J d) (hJ : ∀ σ, J σ → kv_n σ = 176 ∧ kv_sh σ 8 = (8, 11) ∧ kv_sh σ 149 = (9, 47)) (hn : n + 5 ≤ L) (hL : L ≤ 2560) {σ : kv_S} (h : J σ) (h6 : kv_sh σ 6 = (10, L)) (hX : kv_i σ 6 = X) {Φ : Option Value → kv_S → Prop} (k : ∀ τ, J τ → kv_sh τ 6 = (10, L) → kv_i τ 6 = X → Wp (d + 1) 0 1175 [.ref 6, .ref 8, .ref 149, .int (Int32.ofNat n)] [] τ Φ) : Wp (d + 1) 0 1152 [.ref 6, .ref 8, .ref 149, .int (Int32.ofNat n)] [] σ Φ := by
  obtain ⟨hn0, h8, h9⟩ := hJ σ h
  obtain ⟨a1, b1, c1⟩ := law_ix (j := 1) (x := 1) (n := n) (L := L) (by decide) (by omega) hL
  obtain ⟨a2, b2, c2⟩ := law_ix (j := 2) (x := 2) (n := n) (L := L) (by decide) (by omega) hL
  obtain ⟨a3, b3, c3⟩ := law_ix (j := 3) (x := 3) (n := n) (L := L) (by decide) (by omega) hL
  obtain ⟨a4, b4, c4⟩ := law_ix (j := 4) (x := 4) (n := n) (L := L) (by decide) (by omega) hL
  simp only [g_0_1152, g_0_1153, g_0_1154, g_0_1155, g_0_1156, g_0_1157, g_0_1158, kv_w8_0, kv_w8_1, kv_w8_2, kv_w8_3, kv_w8_4, h6, h8, hX, a1, b1, c1, not_false_eq_true]
  refine (Wc.keep (ob σ h _)).mono (fun r τ hw => ?_)
  obtain ⟨⟨v, rfl, h2⟩, hkp⟩ := hw
  have g6 : kv_sh τ 6 = (10, L) := (hkp.1.2.2 6 (by decide)).1.trans h6
  have gX : kv_i τ 6 = X := (hkp.1.2.2 6 (by decide)).2.1.trans hX
  have g9 : kv_sh τ 149 = (9, 47) := (hkp.2 149 (by omega)).trans h9
  simp only [Option.toList_some, List.cons_append, List.nil_append, g_0_1161, g_0_1162, g_0_1163, g_0_1164, g_0_1165, g_0_1166, g_0_1167, kv_w8_0, kv_w8_1, kv_w8_2, kv_w8_3, kv_w8_4, g6, g9, gX, a1, b1, c1, not_false_eq_true]
  refine (Wc.keep h2).mono (fun r τ2 hw => ?_)
  obtain ⟨⟨rfl, hJ2⟩, hkp2⟩ := hw
  simp only [Option.toList_some, List.cons_append, List.nil_append, g_0_1170, if_true]
  exact k τ2 hJ2 ((hkp2.1.2.2 6 (by decide)).1.trans g6) ((hkp2.1.2.2 6 (by decide)).2.1.trans gX)

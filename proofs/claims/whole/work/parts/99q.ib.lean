/-! ===== bits of an int: sets of rows ===== -/
def ib (x : Int32) (r : Nat) : Bool := x.toBitVec.getLsbD r
theorem ib_or (x y : Int32) (r : Nat) : ib (x ||| y) r = (ib x r || ib y r) := by unfold ib; rw [Int32.toBitVec_or, BitVec.getLsbD_or]
theorem ib_and (x y : Int32) (r : Nat) : ib (x &&& y) r = (ib x r && ib y r) := by unfold ib; rw [Int32.toBitVec_and, BitVec.getLsbD_and]
theorem ib_xor (x y : Int32) (r : Nat) : ib (x ^^^ y) r = (ib x r ^^ ib y r) := by unfold ib; rw [Int32.toBitVec_xor, BitVec.getLsbD_xor]
theorem ib_0 (r : Nat) : ib 0 r = false := by unfold ib; exact BitVec.getLsbD_zero
theorem ib_m1 {r : Nat} (h : r < 32) : ib (-1) r = true := by
  have : ∀ r, r < 32 → ib (-1) r = true := by decide
  exact this r h
theorem ib_not (x : Int32) {r : Nat} (h : r < 32) : ib (x ^^^ -1) r = !ib x r := by rw [ib_xor, ib_m1 h]; cases ib x r <;> rfl
theorem ib_ext {x y : Int32} (h : ∀ r, r < 32 → ib x r = ib y r) : x = y := by
  rw [← Int32.toBitVec_inj]
  exact BitVec.eq_of_getLsbD_eq (fun i hi => h i hi)
theorem ib_one : ∀ n, n < 32 → ∀ r, r < 32 → ib (1 <<< Int32.ofNat n) r = decide (r = n) := by decide +kernel
theorem smod32 : ∀ n, n < 32 → (Int32.ofNat n).toBitVec.smod 32 = BitVec.ofNat 32 n := by decide
theorem ib_shr (x : Int32) {n : Nat} (hn : n < 32) {r : Nat} (hr : n + r < 32) : ib (x >>> Int32.ofNat n) r = ib x (n + r) := by
  show (x.toBitVec.sshiftRight' ((Int32.ofNat n).toBitVec.smod 32)).getLsbD r = _
  rw [smod32 n hn, BitVec.sshiftRight']
  rw [BitVec.toNat_ofNat, Nat.mod_eq_of_lt (by omega), BitVec.getLsbD_sshiftRight]
  unfold ib
  simp [hr, show ¬ 32 ≤ r by omega]
theorem ib_1 (r : Nat) (hr : r < 32) : ib 1 r = decide (r = 0) := by
  have : ∀ r, r < 32 → ib 1 r = decide (r = 0) := by decide
  exact this r hr
theorem ib_bit (x : Int32) {n : Nat} (hn : n < 32) : (x >>> Int32.ofNat n) &&& 1 = bI (ib x n) := by
  apply ib_ext
  intro r hr
  unfold bI
  rw [ib_and, ib_1 r hr]
  by_cases h0 : r = 0
  · subst h0
    rw [ib_shr x hn (by omega)]
    by_cases h : ib x n = true
    · simp [h, ib_1]
    · simp [h, ib_0]
  · by_cases h : ib x n = true
    · rw [if_pos h, ib_1 r hr]; simp [h0]
    · rw [if_neg h, ib_0]; simp [h0]
def iw (f : Nat → Bool) : Int32 := Int32.ofNat (wd f 32)
theorem ib_iw (f : Nat → Bool) {r : Nat} (hr : r < 32) : ib (iw f) r = f r := by
  show (BitVec.ofNat 32 (wd f 32)).getLsbD r = f r
  rw [BitVec.getLsbD_ofNat, decide_eq_true hr, Bool.true_and, wd_tb, decide_eq_true hr, Bool.true_and]
theorem iw_of {z : Int32} {f : Nat → Bool} (h : ∀ r, r < 32 → ib z r = f r) : z = iw f := ib_ext (fun r hr => by rw [ib_iw f hr, h r hr])
theorem iw_eq {f g : Nat → Bool} : iw f = iw g ↔ ∀ r, r < 32 → f r = g r := by
  constructor
  · intro h r hr
    rw [← ib_iw f hr, ← ib_iw g hr, h]
  · intro h
    exact ib_ext (fun r hr => by rw [ib_iw f hr, ib_iw g hr, h r hr])
theorem iw_and (f g : Nat → Bool) : iw f &&& iw g = iw (fun r => f r && g r) := iw_of (fun r hr => by rw [ib_and, ib_iw f hr, ib_iw g hr])
theorem iw_or (f g : Nat → Bool) : iw f ||| iw g = iw (fun r => f r || g r) := iw_of (fun r hr => by rw [ib_or, ib_iw f hr, ib_iw g hr])
theorem iw_andn (f g : Nat → Bool) : iw f &&& (iw g ^^^ -1) = iw (fun r => f r && !g r) := iw_of (fun r hr => by rw [ib_and, ib_not _ hr, ib_iw f hr, ib_iw g hr])
theorem iw_bit (f : Nat → Bool) {n : Nat} (hn : n < 32) : (iw f >>> Int32.ofNat n) &&& 1 = bI (f n) := by rw [ib_bit _ hn, ib_iw f hn]
theorem iw_0 {f : Nat → Bool} : iw f = 0 ↔ ∀ r, r < 32 → f r = false := by
  constructor
  · intro h r hr
    rw [← ib_iw f hr, h, ib_0]
  · intro h
    exact ib_ext (fun r hr => by rw [ib_iw f hr, h r hr, ib_0])
theorem iw_n0 {f : Nat → Bool} : ¬ iw f = 0 ↔ ∃ r, r < 32 ∧ f r = true := by
  rw [iw_0]
  constructor
  · intro h
    refine Classical.byContradiction fun hn => h (fun r hr => Bool.eq_false_iff.mpr fun hc => hn ⟨r, hr, hc⟩)
  · rintro ⟨r, hr, hf⟩ h
    rw [h r hr] at hf; cases hf
theorem lw_and (f g : Nat → Bool) : lw f &&& lw g = lw (fun r => f r && g r) := lw_of (fun r hr => by rw [lb_and, lb_lw f hr, lb_lw g hr])
theorem lw_or (f g : Nat → Bool) : lw f ||| lw g = lw (fun r => f r || g r) := lw_of (fun r hr => by rw [lb_or, lb_lw f hr, lb_lw g hr])
theorem lw_bit (f : Nat → Bool) {n : Nat} (hn : n < 64) : (lw f >>> Int64.ofNat n) &&& 1 = if f n = true then 1 else 0 := by rw [lb_bit _ hn, lb_lw f hn]
theorem lw_one {n : Nat} (hn : n < 64) : (1 : Int64) <<< Int64.ofNat n = lw (fun r => decide (r = n)) := lw_of (fun r hr => lb_one n hn r hr)
theorem lw_del (f : Nat → Bool) {n : Nat} (hn : n < 64) : lw f &&& ((1 : Int64) <<< Int64.ofNat n ^^^ -1) = lw (fun r => f r && decide (r ≠ n)) := lw_of (fun r hr => by
  rw [lb_and, lb_not _ hr, lb_lw f hr, lb_one n hn r hr]
  by_cases c : r = n
  · simp [c]
  · simp [c])
theorem lw_0 {f : Nat → Bool} : lw f = 0 ↔ ∀ r, r < 64 → f r = false := by
  constructor
  · intro h r hr
    rw [← lb_lw f hr, h, lb_0]
  · intro h
    exact lb_ext (fun r hr => by rw [lb_lw f hr, h r hr, lb_0])
theorem lw_n0 {f : Nat → Bool} : ¬ lw f = 0 ↔ ∃ r, r < 64 ∧ f r = true := by
  rw [lw_0]
  constructor
  · intro h
    refine Classical.byContradiction fun hn => h (fun r hr => Bool.eq_false_iff.mpr fun hc => hn ⟨r, hr, hc⟩)
  · rintro ⟨r, hr, hf⟩ h
    rw [h r hr] at hf; cases hf
theorem lb_sg {x : Int64} {n r : Nat} (hn : n < 64) (hr : r < 64) : lb (x >>> Int64.ofNat n) r = if n + r < 64 then lb x (n + r) else lb x 63 := by
  show (x.toBitVec.sshiftRight' ((Int64.ofNat n).toBitVec.smod 64)).getLsbD r = _
  rw [smod64 n hn, BitVec.sshiftRight']
  rw [BitVec.toNat_ofNat, Nat.mod_eq_of_lt (by omega), BitVec.getLsbD_sshiftRight]
  unfold lb
  rw [decide_eq_false (show ¬ 64 ≤ r by omega), BitVec.msb_eq_getLsbD_last]
  simp
/-- no bit from n on -/
theorem lw_sh0 {f : Nat → Bool} {n : Nat} (hn : n < 64) : lw f >>> Int64.ofNat n = 0 ↔ ∀ r, n ≤ r → r < 64 → f r = false := by
  constructor
  · intro h r h1 h2
    have e := lb_sg (x := lw f) hn (r := r - n) (by omega)
    rw [if_pos (by omega), show n + (r - n) = r by omega, h, lb_0, lb_lw f h2] at e
    exact e.symm
  · intro h
    refine lb_ext (fun r hr => ?_)
    rw [lb_sg hn hr, lb_0]
    by_cases c : n + r < 64
    · rw [if_pos c, lb_lw f c]; exact h _ (by omega) c
    · rw [if_neg c, lb_lw f (by decide)]; exact h 63 (by omega) (by decide)
theorem lw_i (f : Nat → Bool) : (lw f).toInt32 = iw f := by
  unfold lw iw
  rw [l2i_n]
  refine ib_ext (fun r hr => ?_)
  show (BitVec.ofNat 32 (wd f 64)).getLsbD r = (BitVec.ofNat 32 (wd f 32)).getLsbD r
  rw [BitVec.getLsbD_ofNat, BitVec.getLsbD_ofNat, wd_tb, wd_tb, decide_eq_true hr, decide_eq_true (show r < 64 by omega)]
theorem lw_cnt (f : Nat → Bool) : pcn 64 (wd f 64) = cnt f 64 := by
  rw [pcn_cnt]
  exact cnt_congr 64 (fun r hr => by rw [wd_tb, decide_eq_true hr, Bool.true_and])
theorem lar_mul (a b : Nat) : Int64.ofNat a * Int64.ofNat b = Int64.ofNat (a * b) := (Int64.ofNat_mul a b).symm
theorem lar_i {n : Nat} (h : n < 9223372036854775808) : (Int64.ofNat n).toInt = (n : Int) := Int64.toInt_ofNat_of_lt h
theorem lar_lt {a b : Nat} (ha : a < 9223372036854775808) (hb : b < 9223372036854775808) : (Int64.ofNat a < Int64.ofNat b) = (a < b) := by
  rw [Int64.lt_iff_toInt_lt, lar_i ha, lar_i hb]; exact propext Int.ofNat_lt
theorem i2l_s {n : Nat} (h : n < 2147483648) : (Int32.ofNat n).toInt64 = Int64.ofNat n := by
  rw [← Int64.toInt_inj, lar_i (by omega), Int32.toInt_toInt64, ari_i h]

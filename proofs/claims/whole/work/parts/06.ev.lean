/-! ===== THE EVALUATOR: a plain function that runs the program's tables over a plain memory.
A value is the machine's own; a reference is a number of my own: 0 .. 5 the static arrays, 6 the script, from 8 on the cells in the order in which they are made. The memory: how many cells and slots were made; of each cell its kind and length (kinds 0 .. 9 a class, 10 int[], 11 long[], 12 boolean[], 13 byte[], 14 Table[], 15 Net[]); its ints, its longs, its references. ===== -/
abbrev kv_S : Type := ((Nat × Nat) × (Nat → Nat × Nat)) × ((Nat → Nat → Int32) × (Nat → Nat → Int64) × (Nat → Nat → Option Nat))
def kv_n (σ : kv_S) : Nat := σ.1.1.1
def kv_z (σ : kv_S) : Nat := σ.1.1.2
def kv_sh (σ : kv_S) : Nat → Nat × Nat := σ.1.2
def kv_i (σ : kv_S) : Nat → Nat → Int32 := σ.2.1
def kv_l (σ : kv_S) : Nat → Nat → Int64 := σ.2.2.1
def kv_r (σ : kv_S) : Nat → Nat → Option Nat := σ.2.2.2
def kv_up {α : Type} (f : Nat → Nat → α) (a k : Nat) (x : α) : Nat → Nat → α := fun b j => if b = a ∧ j = k then x else f b j
def kv_si (σ : kv_S) (a k : Nat) (x : Int32) : kv_S := (σ.1, kv_up σ.2.1 a k x, σ.2.2)
def kv_sl (σ : kv_S) (a k : Nat) (x : Int64) : kv_S := (σ.1, σ.2.1, kv_up σ.2.2.1 a k x, σ.2.2.2)
def kv_sr (σ : kv_S) (a k : Nat) (x : Option Nat) : kv_S := (σ.1, σ.2.1, σ.2.2.1, kv_up σ.2.2.2 a k x)
/-- a new cell of a kind and a length -/
def kv_mkc (σ : kv_S) (t n : Nat) : kv_S := (((σ.1.1.1 + 1, σ.1.1.2 + n), fun b => if b = 8 + σ.1.1.1 then (t, n) else σ.1.2 b), σ.2)
def kv_c1 (v : Value) : Bool := v.category == 1
def kv_rv (r : Option Nat) : Value := match r with | none => .null | some a => .ref a
/-- what a field holds -/
def kv_fd (σ : kv_S) (c a k : Nat) : Value := match kv_kd c k with
  | 1 => .long (kv_l σ a k)
  | 2 => kv_rv (kv_r σ a k)
  | _ => .int (kv_i σ a k)
-- ===== instructions on the stack alone
def kv_ii (f : Int32 → Int32 → Int32) (st : List Value) : Option (List Value) := match st with
  | .int y :: .int x :: r => some (.int (f x y) :: r)
  | _ => none
def kv_ll (f : Int64 → Int64 → Int64) (st : List Value) : Option (List Value) := match st with
  | .long y :: .long x :: r => some (.long (f x y) :: r)
  | _ => none
def kv_li (f : Int64 → Int32 → Int64) (st : List Value) : Option (List Value) := match st with
  | .int y :: .long x :: r => some (.long (f x y) :: r)
  | _ => none
def kv_i1 (f : Int32 → Value) (st : List Value) : Option (List Value) := match st with
  | .int x :: r => some (f x :: r)
  | _ => none
def kv_l1 (f : Int64 → Value) (st : List Value) : Option (List Value) := match st with
  | .long x :: r => some (f x :: r)
  | _ => none
def kv_dv (f : Int32 → Int32 → Int32) (st : List Value) : Option (List Value) := match st with
  | .int y :: .int x :: r => if y = 0 then none else some (.int (f x y) :: r)
  | _ => none
def kv_cm (st : List Value) : Option (List Value) := match st with
  | .long y :: .long x :: r => some (.int (lg_cmp x y) :: r)
  | _ => none
def kv_d1 (st : List Value) : Option (List Value) := match st with
  | v :: r => if kv_c1 v = true then some (v :: v :: r) else none
  | _ => none
def kv_d2 (st : List Value) : Option (List Value) := match st with
  | v :: w :: r => if kv_c1 v = true then (if kv_c1 w = true then some (v :: w :: v :: w :: r) else none) else if v.category = 2 then some (v :: v :: w :: r) else none
  | _ => none
def kv_shr (x y : Int32) : Int32 := (x.toUInt32 >>> (y.toUInt32 &&& Int32.toUInt32 31)).toInt32
def kv_lshr (x : Int64) (y : Int32) : Int64 := (x.toUInt64 >>> (y.toInt64.toUInt64 &&& Int64.toUInt64 63)).toInt64
def kv_pu (e : kv_E) (st : List Value) : Option (List Value) := match e.1 with
  | .iconst n => some (.int (Int32.ofInt n) :: st)
  | .bipush n => some (.int (Int8.ofInt n).toInt32 :: st)
  | .sipush n => some (.int (Int16.ofInt n).toInt32 :: st)
  | .lconst n => some (.long (Int64.ofNat (n : Nat)) :: st)
  | .ldc _ => some (.int (Int32.ofNat e.2.2.1) :: st)
  | .ldc_w _ => some (.int (Int32.ofNat e.2.2.1) :: st)
  | .ldc2_w _ => some (.long (Int64.ofNat e.2.2.1) :: st)
  | .iadd => kv_ii (fun x y => x + y) st
  | .isub => kv_ii (fun x y => x - y) st
  | .imul => kv_ii (fun x y => x * y) st
  | .idiv => kv_dv (fun x y => x / y) st
  | .irem => kv_dv (fun x y => x - x / y * y) st
  | .ineg => kv_i1 (fun x => .int (-x)) st
  | .ishl => kv_ii (fun x y => x <<< (y &&& 31)) st
  | .ishr => kv_ii (fun x y => x >>> (y &&& 31)) st
  | .iushr => kv_ii kv_shr st
  | .iand => kv_ii (fun x y => x &&& y) st
  | .ior => kv_ii (fun x y => x ||| y) st
  | .ixor => kv_ii (fun x y => x ^^^ y) st
  | .ladd => kv_ll (fun x y => x + y) st
  | .lsub => kv_ll (fun x y => x - y) st
  | .lmul => kv_ll (fun x y => x * y) st
  | .lneg => kv_l1 (fun x => .long (-x)) st
  | .lshl => kv_li (fun x y => x <<< (y.toInt64 &&& 63)) st
  | .lshr => kv_li (fun x y => x >>> (y.toInt64 &&& 63)) st
  | .lushr => kv_li kv_lshr st
  | .land => kv_ll (fun x y => x &&& y) st
  | .lor => kv_ll (fun x y => x ||| y) st
  | .lxor => kv_ll (fun x y => x ^^^ y) st
  | .i2l => kv_i1 (fun x => .long x.toInt64) st
  | .l2i => kv_l1 (fun x => .int x.toInt32) st
  | .i2b => kv_i1 (fun x => .int x.toInt8.toInt32) st
  | .lcmp => kv_cm st
  | .dup => kv_d1 st
  | .dup2 => kv_d2 st
  | _ => none
-- ===== instructions on the locals
def kv_ldi (i : Nat) (ls st : List Value) : Option (List Value) := match ls[i]? with
  | some (.int x) => some (.int x :: st)
  | _ => none
def kv_ldl (i : Nat) (ls st : List Value) : Option (List Value) := match ls[i]? with
  | some (.long x) => some (.long x :: st)
  | _ => none
def kv_lda (i : Nat) (ls st : List Value) : Option (List Value) := match ls[i]? with
  | some (.ref x) => some (.ref x :: st)
  | _ => none
/-- the local ahead of i isn't a long -/
def kv_pr (i : Nat) (ls : List Value) : Bool := match i with
  | 0 => true
  | j + 1 => match ls[j]? with
    | some v => kv_c1 v
    | none => false
def kv_st (i : Nat) (v : Value) (ls : List Value) : Option (List Value) := if i < ls.length ∧ kv_pr i ls = true then some (ls.set i v) else none
def kv_s2 (i : Nat) (v : Value) (ls : List Value) : Option (List Value) := if i + 1 < ls.length ∧ kv_pr i ls = true then some ((ls.set i v).set (i + 1) .null) else none
def kv_sti (i : Nat) (ls st : List Value) : Option (List Value × List Value) := match st with
  | .int x :: r => (kv_st i (.int x) ls).map (fun q => (q, r))
  | _ => none
def kv_sta (i : Nat) (ls st : List Value) : Option (List Value × List Value) := match st with
  | .ref x :: r => (kv_st i (.ref x) ls).map (fun q => (q, r))
  | _ => none
def kv_stl (i : Nat) (ls st : List Value) : Option (List Value × List Value) := match st with
  | .long x :: r => (kv_s2 i (.long x) ls).map (fun q => (q, r))
  | _ => none
def kv_inc (i : Nat) (n : Int) (ls st : List Value) : Option (List Value × List Value) := match ls[i]? with
  | some (.int x) => (kv_st i (.int (x + Int32.ofInt n)) ls).map (fun q => (q, st))
  | _ => none
def kv_ld (e : kv_E) (ls st : List Value) : Option (List Value) := match e.1 with
  | .iload i => kv_ldi i ls st
  | .iload_n i => kv_ldi (i : Nat) ls st
  | .lload i => kv_ldl i ls st
  | .lload_n i => kv_ldl (i : Nat) ls st
  | .aload i => kv_lda i ls st
  | .aload_n i => kv_lda (i : Nat) ls st
  | _ => none
def kv_sto (e : kv_E) (ls st : List Value) : Option (List Value × List Value) := match e.1 with
  | .istore i => kv_sti i ls st
  | .istore_n i => kv_sti (i : Nat) ls st
  | .lstore i => kv_stl i ls st
  | .lstore_n i => kv_stl (i : Nat) ls st
  | .astore i => kv_sta i ls st
  | .astore_n i => kv_sta (i : Nat) ls st
  | .iinc i n => kv_inc i n ls st
  | _ => none
-- ===== jumps
def kv_to (pc : Nat) (off : Int) (st : List Value) : Option (Nat × List Value) := if 0 ≤ (pc : Int) + off then some (((pc : Int) + off).toNat, st) else none
def kv_cnd (c : ClassFile.Cond) (x y : Int32) : Bool := match c with
  | .eq => decide (x = y)
  | .ne => decide (¬ x = y)
  | .lt => decide (x < y)
  | .ge => decide (y ≤ x)
  | .gt => decide (y < x)
  | .le => decide (x ≤ y)
def kv_j2 (c : ClassFile.Cond) (off : Int) (pc : Nat) (st : List Value) : Option (Nat × List Value) := match st with
  | .int y :: .int x :: r => if 0 ≤ (pc : Int) + off then some (if kv_cnd c x y = true then ((pc : Int) + off).toNat else pc + 3, r) else none
  | _ => none
def kv_j1 (c : ClassFile.Cond) (off : Int) (pc : Nat) (st : List Value) : Option (Nat × List Value) := match st with
  | .int x :: r => if 0 ≤ (pc : Int) + off then some (if kv_cnd c x 0 = true then ((pc : Int) + off).toNat else pc + 3, r) else none
  | _ => none
def kv_tsw (dflt lo hi : Int) (offs : Array Int) (pc : Nat) (st : List Value) : Option (Nat × List Value) := match st with
  | .int x :: r => if x.toInt < lo ∨ hi < x.toInt then kv_to pc dflt r else match offs[(x.toInt - lo).toNat]? with
    | some off => kv_to pc off r
    | none => none
  | _ => none
def kv_jp (e : kv_E) (pc : Nat) (st : List Value) : Option (Nat × List Value) := match e.1 with
  | .goto off => kv_to pc off st
  | .if_icmp c off => kv_j2 c off pc st
  | .ifCond c off => kv_j1 c off pc st
  | .tableswitch dflt lo hi offs => kv_tsw dflt lo hi offs pc st
  | _ => none
-- ===== memory
def kv_ix (i : Int32) : Nat := i.toNatClampNeg
def kv_in (σ : kv_S) (t a : Nat) (i : Int32) : Prop := (kv_sh σ a).1 = t ∧ ¬ i < 0 ∧ i.toNatClampNeg < (kv_sh σ a).2
def kv_gf (c k : Nat) (st : List Value) (σ : kv_S) : Option (List Value) := match st with
  | .ref a :: r => if kv_sh σ a = (c, kv_N c) then some (kv_fd σ c a k :: r) else none
  | _ => none
def kv_pf (c k : Nat) (st : List Value) (σ : kv_S) : Option (List Value × kv_S) := match st with
  | .int x :: .ref a :: r => if 8 ≤ a ∧ kv_sh σ a = (c, kv_N c) ∧ (kv_kd c k = 0 ∨ kv_kd c k = 3 ∧ (x = 0 ∨ x = 1)) then some (r, kv_si σ a k x) else none
  | .long x :: .ref a :: r => if 8 ≤ a ∧ kv_sh σ a = (c, kv_N c) ∧ kv_kd c k = 1 then some (r, kv_sl σ a k x) else none
  | .ref x :: .ref a :: r => if 8 ≤ a ∧ kv_sh σ a = (c, kv_N c) ∧ kv_kd c k = 2 then some (r, kv_sr σ a k (some x)) else none
  | _ => none
def kv_al (st : List Value) (σ : kv_S) : Option (List Value) := match st with
  | .ref a :: r => if 10 ≤ (kv_sh σ a).1 ∧ (kv_sh σ a).1 < 16 then some (.int (Int32.ofNat (kv_sh σ a).2) :: r) else none
  | _ => none
def kv_ia (st : List Value) (σ : kv_S) : Option (List Value) := match st with
  | .int i :: .ref a :: r => if (kv_sh σ a).1 = 10 ∧ ¬ i < 0 ∧ i.toNatClampNeg < (kv_sh σ a).2 then some (.int (kv_i σ a i.toNatClampNeg) :: r) else none
  | _ => none
def kv_la (st : List Value) (σ : kv_S) : Option (List Value) := match st with
  | .int i :: .ref a :: r => if (kv_sh σ a).1 = 11 ∧ ¬ i < 0 ∧ i.toNatClampNeg < (kv_sh σ a).2 then some (.long (kv_l σ a i.toNatClampNeg) :: r) else none
  | _ => none
def kv_ba (st : List Value) (σ : kv_S) : Option (List Value) := match st with
  | .int i :: .ref a :: r => if 8 ≤ a ∧ ((kv_sh σ a).1 = 12 ∨ (kv_sh σ a).1 = 13) ∧ ¬ i < 0 ∧ i.toNatClampNeg < (kv_sh σ a).2 then some (.int (kv_i σ a i.toNatClampNeg) :: r) else none
  | _ => none
def kv_aa (st : List Value) (σ : kv_S) : Option (List Value) := match st with
  | .int i :: .ref a :: r => if 8 ≤ a ∧ ((kv_sh σ a).1 = 14 ∨ (kv_sh σ a).1 = 15) ∧ ¬ i < 0 ∧ i.toNatClampNeg < (kv_sh σ a).2 then some (kv_rv (kv_r σ a i.toNatClampNeg) :: r) else none
  | _ => none
def kv_is (st : List Value) (σ : kv_S) : Option (List Value × kv_S) := match st with
  | .int x :: .int i :: .ref a :: r => if 8 ≤ a ∧ (kv_sh σ a).1 = 10 ∧ ¬ i < 0 ∧ i.toNatClampNeg < (kv_sh σ a).2 then some (r, kv_si σ a i.toNatClampNeg x) else none
  | _ => none
def kv_las (st : List Value) (σ : kv_S) : Option (List Value × kv_S) := match st with
  | .long x :: .int i :: .ref a :: r => if 8 ≤ a ∧ (kv_sh σ a).1 = 11 ∧ ¬ i < 0 ∧ i.toNatClampNeg < (kv_sh σ a).2 then some (r, kv_sl σ a i.toNatClampNeg x) else none
  | _ => none
def kv_bs (st : List Value) (σ : kv_S) : Option (List Value × kv_S) := match st with
  | .int x :: .int i :: .ref a :: r => if 8 ≤ a ∧ ((kv_sh σ a).1 = 12 ∧ vp_nar .boolean x = x ∨ (kv_sh σ a).1 = 13 ∧ vp_nar .byte x = x) ∧ ¬ i < 0 ∧ i.toNatClampNeg < (kv_sh σ a).2 then some (r, kv_si σ a i.toNatClampNeg x) else none
  | _ => none
def kv_as (st : List Value) (σ : kv_S) : Option (List Value × kv_S) := match st with
  | .ref x :: .int i :: .ref a :: r => if 8 ≤ a ∧ 8 ≤ x ∧ ((kv_sh σ a).1 = 14 ∧ kv_sh σ x = (5, kv_N 5) ∨ (kv_sh σ a).1 = 15 ∧ kv_sh σ x = (2, kv_N 2)) ∧ ¬ i < 0 ∧ i.toNatClampNeg < (kv_sh σ a).2 then some (r, kv_sr σ a i.toNatClampNeg (some x)) else none
  | _ => none
def kv_at (t : ArrayType) : Nat := match t with
  | .int => 10
  | .long => 11
  | .boolean => 12
  | .byte => 13
  | _ => 99
def kv_na (t : Nat) (st : List Value) (σ : kv_S) : Option (List Value × kv_S) := match st with
  | .int n :: r => if t < 16 ∧ ¬ n < 0 ∧ n.toNatClampNeg ≤ 10000 then some (.ref (8 + kv_n σ) :: r, kv_mkc σ t n.toNatClampNeg) else none
  | _ => none
def kv_rd (e : kv_E) (st : List Value) (σ : kv_S) : Option (List Value) := match e.1 with
  | .getfield _ => kv_gf e.2.2.1 e.2.2.2 st σ
  | .getstatic _ => some (.ref e.2.2.1 :: st)
  | .arraylength => kv_al st σ
  | .iaload => kv_ia st σ
  | .laload => kv_la st σ
  | .baload => kv_ba st σ
  | .aaload => kv_aa st σ
  | _ => none
def kv_wr (e : kv_E) (st : List Value) (σ : kv_S) : Option (List Value × kv_S) := match e.1 with
  | .putfield _ => kv_pf e.2.2.1 e.2.2.2 st σ
  | .iastore => kv_is st σ
  | .lastore => kv_las st σ
  | .bastore => kv_bs st σ
  | .aastore => kv_as st σ
  | _ => none
def kv_nw (e : kv_E) (st : List Value) (σ : kv_S) : Option (List Value × kv_S) := match e.1 with
  | .new _ => some (.ref (8 + kv_n σ) :: st, kv_mkc σ e.2.2.1 (kv_N e.2.2.1))
  | .newarray t => kv_na (kv_at t) st σ
  | .anewarray _ => if e.2.2.1 = 5 then kv_na 14 st σ else if e.2.2.1 = 2 then kv_na 15 st σ else none
  | _ => none
/-- calls of what has no code row: Object's constructor, arraycopy, Math.max, Math.min -/
def kv_cpm (f : Nat → Nat → Int32) (a b sp dp n : Nat) : Nat → Nat → Int32 := fun c j => if c = b then va_cpy (f a) (f b) sp dp n j else f c j
def kv_w8 (st : List Value) : Bool := decide ((st.map fun v => v.category).sum ≤ 8)
def kv_int (e : kv_E) (st : List Value) (σ : kv_S) : Option (List Value × kv_S) := match e.1 with
  | .invokespecial _ => if e.2.2.1 = 1000 then (match st with
    | .ref _ :: r => if kv_w8 r = true then some (r, σ) else none
    | _ => none) else none
  | .invokestatic _ => match e.2.2.1 with
    | 1001 => match st with
      | .int n :: .int dp :: .ref b :: .int sp :: .ref a :: r => if kv_w8 r = true ∧ 8 ≤ a ∧ 8 ≤ b ∧ (kv_sh σ a).1 = 10 ∧ (kv_sh σ b).1 = 10 ∧ ¬ sp < 0 ∧ ¬ dp < 0 ∧ ¬ n < 0 ∧ sp.toNatClampNeg + n.toNatClampNeg ≤ (kv_sh σ a).2 ∧ dp.toNatClampNeg + n.toNatClampNeg ≤ (kv_sh σ b).2 then some (r, (σ.1, kv_cpm σ.2.1 a b sp.toNatClampNeg dp.toNatClampNeg n.toNatClampNeg, σ.2.2)) else none
      | _ => none
    | 1002 => match st with
      | .int y :: .int x :: r => if kv_w8 r = true then some (.int (if x < y then y else x) :: r, σ) else none
      | _ => none
    | 1003 => match st with
      | .int y :: .int x :: r => if kv_w8 r = true then some (.int (if y < x then y else x) :: r, σ) else none
      | _ => none
    | 1004 => match st with
      | .long y :: .long x :: r => if kv_w8 r = true then some (.long (if y < x then y else x) :: r, σ) else none
      | _ => none
    | _ => none
  | _ => none
-- ===== a step that is no call of ours and no return
def kv_s1 (e : kv_E) (pc : Nat) (ls st : List Value) (σ : kv_S) : Option (Nat × List Value × List Value × kv_S) :=
  match kv_pu e st with
  | some q => some (pc + kv_len e.1, ls, q, σ)
  | none => match kv_ld e ls st with
    | some q => some (pc + kv_len e.1, ls, q, σ)
    | none => match kv_sto e ls st with
      | some q => some (pc + kv_len e.1, q.1, q.2, σ)
      | none => match kv_jp e pc st with
        | some q => some (q.1, ls, q.2, σ)
        | none => match kv_rd e st σ with
          | some q => some (pc + kv_len e.1, ls, q, σ)
          | none => match kv_wr e st σ with
            | some q => some (pc + kv_len e.1, ls, q.1, q.2)
            | none => match kv_nw e st σ with
              | some q => some (pc + kv_len e.1, ls, q.1, q.2)
              | none => none
/-- the locals at a method's entry -/
def kv_sl2 (vs : List Value) : List Value := vs.flatMap fun v => if v.category = 2 then [v, .null] else [v]
def kv_ent (M : Nat) (vs : List Value) : List Value := match kv_mt[M]? with
  | some q => kv_sl2 vs ++ List.replicate (q.2.2.1 - (kv_sl2 vs).length) .null
  | none => []
/-- which method is called with which arguments, and what stays on the stack -/
def kv_cal0 (e : kv_E) (st : List Value) (σ : kv_S) : Option (Nat × List Value × List Value) := match e.1 with
  | .invokevirtual _ => match st.drop e.2.2.2 with
    | .ref a :: r => match kv_mt[e.2.2.1]? with
      | some q => if kv_w8 r = true ∧ (st.take e.2.2.2).length = e.2.2.2 ∧ kv_cn[(kv_sh σ a).1]? = some q.1.cls ∧ (kv_sh σ a).2 = kv_N (kv_sh σ a).1 ∧ ¬ q.1.name = "<init>" then some (e.2.2.1, .ref a :: (st.take e.2.2.2).reverse, r) else none
      | none => none
    | _ => none
  | .invokespecial _ => match st with
    | .ref a :: r => if kv_w8 r = true ∧ e.2.2.1 < 1000 then some (e.2.2.1, [.ref a], r) else none
    | _ => none
  | .invokestatic _ => if kv_w8 (st.drop e.2.2.2) = true ∧ e.2.2.1 < 1000 ∧ (st.take e.2.2.2).length = e.2.2.2 then some (e.2.2.1, (st.take e.2.2.2).reverse, st.drop e.2.2.2) else none
  | _ => none
def kv_fit (M : Nat) (vs : List Value) : Bool := match kv_mt[M]? with
  | some q => decide ((kv_sl2 vs).length ≤ q.2.2.1)
  | none => false
def kv_cal (e : kv_E) (st : List Value) (σ : kv_S) : Option (Nat × List Value × List Value) := match kv_cal0 e st σ with
  | some c => if kv_fit c.1 c.2.1 = true then some c else none
  | none => none
def kv_rok (M : Nat) (v : Int32) : Bool := match kv_mt[M]? with
  | some q => match q.2.2.2 with
    | some .int => true
    | some .boolean => decide (v = 0 ∨ v = 1)
    | _ => false
  | none => false
def kv_rt (M : Nat) : Nat := match kv_mt[M]? with
  | some q => match q.2.2.2 with
    | some .long => 1
    | none => 0
    | _ => 2
  | none => 2
def kv_ret (M : Nat) (e : kv_E) (st : List Value) : Option (Option Value) := match e.1 with
  | .ireturn => match st with
    | [.int v] => if kv_rok M v = true then some (some (.int v)) else none
    | _ => none
  | .lreturn => match st with
    | [.long v] => if kv_rt M = 1 then some (some (.long v)) else none
    | _ => none
  | .return_ => match st with
    | [] => if kv_rt M = 0 then some none else none
    | _ => none
  | _ => none
/-- n steps at most, d calls deep at most -/
def kv_ev : Nat → Nat → Nat → Nat → List Value → List Value → kv_S → Option (Option Value × kv_S)
  | 0, _, _, _, _, _, _ => none
  | n + 1, d, M, pc, ls, st, σ => match kv_ins M pc with
    | none => none
    | some e => match kv_ret M e st with
      | some r => some (r, σ)
      | none => match kv_s1 e pc ls st σ with
        | some q => kv_ev n d M q.1 q.2.1 q.2.2.1 q.2.2.2
        | none => match d with
          | 0 => none
          | d + 1 => match kv_int e st σ with
            | some q => kv_ev n (d + 1) M (pc + 3) ls q.1 q.2
            | none => match kv_cal e st σ with
              | none => none
              | some c => match kv_ev n d c.1 0 (kv_ent c.1 c.2.1) [] σ with
                | none => none
                | some r => kv_ev n (d + 1) M (pc + 3) ls (r.1.toList ++ c.2.2) r.2

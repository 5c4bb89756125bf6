/-! ===== the words that an instruction and a method need are among the tables' words ===== -/
def kv_yn (M : Nat) : MethodName := match kv_mt[M]? with | some q => q.1 | none => ⟨"", "", ""⟩
def kv_sy (a : Nat) : MethodName := match a with
  | 1001 => ⟨"java/lang/System", "arraycopy", "(Ljava/lang/Object;ILjava/lang/Object;II)V"⟩
  | 1002 => ⟨"java/lang/Math", "max", "(II)I"⟩
  | 1003 => ⟨"java/lang/Math", "min", "(II)I"⟩
  | 1004 => ⟨"java/lang/Math", "min", "(JJ)J"⟩
  | a => kv_yn a
def kv_need (own : String) (e : kv_E) : List Jvm.Cond := match e.1 with
  | .getfield i => [.fieldLink own i (kv_T e.2.2.1 e.2.2.2).1 (kv_T e.2.2.1 e.2.2.2).2.1 (kv_T e.2.2.1 e.2.2.2).2.2.1]
  | .putfield i => [.fieldLink own i (kv_T e.2.2.1 e.2.2.2).1 (kv_T e.2.2.1 e.2.2.2).2.1 (kv_T e.2.2.1 e.2.2.2).2.2.1]
  | .getstatic i => match kv_sn[e.2.2.1]? with
    | some q => [if e.2.2.2 = 100 then .fieldLinkNest own i q.1 q.2.1 q.2.2 "LogicSmith" else .fieldLink own i q.1 q.2.1 q.2.2]
    | none => []
  | .invokevirtual i => [.methodLink own i (kv_yn e.2.2.1)]
  | .invokestatic i => [.methodLink own i (kv_sy e.2.2.1)]
  | .invokespecial i => [if e.2.2.1 = 1000 then .methodLink own i objectInit else if 100 ≤ e.2.2.2 then .methodLinkNest own i (kv_yn e.2.2.1) "LogicSmith" else .methodLink own i (kv_yn e.2.2.1)]
  | .new i => [.classLink own i (kv_cn.getD e.2.2.1 "")]
  | .anewarray i => [.classLink own i (kv_cn.getD e.2.2.1 "")]
  | .ldc i => [.constant own i (Int32.ofNat e.2.2.1)]
  | .ldc_w i => [.constant own i (Int32.ofNat e.2.2.1)]
  | .ldc2_w i => [.constantLong own i (Int64.ofNat e.2.2.1)]
  | _ => []
def kv_len (i : Instr) : Nat := match i with
  | .bipush _ => 2 | .iload _ => 2 | .lload _ => 2 | .aload _ => 2 | .istore _ => 2 | .lstore _ => 2 | .astore _ => 2 | .ldc _ => 2 | .newarray _ => 2
  | .sipush _ => 3 | .ldc_w _ => 3 | .ldc2_w _ => 3 | .iinc .. => 3 | .getfield _ => 3 | .putfield _ => 3 | .getstatic _ => 3 | .goto _ => 3 | .if_icmp .. => 3 | .ifCond .. => 3 | .invokevirtual _ => 3 | .invokestatic _ => 3 | .invokespecial _ => 3 | .new _ => 3 | .anewarray _ => 3
  | _ => 1
def kv_okL (e : kv_E) : Bool := match e.1 with
  | .tableswitch .. => true
  | i => decide (e.2.1 = kv_len i)
/-- a row's numbers are right ones -/
def kv_okE (q : MethodName × ByteArray × Nat × Option FieldType) (e : kv_E) : Bool := match e.1 with
  | .getfield _ => decide (e.2.2.1 < 10) && decide (e.2.2.2 < kv_N e.2.2.1)
  | .putfield _ => decide (e.2.2.1 < 10) && decide (e.2.2.2 < kv_N e.2.2.1) && (!(kv_T e.2.2.1 e.2.2.2).2.2.2 || (decide (q.1.name = "<init>") && decide ((kv_T e.2.2.1 e.2.2.2).1 = q.1.cls)))
  | .getstatic _ => decide (e.2.2.1 < 6) && (decide (e.2.2.2 = 0) || decide (e.2.2.2 = 100))
  | .invokevirtual _ => match kv_mk[e.2.2.1]? with
    | some r => !r.1 && decide (r.2 = e.2.2.2) && decide (0 < e.2.2.1) && decide (e.2.2.1 < 187) && plainName (kv_yn e.2.2.1).cls
    | none => false
  | .invokestatic _ => decide (1000 < e.2.2.1 ∧ e.2.2.1 < 1005) || match kv_mk[e.2.2.1]? with
    | some r => r.1 && decide (r.2 = e.2.2.2) && decide (0 < e.2.2.1) && decide (e.2.2.1 < 187) && plainName (kv_yn e.2.2.1).cls
    | none => false
  | .invokespecial _ => decide (e.2.2.1 = 1000) || match kv_mk[e.2.2.1]? with
    | some r => !r.1 && decide (r.2 = 0) && (decide (e.2.2.2 = 0) || decide (e.2.2.2 = 100)) && decide (0 < e.2.2.1) && decide (e.2.2.1 < 187) && plainName (kv_yn e.2.2.1).cls && decide ((kv_yn e.2.2.1).name = "<init>")
    | none => false
  | .new _ => decide (e.2.2.1 < 10)
  | .anewarray _ => decide (e.2.2.1 = 5) || decide (e.2.2.1 = 2)
  | _ => true
def kv_wch (q : MethodName × ByteArray × Nat × Option FieldType) (t : List (Nat × kv_E)) (ps : List Nat) : Prop := t.flatMap (fun r => kv_need q.1.cls r.2) = ps.filterMap (fun i => lw_tbl[i]?)
def kv_wok (q : MethodName × ByteArray × Nat × Option FieldType) (t : List (Nat × kv_E)) : Prop := (∀ w ∈ t.flatMap (fun r => kv_need q.1.cls r.2), w ∈ lw_tbl) ∧ t.all (fun r => kv_okE q r.2 && kv_okL r.2) = true
theorem kv_wok_of {q : MethodName × ByteArray × Nat × Option FieldType} {t : List (Nat × kv_E)} (ps : List Nat) (h : kv_wch q t ps) (h2 : t.all (fun r => kv_okE q r.2 && kv_okL r.2) = true) : kv_wok q t := by
  refine ⟨fun w hw => ?_, h2⟩
  unfold kv_wch at h
  rw [h] at hw
  obtain ⟨i, -, hi⟩ := List.mem_filterMap.mp hw
  exact List.mem_of_getElem? hi
theorem kv_wok_app {q : MethodName × ByteArray × Nat × Option FieldType} {s t : List (Nat × kv_E)} (h1 : kv_wok q s) (h2 : kv_wok q t) : kv_wok q (s ++ t) := by
  refine ⟨fun w hw => ?_, by rw [List.all_append, h1.2, h2.2]; rfl⟩
  rw [List.flatMap_append] at hw
  exact (List.mem_append.mp hw).elim (h1.1 w) (h2.1 w)
set_option maxRecDepth 100000 in
theorem kw_0_0 : kv_wok (⟨"LogicSmithLaw", "law", "([I)Z"⟩, code, 4, some .boolean) kt_0_0 := kv_wok_of [71, 73, 807, 809, 321, 955, 343] (by exact rfl) (by decide +kernel)
set_option maxRecDepth 100000 in
theorem kw_0_1 : kv_wok (⟨"LogicSmithLaw", "law", "([I)Z"⟩, code, 4, some .boolean) kt_0_1 := kv_wok_of [967, 368, 983] (by exact rfl) (by decide +kernel)
set_option maxRecDepth 100000 in
theorem kw_0_2 : kv_wok (⟨"LogicSmithLaw", "law", "([I)Z"⟩, code, 4, some .boolean) kt_0_2 := kv_wok_of [372, 987, 391] (by exact rfl) (by decide +kernel)
set_option maxRecDepth 100000 in
theorem kw_0_3 : kv_wok (⟨"LogicSmithLaw", "law", "([I)Z"⟩, code, 4, some .boolean) kt_0_3 := kv_wok_of [991, 395, 999, 410] (by exact rfl) (by decide +kernel)
set_option maxRecDepth 100000 in
theorem kw_0_4 : kv_wok (⟨"LogicSmithLaw", "law", "([I)Z"⟩, code, 4, some .boolean) kt_0_4 := kv_wok_of [1136, 449, 1003, 488, 1015] (by exact rfl) (by decide +kernel)
set_option maxRecDepth 100000 in
theorem kw_0_5 : kv_wok (⟨"LogicSmithLaw", "law", "([I)Z"⟩, code, 4, some .boolean) kt_0_5 := kv_wok_of [499, 1019, 556, 1046, 560, 1050, 564, 1054] (by exact rfl) (by decide +kernel)
set_option maxRecDepth 100000 in
theorem kw_0_6 : kv_wok (⟨"LogicSmithLaw", "law", "([I)Z"⟩, code, 4, some .boolean) kt_0_6 := kv_wok_of [596, 1073, 608, 1077, 617] (by exact rfl) (by decide +kernel)
set_option maxRecDepth 100000 in
theorem kw_0_7 : kv_wok (⟨"LogicSmithLaw", "law", "([I)Z"⟩, code, 4, some .boolean) kt_0_7 := kv_wok_of [1081, 629, 1097] (by exact rfl) (by decide +kernel)
set_option maxRecDepth 100000 in
theorem kw_0_8 : kv_wok (⟨"LogicSmithLaw", "law", "([I)Z"⟩, code, 4, some .boolean) kt_0_8 := kv_wok_of [637, 1105, 641] (by exact rfl) (by decide +kernel)
set_option maxRecDepth 100000 in
theorem kw_0_9 : kv_wok (⟨"LogicSmithLaw", "law", "([I)Z"⟩, code, 4, some .boolean) kt_0_9 := kv_wok_of [1112, 659, 1120, 663] (by exact rfl) (by decide +kernel)
set_option maxRecDepth 100000 in
theorem kw_0_10 : kv_wok (⟨"LogicSmithLaw", "law", "([I)Z"⟩, code, 4, some .boolean) kt_0_10 := kv_wok_of [1124, 668, 1140, 681] (by exact rfl) (by decide +kernel)
set_option maxRecDepth 100000 in
theorem kw_0_11 : kv_wok (⟨"LogicSmithLaw", "law", "([I)Z"⟩, code, 4, some .boolean) kt_0_11 := kv_wok_of [1148, 685, 1152, 697] (by exact rfl) (by decide +kernel)
set_option maxRecDepth 100000 in
theorem kw_0_12 : kv_wok (⟨"LogicSmithLaw", "law", "([I)Z"⟩, code, 4, some .boolean) kt_0_12 := kv_wok_of [1160, 724, 1168, 765, 1184, 781] (by exact rfl) (by decide +kernel)
set_option maxRecDepth 100000 in
theorem kw_0_13 : kv_wok (⟨"LogicSmithLaw", "law", "([I)Z"⟩, code, 4, some .boolean) kt_0_13 := kv_wok_of [1188, 789, 1192, 799, 1200, 803, 1204] (by exact rfl) (by decide +kernel)
set_option maxRecDepth 100000 in
theorem kw_0_14 : kv_wok (⟨"LogicSmithLaw", "law", "([I)Z"⟩, code, 4, some .boolean) kt_0_14 := kv_wok_of [] (by exact rfl) (by decide +kernel)
theorem kw_0 : kv_wok (⟨"LogicSmithLaw", "law", "([I)Z"⟩, code, 4, some .boolean) kt_0 := (kv_wok_app kw_0_0 (kv_wok_app kw_0_1 (kv_wok_app kw_0_2 (kv_wok_app kw_0_3 (kv_wok_app kw_0_4 (kv_wok_app kw_0_5 (kv_wok_app kw_0_6 (kv_wok_app kw_0_7 (kv_wok_app kw_0_8 (kv_wok_app kw_0_9 (kv_wok_app kw_0_10 (kv_wok_app kw_0_11 (kv_wok_app kw_0_12 (kv_wok_app kw_0_13 kw_0_14))))))))))))))
set_option maxRecDepth 100000 in
theorem kw_1_0 : kv_wok (⟨"LogicSmith", "<init>", "()V"⟩, prog_1_method_1_code, 2, none) kt_1_0 := kv_wok_of [76, 79, 287, 81, 288, 83, 85, 289, 100, 102, 290, 147, 149, 291, 163, 165, 292, 163, 165, 293, 178, 180, 294, 191, 193, 295, 296, 297, 287, 79] (by exact rfl) (by decide +kernel)
set_option maxRecDepth 100000 in
theorem kw_1_1 : kv_wok (⟨"LogicSmith", "<init>", "()V"⟩, prog_1_method_1_code, 2, none) kt_1_1 := kv_wok_of [219, 288, 81, 240] (by exact rfl) (by decide +kernel)
theorem kw_1 : kv_wok (⟨"LogicSmith", "<init>", "()V"⟩, prog_1_method_1_code, 2, none) kt_1 := (kv_wok_app kw_1_0 kw_1_1)
set_option maxRecDepth 100000 in
theorem kw_2 : kv_wok (⟨"LogicSmith$Products", "<init>", "()V"⟩, prog_5_method_1_code, 1, none) kt_2 := kv_wok_of [88, 89, 90, 91] (by exact rfl) (by decide +kernel)
set_option maxRecDepth 100000 in
theorem kw_3 : kv_wok (⟨"LogicSmith$Cover", "<init>", "()V"⟩, prog_3_method_1_code, 1, none) kt_3 := kv_wok_of [105, 106, 108, 110, 112, 113, 114, 115, 116, 117, 118, 119, 120] (by exact rfl) (by decide +kernel)
set_option maxRecDepth 100000 in
theorem kw_4 : kv_wok (⟨"LogicSmith$Choices", "<init>", "()V"⟩, prog_2_method_1_code, 1, none) kt_4 := kv_wok_of [152, 153, 154, 155] (by exact rfl) (by decide +kernel)
set_option maxRecDepth 100000 in
theorem kw_5 : kv_wok (⟨"LogicSmith$Values", "<init>", "()V"⟩, prog_9_method_1_code, 1, none) kt_5 := kv_wok_of [168, 169, 170] (by exact rfl) (by decide +kernel)
set_option maxRecDepth 100000 in
theorem kw_6 : kv_wok (⟨"LogicSmith$Turning", "<init>", "()V"⟩, prog_8_method_1_code, 1, none) kt_6 := kv_wok_of [183, 184, 185] (by exact rfl) (by decide +kernel)
set_option maxRecDepth 100000 in
theorem kw_7 : kv_wok (⟨"LogicSmith$Shaping", "<init>", "()V"⟩, prog_6_method_1_code, 1, none) kt_7 := kv_wok_of [196, 197, 198, 199, 200, 201, 203] (by exact rfl) (by decide +kernel)
set_option maxRecDepth 100000 in
theorem kw_8 : kv_wok (⟨"LogicSmith$Table", "<init>", "()V"⟩, prog_7_method_1_code, 1, none) kt_8 := kv_wok_of [222, 223, 224, 225, 226] (by exact rfl) (by decide +kernel)
set_option maxRecDepth 100000 in
theorem kw_9 : kv_wok (⟨"LogicSmith$Net", "<init>", "()V"⟩, prog_4_method_1_code, 1, none) kt_9 := kv_wok_of [243, 244, 248, 253, 258, 260, 264, 267] (by exact rfl) (by decide +kernel)
set_option maxRecDepth 100000 in
theorem kw_10 : kv_wok (⟨"LogicSmith", "function", "(I)I"⟩, prog_1_method_2_code, 2, some .int) kt_10 := kv_wok_of [296, 287, 296, 325, 296, 296, 296] (by exact rfl) (by decide +kernel)
set_option maxRecDepth 100000 in
theorem kw_11 : kv_wok (⟨"LogicSmith$Table", "begin", "(I)V"⟩, prog_7_method_2_code, 2, none) kt_11 := kv_wok_of [226, 223, 329, 224, 329, 225, 332, 329] (by exact rfl) (by decide +kernel)
set_option maxRecDepth 100000 in
theorem kw_12 : kv_wok (⟨"java/util/Arrays", "fill", "([II)V"⟩, prog_16_method_103_code, 4, none) kt_12 := kv_wok_of [] (by exact rfl) (by decide +kernel)
set_option maxRecDepth 100000 in
theorem kw_13 : kv_wok (⟨"LogicSmith$Table", "sheetSize", "()I"⟩, prog_7_method_4_code, 1, some .int) kt_13 := kv_wok_of [336, 340] (by exact rfl) (by decide +kernel)
set_option maxRecDepth 100000 in
theorem kw_14 : kv_wok (⟨"LogicSmith$Table", "rowCount", "()I"⟩, prog_7_method_3_code, 1, some .int) kt_14 := kv_wok_of [226] (by exact rfl) (by decide +kernel)
set_option maxRecDepth 100000 in
theorem kw_15 : kv_wok (⟨"java/lang/Math", "min", "(II)I"⟩, prog_14_method_69_code, 2, some .int) kt_15 := kv_wok_of [] (by exact rfl) (by decide +kernel)
set_option maxRecDepth 100000 in
theorem kw_16 : kv_wok (⟨"LogicSmith", "put", "(III)I"⟩, prog_1_method_3_code, 7, some .int) kt_16 := kv_wok_of [347, 287, 356, 360, 364] (by exact rfl) (by decide +kernel)
set_option maxRecDepth 100000 in
theorem kw_17 : kv_wok (⟨"LogicSmith", "isFunctionRow", "(II)Z"⟩, prog_1_method_34_code, 3, some .boolean) kt_17 := kv_wok_of [351, 287, 355] (by exact rfl) (by decide +kernel)
set_option maxRecDepth 100000 in
theorem kw_18 : kv_wok (⟨"LogicSmith", "isFunction", "(I)Z"⟩, prog_1_method_33_code, 2, some .boolean) kt_18 := kv_wok_of [296] (by exact rfl) (by decide +kernel)
set_option maxRecDepth 100000 in
theorem kw_19 : kv_wok (⟨"LogicSmith$Table", "lackAt", "(I)I"⟩, prog_7_method_6_code, 3, some .int) kt_19 := kv_wok_of [225] (by exact rfl) (by decide +kernel)
set_option maxRecDepth 100000 in
theorem kw_20 : kv_wok (⟨"LogicSmith$Table", "heldAt", "(I)I"⟩, prog_7_method_7_code, 4, some .int) kt_20 := kv_wok_of [225, 224, 223] (by exact rfl) (by decide +kernel)
set_option maxRecDepth 100000 in
theorem kw_21 : kv_wok (⟨"LogicSmith$Table", "hold", "(II)V"⟩, prog_7_method_8_code, 5, none) kt_21 := kv_wok_of [223, 224, 223, 224] (by exact rfl) (by decide +kernel)
set_option maxRecDepth 100000 in
theorem kw_22_0 : kv_wok (⟨"LogicSmith", "bits", "(IIII)I"⟩, prog_1_method_4_code, 8, some .int) kt_22_0 := kv_wok_of [347, 287, 355, 287, 356, 364] (by exact rfl) (by decide +kernel)
set_option maxRecDepth 100000 in
theorem kw_22_1 : kv_wok (⟨"LogicSmith", "bits", "(IIII)I"⟩, prog_1_method_4_code, 8, some .int) kt_22_1 := kv_wok_of [] (by exact rfl) (by decide +kernel)
theorem kw_22 : kv_wok (⟨"LogicSmith", "bits", "(IIII)I"⟩, prog_1_method_4_code, 8, some .int) kt_22 := (kv_wok_app kw_22_0 kw_22_1)
set_option maxRecDepth 100000 in
theorem kw_23 : kv_wok (⟨"LogicSmith", "tear", "(III)I"⟩, prog_1_method_5_code, 4, some .int) kt_23 := kv_wok_of [351, 287, 376, 287, 383, 287, 384] (by exact rfl) (by decide +kernel)
set_option maxRecDepth 100000 in
theorem kw_24 : kv_wok (⟨"LogicSmith$Table", "sheetCount", "()I"⟩, prog_7_method_5_code, 1, some .int) kt_24 := kv_wok_of [336, 380] (by exact rfl) (by decide +kernel)
set_option maxRecDepth 100000 in
theorem kw_25 : kv_wok (⟨"java/lang/Math", "max", "(II)I"⟩, prog_14_method_65_code, 2, some .int) kt_25 := kv_wok_of [] (by exact rfl) (by decide +kernel)
set_option maxRecDepth 100000 in
theorem kw_26 : kv_wok (⟨"LogicSmith$Table", "leave", "(II)I"⟩, prog_7_method_9_code, 4, some .int) kt_26 := kv_wok_of [225, 225, 223, 388, 224, 388] (by exact rfl) (by decide +kernel)
set_option maxRecDepth 100000 in
theorem kw_27 : kv_wok (⟨"LogicSmith$Table", "allOf", "(I)I"⟩, prog_7_method_14_code, 1, some .int) kt_27 := kv_wok_of [] (by exact rfl) (by decide +kernel)
set_option maxRecDepth 100000 in
theorem kw_28 : kv_wok (⟨"LogicSmith", "at", "(II)I"⟩, prog_1_method_6_code, 3, some .int) kt_28 := kv_wok_of [347, 287, 360] (by exact rfl) (by decide +kernel)
set_option maxRecDepth 100000 in
theorem kw_29 : kv_wok (⟨"LogicSmith", "places", "(II)I"⟩, prog_1_method_7_code, 3, some .int) kt_29 := kv_wok_of [351, 287, 399] (by exact rfl) (by decide +kernel)
set_option maxRecDepth 100000 in
theorem kw_30 : kv_wok (⟨"LogicSmith$Table", "countOf", "(I)I"⟩, prog_7_method_10_code, 6, some .int) kt_30 := kv_wok_of [403, 223, 404, 224, 404, 225, 336] (by exact rfl) (by decide +kernel)
set_option maxRecDepth 100000 in
theorem kw_31 : kv_wok (⟨"java/lang/Integer", "bitCount", "(I)I"⟩, prog_12_method_49_code, 1, some .int) kt_31 := kv_wok_of [407, 408, 408, 409] (by exact rfl) (by decide +kernel)
set_option maxRecDepth 100000 in
theorem kw_32 : kv_wok (⟨"LogicSmith", "take", "(III)I"⟩, prog_1_method_8_code, 4, some .int) kt_32 := kv_wok_of [351, 414, 287, 229, 288, 266, 292, 288, 426, 287, 292, 444, 287, 399] (by exact rfl) (by decide +kernel)
set_option maxRecDepth 100000 in
theorem kw_33 : kv_wok (⟨"LogicSmith", "isOperand", "(II)Z"⟩, prog_1_method_37_code, 3, some .boolean) kt_33 := kv_wok_of [418, 288, 422] (by exact rfl) (by decide +kernel)
set_option maxRecDepth 100000 in
theorem kw_34 : kv_wok (⟨"LogicSmith", "isNet", "(I)Z"⟩, prog_1_method_35_code, 2, some .boolean) kt_34 := kv_wok_of [297] (by exact rfl) (by decide +kernel)
set_option maxRecDepth 100000 in
theorem kw_35 : kv_wok (⟨"LogicSmith$Net", "knows", "(I)Z"⟩, prog_4_method_3_code, 2, some .boolean) kt_35 := kv_wok_of [267, 264] (by exact rfl) (by decide +kernel)
set_option maxRecDepth 100000 in
theorem kw_36_0 : kv_wok (⟨"LogicSmith$Values", "workOut", "(LLogicSmith$Net;)V"⟩, prog_9_method_5_code, 4, none) kt_36_0 := kv_wok_of [265, 430, 432, 170, 170, 169, 433, 169, 433, 436, 265, 169, 433, 430, 430, 430] (by exact rfl) (by decide +kernel)
set_option maxRecDepth 100000 in
theorem kw_36_1 : kv_wok (⟨"LogicSmith$Values", "workOut", "(LLogicSmith$Net;)V"⟩, prog_9_method_5_code, 4, none) kt_36_1 := kv_wok_of [269, 169, 433, 246, 251, 437, 256, 437, 441] (by exact rfl) (by decide +kernel)
theorem kw_36 : kv_wok (⟨"LogicSmith$Values", "workOut", "(LLogicSmith$Net;)V"⟩, prog_9_method_5_code, 4, none) kt_36 := (kv_wok_app kw_36_0 kw_36_1)
set_option maxRecDepth 100000 in
theorem kw_37 : kv_wok (⟨"LogicSmith$Values", "start", "(I)I"⟩, prog_9_method_2_code, 1, some .int) kt_37 := kv_wok_of [] (by exact rfl) (by decide +kernel)
set_option maxRecDepth 100000 in
theorem kw_38 : kv_wok (⟨"LogicSmith$Values", "word", "(II)J"⟩, prog_9_method_4_code, 3, some .long) kt_38 := kv_wok_of [169] (by exact rfl) (by decide +kernel)
set_option maxRecDepth 100000 in
theorem kw_39 : kv_wok (⟨"LogicSmith$Values", "gateWord", "(IJJ)J"⟩, prog_9_method_3_code, 5, some .long) kt_39 := kv_wok_of [436, 436, 436, 436] (by exact rfl) (by decide +kernel)
set_option maxRecDepth 100000 in
theorem kw_40 : kv_wok (⟨"LogicSmith$Table", "become", "(LLogicSmith$Values;I)V"⟩, prog_7_method_11_code, 4, none) kt_40 := kv_wok_of [403, 223, 448, 332, 388, 224, 225, 332] (by exact rfl) (by decide +kernel)
set_option maxRecDepth 100000 in
theorem kw_41 : kv_wok (⟨"LogicSmith", "primes", "(I)I"⟩, prog_1_method_9_code, 2, some .int) kt_41 := kv_wok_of [351, 289, 287, 453, 289, 483] (by exact rfl) (by decide +kernel)
set_option maxRecDepth 100000 in
theorem kw_42_0 : kv_wok (⟨"LogicSmith$Products", "workOut", "(LLogicSmith$Table;)V"⟩, prog_5_method_2_code, 6, none) kt_42_0 := kv_wok_of [227, 457, 227, 458, 91, 460, 461, 461, 89, 463, 467, 472] (by exact rfl) (by decide +kernel)
set_option maxRecDepth 100000 in
theorem kw_42_1 : kv_wok (⟨"LogicSmith$Products", "workOut", "(LLogicSmith$Table;)V"⟩, prog_5_method_2_code, 6, none) kt_42_1 := kv_wok_of [91, 90, 89, 476, 479] (by exact rfl) (by decide +kernel)
theorem kw_42 : kv_wok (⟨"LogicSmith$Products", "workOut", "(LLogicSmith$Table;)V"⟩, prog_5_method_2_code, 6, none) kt_42 := (kv_wok_app kw_42_0 kw_42_1)
set_option maxRecDepth 100000 in
theorem kw_43 : kv_wok (⟨"LogicSmith$Table", "notZero", "(I)I"⟩, prog_7_method_12_code, 2, some .int) kt_43 := kv_wok_of [223, 224, 332, 388, 225, 388] (by exact rfl) (by decide +kernel)
set_option maxRecDepth 100000 in
theorem kw_44 : kv_wok (⟨"LogicSmith$Products", "fitWithin", "(II)I"⟩, prog_5_method_6_code, 4, some .int) kt_44 := kv_wok_of [461, 458, 458, 470] (by exact rfl) (by decide +kernel)
set_option maxRecDepth 100000 in
theorem kw_45 : kv_wok (⟨"LogicSmith$Products", "fitLeavingOut", "(I)V"⟩, prog_5_method_8_code, 5, none) kt_45 := kv_wok_of [458, 91, 89, 89, 89, 458] (by exact rfl) (by decide +kernel)
set_option maxRecDepth 100000 in
theorem kw_46 : kv_wok (⟨"LogicSmith$Products", "widerWithin", "(II)I"⟩, prog_5_method_7_code, 5, some .int) kt_46 := kv_wok_of [470, 458, 458] (by exact rfl) (by decide +kernel)
set_option maxRecDepth 100000 in
theorem kw_47 : kv_wok (⟨"LogicSmith$Products", "widerLeavingOut", "(I)V"⟩, prog_5_method_9_code, 5, none) kt_47 := kv_wok_of [458, 91, 90, 89, 90, 89, 458] (by exact rfl) (by decide +kernel)
set_option maxRecDepth 100000 in
theorem kw_48 : kv_wok (⟨"LogicSmith$Products", "primeCount", "()I"⟩, prog_5_method_3_code, 3, some .int) kt_48 := kv_wok_of [91, 89, 90, 487] (by exact rfl) (by decide +kernel)
set_option maxRecDepth 100000 in
theorem kw_49 : kv_wok (⟨"LogicSmith", "prime", "(II)I"⟩, prog_1_method_10_code, 3, some .int) kt_49 := kv_wok_of [351, 289, 287, 453, 289, 492] (by exact rfl) (by decide +kernel)
set_option maxRecDepth 100000 in
theorem kw_50 : kv_wok (⟨"LogicSmith$Products", "primeNumber", "(I)I"⟩, prog_5_method_4_code, 6, some .int) kt_50 := kv_wok_of [91, 89, 90, 487, 496] (by exact rfl) (by decide +kernel)
set_option maxRecDepth 100000 in
theorem kw_51 : kv_wok (⟨"LogicSmith$Products", "placeOfBit", "(II)I"⟩, prog_5_method_5_code, 4, some .int) kt_51 := kv_wok_of [487] (by exact rfl) (by decide +kernel)
set_option maxRecDepth 100000 in
theorem kw_52 : kv_wok (⟨"LogicSmith", "least", "(I)I"⟩, prog_1_method_11_code, 2, some .int) kt_52 := kv_wok_of [351, 287, 229, 289, 287, 453, 290, 287, 289, 503, 290, 109] (by exact rfl) (by decide +kernel)
set_option maxRecDepth 100000 in
theorem kw_53_0 : kv_wok (⟨"LogicSmith$Cover", "find", "(LLogicSmith$Table;LLogicSmith$Products;)V"⟩, prog_3_method_2_code, 4, none) kt_53_0 := kv_wok_of [507, 519, 526, 119, 120, 527, 118, 531, 108, 110, 118, 120, 106, 108, 112, 108] (by exact rfl) (by decide +kernel)
set_option maxRecDepth 100000 in
theorem kw_53_1 : kv_wok (⟨"LogicSmith$Cover", "find", "(LLogicSmith$Table;LLogicSmith$Products;)V"⟩, prog_3_method_2_code, 4, none) kt_53_1 := kv_wok_of [108, 110, 113, 110] (by exact rfl) (by decide +kernel)
theorem kw_53 : kv_wok (⟨"LogicSmith$Cover", "find", "(LLogicSmith$Table;LLogicSmith$Products;)V"⟩, prog_3_method_2_code, 4, none) kt_53 := (kv_wok_app kw_53_0 kw_53_1)
set_option maxRecDepth 100000 in
theorem kw_54_0 : kv_wok (⟨"LogicSmith$Cover", "gather", "(LLogicSmith$Table;LLogicSmith$Products;)V"⟩, prog_3_method_3_code, 9, none) kt_54_0 := kv_wok_of [511, 512, 118, 118, 112, 513, 113, 514, 112, 228, 113] (by exact rfl) (by decide +kernel)
set_option maxRecDepth 100000 in
theorem kw_54_1 : kv_wok (⟨"LogicSmith$Cover", "gather", "(LLogicSmith$Table;LLogicSmith$Products;)V"⟩, prog_3_method_3_code, 9, none) kt_54_1 := kv_wok_of [515, 515, 516, 114, 115, 517, 113, 518] (by exact rfl) (by decide +kernel)
theorem kw_54 : kv_wok (⟨"LogicSmith$Cover", "gather", "(LLogicSmith$Table;LLogicSmith$Products;)V"⟩, prog_3_method_3_code, 9, none) kt_54 := (kv_wok_app kw_54_0 kw_54_1)
set_option maxRecDepth 100000 in
theorem kw_55_0 : kv_wok (⟨"LogicSmith$Cover", "compare", "()V"⟩, prog_3_method_4_code, 3, none) kt_55_0 := kv_wok_of [117, 523, 118, 116, 118, 115, 115, 116, 117, 114] (by exact rfl) (by decide +kernel)
set_option maxRecDepth 100000 in
theorem kw_55_1 : kv_wok (⟨"LogicSmith$Cover", "compare", "()V"⟩, prog_3_method_4_code, 3, none) kt_55_1 := kv_wok_of [] (by exact rfl) (by decide +kernel)
theorem kw_55 : kv_wok (⟨"LogicSmith$Cover", "compare", "()V"⟩, prog_3_method_4_code, 3, none) kt_55 := (kv_wok_app kw_55_0 kw_55_1)

set_option maxRecDepth 100000 in
theorem kw_56 : kv_wok (⟨"java/util/Arrays", "fill", "([JJ)V"⟩, prog_16_method_101_code, 5, none) kt_56 := kv_wok_of [] (by exact rfl) (by decide +kernel)
set_option maxRecDepth 100000 in
theorem kw_57 : kv_wok (⟨"LogicSmith$Table", "firstOnes", "()J"⟩, prog_7_method_13_code, 4, some .long) kt_57 := kv_wok_of [403, 223] (by exact rfl) (by decide +kernel)
set_option maxRecDepth 100000 in
theorem kw_58_0 : kv_wok (⟨"LogicSmith$Cover", "search", "(IJJJI)V"⟩, prog_3_method_5_code, 14, none) kt_58_0 := kv_wok_of [119, 119, 120, 535, 539, 119, 117, 543, 118] (by exact rfl) (by decide +kernel)
set_option maxRecDepth 100000 in
theorem kw_58_1 : kv_wok (⟨"LogicSmith$Cover", "search", "(IJJJI)V"⟩, prog_3_method_5_code, 14, none) kt_58_1 := kv_wok_of [516, 114, 115, 531] (by exact rfl) (by decide +kernel)
theorem kw_58 : kv_wok (⟨"LogicSmith$Cover", "search", "(IJJJI)V"⟩, prog_3_method_5_code, 14, none) kt_58 := (kv_wok_app kw_58_0 kw_58_1)
set_option maxRecDepth 100000 in
theorem kw_59_0 : kv_wok (⟨"LogicSmith$Cover", "undominated", "(IJ)J"⟩, prog_3_method_6_code, 11, some .long) kt_59_0 := kv_wok_of [118, 116, 114, 117] (by exact rfl) (by decide +kernel)
set_option maxRecDepth 100000 in
theorem kw_59_1 : kv_wok (⟨"LogicSmith$Cover", "undominated", "(IJ)J"⟩, prog_3_method_6_code, 11, some .long) kt_59_1 := kv_wok_of [516] (by exact rfl) (by decide +kernel)
theorem kw_59 : kv_wok (⟨"LogicSmith$Cover", "undominated", "(IJ)J"⟩, prog_3_method_6_code, 11, some .long) kt_59 := (kv_wok_app kw_59_0 kw_59_1)
set_option maxRecDepth 100000 in
theorem kw_60_0 : kv_wok (⟨"LogicSmith$Cover", "leastPrice", "(IJ)J"⟩, prog_3_method_7_code, 13, some .long) kt_60_0 := kv_wok_of [117, 543, 526, 526, 118, 115, 553, 114] (by exact rfl) (by decide +kernel)
set_option maxRecDepth 100000 in
theorem kw_60_1 : kv_wok (⟨"LogicSmith$Cover", "leastPrice", "(IJ)J"⟩, prog_3_method_7_code, 13, some .long) kt_60_1 := kv_wok_of [] (by exact rfl) (by decide +kernel)
theorem kw_60 : kv_wok (⟨"LogicSmith$Cover", "leastPrice", "(IJ)J"⟩, prog_3_method_7_code, 13, some .long) kt_60 := (kv_wok_app kw_60_0 kw_60_1)
set_option maxRecDepth 100000 in
theorem kw_61 : kv_wok (⟨"LogicSmith$Cover", "tightestRow", "(IJ)I"⟩, prog_3_method_8_code, 8, some .int) kt_61 := kv_wok_of [117, 547] (by exact rfl) (by decide +kernel)
set_option maxRecDepth 100000 in
theorem kw_62 : kv_wok (⟨"java/lang/Long", "bitCount", "(J)I"⟩, prog_13_method_50_code, 2, some .int) kt_62 := kv_wok_of [550, 551, 551, 552] (by exact rfl) (by decide +kernel)
set_option maxRecDepth 100000 in
theorem kw_63 : kv_wok (⟨"java/lang/Math", "min", "(JJ)J"⟩, prog_14_method_70_code, 4, some .long) kt_63 := kv_wok_of [] (by exact rfl) (by decide +kernel)
set_option maxRecDepth 100000 in
theorem kw_64 : kv_wok (⟨"LogicSmith", "summed", "(I)I"⟩, prog_1_method_12_code, 2, some .int) kt_64 := kv_wok_of [290, 109, 290, 107] (by exact rfl) (by decide +kernel)
set_option maxRecDepth 100000 in
theorem kw_65 : kv_wok (⟨"LogicSmith", "letters", "()I"⟩, prog_1_method_13_code, 1, some .int) kt_65 := kv_wok_of [290, 111] (by exact rfl) (by decide +kernel)
set_option maxRecDepth 100000 in
theorem kw_66 : kv_wok (⟨"LogicSmith", "graph", "(II)I"⟩, prog_1_method_14_code, 4, some .int) kt_66 := kv_wok_of [351, 287, 229, 568, 291, 287, 570, 571] (by exact rfl) (by decide +kernel)
set_option maxRecDepth 100000 in
theorem kw_67 : kv_wok (⟨"LogicSmith$Choices", "nodesInOrder", "(JII)I"⟩, prog_2_method_2_code, 11, some .int) kt_67 := kv_wok_of [575, 576, 579, 583] (by exact rfl) (by decide +kernel)
set_option maxRecDepth 100000 in
theorem kw_68 : kv_wok (⟨"LogicSmith$Choices", "letterAt", "(IIII)I"⟩, prog_2_method_5_code, 5, some .int) kt_68 := kv_wok_of [579] (by exact rfl) (by decide +kernel)
set_option maxRecDepth 100000 in
theorem kw_69 : kv_wok (⟨"LogicSmith$Choices", "lesserUntold", "(II)I"⟩, prog_2_method_6_code, 2, some .int) kt_69 := kv_wok_of [582] (by exact rfl) (by decide +kernel)
set_option maxRecDepth 100000 in
theorem kw_70_0 : kv_wok (⟨"LogicSmith$Choices", "nodesOf", "(JIII)I"⟩, prog_2_method_7_code, 12, some .int) kt_70_0 := kv_wok_of [587, 588, 587, 589, 592, 153] (by exact rfl) (by decide +kernel)
set_option maxRecDepth 100000 in
theorem kw_70_1 : kv_wok (⟨"LogicSmith$Choices", "nodesOf", "(JIII)I"⟩, prog_2_method_7_code, 12, some .int) kt_70_1 := kv_wok_of [] (by exact rfl) (by decide +kernel)
theorem kw_70 : kv_wok (⟨"LogicSmith$Choices", "nodesOf", "(JIII)I"⟩, prog_2_method_7_code, 12, some .int) kt_70 := (kv_wok_app kw_70_0 kw_70_1)
set_option maxRecDepth 100000 in
theorem kw_71 : kv_wok (⟨"LogicSmith$Choices", "hangsOn", "(JI)Z"⟩, prog_2_method_8_code, 3, some .boolean) kt_71 := kv_wok_of [588, 587] (by exact rfl) (by decide +kernel)
set_option maxRecDepth 100000 in
theorem kw_72 : kv_wok (⟨"LogicSmith$Choices", "isSeen", "(JI)Z"⟩, prog_2_method_9_code, 5, some .boolean) kt_72 := kv_wok_of [153] (by exact rfl) (by decide +kernel)
set_option maxRecDepth 100000 in
theorem kw_73 : kv_wok (⟨"LogicSmith", "order", "(I)I"⟩, prog_1_method_15_code, 2, some .int) kt_73 := kv_wok_of [351, 287, 229, 291, 287, 570, 287, 229, 600] (by exact rfl) (by decide +kernel)
set_option maxRecDepth 100000 in
theorem kw_74_0 : kv_wok (⟨"LogicSmith$Choices", "smallestOrder", "(JI)I"⟩, prog_2_method_3_code, 9, some .int) kt_74_0 := kv_wok_of [154, 604, 155, 579, 575] (by exact rfl) (by decide +kernel)
set_option maxRecDepth 100000 in
theorem kw_74_1 : kv_wok (⟨"LogicSmith$Choices", "smallestOrder", "(JI)I"⟩, prog_2_method_3_code, 9, some .int) kt_74_1 := kv_wok_of [] (by exact rfl) (by decide +kernel)
theorem kw_74 : kv_wok (⟨"LogicSmith$Choices", "smallestOrder", "(JI)I"⟩, prog_2_method_3_code, 9, some .int) kt_74 := (kv_wok_app kw_74_0 kw_74_1)
set_option maxRecDepth 100000 in
theorem kw_75 : kv_wok (⟨"LogicSmith$Choices", "chooseLetter", "(JII)V"⟩, prog_2_method_4_code, 7, none) kt_75 := kv_wok_of [154, 583, 154, 154, 154, 155] (by exact rfl) (by decide +kernel)
set_option maxRecDepth 100000 in
theorem kw_76 : kv_wok (⟨"LogicSmith", "net", "(I)I"⟩, prog_1_method_16_code, 2, some .int) kt_76 := kv_wok_of [297, 288, 297, 612, 297, 297, 297] (by exact rfl) (by decide +kernel)
set_option maxRecDepth 100000 in
theorem kw_77 : kv_wok (⟨"LogicSmith$Net", "begin", "(I)V"⟩, prog_4_method_2_code, 2, none) kt_77 := kv_wok_of [264, 267, 260, 616] (by exact rfl) (by decide +kernel)
set_option maxRecDepth 100000 in
theorem kw_78 : kv_wok (⟨"LogicSmith", "gate", "(IIII)I"⟩, prog_1_method_17_code, 5, some .int) kt_78 := kv_wok_of [414, 414, 288, 270, 295, 621, 288, 625] (by exact rfl) (by decide +kernel)
set_option maxRecDepth 100000 in
theorem kw_79 : kv_wok (⟨"LogicSmith$Shaping", "noteChange", "(I)V"⟩, prog_6_method_7_code, 2, none) kt_79 := kv_wok_of [203, 203] (by exact rfl) (by decide +kernel)
set_option maxRecDepth 100000 in
theorem kw_80 : kv_wok (⟨"LogicSmith$Net", "addGate", "(III)I"⟩, prog_4_method_4_code, 5, some .int) kt_80 := kv_wok_of [267, 244, 248, 253, 258, 267, 267] (by exact rfl) (by decide +kernel)
set_option maxRecDepth 100000 in
theorem kw_81 : kv_wok (⟨"LogicSmith", "keep", "(III)I"⟩, prog_1_method_18_code, 5, some .int) kt_81 := kv_wok_of [633, 288, 259, 288, 259, 295, 621] (by exact rfl) (by decide +kernel)
set_option maxRecDepth 100000 in
theorem kw_82 : kv_wok (⟨"LogicSmith", "isGate", "(II)Z"⟩, prog_1_method_36_code, 3, some .boolean) kt_82 := kv_wok_of [418, 288, 270] (by exact rfl) (by decide +kernel)
set_option maxRecDepth 100000 in
theorem kw_83 : kv_wok (⟨"LogicSmith", "out", "(III)I"⟩, prog_1_method_19_code, 4, some .int) kt_83 := kv_wok_of [418, 414, 288, 263, 288, 263, 295, 621] (by exact rfl) (by decide +kernel)
set_option maxRecDepth 100000 in
theorem kw_84_0 : kv_wok (⟨"LogicSmith", "told", "(III)I"⟩, prog_1_method_20_code, 4, some .int) kt_84_0 := kv_wok_of [633, 288, 247, 288, 252, 288, 257, 288, 645, 656, 288, 259] (by exact rfl) (by decide +kernel)
set_option maxRecDepth 100000 in
theorem kw_84_1 : kv_wok (⟨"LogicSmith", "told", "(III)I"⟩, prog_1_method_20_code, 4, some .int) kt_84_1 := kv_wok_of [] (by exact rfl) (by decide +kernel)
theorem kw_84 : kv_wok (⟨"LogicSmith", "told", "(III)I"⟩, prog_1_method_20_code, 4, some .int) kt_84 := (kv_wok_app kw_84_0 kw_84_1)
set_option maxRecDepth 100000 in
theorem kw_85 : kv_wok (⟨"LogicSmith$Net", "readOperands", "()J"⟩, prog_4_method_7_code, 4, some .long) kt_85 := kv_wok_of [649, 267, 248, 653, 253, 653] (by exact rfl) (by decide +kernel)
set_option maxRecDepth 100000 in
theorem kw_86 : kv_wok (⟨"LogicSmith$Net", "outputOperands", "()J"⟩, prog_4_method_10_code, 4, some .long) kt_86 := kv_wok_of [260, 260, 653] (by exact rfl) (by decide +kernel)
set_option maxRecDepth 100000 in
theorem kw_87 : kv_wok (⟨"LogicSmith$Net", "bitOf", "(I)J"⟩, prog_4_method_6_code, 1, some .long) kt_87 := kv_wok_of [] (by exact rfl) (by decide +kernel)
set_option maxRecDepth 100000 in
theorem kw_88 : kv_wok (⟨"LogicSmith$Net", "has", "(JI)Z"⟩, prog_4_method_5_code, 3, some .boolean) kt_88 := kv_wok_of [] (by exact rfl) (by decide +kernel)
set_option maxRecDepth 100000 in
theorem kw_89 : kv_wok (⟨"LogicSmith", "output", "(II)I"⟩, prog_1_method_21_code, 3, some .int) kt_89 := kv_wok_of [418, 288, 263] (by exact rfl) (by decide +kernel)
set_option maxRecDepth 100000 in
theorem kw_90 : kv_wok (⟨"LogicSmith", "value", "(III)I"⟩, prog_1_method_22_code, 4, some .int) kt_90 := kv_wok_of [414, 288, 266, 292, 288, 426, 292, 667] (by exact rfl) (by decide +kernel)
set_option maxRecDepth 100000 in
theorem kw_91_0 : kv_wok (⟨"LogicSmith", "same", "(II)I"⟩, prog_1_method_23_code, 4, some .int) kt_91_0 := kv_wok_of [418, 418, 288, 266, 288, 266, 288, 263, 288, 263, 288] (by exact rfl) (by decide +kernel)
set_option maxRecDepth 100000 in
theorem kw_91_1 : kv_wok (⟨"LogicSmith", "same", "(II)I"⟩, prog_1_method_23_code, 4, some .int) kt_91_1 := kv_wok_of [288, 672] (by exact rfl) (by decide +kernel)
theorem kw_91 : kv_wok (⟨"LogicSmith", "same", "(II)I"⟩, prog_1_method_23_code, 4, some .int) kt_91 := (kv_wok_app kw_91_0 kw_91_1)
set_option maxRecDepth 100000 in
theorem kw_92_0 : kv_wok (⟨"LogicSmith", "firstDifference", "(LLogicSmith$Net;LLogicSmith$Net;)I"⟩, prog_1_method_38_code, 9, some .int) kt_92_0 := kv_wok_of [292, 426, 293, 426, 292, 172, 676, 676] (by exact rfl) (by decide +kernel)
set_option maxRecDepth 100000 in
theorem kw_92_1 : kv_wok (⟨"LogicSmith", "firstDifference", "(LLogicSmith$Net;LLogicSmith$Net;)I"⟩, prog_1_method_38_code, 9, some .int) kt_92_1 := kv_wok_of [680] (by exact rfl) (by decide +kernel)
theorem kw_92 : kv_wok (⟨"LogicSmith", "firstDifference", "(LLogicSmith$Net;LLogicSmith$Net;)I"⟩, prog_1_method_38_code, 9, some .int) kt_92 := (kv_wok_app kw_92_0 kw_92_1)
set_option maxRecDepth 100000 in
theorem kw_93 : kv_wok (⟨"LogicSmith", "differenceAt", "(LLogicSmith$Net;LLogicSmith$Net;II)J"⟩, prog_1_method_39_code, 5, some .long) kt_93 := kv_wok_of [263, 263, 292, 263, 667, 293, 263, 667] (by exact rfl) (by decide +kernel)
set_option maxRecDepth 100000 in
theorem kw_94 : kv_wok (⟨"LogicSmith", "parts", "(II)I"⟩, prog_1_method_24_code, 3, some .int) kt_94 := kv_wok_of [418, 418, 288, 266, 288, 266, 288, 288, 672] (by exact rfl) (by decide +kernel)
set_option maxRecDepth 100000 in
theorem kw_95 : kv_wok (⟨"LogicSmith", "comes", "(II)I"⟩, prog_1_method_25_code, 3, some .int) kt_95 := kv_wok_of [633, 292, 288, 426, 292, 288, 689] (by exact rfl) (by decide +kernel)
set_option maxRecDepth 100000 in
theorem kw_96 : kv_wok (⟨"LogicSmith$Values", "comingTo", "(LLogicSmith$Net;I)I"⟩, prog_9_method_6_code, 5, some .int) kt_96 := kv_wok_of [170, 436, 693] (by exact rfl) (by decide +kernel)
set_option maxRecDepth 100000 in
theorem kw_97_0 : kv_wok (⟨"LogicSmith$Values", "comingAt", "(LLogicSmith$Net;IIJ)I"⟩, prog_9_method_7_code, 10, some .int) kt_97_0 := kv_wok_of [251, 437, 256, 437, 436, 436, 436, 436] (by exact rfl) (by decide +kernel)
set_option maxRecDepth 100000 in
theorem kw_97_1 : kv_wok (⟨"LogicSmith$Values", "comingAt", "(LLogicSmith$Net;IIJ)I"⟩, prog_9_method_7_code, 10, some .int) kt_97_1 := kv_wok_of [] (by exact rfl) (by decide +kernel)
theorem kw_97 : kv_wok (⟨"LogicSmith$Values", "comingAt", "(LLogicSmith$Net;IIJ)I"⟩, prog_9_method_7_code, 10, some .int) kt_97 := (kv_wok_app kw_97_0 kw_97_1)
set_option maxRecDepth 100000 in
theorem kw_98 : kv_wok (⟨"LogicSmith", "cared", "(II)I"⟩, prog_1_method_26_code, 3, some .int) kt_98 := kv_wok_of [633, 292, 288, 426, 294, 288, 292, 701, 294, 288, 292, 719] (by exact rfl) (by decide +kernel)
set_option maxRecDepth 100000 in
theorem kw_99_0 : kv_wok (⟨"LogicSmith$Turning", "turn", "(LLogicSmith$Net;LLogicSmith$Values;I)V"⟩, prog_8_method_2_code, 6, none) kt_99_0 := kv_wok_of [705, 171, 184, 706, 707, 708, 185, 268, 185, 250, 709, 185, 255, 709] (by exact rfl) (by decide +kernel)
set_option maxRecDepth 100000 in
theorem kw_99_1 : kv_wok (⟨"LogicSmith$Turning", "turn", "(LLogicSmith$Net;LLogicSmith$Values;I)V"⟩, prog_8_method_2_code, 6, none) kt_99_1 := kv_wok_of [710] (by exact rfl) (by decide +kernel)
theorem kw_99 : kv_wok (⟨"LogicSmith$Turning", "turn", "(LLogicSmith$Net;LLogicSmith$Values;I)V"⟩, prog_8_method_2_code, 6, none) kt_99 := (kv_wok_app kw_99_0 kw_99_1)
set_option maxRecDepth 100000 in
theorem kw_100_0 : kv_wok (⟨"LogicSmith$Turning", "workAnew", "(LLogicSmith$Net;LLogicSmith$Values;I)V"⟩, prog_8_method_4_code, 13, none) kt_100_0 := kv_wok_of [705, 171, 250, 714, 255, 714, 184, 245, 718, 184, 706] (by exact rfl) (by decide +kernel)
set_option maxRecDepth 100000 in
theorem kw_100_1 : kv_wok (⟨"LogicSmith$Turning", "workAnew", "(LLogicSmith$Net;LLogicSmith$Values;I)V"⟩, prog_8_method_4_code, 13, none) kt_100_1 := kv_wok_of [185, 708, 185] (by exact rfl) (by decide +kernel)
theorem kw_100 : kv_wok (⟨"LogicSmith$Turning", "workAnew", "(LLogicSmith$Net;LLogicSmith$Values;I)V"⟩, prog_8_method_4_code, 13, none) kt_100 := (kv_wok_app kw_100_0 kw_100_1)
set_option maxRecDepth 100000 in
theorem kw_101 : kv_wok (⟨"LogicSmith$Turning", "word", "(LLogicSmith$Values;II)J"⟩, prog_8_method_5_code, 4, some .long) kt_101 := kv_wok_of [185, 709, 184, 705, 706] (by exact rfl) (by decide +kernel)
set_option maxRecDepth 100000 in
theorem kw_102 : kv_wok (⟨"LogicSmith$Turning", "caredFor", "(LLogicSmith$Net;LLogicSmith$Values;I)I"⟩, prog_8_method_3_code, 10, some .int) kt_102 := kv_wok_of [171, 262, 714, 706, 723] (by exact rfl) (by decide +kernel)
set_option maxRecDepth 100000 in
theorem kw_103 : kv_wok (⟨"LogicSmith", "shape", "(I)I"⟩, prog_1_method_27_code, 4, some .int) kt_103 := kv_wok_of [418, 295, 288, 728, 288, 735, 295, 202] (by exact rfl) (by decide +kernel)
set_option maxRecDepth 100000 in
theorem kw_104 : kv_wok (⟨"LogicSmith$Shaping", "begin", "(ILLogicSmith$Net;)V"⟩, prog_6_method_2_code, 3, none) kt_104 := kv_wok_of [201, 203, 249, 198, 732, 254, 199, 732, 261, 200, 732] (by exact rfl) (by decide +kernel)
set_option maxRecDepth 100000 in
theorem kw_105 : kv_wok (⟨"LogicSmith", "shapeOnce", "(LLogicSmith$Net;)Z"⟩, prog_1_method_40_code, 7, some .boolean) kt_105 := kv_wok_of [292, 426, 645, 270, 259, 656, 739, 753, 295, 757, 761] (by exact rfl) (by decide +kernel)
set_option maxRecDepth 100000 in
theorem kw_106 : kv_wok (⟨"LogicSmith", "ruleFor", "(LLogicSmith$Net;I)I"⟩, prog_1_method_41_code, 5, some .int) kt_106 := kv_wok_of [294, 292, 701, 294, 292, 719, 743, 247, 743, 292, 745] (by exact rfl) (by decide +kernel)
set_option maxRecDepth 100000 in
theorem kw_107 : kv_wok (⟨"LogicSmith$Values", "firstTwin", "(I)I"⟩, prog_9_method_8_code, 3, some .int) kt_107 := kv_wok_of [749] (by exact rfl) (by decide +kernel)
set_option maxRecDepth 100000 in
theorem kw_108 : kv_wok (⟨"LogicSmith$Values", "isTwin", "(II)Z"⟩, prog_9_method_9_code, 4, some .boolean) kt_108 := kv_wok_of [170, 437, 437] (by exact rfl) (by decide +kernel)
set_option maxRecDepth 100000 in
theorem kw_109 : kv_wok (⟨"LogicSmith", "operandInstead", "(LLogicSmith$Net;II)I"⟩, prog_1_method_42_code, 4, some .int) kt_109 := kv_wok_of [252, 257, 292, 745] (by exact rfl) (by decide +kernel)
set_option maxRecDepth 100000 in
theorem kw_110 : kv_wok (⟨"LogicSmith$Shaping", "note", "(III)V"⟩, prog_6_method_3_code, 4, none) kt_110 := kv_wok_of [201, 197, 201, 201, 201] (by exact rfl) (by decide +kernel)
set_option maxRecDepth 100000 in
theorem kw_111 : kv_wok (⟨"LogicSmith$Net", "readInstead", "(II)V"⟩, prog_4_method_9_code, 4, none) kt_111 := kv_wok_of [267, 248, 248, 253, 253, 260, 260] (by exact rfl) (by decide +kernel)
set_option maxRecDepth 100000 in
theorem kw_112 : kv_wok (⟨"LogicSmith", "step", "(II)I"⟩, prog_1_method_28_code, 3, some .int) kt_112 := kv_wok_of [295, 202, 295, 769, 295, 773, 295, 777] (by exact rfl) (by decide +kernel)
set_option maxRecDepth 100000 in
theorem kw_113 : kv_wok (⟨"LogicSmith$Shaping", "gateOf", "(I)I"⟩, prog_6_method_4_code, 2, some .int) kt_113 := kv_wok_of [197] (by exact rfl) (by decide +kernel)
set_option maxRecDepth 100000 in
theorem kw_114 : kv_wok (⟨"LogicSmith$Shaping", "ruleOf", "(I)I"⟩, prog_6_method_5_code, 2, some .int) kt_114 := kv_wok_of [197] (by exact rfl) (by decide +kernel)
set_option maxRecDepth 100000 in
theorem kw_115 : kv_wok (⟨"LogicSmith$Shaping", "operandOf", "(I)I"⟩, prog_6_method_6_code, 2, some .int) kt_115 := kv_wok_of [197] (by exact rfl) (by decide +kernel)
set_option maxRecDepth 100000 in
theorem kw_116 : kv_wok (⟨"LogicSmith", "back", "(I)I"⟩, prog_1_method_29_code, 2, some .int) kt_116 := kv_wok_of [418, 295, 204, 295, 288, 785, 295, 202] (by exact rfl) (by decide +kernel)
set_option maxRecDepth 100000 in
theorem kw_117 : kv_wok (⟨"LogicSmith$Shaping", "undo", "(LLogicSmith$Net;)V"⟩, prog_6_method_8_code, 2, none) kt_117 := kv_wok_of [198, 249, 732, 199, 254, 732, 200, 261, 732, 203] (by exact rfl) (by decide +kernel)
set_option maxRecDepth 100000 in
theorem kw_118 : kv_wok (⟨"LogicSmith", "weight", "(I)I"⟩, prog_1_method_30_code, 2, some .int) kt_118 := kv_wok_of [418, 288, 793] (by exact rfl) (by decide +kernel)
set_option maxRecDepth 100000 in
theorem kw_119 : kv_wok (⟨"LogicSmith$Net", "reachedGates", "()I"⟩, prog_4_method_8_code, 4, some .int) kt_119 := kv_wok_of [649, 267, 797, 248, 653, 253, 653, 653, 798] (by exact rfl) (by decide +kernel)
set_option maxRecDepth 100000 in
theorem kw_120 : kv_wok (⟨"LogicSmith", "count", "(I)I"⟩, prog_1_method_31_code, 2, some .int) kt_120 := kv_wok_of [296, 297, 295, 202] (by exact rfl) (by decide +kernel)
set_option maxRecDepth 100000 in
theorem kw_121 : kv_wok (⟨"LogicSmith", "remove", "(I)I"⟩, prog_1_method_32_code, 2, some .int) kt_121 := kv_wok_of [296, 296, 296, 296, 297, 297, 297, 295, 297, 621, 297] (by exact rfl) (by decide +kernel)
set_option maxRecDepth 100000 in
theorem kw_122_0 : kv_wok (⟨"LogicSmithModel", "<init>", "()V"⟩, prog_11_method_1_code, 1, none) kt_122_0 := kv_wok_of [812, 814, 815, 816, 817, 818] (by exact rfl) (by decide +kernel)
set_option maxRecDepth 100000 in
theorem kw_122_1 : kv_wok (⟨"LogicSmithModel", "<init>", "()V"⟩, prog_11_method_1_code, 1, none) kt_122_1 := kv_wok_of [820, 821, 822, 823, 825, 830, 831, 832, 833, 834, 835, 836, 837, 839, 840] (by exact rfl) (by decide +kernel)
set_option maxRecDepth 100000 in
theorem kw_122_2 : kv_wok (⟨"LogicSmithModel", "<init>", "()V"⟩, prog_11_method_1_code, 1, none) kt_122_2 := kv_wok_of [841, 842, 843, 844, 845, 846, 848, 849, 850, 851, 852, 853, 854, 855, 858] (by exact rfl) (by decide +kernel)
theorem kw_122 : kv_wok (⟨"LogicSmithModel", "<init>", "()V"⟩, prog_11_method_1_code, 1, none) kt_122 := (kv_wok_app kw_122_0 (kv_wok_app kw_122_1 kw_122_2))

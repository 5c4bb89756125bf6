set_option maxRecDepth 100000 in
theorem kc_48 : kv_chk prog_5_method_3_code kt_48 = true := by decide +kernel
set_option maxRecDepth 100000 in
theorem kc_49 : kv_chk prog_1_method_10_code kt_49 = true := by decide +kernel
set_option maxRecDepth 100000 in
theorem kc_50 : kv_chk prog_5_method_4_code kt_50 = true := by decide +kernel
set_option maxRecDepth 100000 in
theorem kc_51 : kv_chk prog_5_method_5_code kt_51 = true := by decide +kernel
set_option maxRecDepth 100000 in
theorem kc_52 : kv_chk prog_1_method_11_code kt_52 = true := by decide +kernel
set_option maxRecDepth 100000 in
theorem kc_53_0 : kv_chk prog_3_method_2_code kt_53_0 = true := by decide +kernel
set_option maxRecDepth 100000 in
theorem kc_53_1 : kv_chk prog_3_method_2_code kt_53_1 = true := by decide +kernel
theorem kc_53 : kv_chk prog_3_method_2_code kt_53 = true := (kv_chk_app kc_53_0 kc_53_1)
set_option maxRecDepth 100000 in
theorem kc_54_0 : kv_chk prog_3_method_3_code kt_54_0 = true := by decide +kernel
set_option maxRecDepth 100000 in
theorem kc_54_1 : kv_chk prog_3_method_3_code kt_54_1 = true := by decide +kernel
theorem kc_54 : kv_chk prog_3_method_3_code kt_54 = true := (kv_chk_app kc_54_0 kc_54_1)
set_option maxRecDepth 100000 in
theorem kc_55_0 : kv_chk prog_3_method_4_code kt_55_0 = true := by decide +kernel
set_option maxRecDepth 100000 in
theorem kc_55_1 : kv_chk prog_3_method_4_code kt_55_1 = true := by decide +kernel
theorem kc_55 : kv_chk prog_3_method_4_code kt_55 = true := (kv_chk_app kc_55_0 kc_55_1)
set_option maxRecDepth 100000 in
theorem kc_56 : kv_chk prog_16_method_101_code kt_56 = true := by decide +kernel
set_option maxRecDepth 100000 in
theorem kc_57 : kv_chk prog_7_method_13_code kt_57 = true := by decide +kernel
set_option maxRecDepth 100000 in
theorem kc_58_0 : kv_chk prog_3_method_5_code kt_58_0 = true := by decide +kernel
set_option maxRecDepth 100000 in
theorem kc_58_1 : kv_chk prog_3_method_5_code kt_58_1 = true := by decide +kernel
theorem kc_58 : kv_chk prog_3_method_5_code kt_58 = true := (kv_chk_app kc_58_0 kc_58_1)
set_option maxRecDepth 100000 in
theorem kc_59_0 : kv_chk prog_3_method_6_code kt_59_0 = true := by decide +kernel
set_option maxRecDepth 100000 in
theorem kc_59_1 : kv_chk prog_3_method_6_code kt_59_1 = true := by decide +kernel
theorem kc_59 : kv_chk prog_3_method_6_code kt_59 = true := (kv_chk_app kc_59_0 kc_59_1)
set_option maxRecDepth 100000 in
theorem kc_60_0 : kv_chk prog_3_method_7_code kt_60_0 = true := by decide +kernel
set_option maxRecDepth 100000 in
theorem kc_60_1 : kv_chk prog_3_method_7_code kt_60_1 = true := by decide +kernel
theorem kc_60 : kv_chk prog_3_method_7_code kt_60 = true := (kv_chk_app kc_60_0 kc_60_1)
set_option maxRecDepth 100000 in
theorem kc_61 : kv_chk prog_3_method_8_code kt_61 = true := by decide +kernel
set_option maxRecDepth 100000 in
theorem kc_62 : kv_chk prog_13_method_50_code kt_62 = true := by decide +kernel
set_option maxRecDepth 100000 in
theorem kc_63 : kv_chk prog_14_method_70_code kt_63 = true := by decide +kernel
set_option maxRecDepth 100000 in
theorem kc_64 : kv_chk prog_1_method_12_code kt_64 = true := by decide +kernel
set_option maxRecDepth 100000 in
theorem kc_65 : kv_chk prog_1_method_13_code kt_65 = true := by decide +kernel
set_option maxRecDepth 100000 in
theorem kc_66 : kv_chk prog_1_method_14_code kt_66 = true := by decide +kernel
set_option maxRecDepth 100000 in
theorem kc_67 : kv_chk prog_2_method_2_code kt_67 = true := by decide +kernel
set_option maxRecDepth 100000 in
theorem kc_68 : kv_chk prog_2_method_5_code kt_68 = true := by decide +kernel
set_option maxRecDepth 100000 in
theorem kc_69 : kv_chk prog_2_method_6_code kt_69 = true := by decide +kernel
set_option maxRecDepth 100000 in
theorem kc_70_0 : kv_chk prog_2_method_7_code kt_70_0 = true := by decide +kernel
set_option maxRecDepth 100000 in
theorem kc_70_1 : kv_chk prog_2_method_7_code kt_70_1 = true := by decide +kernel
theorem kc_70 : kv_chk prog_2_method_7_code kt_70 = true := (kv_chk_app kc_70_0 kc_70_1)
set_option maxRecDepth 100000 in
theorem kc_71 : kv_chk prog_2_method_8_code kt_71 = true := by decide +kernel
set_option maxRecDepth 100000 in
theorem kc_72 : kv_chk prog_2_method_9_code kt_72 = true := by decide +kernel
set_option maxRecDepth 100000 in
theorem kc_73 : kv_chk prog_1_method_15_code kt_73 = true := by decide +kernel
set_option maxRecDepth 100000 in
theorem kc_74_0 : kv_chk prog_2_method_3_code kt_74_0 = true := by decide +kernel
set_option maxRecDepth 100000 in
theorem kc_74_1 : kv_chk prog_2_method_3_code kt_74_1 = true := by decide +kernel
theorem kc_74 : kv_chk prog_2_method_3_code kt_74 = true := (kv_chk_app kc_74_0 kc_74_1)
set_option maxRecDepth 100000 in
theorem kc_75 : kv_chk prog_2_method_4_code kt_75 = true := by decide +kernel
set_option maxRecDepth 100000 in
theorem kc_76 : kv_chk prog_1_method_16_code kt_76 = true := by decide +kernel
set_option maxRecDepth 100000 in
theorem kc_77 : kv_chk prog_4_method_2_code kt_77 = true := by decide +kernel
set_option maxRecDepth 100000 in
theorem kc_78 : kv_chk prog_1_method_17_code kt_78 = true := by decide +kernel
set_option maxRecDepth 100000 in
theorem kc_79 : kv_chk prog_6_method_7_code kt_79 = true := by decide +kernel
set_option maxRecDepth 100000 in
theorem kc_80 : kv_chk prog_4_method_4_code kt_80 = true := by decide +kernel
set_option maxRecDepth 100000 in
theorem kc_81 : kv_chk prog_1_method_18_code kt_81 = true := by decide +kernel
set_option maxRecDepth 100000 in
theorem kc_82 : kv_chk prog_1_method_36_code kt_82 = true := by decide +kernel
set_option maxRecDepth 100000 in
theorem kc_83 : kv_chk prog_1_method_19_code kt_83 = true := by decide +kernel
set_option maxRecDepth 100000 in
theorem kc_84_0 : kv_chk prog_1_method_20_code kt_84_0 = true := by decide +kernel
set_option maxRecDepth 100000 in
theorem kc_84_1 : kv_chk prog_1_method_20_code kt_84_1 = true := by decide +kernel
theorem kc_84 : kv_chk prog_1_method_20_code kt_84 = true := (kv_chk_app kc_84_0 kc_84_1)

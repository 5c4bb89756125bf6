set_option maxRecDepth 100000 in
theorem kc_85 : kv_chk prog_4_method_7_code kt_85 = true := by decide +kernel
set_option maxRecDepth 100000 in
theorem kc_86 : kv_chk prog_4_method_10_code kt_86 = true := by decide +kernel
set_option maxRecDepth 100000 in
theorem kc_87 : kv_chk prog_4_method_6_code kt_87 = true := by decide +kernel
set_option maxRecDepth 100000 in
theorem kc_88 : kv_chk prog_4_method_5_code kt_88 = true := by decide +kernel
set_option maxRecDepth 100000 in
theorem kc_89 : kv_chk prog_1_method_21_code kt_89 = true := by decide +kernel
set_option maxRecDepth 100000 in
theorem kc_90 : kv_chk prog_1_method_22_code kt_90 = true := by decide +kernel
set_option maxRecDepth 100000 in
theorem kc_91_0 : kv_chk prog_1_method_23_code kt_91_0 = true := by decide +kernel
set_option maxRecDepth 100000 in
theorem kc_91_1 : kv_chk prog_1_method_23_code kt_91_1 = true := by decide +kernel
theorem kc_91 : kv_chk prog_1_method_23_code kt_91 = true := (kv_chk_app kc_91_0 kc_91_1)
set_option maxRecDepth 100000 in
theorem kc_92_0 : kv_chk prog_1_method_38_code kt_92_0 = true := by decide +kernel
set_option maxRecDepth 100000 in
theorem kc_92_1 : kv_chk prog_1_method_38_code kt_92_1 = true := by decide +kernel
theorem kc_92 : kv_chk prog_1_method_38_code kt_92 = true := (kv_chk_app kc_92_0 kc_92_1)
set_option maxRecDepth 100000 in
theorem kc_93 : kv_chk prog_1_method_39_code kt_93 = true := by decide +kernel
set_option maxRecDepth 100000 in
theorem kc_94 : kv_chk prog_1_method_24_code kt_94 = true := by decide +kernel
set_option maxRecDepth 100000 in
theorem kc_95 : kv_chk prog_1_method_25_code kt_95 = true := by decide +kernel
set_option maxRecDepth 100000 in
theorem kc_96 : kv_chk prog_9_method_6_code kt_96 = true := by decide +kernel
set_option maxRecDepth 100000 in
theorem kc_97_0 : kv_chk prog_9_method_7_code kt_97_0 = true := by decide +kernel
set_option maxRecDepth 100000 in
theorem kc_97_1 : kv_chk prog_9_method_7_code kt_97_1 = true := by decide +kernel
theorem kc_97 : kv_chk prog_9_method_7_code kt_97 = true := (kv_chk_app kc_97_0 kc_97_1)
set_option maxRecDepth 100000 in
theorem kc_98 : kv_chk prog_1_method_26_code kt_98 = true := by decide +kernel
set_option maxRecDepth 100000 in
theorem kc_99_0 : kv_chk prog_8_method_2_code kt_99_0 = true := by decide +kernel
set_option maxRecDepth 100000 in
theorem kc_99_1 : kv_chk prog_8_method_2_code kt_99_1 = true := by decide +kernel
theorem kc_99 : kv_chk prog_8_method_2_code kt_99 = true := (kv_chk_app kc_99_0 kc_99_1)
set_option maxRecDepth 100000 in
theorem kc_100_0 : kv_chk prog_8_method_4_code kt_100_0 = true := by decide +kernel
set_option maxRecDepth 100000 in
theorem kc_100_1 : kv_chk prog_8_method_4_code kt_100_1 = true := by decide +kernel
theorem kc_100 : kv_chk prog_8_method_4_code kt_100 = true := (kv_chk_app kc_100_0 kc_100_1)
set_option maxRecDepth 100000 in
theorem kc_101 : kv_chk prog_8_method_5_code kt_101 = true := by decide +kernel
set_option maxRecDepth 100000 in
theorem kc_102 : kv_chk prog_8_method_3_code kt_102 = true := by decide +kernel
set_option maxRecDepth 100000 in
theorem kc_103 : kv_chk prog_1_method_27_code kt_103 = true := by decide +kernel
set_option maxRecDepth 100000 in
theorem kc_104 : kv_chk prog_6_method_2_code kt_104 = true := by decide +kernel
set_option maxRecDepth 100000 in
theorem kc_105 : kv_chk prog_1_method_40_code kt_105 = true := by decide +kernel
set_option maxRecDepth 100000 in
theorem kc_106 : kv_chk prog_1_method_41_code kt_106 = true := by decide +kernel
set_option maxRecDepth 100000 in
theorem kc_107 : kv_chk prog_9_method_8_code kt_107 = true := by decide +kernel
set_option maxRecDepth 100000 in
theorem kc_108 : kv_chk prog_9_method_9_code kt_108 = true := by decide +kernel
set_option maxRecDepth 100000 in
theorem kc_109 : kv_chk prog_1_method_42_code kt_109 = true := by decide +kernel
set_option maxRecDepth 100000 in
theorem kc_110 : kv_chk prog_6_method_3_code kt_110 = true := by decide +kernel
set_option maxRecDepth 100000 in
theorem kc_111 : kv_chk prog_4_method_9_code kt_111 = true := by decide +kernel
set_option maxRecDepth 100000 in
theorem kc_112 : kv_chk prog_1_method_28_code kt_112 = true := by decide +kernel
set_option maxRecDepth 100000 in
theorem kc_113 : kv_chk prog_6_method_4_code kt_113 = true := by decide +kernel
set_option maxRecDepth 100000 in
theorem kc_114 : kv_chk prog_6_method_5_code kt_114 = true := by decide +kernel
set_option maxRecDepth 100000 in
theorem kc_115 : kv_chk prog_6_method_6_code kt_115 = true := by decide +kernel
set_option maxRecDepth 100000 in
theorem kc_116 : kv_chk prog_1_method_29_code kt_116 = true := by decide +kernel
set_option maxRecDepth 100000 in
theorem kc_117 : kv_chk prog_6_method_8_code kt_117 = true := by decide +kernel
set_option maxRecDepth 100000 in
theorem kc_118 : kv_chk prog_1_method_30_code kt_118 = true := by decide +kernel
set_option maxRecDepth 100000 in
theorem kc_119 : kv_chk prog_4_method_8_code kt_119 = true := by decide +kernel
set_option maxRecDepth 100000 in
theorem kc_120 : kv_chk prog_1_method_31_code kt_120 = true := by decide +kernel
set_option maxRecDepth 100000 in
theorem kc_121 : kv_chk prog_1_method_32_code kt_121 = true := by decide +kernel
set_option maxRecDepth 100000 in
theorem kc_122_0 : kv_chk prog_11_method_1_code kt_122_0 = true := by decide +kernel
set_option maxRecDepth 100000 in
theorem kc_122_1 : kv_chk prog_11_method_1_code kt_122_1 = true := by decide +kernel
set_option maxRecDepth 100000 in
theorem kc_122_2 : kv_chk prog_11_method_1_code kt_122_2 = true := by decide +kernel
theorem kc_122 : kv_chk prog_11_method_1_code kt_122 = true := (kv_chk_app kc_122_0 (kv_chk_app kc_122_1 kc_122_2))
set_option maxRecDepth 100000 in
theorem kc_123_0 : kv_chk prog_11_method_6_code kt_123_0 = true := by decide +kernel
set_option maxRecDepth 100000 in
theorem kc_123_1 : kv_chk prog_11_method_6_code kt_123_1 = true := by decide +kernel
theorem kc_123 : kv_chk prog_11_method_6_code kt_123 = true := (kv_chk_app kc_123_0 kc_123_1)

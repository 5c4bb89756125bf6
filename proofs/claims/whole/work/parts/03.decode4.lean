set_option maxRecDepth 100000 in
theorem kc_124 : kv_chk prog_11_method_5_code kt_124 = true := by decide +kernel
set_option maxRecDepth 100000 in
theorem kc_125 : kv_chk prog_11_method_4_code kt_125 = true := by decide +kernel
set_option maxRecDepth 100000 in
theorem kc_126 : kv_chk prog_11_method_9_code kt_126 = true := by decide +kernel
set_option maxRecDepth 100000 in
theorem kc_127 : kv_chk prog_11_method_8_code kt_127 = true := by decide +kernel
set_option maxRecDepth 100000 in
theorem kc_128 : kv_chk prog_11_method_3_code kt_128 = true := by decide +kernel
set_option maxRecDepth 100000 in
theorem kc_129 : kv_chk prog_11_method_7_code kt_129 = true := by decide +kernel
set_option maxRecDepth 100000 in
theorem kc_130_0 : kv_chk prog_11_method_10_code kt_130_0 = true := by decide +kernel
set_option maxRecDepth 100000 in
theorem kc_130_1 : kv_chk prog_11_method_10_code kt_130_1 = true := by decide +kernel
theorem kc_130 : kv_chk prog_11_method_10_code kt_130 = true := (kv_chk_app kc_130_0 kc_130_1)
set_option maxRecDepth 100000 in
theorem kc_131_0 : kv_chk prog_11_method_11_code kt_131_0 = true := by decide +kernel
set_option maxRecDepth 100000 in
theorem kc_131_1 : kv_chk prog_11_method_11_code kt_131_1 = true := by decide +kernel
theorem kc_131 : kv_chk prog_11_method_11_code kt_131 = true := (kv_chk_app kc_131_0 kc_131_1)
set_option maxRecDepth 100000 in
theorem kc_132 : kv_chk prog_11_method_13_code kt_132 = true := by decide +kernel
set_option maxRecDepth 100000 in
theorem kc_133 : kv_chk prog_11_method_12_code kt_133 = true := by decide +kernel
set_option maxRecDepth 100000 in
theorem kc_134 : kv_chk prog_11_method_14_code kt_134 = true := by decide +kernel
set_option maxRecDepth 100000 in
theorem kc_135 : kv_chk prog_11_method_18_code kt_135 = true := by decide +kernel
set_option maxRecDepth 100000 in
theorem kc_136_0 : kv_chk prog_11_method_17_code kt_136_0 = true := by decide +kernel
set_option maxRecDepth 100000 in
theorem kc_136_1 : kv_chk prog_11_method_17_code kt_136_1 = true := by decide +kernel
set_option maxRecDepth 100000 in
theorem kc_136_2 : kv_chk prog_11_method_17_code kt_136_2 = true := by decide +kernel
theorem kc_136 : kv_chk prog_11_method_17_code kt_136 = true := (kv_chk_app kc_136_0 (kv_chk_app kc_136_1 kc_136_2))
set_option maxRecDepth 100000 in
theorem kc_137 : kv_chk prog_11_method_15_code kt_137 = true := by decide +kernel
set_option maxRecDepth 100000 in
theorem kc_138 : kv_chk prog_11_method_19_code kt_138 = true := by decide +kernel
set_option maxRecDepth 100000 in
theorem kc_139_0 : kv_chk prog_11_method_25_code kt_139_0 = true := by decide +kernel
set_option maxRecDepth 100000 in
theorem kc_139_1 : kv_chk prog_11_method_25_code kt_139_1 = true := by decide +kernel
set_option maxRecDepth 100000 in
theorem kc_139_2 : kv_chk prog_11_method_25_code kt_139_2 = true := by decide +kernel
set_option maxRecDepth 100000 in
theorem kc_139_3 : kv_chk prog_11_method_25_code kt_139_3 = true := by decide +kernel
set_option maxRecDepth 100000 in
theorem kc_139_4 : kv_chk prog_11_method_25_code kt_139_4 = true := by decide +kernel
theorem kc_139 : kv_chk prog_11_method_25_code kt_139 = true := (kv_chk_app kc_139_0 (kv_chk_app kc_139_1 (kv_chk_app kc_139_2 (kv_chk_app kc_139_3 kc_139_4))))
set_option maxRecDepth 100000 in
theorem kc_140 : kv_chk prog_11_method_16_code kt_140 = true := by decide +kernel
set_option maxRecDepth 100000 in
theorem kc_141_0 : kv_chk prog_11_method_24_code kt_141_0 = true := by decide +kernel
set_option maxRecDepth 100000 in
theorem kc_141_1 : kv_chk prog_11_method_24_code kt_141_1 = true := by decide +kernel
set_option maxRecDepth 100000 in
theorem kc_141_2 : kv_chk prog_11_method_24_code kt_141_2 = true := by decide +kernel
theorem kc_141 : kv_chk prog_11_method_24_code kt_141 = true := (kv_chk_app kc_141_0 (kv_chk_app kc_141_1 kc_141_2))
set_option maxRecDepth 100000 in
theorem kc_142 : kv_chk prog_11_method_20_code kt_142 = true := by decide +kernel
set_option maxRecDepth 100000 in
theorem kc_143 : kv_chk prog_11_method_22_code kt_143 = true := by decide +kernel
set_option maxRecDepth 100000 in
theorem kc_144 : kv_chk prog_11_method_23_code kt_144 = true := by decide +kernel
set_option maxRecDepth 100000 in
theorem kc_145 : kv_chk prog_11_method_21_code kt_145 = true := by decide +kernel
set_option maxRecDepth 100000 in
theorem kc_146 : kv_chk prog_11_method_26_code kt_146 = true := by decide +kernel
set_option maxRecDepth 100000 in
theorem kc_147 : kv_chk prog_11_method_27_code kt_147 = true := by decide +kernel
set_option maxRecDepth 100000 in
theorem kc_148 : kv_chk prog_11_method_32_code kt_148 = true := by decide +kernel
set_option maxRecDepth 100000 in
theorem kc_149 : kv_chk prog_11_method_28_code kt_149 = true := by decide +kernel
set_option maxRecDepth 100000 in
theorem kc_150_0 : kv_chk prog_11_method_29_code kt_150_0 = true := by decide +kernel
set_option maxRecDepth 100000 in
theorem kc_150_1 : kv_chk prog_11_method_29_code kt_150_1 = true := by decide +kernel
theorem kc_150 : kv_chk prog_11_method_29_code kt_150 = true := (kv_chk_app kc_150_0 kc_150_1)
set_option maxRecDepth 100000 in
theorem kc_151_0 : kv_chk prog_11_method_31_code kt_151_0 = true := by decide +kernel
set_option maxRecDepth 100000 in
theorem kc_151_1 : kv_chk prog_11_method_31_code kt_151_1 = true := by decide +kernel
theorem kc_151 : kv_chk prog_11_method_31_code kt_151 = true := (kv_chk_app kc_151_0 kc_151_1)
set_option maxRecDepth 100000 in
theorem kc_152_0 : kv_chk prog_11_method_30_code kt_152_0 = true := by decide +kernel
set_option maxRecDepth 100000 in
theorem kc_152_1 : kv_chk prog_11_method_30_code kt_152_1 = true := by decide +kernel
theorem kc_152 : kv_chk prog_11_method_30_code kt_152 = true := (kv_chk_app kc_152_0 kc_152_1)
set_option maxRecDepth 100000 in
theorem kc_153 : kv_chk prog_11_method_33_code kt_153 = true := by decide +kernel

set_option maxRecDepth 100000 in
theorem kc_154 : kv_chk prog_11_method_37_code kt_154 = true := by decide +kernel
set_option maxRecDepth 100000 in
theorem kc_155_0 : kv_chk prog_11_method_39_code kt_155_0 = true := by decide +kernel
set_option maxRecDepth 100000 in
theorem kc_155_1 : kv_chk prog_11_method_39_code kt_155_1 = true := by decide +kernel
theorem kc_155 : kv_chk prog_11_method_39_code kt_155 = true := (kv_chk_app kc_155_0 kc_155_1)
set_option maxRecDepth 100000 in
theorem kc_156 : kv_chk prog_11_method_34_code kt_156 = true := by decide +kernel
set_option maxRecDepth 100000 in
theorem kc_157 : kv_chk prog_11_method_36_code kt_157 = true := by decide +kernel
set_option maxRecDepth 100000 in
theorem kc_158 : kv_chk prog_11_method_38_code kt_158 = true := by decide +kernel
set_option maxRecDepth 100000 in
theorem kc_159 : kv_chk prog_11_method_40_code kt_159 = true := by decide +kernel
set_option maxRecDepth 100000 in
theorem kc_160 : kv_chk prog_11_method_35_code kt_160 = true := by decide +kernel
set_option maxRecDepth 100000 in
theorem kc_161 : kv_chk prog_11_method_42_code kt_161 = true := by decide +kernel
set_option maxRecDepth 100000 in
theorem kc_162 : kv_chk prog_11_method_41_code kt_162 = true := by decide +kernel
set_option maxRecDepth 100000 in
theorem kc_163_0 : kv_chk prog_11_method_44_code kt_163_0 = true := by decide +kernel
set_option maxRecDepth 100000 in
theorem kc_163_1 : kv_chk prog_11_method_44_code kt_163_1 = true := by decide +kernel
theorem kc_163 : kv_chk prog_11_method_44_code kt_163 = true := (kv_chk_app kc_163_0 kc_163_1)
set_option maxRecDepth 100000 in
theorem kc_164 : kv_chk prog_11_method_43_code kt_164 = true := by decide +kernel
set_option maxRecDepth 100000 in
theorem kc_165 : kv_chk prog_11_method_45_code kt_165 = true := by decide +kernel
set_option maxRecDepth 100000 in
theorem kc_166 : kv_chk prog_11_method_48_code kt_166 = true := by decide +kernel
set_option maxRecDepth 100000 in
theorem kc_167 : kv_chk prog_11_method_47_code kt_167 = true := by decide +kernel
set_option maxRecDepth 100000 in
theorem kc_168 : kv_chk prog_11_method_46_code kt_168 = true := by decide +kernel
set_option maxRecDepth 100000 in
theorem kc_169_0 : kv_chk prog_11_method_49_code kt_169_0 = true := by decide +kernel
set_option maxRecDepth 100000 in
theorem kc_169_1 : kv_chk prog_11_method_49_code kt_169_1 = true := by decide +kernel
theorem kc_169 : kv_chk prog_11_method_49_code kt_169 = true := (kv_chk_app kc_169_0 kc_169_1)
set_option maxRecDepth 100000 in
theorem kc_170_0 : kv_chk prog_11_method_51_code kt_170_0 = true := by decide +kernel
set_option maxRecDepth 100000 in
theorem kc_170_1 : kv_chk prog_11_method_51_code kt_170_1 = true := by decide +kernel
theorem kc_170 : kv_chk prog_11_method_51_code kt_170 = true := (kv_chk_app kc_170_0 kc_170_1)
set_option maxRecDepth 100000 in
theorem kc_171 : kv_chk prog_11_method_50_code kt_171 = true := by decide +kernel
set_option maxRecDepth 100000 in
theorem kc_172_0 : kv_chk prog_11_method_52_code kt_172_0 = true := by decide +kernel
set_option maxRecDepth 100000 in
theorem kc_172_1 : kv_chk prog_11_method_52_code kt_172_1 = true := by decide +kernel
theorem kc_172 : kv_chk prog_11_method_52_code kt_172 = true := (kv_chk_app kc_172_0 kc_172_1)
set_option maxRecDepth 100000 in
theorem kc_173 : kv_chk prog_11_method_54_code kt_173 = true := by decide +kernel
set_option maxRecDepth 100000 in
theorem kc_174 : kv_chk prog_11_method_53_code kt_174 = true := by decide +kernel
set_option maxRecDepth 100000 in
theorem kc_175 : kv_chk prog_11_method_56_code kt_175 = true := by decide +kernel
set_option maxRecDepth 100000 in
theorem kc_176_0 : kv_chk prog_11_method_55_code kt_176_0 = true := by decide +kernel
set_option maxRecDepth 100000 in
theorem kc_176_1 : kv_chk prog_11_method_55_code kt_176_1 = true := by decide +kernel
theorem kc_176 : kv_chk prog_11_method_55_code kt_176 = true := (kv_chk_app kc_176_0 kc_176_1)
set_option maxRecDepth 100000 in
theorem kc_177_0 : kv_chk prog_11_method_60_code kt_177_0 = true := by decide +kernel
set_option maxRecDepth 100000 in
theorem kc_177_1 : kv_chk prog_11_method_60_code kt_177_1 = true := by decide +kernel
set_option maxRecDepth 100000 in
theorem kc_177_2 : kv_chk prog_11_method_60_code kt_177_2 = true := by decide +kernel
theorem kc_177 : kv_chk prog_11_method_60_code kt_177 = true := (kv_chk_app kc_177_0 (kv_chk_app kc_177_1 kc_177_2))
set_option maxRecDepth 100000 in
theorem kc_178_0 : kv_chk prog_11_method_58_code kt_178_0 = true := by decide +kernel
set_option maxRecDepth 100000 in
theorem kc_178_1 : kv_chk prog_11_method_58_code kt_178_1 = true := by decide +kernel
theorem kc_178 : kv_chk prog_11_method_58_code kt_178 = true := (kv_chk_app kc_178_0 kc_178_1)
set_option maxRecDepth 100000 in
theorem kc_179 : kv_chk prog_11_method_57_code kt_179 = true := by decide +kernel
set_option maxRecDepth 100000 in
theorem kc_180_0 : kv_chk prog_11_method_59_code kt_180_0 = true := by decide +kernel
set_option maxRecDepth 100000 in
theorem kc_180_1 : kv_chk prog_11_method_59_code kt_180_1 = true := by decide +kernel
theorem kc_180 : kv_chk prog_11_method_59_code kt_180 = true := (kv_chk_app kc_180_0 kc_180_1)
set_option maxRecDepth 100000 in
theorem kc_181 : kv_chk prog_11_method_61_code kt_181 = true := by decide +kernel
set_option maxRecDepth 100000 in
theorem kc_182_0 : kv_chk prog_11_method_62_code kt_182_0 = true := by decide +kernel
set_option maxRecDepth 100000 in
theorem kc_182_1 : kv_chk prog_11_method_62_code kt_182_1 = true := by decide +kernel
theorem kc_182 : kv_chk prog_11_method_62_code kt_182 = true := (kv_chk_app kc_182_0 kc_182_1)

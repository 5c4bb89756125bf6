set_option maxRecDepth 100000 in
theorem kc_1_0 : kv_chk prog_1_method_1_code kt_1_0 = true := by decide +kernel
set_option maxRecDepth 100000 in
theorem kc_1_1 : kv_chk prog_1_method_1_code kt_1_1 = true := by decide +kernel
theorem kc_1 : kv_chk prog_1_method_1_code kt_1 = true := (kv_chk_app kc_1_0 kc_1_1)
set_option maxRecDepth 100000 in
theorem kc_2 : kv_chk prog_5_method_1_code kt_2 = true := by decide +kernel
set_option maxRecDepth 100000 in
theorem kc_3 : kv_chk prog_3_method_1_code kt_3 = true := by decide +kernel
set_option maxRecDepth 100000 in
theorem kc_4 : kv_chk prog_2_method_1_code kt_4 = true := by decide +kernel
set_option maxRecDepth 100000 in
theorem kc_5 : kv_chk prog_9_method_1_code kt_5 = true := by decide +kernel
set_option maxRecDepth 100000 in
theorem kc_6 : kv_chk prog_8_method_1_code kt_6 = true := by decide +kernel
set_option maxRecDepth 100000 in
theorem kc_7 : kv_chk prog_6_method_1_code kt_7 = true := by decide +kernel
set_option maxRecDepth 100000 in
theorem kc_8 : kv_chk prog_7_method_1_code kt_8 = true := by decide +kernel
set_option maxRecDepth 100000 in
theorem kc_9 : kv_chk prog_4_method_1_code kt_9 = true := by decide +kernel
set_option maxRecDepth 100000 in
theorem kc_10 : kv_chk prog_1_method_2_code kt_10 = true := by decide +kernel
set_option maxRecDepth 100000 in
theorem kc_11 : kv_chk prog_7_method_2_code kt_11 = true := by decide +kernel
set_option maxRecDepth 100000 in
theorem kc_12 : kv_chk prog_16_method_103_code kt_12 = true := by decide +kernel
set_option maxRecDepth 100000 in
theorem kc_13 : kv_chk prog_7_method_4_code kt_13 = true := by decide +kernel
set_option maxRecDepth 100000 in
theorem kc_14 : kv_chk prog_7_method_3_code kt_14 = true := by decide +kernel
set_option maxRecDepth 100000 in
theorem kc_15 : kv_chk prog_14_method_69_code kt_15 = true := by decide +kernel
set_option maxRecDepth 100000 in
theorem kc_16 : kv_chk prog_1_method_3_code kt_16 = true := by decide +kernel
set_option maxRecDepth 100000 in
theorem kc_17 : kv_chk prog_1_method_34_code kt_17 = true := by decide +kernel
set_option maxRecDepth 100000 in
theorem kc_18 : kv_chk prog_1_method_33_code kt_18 = true := by decide +kernel
set_option maxRecDepth 100000 in
theorem kc_19 : kv_chk prog_7_method_6_code kt_19 = true := by decide +kernel
set_option maxRecDepth 100000 in
theorem kc_20 : kv_chk prog_7_method_7_code kt_20 = true := by decide +kernel
set_option maxRecDepth 100000 in
theorem kc_21 : kv_chk prog_7_method_8_code kt_21 = true := by decide +kernel
set_option maxRecDepth 100000 in
theorem kc_22_0 : kv_chk prog_1_method_4_code kt_22_0 = true := by decide +kernel
set_option maxRecDepth 100000 in
theorem kc_22_1 : kv_chk prog_1_method_4_code kt_22_1 = true := by decide +kernel
theorem kc_22 : kv_chk prog_1_method_4_code kt_22 = true := (kv_chk_app kc_22_0 kc_22_1)
set_option maxRecDepth 100000 in
theorem kc_23 : kv_chk prog_1_method_5_code kt_23 = true := by decide +kernel
set_option maxRecDepth 100000 in
theorem kc_24 : kv_chk prog_7_method_5_code kt_24 = true := by decide +kernel
set_option maxRecDepth 100000 in
theorem kc_25 : kv_chk prog_14_method_65_code kt_25 = true := by decide +kernel
set_option maxRecDepth 100000 in
theorem kc_26 : kv_chk prog_7_method_9_code kt_26 = true := by decide +kernel
set_option maxRecDepth 100000 in
theorem kc_27 : kv_chk prog_7_method_14_code kt_27 = true := by decide +kernel
set_option maxRecDepth 100000 in
theorem kc_28 : kv_chk prog_1_method_6_code kt_28 = true := by decide +kernel
set_option maxRecDepth 100000 in
theorem kc_29 : kv_chk prog_1_method_7_code kt_29 = true := by decide +kernel
set_option maxRecDepth 100000 in
theorem kc_30 : kv_chk prog_7_method_10_code kt_30 = true := by decide +kernel
set_option maxRecDepth 100000 in
theorem kc_31 : kv_chk prog_12_method_49_code kt_31 = true := by decide +kernel
set_option maxRecDepth 100000 in
theorem kc_32 : kv_chk prog_1_method_8_code kt_32 = true := by decide +kernel
set_option maxRecDepth 100000 in
theorem kc_33 : kv_chk prog_1_method_37_code kt_33 = true := by decide +kernel
set_option maxRecDepth 100000 in
theorem kc_34 : kv_chk prog_1_method_35_code kt_34 = true := by decide +kernel
set_option maxRecDepth 100000 in
theorem kc_35 : kv_chk prog_4_method_3_code kt_35 = true := by decide +kernel
set_option maxRecDepth 100000 in
theorem kc_36_0 : kv_chk prog_9_method_5_code kt_36_0 = true := by decide +kernel
set_option maxRecDepth 100000 in
theorem kc_36_1 : kv_chk prog_9_method_5_code kt_36_1 = true := by decide +kernel
theorem kc_36 : kv_chk prog_9_method_5_code kt_36 = true := (kv_chk_app kc_36_0 kc_36_1)
set_option maxRecDepth 100000 in
theorem kc_37 : kv_chk prog_9_method_2_code kt_37 = true := by decide +kernel
set_option maxRecDepth 100000 in
theorem kc_38 : kv_chk prog_9_method_4_code kt_38 = true := by decide +kernel
set_option maxRecDepth 100000 in
theorem kc_39 : kv_chk prog_9_method_3_code kt_39 = true := by decide +kernel
set_option maxRecDepth 100000 in
theorem kc_40 : kv_chk prog_7_method_11_code kt_40 = true := by decide +kernel
set_option maxRecDepth 100000 in
theorem kc_41 : kv_chk prog_1_method_9_code kt_41 = true := by decide +kernel
set_option maxRecDepth 100000 in
theorem kc_42_0 : kv_chk prog_5_method_2_code kt_42_0 = true := by decide +kernel
set_option maxRecDepth 100000 in
theorem kc_42_1 : kv_chk prog_5_method_2_code kt_42_1 = true := by decide +kernel
theorem kc_42 : kv_chk prog_5_method_2_code kt_42 = true := (kv_chk_app kc_42_0 kc_42_1)
set_option maxRecDepth 100000 in
theorem kc_43 : kv_chk prog_7_method_12_code kt_43 = true := by decide +kernel
set_option maxRecDepth 100000 in
theorem kc_44 : kv_chk prog_5_method_6_code kt_44 = true := by decide +kernel
set_option maxRecDepth 100000 in
theorem kc_45 : kv_chk prog_5_method_8_code kt_45 = true := by decide +kernel
set_option maxRecDepth 100000 in
theorem kc_46 : kv_chk prog_5_method_7_code kt_46 = true := by decide +kernel
set_option maxRecDepth 100000 in
theorem kc_47 : kv_chk prog_5_method_9_code kt_47 = true := by decide +kernel

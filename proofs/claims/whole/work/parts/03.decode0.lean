def kv_chk (by_ : ByteArray) (t : List (Nat × kv_E)) : Bool := t.all fun r => match decode by_ r.1 with | .ok x => decide (x = (r.2.1, r.2.2.1)) | _ => false
theorem kv_chk_app {b : ByteArray} {s t : List (Nat × kv_E)} (h1 : kv_chk b s = true) (h2 : kv_chk b t = true) : kv_chk b (s ++ t) = true := by unfold kv_chk at *; rw [List.all_append, h1, h2]; rfl
set_option maxRecDepth 100000 in
theorem kc_0_0 : kv_chk code kt_0_0 = true := by decide +kernel
set_option maxRecDepth 100000 in
theorem kc_0_1 : kv_chk code kt_0_1 = true := by decide +kernel
set_option maxRecDepth 100000 in
theorem kc_0_2 : kv_chk code kt_0_2 = true := by decide +kernel
set_option maxRecDepth 100000 in
theorem kc_0_3 : kv_chk code kt_0_3 = true := by decide +kernel
set_option maxRecDepth 100000 in
theorem kc_0_4 : kv_chk code kt_0_4 = true := by decide +kernel
set_option maxRecDepth 100000 in
theorem kc_0_5 : kv_chk code kt_0_5 = true := by decide +kernel
set_option maxRecDepth 100000 in
theorem kc_0_6 : kv_chk code kt_0_6 = true := by decide +kernel
set_option maxRecDepth 100000 in
theorem kc_0_7 : kv_chk code kt_0_7 = true := by decide +kernel
set_option maxRecDepth 100000 in
theorem kc_0_8 : kv_chk code kt_0_8 = true := by decide +kernel
set_option maxRecDepth 100000 in
theorem kc_0_9 : kv_chk code kt_0_9 = true := by decide +kernel
set_option maxRecDepth 100000 in
theorem kc_0_10 : kv_chk code kt_0_10 = true := by decide +kernel
set_option maxRecDepth 100000 in
theorem kc_0_11 : kv_chk code kt_0_11 = true := by decide +kernel
set_option maxRecDepth 100000 in
theorem kc_0_12 : kv_chk code kt_0_12 = true := by decide +kernel
set_option maxRecDepth 100000 in
theorem kc_0_13 : kv_chk code kt_0_13 = true := by decide +kernel
set_option maxRecDepth 100000 in
theorem kc_0_14 : kv_chk code kt_0_14 = true := by decide +kernel
theorem kc_0 : kv_chk code kt_0 = true := (kv_chk_app kc_0_0 (kv_chk_app kc_0_1 (kv_chk_app kc_0_2 (kv_chk_app kc_0_3 (kv_chk_app kc_0_4 (kv_chk_app kc_0_5 (kv_chk_app kc_0_6 (kv_chk_app kc_0_7 (kv_chk_app kc_0_8 (kv_chk_app kc_0_9 (kv_chk_app kc_0_10 (kv_chk_app kc_0_11 (kv_chk_app kc_0_12 (kv_chk_app kc_0_13 kc_0_14))))))))))))))

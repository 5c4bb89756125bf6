/-! ===== how a call begins ===== -/
section CE
variable {d : Nat} {σ : kv_S} {Φ : Option Value → kv_S → Prop}
theorem c_10 {x0 : Nat} {x1 : Int32} : Wc d 10 [.ref x0, .int x1] σ Φ = Wp d 10 0 [.ref x0, .int x1] [] σ Φ := Eq.trans rfl rfl
theorem c_11 {x0 : Nat} {x1 : Int32} : Wc d 11 [.ref x0, .int x1] σ Φ = Wp d 11 0 [.ref x0, .int x1] [] σ Φ := Eq.trans rfl rfl
theorem c_12 {x0 : Nat} {x1 : Int32} : Wc d 12 [.ref x0, .int x1] σ Φ = Wp d 12 0 [.ref x0, .int x1, .null, .null] [] σ Φ := Eq.trans rfl rfl
theorem c_13 {x0 : Nat} : Wc d 13 [.ref x0] σ Φ = Wp d 13 0 [.ref x0] [] σ Φ := Eq.trans rfl rfl
theorem c_14 {x0 : Nat} : Wc d 14 [.ref x0] σ Φ = Wp d 14 0 [.ref x0] [] σ Φ := Eq.trans rfl rfl
theorem c_15 {x0 : Nat} {x1 : Int32} {x2 : Int32} : Wc d 15 [.ref x0, .int x1, .int x2] σ Φ = Wp d 15 0 [.ref x0, .int x1, .int x2] [] σ Φ := Eq.trans rfl rfl
theorem c_16 {x0 : Nat} {x1 : Int32} {x2 : Int32} {x3 : Int32} : Wc d 16 [.ref x0, .int x1, .int x2, .int x3] σ Φ = Wp d 16 0 [.ref x0, .int x1, .int x2, .int x3, .null, .null, .null] [] σ Φ := Eq.trans rfl rfl
theorem c_17 {x0 : Nat} {x1 : Int32} {x2 : Int32} : Wc d 17 [.ref x0, .int x1, .int x2] σ Φ = Wp d 17 0 [.ref x0, .int x1, .int x2] [] σ Φ := Eq.trans rfl rfl
theorem c_18 {x0 : Nat} {x1 : Int32} : Wc d 18 [.ref x0, .int x1] σ Φ = Wp d 18 0 [.ref x0, .int x1] [] σ Φ := Eq.trans rfl rfl
theorem c_19 {x0 : Nat} {x1 : Int32} : Wc d 19 [.ref x0, .int x1] σ Φ = Wp d 19 0 [.ref x0, .int x1, .null] [] σ Φ := Eq.trans rfl rfl
theorem c_20 {x0 : Nat} {x1 : Int32} : Wc d 20 [.ref x0, .int x1] σ Φ = Wp d 20 0 [.ref x0, .int x1, .null, .null] [] σ Φ := Eq.trans rfl rfl
theorem c_21 {x0 : Nat} {x1 : Int32} {x2 : Int32} : Wc d 21 [.ref x0, .int x1, .int x2] σ Φ = Wp d 21 0 [.ref x0, .int x1, .int x2, .null, .null] [] σ Φ := Eq.trans rfl rfl
theorem c_22 {x0 : Nat} {x1 : Int32} {x2 : Int32} {x3 : Int32} {x4 : Int32} : Wc d 22 [.ref x0, .int x1, .int x2, .int x3, .int x4] σ Φ = Wp d 22 0 [.ref x0, .int x1, .int x2, .int x3, .int x4, .null, .null, .null] [] σ Φ := Eq.trans rfl rfl
theorem c_23 {x0 : Nat} {x1 : Int32} {x2 : Int32} {x3 : Int32} : Wc d 23 [.ref x0, .int x1, .int x2, .int x3] σ Φ = Wp d 23 0 [.ref x0, .int x1, .int x2, .int x3] [] σ Φ := Eq.trans rfl rfl
theorem c_24 {x0 : Nat} : Wc d 24 [.ref x0] σ Φ = Wp d 24 0 [.ref x0] [] σ Φ := Eq.trans rfl rfl
theorem c_25 {x0 : Nat} {x1 : Int32} {x2 : Int32} : Wc d 25 [.ref x0, .int x1, .int x2] σ Φ = Wp d 25 0 [.ref x0, .int x1, .int x2] [] σ Φ := Eq.trans rfl rfl
theorem c_26 {x0 : Nat} {x1 : Int32} {x2 : Int32} : Wc d 26 [.ref x0, .int x1, .int x2] σ Φ = Wp d 26 0 [.ref x0, .int x1, .int x2, .null] [] σ Φ := Eq.trans rfl rfl
theorem c_27 {x0 : Int32} : Wc d 27 [.int x0] σ Φ = Wp d 27 0 [.int x0] [] σ Φ := Eq.trans rfl rfl
theorem c_28 {x0 : Nat} {x1 : Int32} {x2 : Int32} : Wc d 28 [.ref x0, .int x1, .int x2] σ Φ = Wp d 28 0 [.ref x0, .int x1, .int x2] [] σ Φ := Eq.trans rfl rfl
theorem c_29 {x0 : Nat} {x1 : Int32} {x2 : Int32} : Wc d 29 [.ref x0, .int x1, .int x2] σ Φ = Wp d 29 0 [.ref x0, .int x1, .int x2] [] σ Φ := Eq.trans rfl rfl
theorem c_30 {x0 : Nat} {x1 : Int32} : Wc d 30 [.ref x0, .int x1] σ Φ = Wp d 30 0 [.ref x0, .int x1, .null, .null, .null, .null] [] σ Φ := Eq.trans rfl rfl
theorem c_31 {x0 : Int32} : Wc d 31 [.int x0] σ Φ = Wp d 31 0 [.int x0] [] σ Φ := Eq.trans rfl rfl
theorem c_32 {x0 : Nat} {x1 : Int32} {x2 : Int32} {x3 : Int32} : Wc d 32 [.ref x0, .int x1, .int x2, .int x3] σ Φ = Wp d 32 0 [.ref x0, .int x1, .int x2, .int x3] [] σ Φ := Eq.trans rfl rfl
theorem c_33 {x0 : Nat} {x1 : Int32} {x2 : Int32} : Wc d 33 [.ref x0, .int x1, .int x2] σ Φ = Wp d 33 0 [.ref x0, .int x1, .int x2] [] σ Φ := Eq.trans rfl rfl
theorem c_34 {x0 : Nat} {x1 : Int32} : Wc d 34 [.ref x0, .int x1] σ Φ = Wp d 34 0 [.ref x0, .int x1] [] σ Φ := Eq.trans rfl rfl
theorem c_35 {x0 : Nat} {x1 : Int32} : Wc d 35 [.ref x0, .int x1] σ Φ = Wp d 35 0 [.ref x0, .int x1] [] σ Φ := Eq.trans rfl rfl
theorem c_36 {x0 : Nat} {x1 : Nat} : Wc d 36 [.ref x0, .ref x1] σ Φ = Wp d 36 0 [.ref x0, .ref x1, .null, .null] [] σ Φ := Eq.trans rfl rfl
theorem c_37 {x0 : Int32} : Wc d 37 [.int x0] σ Φ = Wp d 37 0 [.int x0] [] σ Φ := Eq.trans rfl rfl
theorem c_38 {x0 : Nat} {x1 : Int32} {x2 : Int32} : Wc d 38 [.ref x0, .int x1, .int x2] σ Φ = Wp d 38 0 [.ref x0, .int x1, .int x2] [] σ Φ := Eq.trans rfl rfl
theorem c_39 {x0 : Int32} {x1 : Int64} {x2 : Int64} : Wc d 39 [.int x0, .long x1, .long x2] σ Φ = Wp d 39 0 [.int x0, .long x1, .null, .long x2, .null] [] σ Φ := Eq.trans rfl rfl
theorem c_40 {x0 : Nat} {x1 : Nat} {x2 : Int32} : Wc d 40 [.ref x0, .ref x1, .int x2] σ Φ = Wp d 40 0 [.ref x0, .ref x1, .int x2, .null] [] σ Φ := Eq.trans rfl rfl
theorem c_41 {x0 : Nat} {x1 : Int32} : Wc d 41 [.ref x0, .int x1] σ Φ = Wp d 41 0 [.ref x0, .int x1] [] σ Φ := Eq.trans rfl rfl
theorem c_42 {x0 : Nat} {x1 : Nat} : Wc d 42 [.ref x0, .ref x1] σ Φ = Wp d 42 0 [.ref x0, .ref x1, .null, .null, .null, .null] [] σ Φ := Eq.trans rfl rfl
theorem c_43 {x0 : Nat} {x1 : Int32} : Wc d 43 [.ref x0, .int x1] σ Φ = Wp d 43 0 [.ref x0, .int x1] [] σ Φ := Eq.trans rfl rfl
theorem c_44 {x0 : Int32} {x1 : Int32} : Wc d 44 [.int x0, .int x1] σ Φ = Wp d 44 0 [.int x0, .int x1, .null, .null] [] σ Φ := Eq.trans rfl rfl
theorem c_45 {x0 : Nat} {x1 : Int32} : Wc d 45 [.ref x0, .int x1] σ Φ = Wp d 45 0 [.ref x0, .int x1, .null, .null, .null] [] σ Φ := Eq.trans rfl rfl
theorem c_46 {x0 : Int32} {x1 : Int32} : Wc d 46 [.int x0, .int x1] σ Φ = Wp d 46 0 [.int x0, .int x1, .null, .null, .null] [] σ Φ := Eq.trans rfl rfl
theorem c_47 {x0 : Nat} {x1 : Int32} : Wc d 47 [.ref x0, .int x1] σ Φ = Wp d 47 0 [.ref x0, .int x1, .null, .null, .null] [] σ Φ := Eq.trans rfl rfl
theorem c_48 {x0 : Nat} : Wc d 48 [.ref x0] σ Φ = Wp d 48 0 [.ref x0, .null, .null] [] σ Φ := Eq.trans rfl rfl
theorem c_49 {x0 : Nat} {x1 : Int32} {x2 : Int32} : Wc d 49 [.ref x0, .int x1, .int x2] σ Φ = Wp d 49 0 [.ref x0, .int x1, .int x2] [] σ Φ := Eq.trans rfl rfl
theorem c_50 {x0 : Nat} {x1 : Int32} : Wc d 50 [.ref x0, .int x1] σ Φ = Wp d 50 0 [.ref x0, .int x1, .null, .null, .null, .null] [] σ Φ := Eq.trans rfl rfl
theorem c_51 {x0 : Int32} {x1 : Int32} : Wc d 51 [.int x0, .int x1] σ Φ = Wp d 51 0 [.int x0, .int x1, .null, .null] [] σ Φ := Eq.trans rfl rfl
theorem c_52 {x0 : Nat} {x1 : Int32} : Wc d 52 [.ref x0, .int x1] σ Φ = Wp d 52 0 [.ref x0, .int x1] [] σ Φ := Eq.trans rfl rfl
theorem c_53 {x0 : Nat} {x1 : Nat} {x2 : Nat} : Wc d 53 [.ref x0, .ref x1, .ref x2] σ Φ = Wp d 53 0 [.ref x0, .ref x1, .ref x2, .null] [] σ Φ := Eq.trans rfl rfl
theorem c_54 {x0 : Nat} {x1 : Nat} {x2 : Nat} : Wc d 54 [.ref x0, .ref x1, .ref x2] σ Φ = Wp d 54 0 [.ref x0, .ref x1, .ref x2, .null, .null, .null, .null, .null, .null] [] σ Φ := Eq.trans rfl rfl
theorem c_55 {x0 : Nat} : Wc d 55 [.ref x0] σ Φ = Wp d 55 0 [.ref x0, .null, .null] [] σ Φ := Eq.trans rfl rfl
theorem c_56 {x0 : Nat} {x1 : Int64} : Wc d 56 [.ref x0, .long x1] σ Φ = Wp d 56 0 [.ref x0, .long x1, .null, .null, .null] [] σ Φ := Eq.trans rfl rfl
theorem c_57 {x0 : Nat} : Wc d 57 [.ref x0] σ Φ = Wp d 57 0 [.ref x0, .null, .null, .null] [] σ Φ := Eq.trans rfl rfl
theorem c_58 {x0 : Nat} {x1 : Int32} {x2 : Int64} {x3 : Int64} {x4 : Int64} {x5 : Int32} : Wc d 58 [.ref x0, .int x1, .long x2, .long x3, .long x4, .int x5] σ Φ = Wp d 58 0 [.ref x0, .int x1, .long x2, .null, .long x3, .null, .long x4, .null, .int x5, .null, .null, .null, .null, .null] [] σ Φ := Eq.trans rfl rfl
theorem c_59 {x0 : Nat} {x1 : Int32} {x2 : Int64} : Wc d 59 [.ref x0, .int x1, .long x2] σ Φ = Wp d 59 0 [.ref x0, .int x1, .long x2, .null, .null, .null, .null, .null, .null, .null, .null] [] σ Φ := Eq.trans rfl rfl
theorem c_60 {x0 : Nat} {x1 : Int32} {x2 : Int64} : Wc d 60 [.ref x0, .int x1, .long x2] σ Φ = Wp d 60 0 [.ref x0, .int x1, .long x2, .null, .null, .null, .null, .null, .null, .null, .null, .null, .null] [] σ Φ := Eq.trans rfl rfl
theorem c_61 {x0 : Nat} {x1 : Int32} {x2 : Int64} : Wc d 61 [.ref x0, .int x1, .long x2] σ Φ = Wp d 61 0 [.ref x0, .int x1, .long x2, .null, .null, .null, .null, .null] [] σ Φ := Eq.trans rfl rfl
theorem c_62 {x0 : Int64} : Wc d 62 [.long x0] σ Φ = Wp d 62 0 [.long x0, .null] [] σ Φ := Eq.trans rfl rfl
theorem c_63 {x0 : Nat} {x1 : Int64} {x2 : Int64} : Wc d 63 [.ref x0, .long x1, .long x2] σ Φ = Wp d 63 0 [.ref x0, .long x1, .null, .long x2, .null] [] σ Φ := Eq.trans rfl rfl
theorem c_64 {x0 : Nat} {x1 : Int32} : Wc d 64 [.ref x0, .int x1] σ Φ = Wp d 64 0 [.ref x0, .int x1] [] σ Φ := Eq.trans rfl rfl
theorem c_65 {x0 : Nat} : Wc d 65 [.ref x0] σ Φ = Wp d 65 0 [.ref x0] [] σ Φ := Eq.trans rfl rfl
theorem c_66 {x0 : Nat} {x1 : Int32} {x2 : Int32} : Wc d 66 [.ref x0, .int x1, .int x2] σ Φ = Wp d 66 0 [.ref x0, .int x1, .int x2, .null] [] σ Φ := Eq.trans rfl rfl
theorem c_67 {x0 : Nat} {x1 : Int64} {x2 : Int32} {x3 : Int32} : Wc d 67 [.ref x0, .long x1, .int x2, .int x3] σ Φ = Wp d 67 0 [.ref x0, .long x1, .null, .int x2, .int x3, .null, .null, .null, .null, .null, .null] [] σ Φ := Eq.trans rfl rfl
theorem c_68 {x0 : Int32} {x1 : Int32} {x2 : Int32} {x3 : Int32} : Wc d 68 [.int x0, .int x1, .int x2, .int x3] σ Φ = Wp d 68 0 [.int x0, .int x1, .int x2, .int x3, .null] [] σ Φ := Eq.trans rfl rfl
theorem c_69 {x0 : Int32} {x1 : Int32} : Wc d 69 [.int x0, .int x1] σ Φ = Wp d 69 0 [.int x0, .int x1] [] σ Φ := Eq.trans rfl rfl
theorem c_70 {x0 : Nat} {x1 : Int64} {x2 : Int32} {x3 : Int32} {x4 : Int32} : Wc d 70 [.ref x0, .long x1, .int x2, .int x3, .int x4] σ Φ = Wp d 70 0 [.ref x0, .long x1, .null, .int x2, .int x3, .int x4, .null, .null, .null, .null, .null, .null] [] σ Φ := Eq.trans rfl rfl
theorem c_71 {x0 : Int64} {x1 : Int32} : Wc d 71 [.long x0, .int x1] σ Φ = Wp d 71 0 [.long x0, .null, .int x1] [] σ Φ := Eq.trans rfl rfl
theorem c_72 {x0 : Nat} {x1 : Int64} {x2 : Int32} : Wc d 72 [.ref x0, .long x1, .int x2] σ Φ = Wp d 72 0 [.ref x0, .long x1, .null, .int x2, .null] [] σ Φ := Eq.trans rfl rfl
theorem c_73 {x0 : Nat} {x1 : Int32} : Wc d 73 [.ref x0, .int x1] σ Φ = Wp d 73 0 [.ref x0, .int x1] [] σ Φ := Eq.trans rfl rfl
theorem c_74 {x0 : Nat} {x1 : Int64} {x2 : Int32} : Wc d 74 [.ref x0, .long x1, .int x2] σ Φ = Wp d 74 0 [.ref x0, .long x1, .null, .int x2, .null, .null, .null, .null, .null] [] σ Φ := Eq.trans rfl rfl
theorem c_75 {x0 : Nat} {x1 : Int64} {x2 : Int32} {x3 : Int32} : Wc d 75 [.ref x0, .long x1, .int x2, .int x3] σ Φ = Wp d 75 0 [.ref x0, .long x1, .null, .int x2, .int x3, .null, .null] [] σ Φ := Eq.trans rfl rfl
theorem c_76 {x0 : Nat} {x1 : Int32} : Wc d 76 [.ref x0, .int x1] σ Φ = Wp d 76 0 [.ref x0, .int x1] [] σ Φ := Eq.trans rfl rfl
theorem c_77 {x0 : Nat} {x1 : Int32} : Wc d 77 [.ref x0, .int x1] σ Φ = Wp d 77 0 [.ref x0, .int x1] [] σ Φ := Eq.trans rfl rfl
theorem c_78 {x0 : Nat} {x1 : Int32} {x2 : Int32} {x3 : Int32} {x4 : Int32} : Wc d 78 [.ref x0, .int x1, .int x2, .int x3, .int x4] σ Φ = Wp d 78 0 [.ref x0, .int x1, .int x2, .int x3, .int x4] [] σ Φ := Eq.trans rfl rfl
theorem c_79 {x0 : Nat} {x1 : Int32} : Wc d 79 [.ref x0, .int x1] σ Φ = Wp d 79 0 [.ref x0, .int x1] [] σ Φ := Eq.trans rfl rfl
theorem c_80 {x0 : Nat} {x1 : Int32} {x2 : Int32} {x3 : Int32} : Wc d 80 [.ref x0, .int x1, .int x2, .int x3] σ Φ = Wp d 80 0 [.ref x0, .int x1, .int x2, .int x3, .null] [] σ Φ := Eq.trans rfl rfl
theorem c_81 {x0 : Nat} {x1 : Int32} {x2 : Int32} {x3 : Int32} : Wc d 81 [.ref x0, .int x1, .int x2, .int x3] σ Φ = Wp d 81 0 [.ref x0, .int x1, .int x2, .int x3, .null] [] σ Φ := Eq.trans rfl rfl
theorem c_82 {x0 : Nat} {x1 : Int32} {x2 : Int32} : Wc d 82 [.ref x0, .int x1, .int x2] σ Φ = Wp d 82 0 [.ref x0, .int x1, .int x2] [] σ Φ := Eq.trans rfl rfl
theorem c_83 {x0 : Nat} {x1 : Int32} {x2 : Int32} {x3 : Int32} : Wc d 83 [.ref x0, .int x1, .int x2, .int x3] σ Φ = Wp d 83 0 [.ref x0, .int x1, .int x2, .int x3] [] σ Φ := Eq.trans rfl rfl
theorem c_84 {x0 : Nat} {x1 : Int32} {x2 : Int32} {x3 : Int32} : Wc d 84 [.ref x0, .int x1, .int x2, .int x3] σ Φ = Wp d 84 0 [.ref x0, .int x1, .int x2, .int x3] [] σ Φ := Eq.trans rfl rfl
theorem c_85 {x0 : Nat} : Wc d 85 [.ref x0] σ Φ = Wp d 85 0 [.ref x0, .null, .null, .null] [] σ Φ := Eq.trans rfl rfl
theorem c_86 {x0 : Nat} : Wc d 86 [.ref x0] σ Φ = Wp d 86 0 [.ref x0, .null, .null, .null] [] σ Φ := Eq.trans rfl rfl
theorem c_87 {x0 : Int32} : Wc d 87 [.int x0] σ Φ = Wp d 87 0 [.int x0] [] σ Φ := Eq.trans rfl rfl
theorem c_88 {x0 : Int64} {x1 : Int32} : Wc d 88 [.long x0, .int x1] σ Φ = Wp d 88 0 [.long x0, .null, .int x1] [] σ Φ := Eq.trans rfl rfl
theorem c_89 {x0 : Nat} {x1 : Int32} {x2 : Int32} : Wc d 89 [.ref x0, .int x1, .int x2] σ Φ = Wp d 89 0 [.ref x0, .int x1, .int x2] [] σ Φ := Eq.trans rfl rfl
theorem c_90 {x0 : Nat} {x1 : Int32} {x2 : Int32} {x3 : Int32} : Wc d 90 [.ref x0, .int x1, .int x2, .int x3] σ Φ = Wp d 90 0 [.ref x0, .int x1, .int x2, .int x3] [] σ Φ := Eq.trans rfl rfl
theorem c_91 {x0 : Nat} {x1 : Int32} {x2 : Int32} : Wc d 91 [.ref x0, .int x1, .int x2] σ Φ = Wp d 91 0 [.ref x0, .int x1, .int x2, .null] [] σ Φ := Eq.trans rfl rfl
theorem c_92 {x0 : Nat} {x1 : Nat} {x2 : Nat} : Wc d 92 [.ref x0, .ref x1, .ref x2] σ Φ = Wp d 92 0 [.ref x0, .ref x1, .ref x2, .null, .null, .null, .null, .null, .null] [] σ Φ := Eq.trans rfl rfl
theorem c_93 {x0 : Nat} {x1 : Nat} {x2 : Nat} {x3 : Int32} {x4 : Int32} : Wc d 93 [.ref x0, .ref x1, .ref x2, .int x3, .int x4] σ Φ = Wp d 93 0 [.ref x0, .ref x1, .ref x2, .int x3, .int x4] [] σ Φ := Eq.trans rfl rfl
theorem c_94 {x0 : Nat} {x1 : Int32} {x2 : Int32} : Wc d 94 [.ref x0, .int x1, .int x2] σ Φ = Wp d 94 0 [.ref x0, .int x1, .int x2] [] σ Φ := Eq.trans rfl rfl
theorem c_95 {x0 : Nat} {x1 : Int32} {x2 : Int32} : Wc d 95 [.ref x0, .int x1, .int x2] σ Φ = Wp d 95 0 [.ref x0, .int x1, .int x2] [] σ Φ := Eq.trans rfl rfl
theorem c_96 {x0 : Nat} {x1 : Nat} {x2 : Int32} : Wc d 96 [.ref x0, .ref x1, .int x2] σ Φ = Wp d 96 0 [.ref x0, .ref x1, .int x2, .null, .null] [] σ Φ := Eq.trans rfl rfl
theorem c_97 {x0 : Nat} {x1 : Nat} {x2 : Int32} {x3 : Int32} {x4 : Int64} : Wc d 97 [.ref x0, .ref x1, .int x2, .int x3, .long x4] σ Φ = Wp d 97 0 [.ref x0, .ref x1, .int x2, .int x3, .long x4, .null, .null, .null, .null, .null] [] σ Φ := Eq.trans rfl rfl
theorem c_98 {x0 : Nat} {x1 : Int32} {x2 : Int32} : Wc d 98 [.ref x0, .int x1, .int x2] σ Φ = Wp d 98 0 [.ref x0, .int x1, .int x2] [] σ Φ := Eq.trans rfl rfl
theorem c_99 {x0 : Nat} {x1 : Nat} {x2 : Nat} {x3 : Int32} : Wc d 99 [.ref x0, .ref x1, .ref x2, .int x3] σ Φ = Wp d 99 0 [.ref x0, .ref x1, .ref x2, .int x3, .null, .null] [] σ Φ := Eq.trans rfl rfl
theorem c_100 {x0 : Nat} {x1 : Nat} {x2 : Nat} {x3 : Int32} : Wc d 100 [.ref x0, .ref x1, .ref x2, .int x3] σ Φ = Wp d 100 0 [.ref x0, .ref x1, .ref x2, .int x3, .null, .null, .null, .null, .null, .null, .null, .null, .null] [] σ Φ := Eq.trans rfl rfl
theorem c_101 {x0 : Nat} {x1 : Nat} {x2 : Int32} {x3 : Int32} : Wc d 101 [.ref x0, .ref x1, .int x2, .int x3] σ Φ = Wp d 101 0 [.ref x0, .ref x1, .int x2, .int x3] [] σ Φ := Eq.trans rfl rfl
theorem c_102 {x0 : Nat} {x1 : Nat} {x2 : Nat} {x3 : Int32} : Wc d 102 [.ref x0, .ref x1, .ref x2, .int x3] σ Φ = Wp d 102 0 [.ref x0, .ref x1, .ref x2, .int x3, .null, .null, .null, .null, .null, .null] [] σ Φ := Eq.trans rfl rfl
theorem c_103 {x0 : Nat} {x1 : Int32} : Wc d 103 [.ref x0, .int x1] σ Φ = Wp d 103 0 [.ref x0, .int x1, .null, .null] [] σ Φ := Eq.trans rfl rfl
theorem c_104 {x0 : Nat} {x1 : Int32} {x2 : Nat} : Wc d 104 [.ref x0, .int x1, .ref x2] σ Φ = Wp d 104 0 [.ref x0, .int x1, .ref x2] [] σ Φ := Eq.trans rfl rfl
theorem c_105 {x0 : Nat} {x1 : Nat} : Wc d 105 [.ref x0, .ref x1] σ Φ = Wp d 105 0 [.ref x0, .ref x1, .null, .null, .null, .null, .null] [] σ Φ := Eq.trans rfl rfl
theorem c_106 {x0 : Nat} {x1 : Nat} {x2 : Int32} : Wc d 106 [.ref x0, .ref x1, .int x2] σ Φ = Wp d 106 0 [.ref x0, .ref x1, .int x2, .null, .null] [] σ Φ := Eq.trans rfl rfl
theorem c_107 {x0 : Nat} {x1 : Int32} : Wc d 107 [.ref x0, .int x1] σ Φ = Wp d 107 0 [.ref x0, .int x1, .null] [] σ Φ := Eq.trans rfl rfl
theorem c_108 {x0 : Nat} {x1 : Int32} {x2 : Int32} : Wc d 108 [.ref x0, .int x1, .int x2] σ Φ = Wp d 108 0 [.ref x0, .int x1, .int x2, .null] [] σ Φ := Eq.trans rfl rfl
theorem c_109 {x0 : Nat} {x1 : Nat} {x2 : Int32} {x3 : Int32} : Wc d 109 [.ref x0, .ref x1, .int x2, .int x3] σ Φ = Wp d 109 0 [.ref x0, .ref x1, .int x2, .int x3] [] σ Φ := Eq.trans rfl rfl
theorem c_110 {x0 : Nat} {x1 : Int32} {x2 : Int32} {x3 : Int32} : Wc d 110 [.ref x0, .int x1, .int x2, .int x3] σ Φ = Wp d 110 0 [.ref x0, .int x1, .int x2, .int x3] [] σ Φ := Eq.trans rfl rfl
theorem c_111 {x0 : Nat} {x1 : Int32} {x2 : Int32} : Wc d 111 [.ref x0, .int x1, .int x2] σ Φ = Wp d 111 0 [.ref x0, .int x1, .int x2, .null] [] σ Φ := Eq.trans rfl rfl
theorem c_112 {x0 : Nat} {x1 : Int32} {x2 : Int32} : Wc d 112 [.ref x0, .int x1, .int x2] σ Φ = Wp d 112 0 [.ref x0, .int x1, .int x2] [] σ Φ := Eq.trans rfl rfl
theorem c_113 {x0 : Nat} {x1 : Int32} : Wc d 113 [.ref x0, .int x1] σ Φ = Wp d 113 0 [.ref x0, .int x1] [] σ Φ := Eq.trans rfl rfl
theorem c_114 {x0 : Nat} {x1 : Int32} : Wc d 114 [.ref x0, .int x1] σ Φ = Wp d 114 0 [.ref x0, .int x1] [] σ Φ := Eq.trans rfl rfl
theorem c_115 {x0 : Nat} {x1 : Int32} : Wc d 115 [.ref x0, .int x1] σ Φ = Wp d 115 0 [.ref x0, .int x1] [] σ Φ := Eq.trans rfl rfl
theorem c_116 {x0 : Nat} {x1 : Int32} : Wc d 116 [.ref x0, .int x1] σ Φ = Wp d 116 0 [.ref x0, .int x1] [] σ Φ := Eq.trans rfl rfl
theorem c_117 {x0 : Nat} {x1 : Nat} : Wc d 117 [.ref x0, .ref x1] σ Φ = Wp d 117 0 [.ref x0, .ref x1] [] σ Φ := Eq.trans rfl rfl
theorem c_118 {x0 : Nat} {x1 : Int32} : Wc d 118 [.ref x0, .int x1] σ Φ = Wp d 118 0 [.ref x0, .int x1] [] σ Φ := Eq.trans rfl rfl
theorem c_119 {x0 : Nat} : Wc d 119 [.ref x0] σ Φ = Wp d 119 0 [.ref x0, .null, .null, .null] [] σ Φ := Eq.trans rfl rfl
theorem c_120 {x0 : Nat} {x1 : Int32} : Wc d 120 [.ref x0, .int x1] σ Φ = Wp d 120 0 [.ref x0, .int x1] [] σ Φ := Eq.trans rfl rfl
theorem c_121 {x0 : Nat} {x1 : Int32} : Wc d 121 [.ref x0, .int x1] σ Φ = Wp d 121 0 [.ref x0, .int x1] [] σ Φ := Eq.trans rfl rfl
theorem c_122 {x0 : Nat} : Wc d 122 [.ref x0] σ Φ = Wp d 122 0 [.ref x0] [] σ Φ := Eq.trans rfl rfl
theorem c_123 {x0 : Nat} {x1 : Int32} : Wc d 123 [.ref x0, .int x1] σ Φ = Wp d 123 0 [.ref x0, .int x1, .null, .null] [] σ Φ := Eq.trans rfl rfl
theorem c_124 {x0 : Nat} {x1 : Int32} : Wc d 124 [.ref x0, .int x1] σ Φ = Wp d 124 0 [.ref x0, .int x1] [] σ Φ := Eq.trans rfl rfl
theorem c_125 {x0 : Nat} {x1 : Int32} : Wc d 125 [.ref x0, .int x1] σ Φ = Wp d 125 0 [.ref x0, .int x1] [] σ Φ := Eq.trans rfl rfl
theorem c_126 {x0 : Nat} {x1 : Int32} {x2 : Int32} {x3 : Int32} : Wc d 126 [.ref x0, .int x1, .int x2, .int x3] σ Φ = Wp d 126 0 [.ref x0, .int x1, .int x2, .int x3, .null, .null] [] σ Φ := Eq.trans rfl rfl
theorem c_127 {x0 : Nat} {x1 : Int32} {x2 : Int32} : Wc d 127 [.ref x0, .int x1, .int x2] σ Φ = Wp d 127 0 [.ref x0, .int x1, .int x2] [] σ Φ := Eq.trans rfl rfl
theorem c_128 {x0 : Nat} {x1 : Int32} : Wc d 128 [.ref x0, .int x1] σ Φ = Wp d 128 0 [.ref x0, .int x1] [] σ Φ := Eq.trans rfl rfl
theorem c_129 {x0 : Nat} {x1 : Int32} {x2 : Int32} : Wc d 129 [.ref x0, .int x1, .int x2] σ Φ = Wp d 129 0 [.ref x0, .int x1, .int x2, .null] [] σ Φ := Eq.trans rfl rfl
theorem c_130 {x0 : Nat} {x1 : Int32} {x2 : Int32} {x3 : Int32} {x4 : Int32} : Wc d 130 [.ref x0, .int x1, .int x2, .int x3, .int x4] σ Φ = Wp d 130 0 [.ref x0, .int x1, .int x2, .int x3, .int x4, .null, .null] [] σ Φ := Eq.trans rfl rfl
theorem c_131 {x0 : Nat} {x1 : Int32} {x2 : Int32} {x3 : Int32} : Wc d 131 [.ref x0, .int x1, .int x2, .int x3] σ Φ = Wp d 131 0 [.ref x0, .int x1, .int x2, .int x3, .null, .null] [] σ Φ := Eq.trans rfl rfl
theorem c_132 {x0 : Nat} {x1 : Int32} {x2 : Int32} : Wc d 132 [.ref x0, .int x1, .int x2] σ Φ = Wp d 132 0 [.ref x0, .int x1, .int x2] [] σ Φ := Eq.trans rfl rfl
theorem c_133 {x0 : Nat} {x1 : Int32} {x2 : Int32} : Wc d 133 [.ref x0, .int x1, .int x2] σ Φ = Wp d 133 0 [.ref x0, .int x1, .int x2] [] σ Φ := Eq.trans rfl rfl
theorem c_134 {x0 : Nat} {x1 : Int32} {x2 : Int32} : Wc d 134 [.ref x0, .int x1, .int x2] σ Φ = Wp d 134 0 [.ref x0, .int x1, .int x2, .null, .null] [] σ Φ := Eq.trans rfl rfl
theorem c_135 {x0 : Nat} {x1 : Int32} : Wc d 135 [.ref x0, .int x1] σ Φ = Wp d 135 0 [.ref x0, .int x1] [] σ Φ := Eq.trans rfl rfl
theorem c_136 {x0 : Nat} {x1 : Int32} : Wc d 136 [.ref x0, .int x1] σ Φ = Wp d 136 0 [.ref x0, .int x1, .null, .null, .null, .null, .null, .null] [] σ Φ := Eq.trans rfl rfl
theorem c_137 {x0 : Nat} {x1 : Int32} {x2 : Int32} : Wc d 137 [.ref x0, .int x1, .int x2] σ Φ = Wp d 137 0 [.ref x0, .int x1, .int x2] [] σ Φ := Eq.trans rfl rfl
theorem c_138 {x0 : Nat} {x1 : Int32} {x2 : Int32} : Wc d 138 [.ref x0, .int x1, .int x2] σ Φ = Wp d 138 0 [.ref x0, .int x1, .int x2] [] σ Φ := Eq.trans rfl rfl
theorem c_139 {x0 : Nat} {x1 : Int32} : Wc d 139 [.ref x0, .int x1] σ Φ = Wp d 139 0 [.ref x0, .int x1, .null, .null, .null, .null] [] σ Φ := Eq.trans rfl rfl
theorem c_140 {x0 : Nat} {x1 : Int32} {x2 : Int32} {x3 : Int32} : Wc d 140 [.ref x0, .int x1, .int x2, .int x3] σ Φ = Wp d 140 0 [.ref x0, .int x1, .int x2, .int x3, .null, .null] [] σ Φ := Eq.trans rfl rfl
theorem c_141 {x0 : Nat} {x1 : Int32} {x2 : Int32} : Wc d 141 [.ref x0, .int x1, .int x2] σ Φ = Wp d 141 0 [.ref x0, .int x1, .int x2, .null, .null, .null] [] σ Φ := Eq.trans rfl rfl
theorem c_142 {x0 : Nat} {x1 : Int32} {x2 : Int32} : Wc d 142 [.ref x0, .int x1, .int x2] σ Φ = Wp d 142 0 [.ref x0, .int x1, .int x2, .null, .null] [] σ Φ := Eq.trans rfl rfl
theorem c_143 {x0 : Nat} {x1 : Int32} : Wc d 143 [.ref x0, .int x1] σ Φ = Wp d 143 0 [.ref x0, .int x1, .null, .null] [] σ Φ := Eq.trans rfl rfl
theorem c_144 {x0 : Nat} {x1 : Int32} : Wc d 144 [.ref x0, .int x1] σ Φ = Wp d 144 0 [.ref x0, .int x1, .null, .null] [] σ Φ := Eq.trans rfl rfl
theorem c_145 {x0 : Int32} : Wc d 145 [.int x0] σ Φ = Wp d 145 0 [.int x0, .null, .null] [] σ Φ := Eq.trans rfl rfl
theorem c_146 {x0 : Nat} {x1 : Int32} : Wc d 146 [.ref x0, .int x1] σ Φ = Wp d 146 0 [.ref x0, .int x1] [] σ Φ := Eq.trans rfl rfl
theorem c_147 {x0 : Nat} : Wc d 147 [.ref x0] σ Φ = Wp d 147 0 [.ref x0] [] σ Φ := Eq.trans rfl rfl
theorem c_148 {x0 : Nat} {x1 : Int32} {x2 : Int32} : Wc d 148 [.ref x0, .int x1, .int x2] σ Φ = Wp d 148 0 [.ref x0, .int x1, .int x2] [] σ Φ := Eq.trans rfl rfl
theorem c_149 {x0 : Int32} : Wc d 149 [.int x0] σ Φ = Wp d 149 0 [.int x0, .null, .null] [] σ Φ := Eq.trans rfl rfl
theorem c_150 {x0 : Nat} {x1 : Int32} {x2 : Int32} : Wc d 150 [.ref x0, .int x1, .int x2] σ Φ = Wp d 150 0 [.ref x0, .int x1, .int x2, .null, .null, .null, .null, .null] [] σ Φ := Eq.trans rfl rfl
theorem c_151 {x0 : Nat} {x1 : Int32} : Wc d 151 [.ref x0, .int x1] σ Φ = Wp d 151 0 [.ref x0, .int x1, .null, .null, .null, .null, .null, .null, .null, .null, .null, .null] [] σ Φ := Eq.trans rfl rfl
theorem c_152 {x0 : Nat} {x1 : Int32} {x2 : Int32} {x3 : Int32} : Wc d 152 [.ref x0, .int x1, .int x2, .int x3] σ Φ = Wp d 152 0 [.ref x0, .int x1, .int x2, .int x3, .null, .null, .null, .null, .null, .null, .null] [] σ Φ := Eq.trans rfl rfl
theorem c_153 {x0 : Nat} {x1 : Int32} : Wc d 153 [.ref x0, .int x1] σ Φ = Wp d 153 0 [.ref x0, .int x1, .null, .null, .null, .null] [] σ Φ := Eq.trans rfl rfl
theorem c_154 {x0 : Nat} {x1 : Int32} : Wc d 154 [.ref x0, .int x1] σ Φ = Wp d 154 0 [.ref x0, .int x1, .null] [] σ Φ := Eq.trans rfl rfl
theorem c_155 {x0 : Nat} {x1 : Int32} {x2 : Int32} {x3 : Int32} {x4 : Int32} : Wc d 155 [.ref x0, .int x1, .int x2, .int x3, .int x4] σ Φ = Wp d 155 0 [.ref x0, .int x1, .int x2, .int x3, .int x4, .null] [] σ Φ := Eq.trans rfl rfl
theorem c_156 {x0 : Nat} {x1 : Int32} : Wc d 156 [.ref x0, .int x1] σ Φ = Wp d 156 0 [.ref x0, .int x1] [] σ Φ := Eq.trans rfl rfl
theorem c_157 {x0 : Nat} {x1 : Int32} {x2 : Int32} : Wc d 157 [.ref x0, .int x1, .int x2] σ Φ = Wp d 157 0 [.ref x0, .int x1, .int x2] [] σ Φ := Eq.trans rfl rfl
theorem c_158 {x0 : Nat} {x1 : Int32} : Wc d 158 [.ref x0, .int x1] σ Φ = Wp d 158 0 [.ref x0, .int x1] [] σ Φ := Eq.trans rfl rfl
theorem c_159 {x0 : Nat} {x1 : Int32} {x2 : Int32} {x3 : Int32} : Wc d 159 [.ref x0, .int x1, .int x2, .int x3] σ Φ = Wp d 159 0 [.ref x0, .int x1, .int x2, .int x3, .null, .null] [] σ Φ := Eq.trans rfl rfl
theorem c_160 {x0 : Nat} {x1 : Int32} {x2 : Int32} : Wc d 160 [.ref x0, .int x1, .int x2] σ Φ = Wp d 160 0 [.ref x0, .int x1, .int x2] [] σ Φ := Eq.trans rfl rfl
theorem c_161 {x0 : Nat} {x1 : Int32} {x2 : Int32} {x3 : Int32} : Wc d 161 [.ref x0, .int x1, .int x2, .int x3] σ Φ = Wp d 161 0 [.ref x0, .int x1, .int x2, .int x3] [] σ Φ := Eq.trans rfl rfl
theorem c_162 {x0 : Int32} : Wc d 162 [.int x0] σ Φ = Wp d 162 0 [.int x0] [] σ Φ := Eq.trans rfl rfl
theorem c_163 {x0 : Nat} {x1 : Int32} {x2 : Int32} {x3 : Int32} : Wc d 163 [.ref x0, .int x1, .int x2, .int x3] σ Φ = Wp d 163 0 [.ref x0, .int x1, .int x2, .int x3, .null] [] σ Φ := Eq.trans rfl rfl
theorem c_164 {x0 : Nat} {x1 : Int32} {x2 : Int32} : Wc d 164 [.ref x0, .int x1, .int x2] σ Φ = Wp d 164 0 [.ref x0, .int x1, .int x2, .null, .null] [] σ Φ := Eq.trans rfl rfl
theorem c_165 {x0 : Nat} {x1 : Int32} {x2 : Int32} : Wc d 165 [.ref x0, .int x1, .int x2] σ Φ = Wp d 165 0 [.ref x0, .int x1, .int x2] [] σ Φ := Eq.trans rfl rfl
theorem c_166 {x0 : Nat} {x1 : Int32} {x2 : Int32} {x3 : Int32} : Wc d 166 [.ref x0, .int x1, .int x2, .int x3] σ Φ = Wp d 166 0 [.ref x0, .int x1, .int x2, .int x3] [] σ Φ := Eq.trans rfl rfl
theorem c_167 {x0 : Nat} {x1 : Int32} {x2 : Int32} {x3 : Int32} : Wc d 167 [.ref x0, .int x1, .int x2, .int x3] σ Φ = Wp d 167 0 [.ref x0, .int x1, .int x2, .int x3, .null, .null, .null] [] σ Φ := Eq.trans rfl rfl
theorem c_168 {x0 : Nat} {x1 : Int32} {x2 : Int32} : Wc d 168 [.ref x0, .int x1, .int x2] σ Φ = Wp d 168 0 [.ref x0, .int x1, .int x2] [] σ Φ := Eq.trans rfl rfl
theorem c_169 {x0 : Nat} {x1 : Int32} {x2 : Int32} {x3 : Int32} : Wc d 169 [.ref x0, .int x1, .int x2, .int x3] σ Φ = Wp d 169 0 [.ref x0, .int x1, .int x2, .int x3, .null, .null, .null] [] σ Φ := Eq.trans rfl rfl
theorem c_170 {x0 : Nat} {x1 : Int32} {x2 : Int32} : Wc d 170 [.ref x0, .int x1, .int x2] σ Φ = Wp d 170 0 [.ref x0, .int x1, .int x2, .null, .null, .null] [] σ Φ := Eq.trans rfl rfl
theorem c_171 {x0 : Nat} {x1 : Int32} {x2 : Int32} : Wc d 171 [.ref x0, .int x1, .int x2] σ Φ = Wp d 171 0 [.ref x0, .int x1, .int x2, .null] [] σ Φ := Eq.trans rfl rfl
theorem c_172 {x0 : Nat} {x1 : Int32} {x2 : Int32} : Wc d 172 [.ref x0, .int x1, .int x2] σ Φ = Wp d 172 0 [.ref x0, .int x1, .int x2, .null, .null, .null] [] σ Φ := Eq.trans rfl rfl
theorem c_173 {x0 : Nat} {x1 : Int32} {x2 : Int32} : Wc d 173 [.ref x0, .int x1, .int x2] σ Φ = Wp d 173 0 [.ref x0, .int x1, .int x2] [] σ Φ := Eq.trans rfl rfl
theorem c_174 {x0 : Nat} {x1 : Int32} {x2 : Int32} : Wc d 174 [.ref x0, .int x1, .int x2] σ Φ = Wp d 174 0 [.ref x0, .int x1, .int x2, .null, .null, .null] [] σ Φ := Eq.trans rfl rfl
theorem c_175 {x0 : Nat} {x1 : Int32} {x2 : Int32} : Wc d 175 [.ref x0, .int x1, .int x2] σ Φ = Wp d 175 0 [.ref x0, .int x1, .int x2] [] σ Φ := Eq.trans rfl rfl
theorem c_176 {x0 : Nat} {x1 : Int32} {x2 : Int32} : Wc d 176 [.ref x0, .int x1, .int x2] σ Φ = Wp d 176 0 [.ref x0, .int x1, .int x2, .null, .null, .null, .null, .null, .null] [] σ Φ := Eq.trans rfl rfl
theorem c_177 {x0 : Nat} {x1 : Int32} : Wc d 177 [.ref x0, .int x1] σ Φ = Wp d 177 0 [.ref x0, .int x1, .null] [] σ Φ := Eq.trans rfl rfl
theorem c_178 {x0 : Nat} {x1 : Int32} {x2 : Int32} : Wc d 178 [.ref x0, .int x1, .int x2] σ Φ = Wp d 178 0 [.ref x0, .int x1, .int x2, .null, .null, .null, .null] [] σ Φ := Eq.trans rfl rfl
theorem c_179 {x0 : Nat} {x1 : Int32} {x2 : Int32} {x3 : Int32} : Wc d 179 [.ref x0, .int x1, .int x2, .int x3] σ Φ = Wp d 179 0 [.ref x0, .int x1, .int x2, .int x3, .null] [] σ Φ := Eq.trans rfl rfl
theorem c_180 {x0 : Nat} {x1 : Int32} {x2 : Int32} : Wc d 180 [.ref x0, .int x1, .int x2] σ Φ = Wp d 180 0 [.ref x0, .int x1, .int x2, .null, .null, .null] [] σ Φ := Eq.trans rfl rfl
theorem c_181 {x0 : Nat} {x1 : Int32} {x2 : Int32} : Wc d 181 [.ref x0, .int x1, .int x2] σ Φ = Wp d 181 0 [.ref x0, .int x1, .int x2] [] σ Φ := Eq.trans rfl rfl
theorem c_182 {x0 : Nat} {x1 : Int32} : Wc d 182 [.ref x0, .int x1] σ Φ = Wp d 182 0 [.ref x0, .int x1, .null] [] σ Φ := Eq.trans rfl rfl
theorem c_183 {x0 : Nat} {x1 : Int32} : Wc d 183 [.ref x0, .int x1] σ Φ = Wp d 183 0 [.ref x0, .int x1, .null, .null] [] σ Φ := Eq.trans rfl rfl
theorem c_184 {x0 : Nat} {x1 : Int32} : Wc d 184 [.ref x0, .int x1] σ Φ = Wp d 184 0 [.ref x0, .int x1] [] σ Φ := Eq.trans rfl rfl
theorem c_185 {x0 : Nat} {x1 : Int32} : Wc d 185 [.ref x0, .int x1] σ Φ = Wp d 185 0 [.ref x0, .int x1] [] σ Φ := Eq.trans rfl rfl
theorem c_186 {x0 : Nat} {x1 : Int32} : Wc d 186 [.ref x0, .int x1] σ Φ = Wp d 186 0 [.ref x0, .int x1] [] σ Φ := Eq.trans rfl rfl
end CE

def mX9_init : MI := (yX9_init, cX9_init, 2, none)
theorem eX9_init_0 : decode (mcode mX9_init) 0 = .ok (.aload_n 0, 1) := by decide +kernel
theorem eX9_init_1 : decode (mcode mX9_init) 1 = .ok (.invokespecial 3, 3) := by decide +kernel
theorem eX9_init_4 : decode (mcode mX9_init) 4 = .ok (.aload_n 0, 1) := by decide +kernel
theorem eX9_init_5 : decode (mcode mX9_init) 5 = .ok (.bipush 8, 2) := by decide +kernel
theorem eX9_init_7 : decode (mcode mX9_init) 7 = .ok (.newarray .int, 2) := by decide +kernel
theorem eX9_init_9 : decode (mcode mX9_init) 9 = .ok (.putfield 9, 3) := by decide +kernel
theorem eX9_init_12 : decode (mcode mX9_init) 12 = .ok (.aload_n 0, 1) := by decide +kernel
theorem eX9_init_13 : decode (mcode mX9_init) 13 = .ok (.bipush 8, 2) := by decide +kernel
theorem eX9_init_15 : decode (mcode mX9_init) 15 = .ok (.newarray .int, 2) := by decide +kernel
theorem eX9_init_17 : decode (mcode mX9_init) 17 = .ok (.putfield 15, 3) := by decide +kernel
theorem eX9_init_20 : decode (mcode mX9_init) 20 = .ok (.aload_n 0, 1) := by decide +kernel
theorem eX9_init_21 : decode (mcode mX9_init) 21 = .ok (.sipush 480, 3) := by decide +kernel
theorem eX9_init_24 : decode (mcode mX9_init) 24 = .ok (.newarray .int, 2) := by decide +kernel
theorem eX9_init_26 : decode (mcode mX9_init) 26 = .ok (.putfield 18, 3) := by decide +kernel
theorem eX9_init_29 : decode (mcode mX9_init) 29 = .ok (.iconst 0, 1) := by decide +kernel
theorem eX9_init_30 : decode (mcode mX9_init) 30 = .ok (.istore_n 1, 1) := by decide +kernel
theorem eX9_init_31 : decode (mcode mX9_init) 31 = .ok (.iload_n 1, 1) := by decide +kernel
theorem eX9_init_32 : decode (mcode mX9_init) 32 = .ok (.bipush 8, 2) := by decide +kernel
theorem eX9_init_34 : decode (mcode mX9_init) 34 = .ok (.if_icmp .ge 16, 3) := by decide +kernel
theorem eX9_init_37 : decode (mcode mX9_init) 37 = .ok (.aload_n 0, 1) := by decide +kernel
theorem eX9_init_38 : decode (mcode mX9_init) 38 = .ok (.getfield 15, 3) := by decide +kernel
theorem eX9_init_41 : decode (mcode mX9_init) 41 = .ok (.iload_n 1, 1) := by decide +kernel
theorem eX9_init_42 : decode (mcode mX9_init) 42 = .ok (.iconst (-1), 1) := by decide +kernel
theorem eX9_init_43 : decode (mcode mX9_init) 43 = .ok (.iastore, 1) := by decide +kernel
theorem eX9_init_44 : decode (mcode mX9_init) 44 = .ok (.iinc 1 1, 3) := by decide +kernel
theorem eX9_init_47 : decode (mcode mX9_init) 47 = .ok (.goto (-16), 3) := by decide +kernel
theorem eX9_init_50 : decode (mcode mX9_init) 50 = .ok (.return_, 1) := by decide +kernel
theorem okX9_init : OKm mX9_init 0 := ⟨lw_in 91 (by decide +kernel) rfl, lw_in 122 (by decide +kernel) rfl, by decide +kernel, by decide +kernel, by decide⟩
def mX10_init : MI := (yX10_init, cX10_init, 1, none)
theorem eX10_init_0 : decode (mcode mX10_init) 0 = .ok (.aload_n 0, 1) := by decide +kernel
theorem eX10_init_1 : decode (mcode mX10_init) 1 = .ok (.invokespecial 3, 3) := by decide +kernel
theorem eX10_init_4 : decode (mcode mX10_init) 4 = .ok (.aload_n 0, 1) := by decide +kernel
theorem eX10_init_5 : decode (mcode mX10_init) 5 = .ok (.sipush 600, 3) := by decide +kernel
theorem eX10_init_8 : decode (mcode mX10_init) 8 = .ok (.newarray .byte, 2) := by decide +kernel
theorem eX10_init_10 : decode (mcode mX10_init) 10 = .ok (.putfield 9, 3) := by decide +kernel
theorem eX10_init_13 : decode (mcode mX10_init) 13 = .ok (.return_, 1) := by decide +kernel
theorem okX10_init : OKm mX10_init 0 := ⟨lw_in 92 (by decide +kernel) rfl, lw_in 139 (by decide +kernel) rfl, by decide +kernel, by decide +kernel, by decide⟩
def mX1_init : MI := (yX1_init, cX1_init, 1, none)
theorem eX1_init_0 : decode (mcode mX1_init) 0 = .ok (.aload_n 0, 1) := by decide +kernel
theorem eX1_init_1 : decode (mcode mX1_init) 1 = .ok (.invokespecial 3, 3) := by decide +kernel
theorem eX1_init_4 : decode (mcode mX1_init) 4 = .ok (.aload_n 0, 1) := by decide +kernel
theorem eX1_init_5 : decode (mcode mX1_init) 5 = .ok (.bipush 10, 2) := by decide +kernel
theorem eX1_init_7 : decode (mcode mX1_init) 7 = .ok (.newarray .int, 2) := by decide +kernel
theorem eX1_init_9 : decode (mcode mX1_init) 9 = .ok (.putfield 9, 3) := by decide +kernel
theorem eX1_init_12 : decode (mcode mX1_init) 12 = .ok (.aload_n 0, 1) := by decide +kernel
theorem eX1_init_13 : decode (mcode mX1_init) 13 = .ok (.bipush 10, 2) := by decide +kernel
theorem eX1_init_15 : decode (mcode mX1_init) 15 = .ok (.newarray .int, 2) := by decide +kernel
theorem eX1_init_17 : decode (mcode mX1_init) 17 = .ok (.putfield 15, 3) := by decide +kernel
theorem eX1_init_20 : decode (mcode mX1_init) 20 = .ok (.aload_n 0, 1) := by decide +kernel
theorem eX1_init_21 : decode (mcode mX1_init) 21 = .ok (.bipush 10, 2) := by decide +kernel
theorem eX1_init_23 : decode (mcode mX1_init) 23 = .ok (.newarray .boolean, 2) := by decide +kernel
theorem eX1_init_25 : decode (mcode mX1_init) 25 = .ok (.putfield 18, 3) := by decide +kernel
theorem eX1_init_28 : decode (mcode mX1_init) 28 = .ok (.return_, 1) := by decide +kernel
theorem okX1_init : OKm mX1_init 0 := ⟨lw_in 93 (by decide +kernel) rfl, lw_in 165 (by decide +kernel) rfl, by decide +kernel, by decide +kernel, by decide⟩
def mX6_init : MI := (yX6_init, cX6_init, 1, none)
theorem eX6_init_0 : decode (mcode mX6_init) 0 = .ok (.aload_n 0, 1) := by decide +kernel
theorem eX6_init_1 : decode (mcode mX6_init) 1 = .ok (.invokespecial 3, 3) := by decide +kernel
theorem eX6_init_4 : decode (mcode mX6_init) 4 = .ok (.aload_n 0, 1) := by decide +kernel
theorem eX6_init_5 : decode (mcode mX6_init) 5 = .ok (.bipush 20, 2) := by decide +kernel
theorem eX6_init_7 : decode (mcode mX6_init) 7 = .ok (.newarray .int, 2) := by decide +kernel
theorem eX6_init_9 : decode (mcode mX6_init) 9 = .ok (.putfield 9, 3) := by decide +kernel
theorem eX6_init_12 : decode (mcode mX6_init) 12 = .ok (.aload_n 0, 1) := by decide +kernel
theorem eX6_init_13 : decode (mcode mX6_init) 13 = .ok (.bipush 20, 2) := by decide +kernel
theorem eX6_init_15 : decode (mcode mX6_init) 15 = .ok (.newarray .int, 2) := by decide +kernel
theorem eX6_init_17 : decode (mcode mX6_init) 17 = .ok (.putfield 15, 3) := by decide +kernel
theorem eX6_init_20 : decode (mcode mX6_init) 20 = .ok (.aload_n 0, 1) := by decide +kernel
theorem eX6_init_21 : decode (mcode mX6_init) 21 = .ok (.bipush 20, 2) := by decide +kernel
theorem eX6_init_23 : decode (mcode mX6_init) 23 = .ok (.newarray .int, 2) := by decide +kernel
theorem eX6_init_25 : decode (mcode mX6_init) 25 = .ok (.putfield 18, 3) := by decide +kernel
theorem eX6_init_28 : decode (mcode mX6_init) 28 = .ok (.aload_n 0, 1) := by decide +kernel
theorem eX6_init_29 : decode (mcode mX6_init) 29 = .ok (.bipush 20, 2) := by decide +kernel
theorem eX6_init_31 : decode (mcode mX6_init) 31 = .ok (.newarray .int, 2) := by decide +kernel
theorem eX6_init_33 : decode (mcode mX6_init) 33 = .ok (.putfield 21, 3) := by decide +kernel
theorem eX6_init_36 : decode (mcode mX6_init) 36 = .ok (.return_, 1) := by decide +kernel
theorem okX6_init : OKm mX6_init 0 := ⟨lw_in 94 (by decide +kernel) rfl, lw_in 195 (by decide +kernel) rfl, by decide +kernel, by decide +kernel, by decide⟩
def mX2_init : MI := (yX2_init, cX2_init, 1, none)
theorem eX2_init_0 : decode (mcode mX2_init) 0 = .ok (.aload_n 0, 1) := by decide +kernel
theorem eX2_init_1 : decode (mcode mX2_init) 1 = .ok (.invokespecial 3, 3) := by decide +kernel
theorem eX2_init_4 : decode (mcode mX2_init) 4 = .ok (.aload_n 0, 1) := by decide +kernel
theorem eX2_init_5 : decode (mcode mX2_init) 5 = .ok (.bipush 20, 2) := by decide +kernel
theorem eX2_init_7 : decode (mcode mX2_init) 7 = .ok (.newarray .int, 2) := by decide +kernel
theorem eX2_init_9 : decode (mcode mX2_init) 9 = .ok (.putfield 9, 3) := by decide +kernel
theorem eX2_init_12 : decode (mcode mX2_init) 12 = .ok (.aload_n 0, 1) := by decide +kernel
theorem eX2_init_13 : decode (mcode mX2_init) 13 = .ok (.bipush 20, 2) := by decide +kernel
theorem eX2_init_15 : decode (mcode mX2_init) 15 = .ok (.newarray .int, 2) := by decide +kernel
theorem eX2_init_17 : decode (mcode mX2_init) 17 = .ok (.putfield 15, 3) := by decide +kernel
theorem eX2_init_20 : decode (mcode mX2_init) 20 = .ok (.aload_n 0, 1) := by decide +kernel
theorem eX2_init_21 : decode (mcode mX2_init) 21 = .ok (.bipush 20, 2) := by decide +kernel
theorem eX2_init_23 : decode (mcode mX2_init) 23 = .ok (.newarray .int, 2) := by decide +kernel
theorem eX2_init_25 : decode (mcode mX2_init) 25 = .ok (.putfield 18, 3) := by decide +kernel
theorem eX2_init_28 : decode (mcode mX2_init) 28 = .ok (.aload_n 0, 1) := by decide +kernel
theorem eX2_init_29 : decode (mcode mX2_init) 29 = .ok (.bipush 20, 2) := by decide +kernel
theorem eX2_init_31 : decode (mcode mX2_init) 31 = .ok (.newarray .int, 2) := by decide +kernel
theorem eX2_init_33 : decode (mcode mX2_init) 33 = .ok (.putfield 21, 3) := by decide +kernel
theorem eX2_init_36 : decode (mcode mX2_init) 36 = .ok (.return_, 1) := by decide +kernel
theorem okX2_init : OKm mX2_init 0 := ⟨lw_in 95 (by decide +kernel) rfl, lw_in 224 (by decide +kernel) rfl, by decide +kernel, by decide +kernel, by decide⟩
def mX5_init : MI := (yX5_init, cX5_init, 1, none)
theorem eX5_init_0 : decode (mcode mX5_init) 0 = .ok (.aload_n 0, 1) := by decide +kernel
theorem eX5_init_1 : decode (mcode mX5_init) 1 = .ok (.invokespecial 3, 3) := by decide +kernel
theorem eX5_init_4 : decode (mcode mX5_init) 4 = .ok (.aload_n 0, 1) := by decide +kernel
theorem eX5_init_5 : decode (mcode mX5_init) 5 = .ok (.bipush 96, 2) := by decide +kernel
theorem eX5_init_7 : decode (mcode mX5_init) 7 = .ok (.newarray .int, 2) := by decide +kernel
theorem eX5_init_9 : decode (mcode mX5_init) 9 = .ok (.putfield 9, 3) := by decide +kernel
theorem eX5_init_12 : decode (mcode mX5_init) 12 = .ok (.aload_n 0, 1) := by decide +kernel
theorem eX5_init_13 : decode (mcode mX5_init) 13 = .ok (.bipush 9, 2) := by decide +kernel
theorem eX5_init_15 : decode (mcode mX5_init) 15 = .ok (.newarray .int, 2) := by decide +kernel
theorem eX5_init_17 : decode (mcode mX5_init) 17 = .ok (.putfield 15, 3) := by decide +kernel
theorem eX5_init_20 : decode (mcode mX5_init) 20 = .ok (.aload_n 0, 1) := by decide +kernel
theorem eX5_init_21 : decode (mcode mX5_init) 21 = .ok (.bipush 12, 2) := by decide +kernel
theorem eX5_init_23 : decode (mcode mX5_init) 23 = .ok (.newarray .int, 2) := by decide +kernel
theorem eX5_init_25 : decode (mcode mX5_init) 25 = .ok (.putfield 18, 3) := by decide +kernel
theorem eX5_init_28 : decode (mcode mX5_init) 28 = .ok (.aload_n 0, 1) := by decide +kernel
theorem eX5_init_29 : decode (mcode mX5_init) 29 = .ok (.bipush 12, 2) := by decide +kernel
theorem eX5_init_31 : decode (mcode mX5_init) 31 = .ok (.newarray .int, 2) := by decide +kernel
theorem eX5_init_33 : decode (mcode mX5_init) 33 = .ok (.putfield 21, 3) := by decide +kernel
theorem eX5_init_36 : decode (mcode mX5_init) 36 = .ok (.aload_n 0, 1) := by decide +kernel
theorem eX5_init_37 : decode (mcode mX5_init) 37 = .ok (.bipush 12, 2) := by decide +kernel
theorem eX5_init_39 : decode (mcode mX5_init) 39 = .ok (.newarray .int, 2) := by decide +kernel
theorem eX5_init_41 : decode (mcode mX5_init) 41 = .ok (.putfield 24, 3) := by decide +kernel
theorem eX5_init_44 : decode (mcode mX5_init) 44 = .ok (.return_, 1) := by decide +kernel
theorem okX5_init : OKm mX5_init 0 := ⟨lw_in 97 (by decide +kernel) rfl, lw_in 259 (by decide +kernel) rfl, by decide +kernel, by decide +kernel, by decide⟩
def mX3_init : MI := (yX3_init, cX3_init, 1, none)
theorem eX3_init_0 : decode (mcode mX3_init) 0 = .ok (.aload_n 0, 1) := by decide +kernel
theorem eX3_init_1 : decode (mcode mX3_init) 1 = .ok (.invokespecial 3, 3) := by decide +kernel
theorem eX3_init_4 : decode (mcode mX3_init) 4 = .ok (.aload_n 0, 1) := by decide +kernel
theorem eX3_init_5 : decode (mcode mX3_init) 5 = .ok (.bipush 12, 2) := by decide +kernel
theorem eX3_init_7 : decode (mcode mX3_init) 7 = .ok (.newarray .int, 2) := by decide +kernel
theorem eX3_init_9 : decode (mcode mX3_init) 9 = .ok (.putfield 9, 3) := by decide +kernel
theorem eX3_init_12 : decode (mcode mX3_init) 12 = .ok (.aload_n 0, 1) := by decide +kernel
theorem eX3_init_13 : decode (mcode mX3_init) 13 = .ok (.bipush 12, 2) := by decide +kernel
theorem eX3_init_15 : decode (mcode mX3_init) 15 = .ok (.newarray .int, 2) := by decide +kernel
theorem eX3_init_17 : decode (mcode mX3_init) 17 = .ok (.putfield 15, 3) := by decide +kernel
theorem eX3_init_20 : decode (mcode mX3_init) 20 = .ok (.aload_n 0, 1) := by decide +kernel
theorem eX3_init_21 : decode (mcode mX3_init) 21 = .ok (.bipush 12, 2) := by decide +kernel
theorem eX3_init_23 : decode (mcode mX3_init) 23 = .ok (.newarray .int, 2) := by decide +kernel
theorem eX3_init_25 : decode (mcode mX3_init) 25 = .ok (.putfield 18, 3) := by decide +kernel
theorem eX3_init_28 : decode (mcode mX3_init) 28 = .ok (.aload_n 0, 1) := by decide +kernel
theorem eX3_init_29 : decode (mcode mX3_init) 29 = .ok (.bipush 12, 2) := by decide +kernel
theorem eX3_init_31 : decode (mcode mX3_init) 31 = .ok (.newarray .int, 2) := by decide +kernel
theorem eX3_init_33 : decode (mcode mX3_init) 33 = .ok (.putfield 21, 3) := by decide +kernel
theorem eX3_init_36 : decode (mcode mX3_init) 36 = .ok (.aload_n 0, 1) := by decide +kernel
theorem eX3_init_37 : decode (mcode mX3_init) 37 = .ok (.bipush 12, 2) := by decide +kernel
theorem eX3_init_39 : decode (mcode mX3_init) 39 = .ok (.newarray .int, 2) := by decide +kernel
theorem eX3_init_41 : decode (mcode mX3_init) 41 = .ok (.putfield 24, 3) := by decide +kernel
theorem eX3_init_44 : decode (mcode mX3_init) 44 = .ok (.aload_n 0, 1) := by decide +kernel
theorem eX3_init_45 : decode (mcode mX3_init) 45 = .ok (.bipush 12, 2) := by decide +kernel
theorem eX3_init_47 : decode (mcode mX3_init) 47 = .ok (.newarray .int, 2) := by decide +kernel
theorem eX3_init_49 : decode (mcode mX3_init) 49 = .ok (.putfield 27, 3) := by decide +kernel
theorem eX3_init_52 : decode (mcode mX3_init) 52 = .ok (.aload_n 0, 1) := by decide +kernel
theorem eX3_init_53 : decode (mcode mX3_init) 53 = .ok (.bipush 12, 2) := by decide +kernel
theorem eX3_init_55 : decode (mcode mX3_init) 55 = .ok (.newarray .int, 2) := by decide +kernel
theorem eX3_init_57 : decode (mcode mX3_init) 57 = .ok (.putfield 30, 3) := by decide +kernel
theorem eX3_init_60 : decode (mcode mX3_init) 60 = .ok (.aload_n 0, 1) := by decide +kernel
theorem eX3_init_61 : decode (mcode mX3_init) 61 = .ok (.new 33, 3) := by decide +kernel
theorem eX3_init_64 : decode (mcode mX3_init) 64 = .ok (.dup, 1) := by decide +kernel
theorem eX3_init_65 : decode (mcode mX3_init) 65 = .ok (.invokespecial 35, 3) := by decide +kernel
theorem eX3_init_68 : decode (mcode mX3_init) 68 = .ok (.putfield 36, 3) := by decide +kernel
theorem eX3_init_71 : decode (mcode mX3_init) 71 = .ok (.return_, 1) := by decide +kernel
theorem okX3_init : OKm mX3_init 0 := ⟨lw_in 96 (by decide +kernel) rfl, lw_in 253 (by decide +kernel) rfl, by decide +kernel, by decide +kernel, by decide⟩
def mX8_init : MI := (yX8_init, cX8_init, 6, none)
theorem eX8_init_0 : decode (mcode mX8_init) 0 = .ok (.aload_n 0, 1) := by decide +kernel
theorem eX8_init_1 : decode (mcode mX8_init) 1 = .ok (.invokespecial 3, 3) := by decide +kernel
theorem eX8_init_4 : decode (mcode mX8_init) 4 = .ok (.aload_n 0, 1) := by decide +kernel
theorem eX8_init_5 : decode (mcode mX8_init) 5 = .ok (.aload_n 1, 1) := by decide +kernel
theorem eX8_init_6 : decode (mcode mX8_init) 6 = .ok (.putfield 9, 3) := by decide +kernel
theorem eX8_init_9 : decode (mcode mX8_init) 9 = .ok (.aload_n 0, 1) := by decide +kernel
theorem eX8_init_10 : decode (mcode mX8_init) 10 = .ok (.aload_n 2, 1) := by decide +kernel
theorem eX8_init_11 : decode (mcode mX8_init) 11 = .ok (.putfield 15, 3) := by decide +kernel
theorem eX8_init_14 : decode (mcode mX8_init) 14 = .ok (.aload_n 0, 1) := by decide +kernel
theorem eX8_init_15 : decode (mcode mX8_init) 15 = .ok (.aload_n 3, 1) := by decide +kernel
theorem eX8_init_16 : decode (mcode mX8_init) 16 = .ok (.putfield 19, 3) := by decide +kernel
theorem eX8_init_19 : decode (mcode mX8_init) 19 = .ok (.aload_n 0, 1) := by decide +kernel
theorem eX8_init_20 : decode (mcode mX8_init) 20 = .ok (.aload 4, 2) := by decide +kernel
theorem eX8_init_22 : decode (mcode mX8_init) 22 = .ok (.putfield 23, 3) := by decide +kernel
theorem eX8_init_25 : decode (mcode mX8_init) 25 = .ok (.aload_n 0, 1) := by decide +kernel
theorem eX8_init_26 : decode (mcode mX8_init) 26 = .ok (.aload 5, 2) := by decide +kernel
theorem eX8_init_28 : decode (mcode mX8_init) 28 = .ok (.putfield 27, 3) := by decide +kernel
theorem eX8_init_31 : decode (mcode mX8_init) 31 = .ok (.return_, 1) := by decide +kernel
theorem okX8_init : OKm mX8_init 5 := ⟨lw_in 98 (by decide +kernel) rfl, lw_in 345 (by decide +kernel) rfl, by decide +kernel, by decide +kernel, by decide⟩
def mX7_init : MI := (yX7_init, cX7_init, 2, none)
theorem eX7_init_0 : decode (mcode mX7_init) 0 = .ok (.aload_n 0, 1) := by decide +kernel
theorem eX7_init_1 : decode (mcode mX7_init) 1 = .ok (.invokespecial 3, 3) := by decide +kernel
theorem eX7_init_4 : decode (mcode mX7_init) 4 = .ok (.aload_n 0, 1) := by decide +kernel
theorem eX7_init_5 : decode (mcode mX7_init) 5 = .ok (.bipush 12, 2) := by decide +kernel
theorem eX7_init_7 : decode (mcode mX7_init) 7 = .ok (.newarray .int, 2) := by decide +kernel
theorem eX7_init_9 : decode (mcode mX7_init) 9 = .ok (.putfield 9, 3) := by decide +kernel
theorem eX7_init_12 : decode (mcode mX7_init) 12 = .ok (.aload_n 0, 1) := by decide +kernel
theorem eX7_init_13 : decode (mcode mX7_init) 13 = .ok (.bipush 12, 2) := by decide +kernel
theorem eX7_init_15 : decode (mcode mX7_init) 15 = .ok (.newarray .int, 2) := by decide +kernel
theorem eX7_init_17 : decode (mcode mX7_init) 17 = .ok (.putfield 15, 3) := by decide +kernel
theorem eX7_init_20 : decode (mcode mX7_init) 20 = .ok (.aload_n 0, 1) := by decide +kernel
theorem eX7_init_21 : decode (mcode mX7_init) 21 = .ok (.sipush 4096, 3) := by decide +kernel
theorem eX7_init_24 : decode (mcode mX7_init) 24 = .ok (.newarray .byte, 2) := by decide +kernel
theorem eX7_init_26 : decode (mcode mX7_init) 26 = .ok (.putfield 18, 3) := by decide +kernel
theorem eX7_init_29 : decode (mcode mX7_init) 29 = .ok (.aload_n 0, 1) := by decide +kernel
theorem eX7_init_30 : decode (mcode mX7_init) 30 = .ok (.sipush 4096, 3) := by decide +kernel
theorem eX7_init_33 : decode (mcode mX7_init) 33 = .ok (.newarray .int, 2) := by decide +kernel
theorem eX7_init_35 : decode (mcode mX7_init) 35 = .ok (.putfield 22, 3) := by decide +kernel
theorem eX7_init_38 : decode (mcode mX7_init) 38 = .ok (.aload_n 0, 1) := by decide +kernel
theorem eX7_init_39 : decode (mcode mX7_init) 39 = .ok (.iconst 1, 1) := by decide +kernel
theorem eX7_init_40 : decode (mcode mX7_init) 40 = .ok (.putfield 25, 3) := by decide +kernel
theorem eX7_init_43 : decode (mcode mX7_init) 43 = .ok (.aload_n 0, 1) := by decide +kernel
theorem eX7_init_44 : decode (mcode mX7_init) 44 = .ok (.aload_n 1, 1) := by decide +kernel
theorem eX7_init_45 : decode (mcode mX7_init) 45 = .ok (.putfield 29, 3) := by decide +kernel
theorem eX7_init_48 : decode (mcode mX7_init) 48 = .ok (.return_, 1) := by decide +kernel
theorem okX7_init : OKm mX7_init 1 := ⟨lw_in 99 (by decide +kernel) rfl, lw_in 378 (by decide +kernel) rfl, by decide +kernel, by decide +kernel, by decide⟩
def mX4_init : MI := (yX4_init, cX4_init, 2, none)
theorem eX4_init_0 : decode (mcode mX4_init) 0 = .ok (.aload_n 0, 1) := by decide +kernel
theorem eX4_init_1 : decode (mcode mX4_init) 1 = .ok (.invokespecial 3, 3) := by decide +kernel
theorem eX4_init_4 : decode (mcode mX4_init) 4 = .ok (.aload_n 0, 1) := by decide +kernel
theorem eX4_init_5 : decode (mcode mX4_init) 5 = .ok (.bipush 12, 2) := by decide +kernel
theorem eX4_init_7 : decode (mcode mX4_init) 7 = .ok (.newarray .int, 2) := by decide +kernel
theorem eX4_init_9 : decode (mcode mX4_init) 9 = .ok (.putfield 9, 3) := by decide +kernel
theorem eX4_init_12 : decode (mcode mX4_init) 12 = .ok (.aload_n 0, 1) := by decide +kernel
theorem eX4_init_13 : decode (mcode mX4_init) 13 = .ok (.bipush 12, 2) := by decide +kernel
theorem eX4_init_15 : decode (mcode mX4_init) 15 = .ok (.newarray .int, 2) := by decide +kernel
theorem eX4_init_17 : decode (mcode mX4_init) 17 = .ok (.putfield 15, 3) := by decide +kernel
theorem eX4_init_20 : decode (mcode mX4_init) 20 = .ok (.aload_n 0, 1) := by decide +kernel
theorem eX4_init_21 : decode (mcode mX4_init) 21 = .ok (.bipush 13, 2) := by decide +kernel
theorem eX4_init_23 : decode (mcode mX4_init) 23 = .ok (.bipush 13, 2) := by decide +kernel
theorem eX4_init_25 : decode (mcode mX4_init) 25 = .ok (.multianewarray 18 2, 4) := by decide +kernel
theorem eX4_init_29 : decode (mcode mX4_init) 29 = .ok (.putfield 20, 3) := by decide +kernel
theorem eX4_init_32 : decode (mcode mX4_init) 32 = .ok (.aload_n 0, 1) := by decide +kernel
theorem eX4_init_33 : decode (mcode mX4_init) 33 = .ok (.aload_n 1, 1) := by decide +kernel
theorem eX4_init_34 : decode (mcode mX4_init) 34 = .ok (.putfield 23, 3) := by decide +kernel
theorem eX4_init_37 : decode (mcode mX4_init) 37 = .ok (.return_, 1) := by decide +kernel
theorem okX4_init : OKm mX4_init 1 := ⟨lw_in 100 (by decide +kernel) rfl, lw_in 404 (by decide +kernel) rfl, by decide +kernel, by decide +kernel, by decide⟩
def mX0_init : MI := (yX0_init, cX0_init, 2, none)
theorem eX0_init_0 : decode (mcode mX0_init) 0 = .ok (.aload_n 0, 1) := by decide +kernel
theorem eX0_init_1 : decode (mcode mX0_init) 1 = .ok (.invokespecial 3, 3) := by decide +kernel
theorem eX0_init_4 : decode (mcode mX0_init) 4 = .ok (.aload_n 0, 1) := by decide +kernel
theorem eX0_init_5 : decode (mcode mX0_init) 5 = .ok (.bipush 16, 2) := by decide +kernel
theorem eX0_init_7 : decode (mcode mX0_init) 7 = .ok (.newarray .int, 2) := by decide +kernel
theorem eX0_init_9 : decode (mcode mX0_init) 9 = .ok (.putfield 11, 3) := by decide +kernel
theorem eX0_init_12 : decode (mcode mX0_init) 12 = .ok (.aload_n 0, 1) := by decide +kernel
theorem eX0_init_13 : decode (mcode mX0_init) 13 = .ok (.aload_n 1, 1) := by decide +kernel
theorem eX0_init_14 : decode (mcode mX0_init) 14 = .ok (.putfield 15, 3) := by decide +kernel
theorem eX0_init_17 : decode (mcode mX0_init) 17 = .ok (.return_, 1) := by decide +kernel
theorem okX0_init : OKm mX0_init 1 := ⟨lw_in 101 (by decide +kernel) rfl, lw_in 439 (by decide +kernel) rfl, by decide +kernel, by decide +kernel, by decide⟩
def mX11_init : MI := (yX11_init, cX11_init, 1, none)
theorem eX11_init_0 : decode (mcode mX11_init) 0 = .ok (.aload_n 0, 1) := by decide +kernel
theorem eX11_init_1 : decode (mcode mX11_init) 1 = .ok (.invokespecial 1, 3) := by decide +kernel
theorem eX11_init_4 : decode (mcode mX11_init) 4 = .ok (.aload_n 0, 1) := by decide +kernel
theorem eX11_init_5 : decode (mcode mX11_init) 5 = .ok (.new 7, 3) := by decide +kernel
theorem eX11_init_8 : decode (mcode mX11_init) 8 = .ok (.dup, 1) := by decide +kernel
theorem eX11_init_9 : decode (mcode mX11_init) 9 = .ok (.invokespecial 9, 3) := by decide +kernel
theorem eX11_init_12 : decode (mcode mX11_init) 12 = .ok (.putfield 10, 3) := by decide +kernel
theorem eX11_init_15 : decode (mcode mX11_init) 15 = .ok (.aload_n 0, 1) := by decide +kernel
theorem eX11_init_16 : decode (mcode mX11_init) 16 = .ok (.new 16, 3) := by decide +kernel
theorem eX11_init_19 : decode (mcode mX11_init) 19 = .ok (.dup, 1) := by decide +kernel
theorem eX11_init_20 : decode (mcode mX11_init) 20 = .ok (.invokespecial 18, 3) := by decide +kernel
theorem eX11_init_23 : decode (mcode mX11_init) 23 = .ok (.putfield 19, 3) := by decide +kernel
theorem eX11_init_26 : decode (mcode mX11_init) 26 = .ok (.aload_n 0, 1) := by decide +kernel
theorem eX11_init_27 : decode (mcode mX11_init) 27 = .ok (.new 23, 3) := by decide +kernel
theorem eX11_init_30 : decode (mcode mX11_init) 30 = .ok (.dup, 1) := by decide +kernel
theorem eX11_init_31 : decode (mcode mX11_init) 31 = .ok (.invokespecial 25, 3) := by decide +kernel
theorem eX11_init_34 : decode (mcode mX11_init) 34 = .ok (.putfield 26, 3) := by decide +kernel
theorem eX11_init_37 : decode (mcode mX11_init) 37 = .ok (.aload_n 0, 1) := by decide +kernel
theorem eX11_init_38 : decode (mcode mX11_init) 38 = .ok (.new 30, 3) := by decide +kernel
theorem eX11_init_41 : decode (mcode mX11_init) 41 = .ok (.dup, 1) := by decide +kernel
theorem eX11_init_42 : decode (mcode mX11_init) 42 = .ok (.invokespecial 32, 3) := by decide +kernel
theorem eX11_init_45 : decode (mcode mX11_init) 45 = .ok (.putfield 33, 3) := by decide +kernel
theorem eX11_init_48 : decode (mcode mX11_init) 48 = .ok (.aload_n 0, 1) := by decide +kernel
theorem eX11_init_49 : decode (mcode mX11_init) 49 = .ok (.new 37, 3) := by decide +kernel
theorem eX11_init_52 : decode (mcode mX11_init) 52 = .ok (.dup, 1) := by decide +kernel
theorem eX11_init_53 : decode (mcode mX11_init) 53 = .ok (.invokespecial 39, 3) := by decide +kernel
theorem eX11_init_56 : decode (mcode mX11_init) 56 = .ok (.putfield 40, 3) := by decide +kernel
theorem eX11_init_59 : decode (mcode mX11_init) 59 = .ok (.aload_n 0, 1) := by decide +kernel
theorem eX11_init_60 : decode (mcode mX11_init) 60 = .ok (.new 44, 3) := by decide +kernel
theorem eX11_init_63 : decode (mcode mX11_init) 63 = .ok (.dup, 1) := by decide +kernel
theorem eX11_init_64 : decode (mcode mX11_init) 64 = .ok (.invokespecial 46, 3) := by decide +kernel
theorem eX11_init_67 : decode (mcode mX11_init) 67 = .ok (.putfield 47, 3) := by decide +kernel
theorem eX11_init_70 : decode (mcode mX11_init) 70 = .ok (.aload_n 0, 1) := by decide +kernel
theorem eX11_init_71 : decode (mcode mX11_init) 71 = .ok (.bipush 20, 2) := by decide +kernel
theorem eX11_init_73 : decode (mcode mX11_init) 73 = .ok (.newarray .int, 2) := by decide +kernel
theorem eX11_init_75 : decode (mcode mX11_init) 75 = .ok (.putfield 51, 3) := by decide +kernel
theorem eX11_init_78 : decode (mcode mX11_init) 78 = .ok (.aload_n 0, 1) := by decide +kernel
theorem eX11_init_79 : decode (mcode mX11_init) 79 = .ok (.new 55, 3) := by decide +kernel
theorem eX11_init_82 : decode (mcode mX11_init) 82 = .ok (.dup, 1) := by decide +kernel
theorem eX11_init_83 : decode (mcode mX11_init) 83 = .ok (.aload_n 0, 1) := by decide +kernel
theorem eX11_init_84 : decode (mcode mX11_init) 84 = .ok (.getfield 19, 3) := by decide +kernel
theorem eX11_init_87 : decode (mcode mX11_init) 87 = .ok (.aload_n 0, 1) := by decide +kernel
theorem eX11_init_88 : decode (mcode mX11_init) 88 = .ok (.getfield 26, 3) := by decide +kernel
theorem eX11_init_91 : decode (mcode mX11_init) 91 = .ok (.aload_n 0, 1) := by decide +kernel
theorem eX11_init_92 : decode (mcode mX11_init) 92 = .ok (.getfield 47, 3) := by decide +kernel
theorem eX11_init_95 : decode (mcode mX11_init) 95 = .ok (.aload_n 0, 1) := by decide +kernel
theorem eX11_init_96 : decode (mcode mX11_init) 96 = .ok (.getfield 33, 3) := by decide +kernel
theorem eX11_init_99 : decode (mcode mX11_init) 99 = .ok (.aload_n 0, 1) := by decide +kernel
theorem eX11_init_100 : decode (mcode mX11_init) 100 = .ok (.getfield 40, 3) := by decide +kernel
theorem eX11_init_103 : decode (mcode mX11_init) 103 = .ok (.invokespecial 57, 3) := by decide +kernel
theorem eX11_init_106 : decode (mcode mX11_init) 106 = .ok (.putfield 60, 3) := by decide +kernel
theorem eX11_init_109 : decode (mcode mX11_init) 109 = .ok (.aload_n 0, 1) := by decide +kernel
theorem eX11_init_110 : decode (mcode mX11_init) 110 = .ok (.new 64, 3) := by decide +kernel
theorem eX11_init_113 : decode (mcode mX11_init) 113 = .ok (.dup, 1) := by decide +kernel
theorem eX11_init_114 : decode (mcode mX11_init) 114 = .ok (.aload_n 0, 1) := by decide +kernel
theorem eX11_init_115 : decode (mcode mX11_init) 115 = .ok (.getfield 47, 3) := by decide +kernel
theorem eX11_init_118 : decode (mcode mX11_init) 118 = .ok (.invokespecial 66, 3) := by decide +kernel
theorem eX11_init_121 : decode (mcode mX11_init) 121 = .ok (.putfield 69, 3) := by decide +kernel
theorem eX11_init_124 : decode (mcode mX11_init) 124 = .ok (.aload_n 0, 1) := by decide +kernel
theorem eX11_init_125 : decode (mcode mX11_init) 125 = .ok (.new 73, 3) := by decide +kernel
theorem eX11_init_128 : decode (mcode mX11_init) 128 = .ok (.dup, 1) := by decide +kernel
theorem eX11_init_129 : decode (mcode mX11_init) 129 = .ok (.aload_n 0, 1) := by decide +kernel
theorem eX11_init_130 : decode (mcode mX11_init) 130 = .ok (.getfield 47, 3) := by decide +kernel
theorem eX11_init_133 : decode (mcode mX11_init) 133 = .ok (.invokespecial 75, 3) := by decide +kernel
theorem eX11_init_136 : decode (mcode mX11_init) 136 = .ok (.putfield 76, 3) := by decide +kernel
theorem eX11_init_139 : decode (mcode mX11_init) 139 = .ok (.aload_n 0, 1) := by decide +kernel
theorem eX11_init_140 : decode (mcode mX11_init) 140 = .ok (.new 80, 3) := by decide +kernel
theorem eX11_init_143 : decode (mcode mX11_init) 143 = .ok (.dup, 1) := by decide +kernel
theorem eX11_init_144 : decode (mcode mX11_init) 144 = .ok (.aload_n 0, 1) := by decide +kernel
theorem eX11_init_145 : decode (mcode mX11_init) 145 = .ok (.getfield 47, 3) := by decide +kernel
theorem eX11_init_148 : decode (mcode mX11_init) 148 = .ok (.invokespecial 82, 3) := by decide +kernel
theorem eX11_init_151 : decode (mcode mX11_init) 151 = .ok (.putfield 83, 3) := by decide +kernel
theorem eX11_init_154 : decode (mcode mX11_init) 154 = .ok (.return_, 1) := by decide +kernel
theorem okX11_init : OKm mX11_init 0 := ⟨lw_in 90 (by decide +kernel) rfl, lw_in 114 (by decide +kernel) rfl, by decide +kernel, by decide +kernel, by decide⟩
def mX12_init : MI := (yX12_init, cX12_init, 1, none)
theorem eX12_init_0 : decode (mcode mX12_init) 0 = .ok (.aload_n 0, 1) := by decide +kernel
theorem eX12_init_1 : decode (mcode mX12_init) 1 = .ok (.invokespecial 1, 3) := by decide +kernel
theorem eX12_init_4 : decode (mcode mX12_init) 4 = .ok (.aload_n 0, 1) := by decide +kernel
theorem eX12_init_5 : decode (mcode mX12_init) 5 = .ok (.bipush 8, 2) := by decide +kernel
theorem eX12_init_7 : decode (mcode mX12_init) 7 = .ok (.newarray .int, 2) := by decide +kernel
theorem eX12_init_9 : decode (mcode mX12_init) 9 = .ok (.dup, 1) := by decide +kernel
theorem eX12_init_10 : decode (mcode mX12_init) 10 = .ok (.iconst 0, 1) := by decide +kernel
theorem eX12_init_11 : decode (mcode mX12_init) 11 = .ok (.iconst (-1), 1) := by decide +kernel
theorem eX12_init_12 : decode (mcode mX12_init) 12 = .ok (.iastore, 1) := by decide +kernel
theorem eX12_init_13 : decode (mcode mX12_init) 13 = .ok (.dup, 1) := by decide +kernel
theorem eX12_init_14 : decode (mcode mX12_init) 14 = .ok (.iconst 1, 1) := by decide +kernel
theorem eX12_init_15 : decode (mcode mX12_init) 15 = .ok (.iconst (-1), 1) := by decide +kernel
theorem eX12_init_16 : decode (mcode mX12_init) 16 = .ok (.iastore, 1) := by decide +kernel
theorem eX12_init_17 : decode (mcode mX12_init) 17 = .ok (.dup, 1) := by decide +kernel
theorem eX12_init_18 : decode (mcode mX12_init) 18 = .ok (.iconst 2, 1) := by decide +kernel
theorem eX12_init_19 : decode (mcode mX12_init) 19 = .ok (.iconst (-1), 1) := by decide +kernel
theorem eX12_init_20 : decode (mcode mX12_init) 20 = .ok (.iastore, 1) := by decide +kernel
theorem eX12_init_21 : decode (mcode mX12_init) 21 = .ok (.dup, 1) := by decide +kernel
theorem eX12_init_22 : decode (mcode mX12_init) 22 = .ok (.iconst 3, 1) := by decide +kernel
theorem eX12_init_23 : decode (mcode mX12_init) 23 = .ok (.iconst (-1), 1) := by decide +kernel
theorem eX12_init_24 : decode (mcode mX12_init) 24 = .ok (.iastore, 1) := by decide +kernel
theorem eX12_init_25 : decode (mcode mX12_init) 25 = .ok (.dup, 1) := by decide +kernel
theorem eX12_init_26 : decode (mcode mX12_init) 26 = .ok (.iconst 4, 1) := by decide +kernel
theorem eX12_init_27 : decode (mcode mX12_init) 27 = .ok (.iconst (-1), 1) := by decide +kernel
theorem eX12_init_28 : decode (mcode mX12_init) 28 = .ok (.iastore, 1) := by decide +kernel
theorem eX12_init_29 : decode (mcode mX12_init) 29 = .ok (.dup, 1) := by decide +kernel
theorem eX12_init_30 : decode (mcode mX12_init) 30 = .ok (.iconst 5, 1) := by decide +kernel
theorem eX12_init_31 : decode (mcode mX12_init) 31 = .ok (.iconst (-1), 1) := by decide +kernel
theorem eX12_init_32 : decode (mcode mX12_init) 32 = .ok (.iastore, 1) := by decide +kernel
theorem eX12_init_33 : decode (mcode mX12_init) 33 = .ok (.dup, 1) := by decide +kernel
theorem eX12_init_34 : decode (mcode mX12_init) 34 = .ok (.bipush 6, 2) := by decide +kernel
theorem eX12_init_36 : decode (mcode mX12_init) 36 = .ok (.iconst (-1), 1) := by decide +kernel
theorem eX12_init_37 : decode (mcode mX12_init) 37 = .ok (.iastore, 1) := by decide +kernel
theorem eX12_init_38 : decode (mcode mX12_init) 38 = .ok (.dup, 1) := by decide +kernel
theorem eX12_init_39 : decode (mcode mX12_init) 39 = .ok (.bipush 7, 2) := by decide +kernel
theorem eX12_init_41 : decode (mcode mX12_init) 41 = .ok (.iconst (-1), 1) := by decide +kernel
theorem eX12_init_42 : decode (mcode mX12_init) 42 = .ok (.iastore, 1) := by decide +kernel
theorem eX12_init_43 : decode (mcode mX12_init) 43 = .ok (.putfield 7, 3) := by decide +kernel
theorem eX12_init_46 : decode (mcode mX12_init) 46 = .ok (.aload_n 0, 1) := by decide +kernel
theorem eX12_init_47 : decode (mcode mX12_init) 47 = .ok (.bipush 8, 2) := by decide +kernel
theorem eX12_init_49 : decode (mcode mX12_init) 49 = .ok (.newarray .int, 2) := by decide +kernel
theorem eX12_init_51 : decode (mcode mX12_init) 51 = .ok (.putfield 13, 3) := by decide +kernel
theorem eX12_init_54 : decode (mcode mX12_init) 54 = .ok (.aload_n 0, 1) := by decide +kernel
theorem eX12_init_55 : decode (mcode mX12_init) 55 = .ok (.sipush 480, 3) := by decide +kernel
theorem eX12_init_58 : decode (mcode mX12_init) 58 = .ok (.newarray .int, 2) := by decide +kernel
theorem eX12_init_60 : decode (mcode mX12_init) 60 = .ok (.putfield 16, 3) := by decide +kernel
theorem eX12_init_63 : decode (mcode mX12_init) 63 = .ok (.aload_n 0, 1) := by decide +kernel
theorem eX12_init_64 : decode (mcode mX12_init) 64 = .ok (.bipush 10, 2) := by decide +kernel
theorem eX12_init_66 : decode (mcode mX12_init) 66 = .ok (.newarray .int, 2) := by decide +kernel
theorem eX12_init_68 : decode (mcode mX12_init) 68 = .ok (.putfield 19, 3) := by decide +kernel
theorem eX12_init_71 : decode (mcode mX12_init) 71 = .ok (.aload_n 0, 1) := by decide +kernel
theorem eX12_init_72 : decode (mcode mX12_init) 72 = .ok (.bipush 10, 2) := by decide +kernel
theorem eX12_init_74 : decode (mcode mX12_init) 74 = .ok (.newarray .int, 2) := by decide +kernel
theorem eX12_init_76 : decode (mcode mX12_init) 76 = .ok (.putfield 22, 3) := by decide +kernel
theorem eX12_init_79 : decode (mcode mX12_init) 79 = .ok (.aload_n 0, 1) := by decide +kernel
theorem eX12_init_80 : decode (mcode mX12_init) 80 = .ok (.bipush 10, 2) := by decide +kernel
theorem eX12_init_82 : decode (mcode mX12_init) 82 = .ok (.newarray .int, 2) := by decide +kernel
theorem eX12_init_84 : decode (mcode mX12_init) 84 = .ok (.putfield 25, 3) := by decide +kernel
theorem eX12_init_87 : decode (mcode mX12_init) 87 = .ok (.aload_n 0, 1) := by decide +kernel
theorem eX12_init_88 : decode (mcode mX12_init) 88 = .ok (.bipush 10, 2) := by decide +kernel
theorem eX12_init_90 : decode (mcode mX12_init) 90 = .ok (.newarray .boolean, 2) := by decide +kernel
theorem eX12_init_92 : decode (mcode mX12_init) 92 = .ok (.putfield 28, 3) := by decide +kernel
theorem eX12_init_95 : decode (mcode mX12_init) 95 = .ok (.aload_n 0, 1) := by decide +kernel
theorem eX12_init_96 : decode (mcode mX12_init) 96 = .ok (.bipush 12, 2) := by decide +kernel
theorem eX12_init_98 : decode (mcode mX12_init) 98 = .ok (.newarray .int, 2) := by decide +kernel
theorem eX12_init_100 : decode (mcode mX12_init) 100 = .ok (.putfield 32, 3) := by decide +kernel
theorem eX12_init_103 : decode (mcode mX12_init) 103 = .ok (.aload_n 0, 1) := by decide +kernel
theorem eX12_init_104 : decode (mcode mX12_init) 104 = .ok (.bipush 12, 2) := by decide +kernel
theorem eX12_init_106 : decode (mcode mX12_init) 106 = .ok (.newarray .int, 2) := by decide +kernel
theorem eX12_init_108 : decode (mcode mX12_init) 108 = .ok (.putfield 35, 3) := by decide +kernel
theorem eX12_init_111 : decode (mcode mX12_init) 111 = .ok (.aload_n 0, 1) := by decide +kernel
theorem eX12_init_112 : decode (mcode mX12_init) 112 = .ok (.bipush 12, 2) := by decide +kernel
theorem eX12_init_114 : decode (mcode mX12_init) 114 = .ok (.newarray .int, 2) := by decide +kernel
theorem eX12_init_116 : decode (mcode mX12_init) 116 = .ok (.putfield 38, 3) := by decide +kernel
theorem eX12_init_119 : decode (mcode mX12_init) 119 = .ok (.aload_n 0, 1) := by decide +kernel
theorem eX12_init_120 : decode (mcode mX12_init) 120 = .ok (.bipush 12, 2) := by decide +kernel
theorem eX12_init_122 : decode (mcode mX12_init) 122 = .ok (.newarray .int, 2) := by decide +kernel
theorem eX12_init_124 : decode (mcode mX12_init) 124 = .ok (.putfield 41, 3) := by decide +kernel
theorem eX12_init_127 : decode (mcode mX12_init) 127 = .ok (.aload_n 0, 1) := by decide +kernel
theorem eX12_init_128 : decode (mcode mX12_init) 128 = .ok (.bipush 12, 2) := by decide +kernel
theorem eX12_init_130 : decode (mcode mX12_init) 130 = .ok (.newarray .int, 2) := by decide +kernel
theorem eX12_init_132 : decode (mcode mX12_init) 132 = .ok (.putfield 44, 3) := by decide +kernel
theorem eX12_init_135 : decode (mcode mX12_init) 135 = .ok (.aload_n 0, 1) := by decide +kernel
theorem eX12_init_136 : decode (mcode mX12_init) 136 = .ok (.bipush 12, 2) := by decide +kernel
theorem eX12_init_138 : decode (mcode mX12_init) 138 = .ok (.newarray .int, 2) := by decide +kernel
theorem eX12_init_140 : decode (mcode mX12_init) 140 = .ok (.putfield 47, 3) := by decide +kernel
theorem eX12_init_143 : decode (mcode mX12_init) 143 = .ok (.aload_n 0, 1) := by decide +kernel
theorem eX12_init_144 : decode (mcode mX12_init) 144 = .ok (.bipush 96, 2) := by decide +kernel
theorem eX12_init_146 : decode (mcode mX12_init) 146 = .ok (.newarray .int, 2) := by decide +kernel
theorem eX12_init_148 : decode (mcode mX12_init) 148 = .ok (.putfield 50, 3) := by decide +kernel
theorem eX12_init_151 : decode (mcode mX12_init) 151 = .ok (.aload_n 0, 1) := by decide +kernel
theorem eX12_init_152 : decode (mcode mX12_init) 152 = .ok (.bipush 20, 2) := by decide +kernel
theorem eX12_init_154 : decode (mcode mX12_init) 154 = .ok (.newarray .int, 2) := by decide +kernel
theorem eX12_init_156 : decode (mcode mX12_init) 156 = .ok (.putfield 53, 3) := by decide +kernel
theorem eX12_init_159 : decode (mcode mX12_init) 159 = .ok (.aload_n 0, 1) := by decide +kernel
theorem eX12_init_160 : decode (mcode mX12_init) 160 = .ok (.bipush 20, 2) := by decide +kernel
theorem eX12_init_162 : decode (mcode mX12_init) 162 = .ok (.newarray .int, 2) := by decide +kernel
theorem eX12_init_164 : decode (mcode mX12_init) 164 = .ok (.putfield 56, 3) := by decide +kernel
theorem eX12_init_167 : decode (mcode mX12_init) 167 = .ok (.aload_n 0, 1) := by decide +kernel
theorem eX12_init_168 : decode (mcode mX12_init) 168 = .ok (.bipush 20, 2) := by decide +kernel
theorem eX12_init_170 : decode (mcode mX12_init) 170 = .ok (.newarray .int, 2) := by decide +kernel
theorem eX12_init_172 : decode (mcode mX12_init) 172 = .ok (.putfield 59, 3) := by decide +kernel
theorem eX12_init_175 : decode (mcode mX12_init) 175 = .ok (.aload_n 0, 1) := by decide +kernel
theorem eX12_init_176 : decode (mcode mX12_init) 176 = .ok (.bipush 20, 2) := by decide +kernel
theorem eX12_init_178 : decode (mcode mX12_init) 178 = .ok (.newarray .int, 2) := by decide +kernel
theorem eX12_init_180 : decode (mcode mX12_init) 180 = .ok (.putfield 62, 3) := by decide +kernel
theorem eX12_init_183 : decode (mcode mX12_init) 183 = .ok (.aload_n 0, 1) := by decide +kernel
theorem eX12_init_184 : decode (mcode mX12_init) 184 = .ok (.bipush 20, 2) := by decide +kernel
theorem eX12_init_186 : decode (mcode mX12_init) 186 = .ok (.newarray .int, 2) := by decide +kernel
theorem eX12_init_188 : decode (mcode mX12_init) 188 = .ok (.putfield 65, 3) := by decide +kernel
theorem eX12_init_191 : decode (mcode mX12_init) 191 = .ok (.aload_n 0, 1) := by decide +kernel
theorem eX12_init_192 : decode (mcode mX12_init) 192 = .ok (.bipush 20, 2) := by decide +kernel
theorem eX12_init_194 : decode (mcode mX12_init) 194 = .ok (.newarray .int, 2) := by decide +kernel
theorem eX12_init_196 : decode (mcode mX12_init) 196 = .ok (.putfield 68, 3) := by decide +kernel
theorem eX12_init_199 : decode (mcode mX12_init) 199 = .ok (.aload_n 0, 1) := by decide +kernel
theorem eX12_init_200 : decode (mcode mX12_init) 200 = .ok (.bipush 20, 2) := by decide +kernel
theorem eX12_init_202 : decode (mcode mX12_init) 202 = .ok (.newarray .int, 2) := by decide +kernel
theorem eX12_init_204 : decode (mcode mX12_init) 204 = .ok (.putfield 71, 3) := by decide +kernel
theorem eX12_init_207 : decode (mcode mX12_init) 207 = .ok (.aload_n 0, 1) := by decide +kernel
theorem eX12_init_208 : decode (mcode mX12_init) 208 = .ok (.bipush 20, 2) := by decide +kernel
theorem eX12_init_210 : decode (mcode mX12_init) 210 = .ok (.newarray .int, 2) := by decide +kernel
theorem eX12_init_212 : decode (mcode mX12_init) 212 = .ok (.putfield 74, 3) := by decide +kernel
theorem eX12_init_215 : decode (mcode mX12_init) 215 = .ok (.aload_n 0, 1) := by decide +kernel
theorem eX12_init_216 : decode (mcode mX12_init) 216 = .ok (.sipush 600, 3) := by decide +kernel
theorem eX12_init_219 : decode (mcode mX12_init) 219 = .ok (.newarray .int, 2) := by decide +kernel
theorem eX12_init_221 : decode (mcode mX12_init) 221 = .ok (.putfield 77, 3) := by decide +kernel
theorem eX12_init_224 : decode (mcode mX12_init) 224 = .ok (.aload_n 0, 1) := by decide +kernel
theorem eX12_init_225 : decode (mcode mX12_init) 225 = .ok (.bipush 81, 2) := by decide +kernel
theorem eX12_init_227 : decode (mcode mX12_init) 227 = .ok (.newarray .int, 2) := by decide +kernel
theorem eX12_init_229 : decode (mcode mX12_init) 229 = .ok (.putfield 80, 3) := by decide +kernel
theorem eX12_init_232 : decode (mcode mX12_init) 232 = .ok (.aload_n 0, 1) := by decide +kernel
theorem eX12_init_233 : decode (mcode mX12_init) 233 = .ok (.bipush 12, 2) := by decide +kernel
theorem eX12_init_235 : decode (mcode mX12_init) 235 = .ok (.newarray .int, 2) := by decide +kernel
theorem eX12_init_237 : decode (mcode mX12_init) 237 = .ok (.putfield 83, 3) := by decide +kernel
theorem eX12_init_240 : decode (mcode mX12_init) 240 = .ok (.aload_n 0, 1) := by decide +kernel
theorem eX12_init_241 : decode (mcode mX12_init) 241 = .ok (.sipush 4096, 3) := by decide +kernel
theorem eX12_init_244 : decode (mcode mX12_init) 244 = .ok (.newarray .boolean, 2) := by decide +kernel
theorem eX12_init_246 : decode (mcode mX12_init) 246 = .ok (.putfield 86, 3) := by decide +kernel
theorem eX12_init_249 : decode (mcode mX12_init) 249 = .ok (.aload_n 0, 1) := by decide +kernel
theorem eX12_init_250 : decode (mcode mX12_init) 250 = .ok (.sipush 4096, 3) := by decide +kernel
theorem eX12_init_253 : decode (mcode mX12_init) 253 = .ok (.newarray .int, 2) := by decide +kernel
theorem eX12_init_255 : decode (mcode mX12_init) 255 = .ok (.putfield 89, 3) := by decide +kernel
theorem eX12_init_258 : decode (mcode mX12_init) 258 = .ok (.aload_n 0, 1) := by decide +kernel
theorem eX12_init_259 : decode (mcode mX12_init) 259 = .ok (.sipush 4096, 3) := by decide +kernel
theorem eX12_init_262 : decode (mcode mX12_init) 262 = .ok (.newarray .long, 2) := by decide +kernel
theorem eX12_init_264 : decode (mcode mX12_init) 264 = .ok (.putfield 92, 3) := by decide +kernel
theorem eX12_init_267 : decode (mcode mX12_init) 267 = .ok (.aload_n 0, 1) := by decide +kernel
theorem eX12_init_268 : decode (mcode mX12_init) 268 = .ok (.bipush 12, 2) := by decide +kernel
theorem eX12_init_270 : decode (mcode mX12_init) 270 = .ok (.newarray .int, 2) := by decide +kernel
theorem eX12_init_272 : decode (mcode mX12_init) 272 = .ok (.putfield 96, 3) := by decide +kernel
theorem eX12_init_275 : decode (mcode mX12_init) 275 = .ok (.aload_n 0, 1) := by decide +kernel
theorem eX12_init_276 : decode (mcode mX12_init) 276 = .ok (.bipush 12, 2) := by decide +kernel
theorem eX12_init_278 : decode (mcode mX12_init) 278 = .ok (.newarray .int, 2) := by decide +kernel
theorem eX12_init_280 : decode (mcode mX12_init) 280 = .ok (.putfield 99, 3) := by decide +kernel
theorem eX12_init_283 : decode (mcode mX12_init) 283 = .ok (.aload_n 0, 1) := by decide +kernel
theorem eX12_init_284 : decode (mcode mX12_init) 284 = .ok (.sipush 169, 3) := by decide +kernel
theorem eX12_init_287 : decode (mcode mX12_init) 287 = .ok (.newarray .int, 2) := by decide +kernel
theorem eX12_init_289 : decode (mcode mX12_init) 289 = .ok (.putfield 102, 3) := by decide +kernel
theorem eX12_init_292 : decode (mcode mX12_init) 292 = .ok (.aload_n 0, 1) := by decide +kernel
theorem eX12_init_293 : decode (mcode mX12_init) 293 = .ok (.bipush 16, 2) := by decide +kernel
theorem eX12_init_295 : decode (mcode mX12_init) 295 = .ok (.newarray .int, 2) := by decide +kernel
theorem eX12_init_297 : decode (mcode mX12_init) 297 = .ok (.putfield 105, 3) := by decide +kernel
theorem eX12_init_300 : decode (mcode mX12_init) 300 = .ok (.return_, 1) := by decide +kernel
theorem okX12_init : OKm mX12_init 0 := ⟨lw_in 102 (by decide +kernel) rfl, lw_in 1169 (by decide +kernel) rfl, by decide +kernel, by decide +kernel, by decide⟩
theorem loX9_3 : Cond.methodLink RX9 3 objectInit ∈ lw_g := lw_in 123 (by decide +kernel) rfl
theorem ac_int : Cond.arrayClass .int ∈ lw_g := lw_in 134 (by decide +kernel) rfl
theorem hX9_9 : Cond.fieldLink RX9 9 (TX9 0).1 (TX9 0).2.1 (TX9 0).2.2.1 ∈ lw_g := lw_in 124 (by decide +kernel) rfl
theorem hX9_15 : Cond.fieldLink RX9 15 (TX9 1).1 (TX9 1).2.1 (TX9 1).2.2.1 ∈ lw_g := lw_in 125 (by decide +kernel) rfl
theorem hX9_18 : Cond.fieldLink RX9 18 (TX9 2).1 (TX9 2).2.1 (TX9 2).2.2.1 ∈ lw_g := lw_in 126 (by decide +kernel) rfl
theorem loX10_3 : Cond.methodLink RX10 3 objectInit ∈ lw_g := lw_in 140 (by decide +kernel) rfl
theorem ac_byte : Cond.arrayClass .byte ∈ lw_g := lw_in 160 (by decide +kernel) rfl
theorem hX10_9 : Cond.fieldLink RX10 9 (TX10 0).1 (TX10 0).2.1 (TX10 0).2.2.1 ∈ lw_g := lw_in 141 (by decide +kernel) rfl
theorem loX1_3 : Cond.methodLink RX1 3 objectInit ∈ lw_g := lw_in 166 (by decide +kernel) rfl
theorem hX1_9 : Cond.fieldLink RX1 9 (TX1 0).1 (TX1 0).2.1 (TX1 0).2.2.1 ∈ lw_g := lw_in 167 (by decide +kernel) rfl
theorem hX1_15 : Cond.fieldLink RX1 15 (TX1 1).1 (TX1 1).2.1 (TX1 1).2.2.1 ∈ lw_g := lw_in 169 (by decide +kernel) rfl
theorem ac_boolean : Cond.arrayClass .boolean ∈ lw_g := lw_in 190 (by decide +kernel) rfl
theorem hX1_18 : Cond.fieldLink RX1 18 (TX1 2).1 (TX1 2).2.1 (TX1 2).2.2.1 ∈ lw_g := lw_in 170 (by decide +kernel) rfl
theorem loX6_3 : Cond.methodLink RX6 3 objectInit ∈ lw_g := lw_in 196 (by decide +kernel) rfl
theorem hX6_9 : Cond.fieldLink RX6 9 (TX6 0).1 (TX6 0).2.1 (TX6 0).2.2.1 ∈ lw_g := lw_in 197 (by decide +kernel) rfl
theorem hX6_15 : Cond.fieldLink RX6 15 (TX6 1).1 (TX6 1).2.1 (TX6 1).2.2.1 ∈ lw_g := lw_in 198 (by decide +kernel) rfl
theorem hX6_18 : Cond.fieldLink RX6 18 (TX6 2).1 (TX6 2).2.1 (TX6 2).2.2.1 ∈ lw_g := lw_in 199 (by decide +kernel) rfl
theorem hX6_21 : Cond.fieldLink RX6 21 (TX6 3).1 (TX6 3).2.1 (TX6 3).2.2.1 ∈ lw_g := lw_in 200 (by decide +kernel) rfl
theorem loX2_3 : Cond.methodLink RX2 3 objectInit ∈ lw_g := lw_in 225 (by decide +kernel) rfl
theorem hX2_9 : Cond.fieldLink RX2 9 (TX2 0).1 (TX2 0).2.1 (TX2 0).2.2.1 ∈ lw_g := lw_in 226 (by decide +kernel) rfl
theorem hX2_15 : Cond.fieldLink RX2 15 (TX2 1).1 (TX2 1).2.1 (TX2 1).2.2.1 ∈ lw_g := lw_in 227 (by decide +kernel) rfl
theorem hX2_18 : Cond.fieldLink RX2 18 (TX2 2).1 (TX2 2).2.1 (TX2 2).2.2.1 ∈ lw_g := lw_in 228 (by decide +kernel) rfl
theorem hX2_21 : Cond.fieldLink RX2 21 (TX2 3).1 (TX2 3).2.1 (TX2 3).2.2.1 ∈ lw_g := lw_in 229 (by decide +kernel) rfl
theorem loX5_3 : Cond.methodLink RX5 3 objectInit ∈ lw_g := lw_in 260 (by decide +kernel) rfl
theorem hX5_9 : Cond.fieldLink RX5 9 (TX5 0).1 (TX5 0).2.1 (TX5 0).2.2.1 ∈ lw_g := lw_in 261 (by decide +kernel) rfl
theorem hX5_15 : Cond.fieldLink RX5 15 (TX5 1).1 (TX5 1).2.1 (TX5 1).2.2.1 ∈ lw_g := lw_in 262 (by decide +kernel) rfl
theorem hX5_18 : Cond.fieldLink RX5 18 (TX5 2).1 (TX5 2).2.1 (TX5 2).2.2.1 ∈ lw_g := lw_in 263 (by decide +kernel) rfl
theorem hX5_21 : Cond.fieldLink RX5 21 (TX5 3).1 (TX5 3).2.1 (TX5 3).2.2.1 ∈ lw_g := lw_in 264 (by decide +kernel) rfl
theorem hX5_24 : Cond.fieldLink RX5 24 (TX5 4).1 (TX5 4).2.1 (TX5 4).2.2.1 ∈ lw_g := lw_in 267 (by decide +kernel) rfl
theorem loX3_3 : Cond.methodLink RX3 3 objectInit ∈ lw_g := lw_in 254 (by decide +kernel) rfl
theorem hX3_9 : Cond.fieldLink RX3 9 (TX3 0).1 (TX3 0).2.1 (TX3 0).2.2.1 ∈ lw_g := lw_in 280 (by decide +kernel) rfl
theorem hX3_15 : Cond.fieldLink RX3 15 (TX3 1).1 (TX3 1).2.1 (TX3 1).2.2.1 ∈ lw_g := lw_in 283 (by decide +kernel) rfl
theorem hX3_18 : Cond.fieldLink RX3 18 (TX3 2).1 (TX3 2).2.1 (TX3 2).2.2.1 ∈ lw_g := lw_in 287 (by decide +kernel) rfl
theorem hX3_21 : Cond.fieldLink RX3 21 (TX3 3).1 (TX3 3).2.1 (TX3 3).2.2.1 ∈ lw_g := lw_in 292 (by decide +kernel) rfl
theorem hX3_24 : Cond.fieldLink RX3 24 (TX3 4).1 (TX3 4).2.1 (TX3 4).2.2.1 ∈ lw_g := lw_in 297 (by decide +kernel) rfl
theorem hX3_27 : Cond.fieldLink RX3 27 (TX3 5).1 (TX3 5).2.1 (TX3 5).2.2.1 ∈ lw_g := lw_in 301 (by decide +kernel) rfl
theorem hX3_30 : Cond.fieldLink RX3 30 (TX3 6).1 (TX3 6).2.1 (TX3 6).2.2.1 ∈ lw_g := lw_in 305 (by decide +kernel) rfl
theorem clX3_33 : Cond.classLink RX3 33 RX5 ∈ lw_g := lw_in 255 (by decide +kernel) rfl
theorem isX5 : Cond.instantiable RX5 5 ∈ lw_g := lw_in 256 (by decide +kernel) rfl
theorem iiX5 : Cond.initialized RX5 ∈ lw_g := lw_in 97 (by decide +kernel) rfl
theorem imX5_init : Cond.instanceMethod mX5_init.1 ∈ lw_g := lw_in 258 (by decide +kernel) rfl
theorem hX3_36 : Cond.fieldLink RX3 36 (TX3 7).1 (TX3 7).2.1 (TX3 7).2.2.1 ∈ lw_g := lw_in 307 (by decide +kernel) rfl
theorem loX8_3 : Cond.methodLink RX8 3 objectInit ∈ lw_g := lw_in 346 (by decide +kernel) rfl
theorem hX8_9 : Cond.fieldLink RX8 9 (TX8 0).1 (TX8 0).2.1 (TX8 0).2.2.1 ∈ lw_g := lw_in 347 (by decide +kernel) rfl
theorem hX8_15 : Cond.fieldLink RX8 15 (TX8 1).1 (TX8 1).2.1 (TX8 1).2.2.1 ∈ lw_g := lw_in 348 (by decide +kernel) rfl
theorem hX8_19 : Cond.fieldLink RX8 19 (TX8 2).1 (TX8 2).2.1 (TX8 2).2.2.1 ∈ lw_g := lw_in 349 (by decide +kernel) rfl
theorem hX8_23 : Cond.fieldLink RX8 23 (TX8 3).1 (TX8 3).2.1 (TX8 3).2.2.1 ∈ lw_g := lw_in 350 (by decide +kernel) rfl
theorem hX8_27 : Cond.fieldLink RX8 27 (TX8 4).1 (TX8 4).2.1 (TX8 4).2.2.1 ∈ lw_g := lw_in 351 (by decide +kernel) rfl
theorem loX7_3 : Cond.methodLink RX7 3 objectInit ∈ lw_g := lw_in 379 (by decide +kernel) rfl
theorem hX7_9 : Cond.fieldLink RX7 9 (TX7 1).1 (TX7 1).2.1 (TX7 1).2.2.1 ∈ lw_g := lw_in 381 (by decide +kernel) rfl
theorem hX7_15 : Cond.fieldLink RX7 15 (TX7 2).1 (TX7 2).2.1 (TX7 2).2.2.1 ∈ lw_g := lw_in 382 (by decide +kernel) rfl
theorem hX7_18 : Cond.fieldLink RX7 18 (TX7 3).1 (TX7 3).2.1 (TX7 3).2.2.1 ∈ lw_g := lw_in 383 (by decide +kernel) rfl
theorem hX7_22 : Cond.fieldLink RX7 22 (TX7 4).1 (TX7 4).2.1 (TX7 4).2.2.1 ∈ lw_g := lw_in 384 (by decide +kernel) rfl
theorem hX7_25 : Cond.fieldLink RX7 25 (TX7 5).1 (TX7 5).2.1 (TX7 5).2.2.1 ∈ lw_g := lw_in 385 (by decide +kernel) rfl
theorem hX7_29 : Cond.fieldLink RX7 29 (TX7 0).1 (TX7 0).2.1 (TX7 0).2.2.1 ∈ lw_g := lw_in 380 (by decide +kernel) rfl
theorem loX4_3 : Cond.methodLink RX4 3 objectInit ∈ lw_g := lw_in 405 (by decide +kernel) rfl
theorem hX4_9 : Cond.fieldLink RX4 9 (TX4 1).1 (TX4 1).2.1 (TX4 1).2.2.1 ∈ lw_g := lw_in 409 (by decide +kernel) rfl
theorem hX4_15 : Cond.fieldLink RX4 15 (TX4 2).1 (TX4 2).2.1 (TX4 2).2.2.1 ∈ lw_g := lw_in 410 (by decide +kernel) rfl
theorem clX4_18 : Cond.classLink RX4 18 ("[" ++ (FieldType.array .int).toString) ∈ lw_g := lw_in 406 (by decide +kernel) rfl
theorem hX4_20 : Cond.fieldLink RX4 20 (TX4 3).1 (TX4 3).2.1 (TX4 3).2.2.1 ∈ lw_g := lw_in 411 (by decide +kernel) rfl
theorem hX4_23 : Cond.fieldLink RX4 23 (TX4 0).1 (TX4 0).2.1 (TX4 0).2.2.1 ∈ lw_g := lw_in 408 (by decide +kernel) rfl
theorem loX0_3 : Cond.methodLink RX0 3 objectInit ∈ lw_g := lw_in 440 (by decide +kernel) rfl
theorem hX0_11 : Cond.fieldLink RX0 11 (TX0 1).1 (TX0 1).2.1 (TX0 1).2.2.1 ∈ lw_g := lw_in 442 (by decide +kernel) rfl
theorem hX0_15 : Cond.fieldLink RX0 15 (TX0 0).1 (TX0 0).2.1 (TX0 0).2.2.1 ∈ lw_g := lw_in 441 (by decide +kernel) rfl
theorem loX11_1 : Cond.methodLink RX11 1 objectInit ∈ lw_g := lw_in 115 (by decide +kernel) rfl
theorem clX11_7 : Cond.classLink RX11 7 RX9 ∈ lw_g := lw_in 118 (by decide +kernel) rfl
theorem isX9 : Cond.instantiable RX9 3 ∈ lw_g := lw_in 119 (by decide +kernel) rfl
theorem iiX9 : Cond.initialized RX9 ∈ lw_g := lw_in 91 (by decide +kernel) rfl
theorem imX9_init : Cond.instanceMethod mX9_init.1 ∈ lw_g := lw_in 121 (by decide +kernel) rfl
theorem liX11_9 : Cond.methodLink RX11 9 mX9_init.1 ∈ lw_g := lw_in 120 (by decide +kernel) rfl
theorem hX11_10 : Cond.fieldLink RX11 10 (TX11 0).1 (TX11 0).2.1 (TX11 0).2.2.1 ∈ lw_g := lw_in 453 (by decide +kernel) rfl
theorem clX11_16 : Cond.classLink RX11 16 RX10 ∈ lw_g := lw_in 135 (by decide +kernel) rfl
theorem isX10 : Cond.instantiable RX10 5 ∈ lw_g := lw_in 136 (by decide +kernel) rfl
theorem iiX10 : Cond.initialized RX10 ∈ lw_g := lw_in 92 (by decide +kernel) rfl
theorem imX10_init : Cond.instanceMethod mX10_init.1 ∈ lw_g := lw_in 138 (by decide +kernel) rfl
theorem hX11_19 : Cond.fieldLink RX11 19 (TX11 1).1 (TX11 1).2.1 (TX11 1).2.2.1 ∈ lw_g := lw_in 454 (by decide +kernel) rfl
theorem clX11_23 : Cond.classLink RX11 23 RX1 ∈ lw_g := lw_in 161 (by decide +kernel) rfl
theorem isX1 : Cond.instantiable RX1 5 ∈ lw_g := lw_in 162 (by decide +kernel) rfl
theorem iiX1 : Cond.initialized RX1 ∈ lw_g := lw_in 93 (by decide +kernel) rfl
theorem imX1_init : Cond.instanceMethod mX1_init.1 ∈ lw_g := lw_in 164 (by decide +kernel) rfl
theorem hX11_26 : Cond.fieldLink RX11 26 (TX11 2).1 (TX11 2).2.1 (TX11 2).2.2.1 ∈ lw_g := lw_in 455 (by decide +kernel) rfl
theorem clX11_30 : Cond.classLink RX11 30 RX6 ∈ lw_g := lw_in 191 (by decide +kernel) rfl
theorem isX6 : Cond.instantiable RX6 6 ∈ lw_g := lw_in 192 (by decide +kernel) rfl
theorem iiX6 : Cond.initialized RX6 ∈ lw_g := lw_in 94 (by decide +kernel) rfl
theorem imX6_init : Cond.instanceMethod mX6_init.1 ∈ lw_g := lw_in 194 (by decide +kernel) rfl
theorem hX11_33 : Cond.fieldLink RX11 33 (TX11 3).1 (TX11 3).2.1 (TX11 3).2.2.1 ∈ lw_g := lw_in 456 (by decide +kernel) rfl
theorem clX11_37 : Cond.classLink RX11 37 RX2 ∈ lw_g := lw_in 220 (by decide +kernel) rfl
theorem isX2 : Cond.instantiable RX2 6 ∈ lw_g := lw_in 221 (by decide +kernel) rfl
theorem iiX2 : Cond.initialized RX2 ∈ lw_g := lw_in 95 (by decide +kernel) rfl
theorem imX2_init : Cond.instanceMethod mX2_init.1 ∈ lw_g := lw_in 223 (by decide +kernel) rfl
theorem hX11_40 : Cond.fieldLink RX11 40 (TX11 4).1 (TX11 4).2.1 (TX11 4).2.2.1 ∈ lw_g := lw_in 457 (by decide +kernel) rfl
theorem clX11_44 : Cond.classLink RX11 44 RX3 ∈ lw_g := lw_in 249 (by decide +kernel) rfl
theorem isX3 : Cond.instantiable RX3 10 ∈ lw_g := lw_in 250 (by decide +kernel) rfl
theorem iiX3 : Cond.initialized RX3 ∈ lw_g := lw_in 96 (by decide +kernel) rfl
theorem imX3_init : Cond.instanceMethod mX3_init.1 ∈ lw_g := lw_in 252 (by decide +kernel) rfl
theorem hX11_47 : Cond.fieldLink RX11 47 (TX11 5).1 (TX11 5).2.1 (TX11 5).2.2.1 ∈ lw_g := lw_in 458 (by decide +kernel) rfl
theorem hX11_51 : Cond.fieldLink RX11 51 (TX11 10).1 (TX11 10).2.1 (TX11 10).2.2.1 ∈ lw_g := lw_in 463 (by decide +kernel) rfl
theorem clX11_55 : Cond.classLink RX11 55 RX8 ∈ lw_g := lw_in 341 (by decide +kernel) rfl
theorem isX8 : Cond.instantiable RX8 8 ∈ lw_g := lw_in 342 (by decide +kernel) rfl
theorem iiX8 : Cond.initialized RX8 ∈ lw_g := lw_in 98 (by decide +kernel) rfl
theorem imX8_init : Cond.instanceMethod mX8_init.1 ∈ lw_g := lw_in 344 (by decide +kernel) rfl
theorem liX11_57 : Cond.methodLink RX11 57 mX8_init.1 ∈ lw_g := lw_in 343 (by decide +kernel) rfl
theorem hX11_60 : Cond.fieldLink RX11 60 (TX11 6).1 (TX11 6).2.1 (TX11 6).2.2.1 ∈ lw_g := lw_in 459 (by decide +kernel) rfl
theorem clX11_64 : Cond.classLink RX11 64 RX7 ∈ lw_g := lw_in 374 (by decide +kernel) rfl
theorem isX7 : Cond.instantiable RX7 6 ∈ lw_g := lw_in 375 (by decide +kernel) rfl
theorem iiX7 : Cond.initialized RX7 ∈ lw_g := lw_in 99 (by decide +kernel) rfl
theorem imX7_init : Cond.instanceMethod mX7_init.1 ∈ lw_g := lw_in 377 (by decide +kernel) rfl
theorem liX11_66 : Cond.methodLink RX11 66 mX7_init.1 ∈ lw_g := lw_in 376 (by decide +kernel) rfl
theorem hX11_69 : Cond.fieldLink RX11 69 (TX11 7).1 (TX11 7).2.1 (TX11 7).2.2.1 ∈ lw_g := lw_in 460 (by decide +kernel) rfl
theorem clX11_73 : Cond.classLink RX11 73 RX4 ∈ lw_g := lw_in 400 (by decide +kernel) rfl
theorem isX4 : Cond.instantiable RX4 8 ∈ lw_g := lw_in 401 (by decide +kernel) rfl
theorem iiX4 : Cond.initialized RX4 ∈ lw_g := lw_in 100 (by decide +kernel) rfl
theorem imX4_init : Cond.instanceMethod mX4_init.1 ∈ lw_g := lw_in 403 (by decide +kernel) rfl
theorem liX11_75 : Cond.methodLink RX11 75 mX4_init.1 ∈ lw_g := lw_in 402 (by decide +kernel) rfl
theorem hX11_76 : Cond.fieldLink RX11 76 (TX11 8).1 (TX11 8).2.1 (TX11 8).2.2.1 ∈ lw_g := lw_in 461 (by decide +kernel) rfl
theorem clX11_80 : Cond.classLink RX11 80 RX0 ∈ lw_g := lw_in 435 (by decide +kernel) rfl
theorem isX0 : Cond.instantiable RX0 3 ∈ lw_g := lw_in 436 (by decide +kernel) rfl
theorem iiX0 : Cond.initialized RX0 ∈ lw_g := lw_in 101 (by decide +kernel) rfl
theorem imX0_init : Cond.instanceMethod mX0_init.1 ∈ lw_g := lw_in 438 (by decide +kernel) rfl
theorem liX11_82 : Cond.methodLink RX11 82 mX0_init.1 ∈ lw_g := lw_in 437 (by decide +kernel) rfl
theorem hX11_83 : Cond.fieldLink RX11 83 (TX11 9).1 (TX11 9).2.1 (TX11 9).2.2.1 ∈ lw_g := lw_in 462 (by decide +kernel) rfl
theorem loX12_1 : Cond.methodLink RX12 1 objectInit ∈ lw_g := lw_in 1170 (by decide +kernel) rfl
theorem hX12_7 : Cond.fieldLink RX12 7 (TX12 2).1 (TX12 2).2.1 (TX12 2).2.2.1 ∈ lw_g := lw_in 1173 (by decide +kernel) rfl
theorem hX12_13 : Cond.fieldLink RX12 13 (TX12 3).1 (TX12 3).2.1 (TX12 3).2.2.1 ∈ lw_g := lw_in 1174 (by decide +kernel) rfl
theorem hX12_16 : Cond.fieldLink RX12 16 (TX12 4).1 (TX12 4).2.1 (TX12 4).2.2.1 ∈ lw_g := lw_in 1175 (by decide +kernel) rfl
theorem hX12_19 : Cond.fieldLink RX12 19 (TX12 6).1 (TX12 6).2.1 (TX12 6).2.2.1 ∈ lw_g := lw_in 1177 (by decide +kernel) rfl
theorem hX12_22 : Cond.fieldLink RX12 22 (TX12 7).1 (TX12 7).2.1 (TX12 7).2.2.1 ∈ lw_g := lw_in 1178 (by decide +kernel) rfl
theorem hX12_25 : Cond.fieldLink RX12 25 (TX12 8).1 (TX12 8).2.1 (TX12 8).2.2.1 ∈ lw_g := lw_in 1179 (by decide +kernel) rfl
theorem hX12_28 : Cond.fieldLink RX12 28 (TX12 9).1 (TX12 9).2.1 (TX12 9).2.2.1 ∈ lw_g := lw_in 1180 (by decide +kernel) rfl
theorem hX12_32 : Cond.fieldLink RX12 32 (TX12 11).1 (TX12 11).2.1 (TX12 11).2.2.1 ∈ lw_g := lw_in 1182 (by decide +kernel) rfl
theorem hX12_35 : Cond.fieldLink RX12 35 (TX12 12).1 (TX12 12).2.1 (TX12 12).2.2.1 ∈ lw_g := lw_in 1183 (by decide +kernel) rfl
theorem hX12_38 : Cond.fieldLink RX12 38 (TX12 13).1 (TX12 13).2.1 (TX12 13).2.2.1 ∈ lw_g := lw_in 1184 (by decide +kernel) rfl
theorem hX12_41 : Cond.fieldLink RX12 41 (TX12 14).1 (TX12 14).2.1 (TX12 14).2.2.1 ∈ lw_g := lw_in 1185 (by decide +kernel) rfl
theorem hX12_44 : Cond.fieldLink RX12 44 (TX12 15).1 (TX12 15).2.1 (TX12 15).2.2.1 ∈ lw_g := lw_in 1186 (by decide +kernel) rfl
theorem hX12_47 : Cond.fieldLink RX12 47 (TX12 16).1 (TX12 16).2.1 (TX12 16).2.2.1 ∈ lw_g := lw_in 1187 (by decide +kernel) rfl
theorem hX12_50 : Cond.fieldLink RX12 50 (TX12 17).1 (TX12 17).2.1 (TX12 17).2.2.1 ∈ lw_g := lw_in 1188 (by decide +kernel) rfl
theorem hX12_53 : Cond.fieldLink RX12 53 (TX12 19).1 (TX12 19).2.1 (TX12 19).2.2.1 ∈ lw_g := lw_in 1190 (by decide +kernel) rfl
theorem hX12_56 : Cond.fieldLink RX12 56 (TX12 20).1 (TX12 20).2.1 (TX12 20).2.2.1 ∈ lw_g := lw_in 1191 (by decide +kernel) rfl
theorem hX12_59 : Cond.fieldLink RX12 59 (TX12 21).1 (TX12 21).2.1 (TX12 21).2.2.1 ∈ lw_g := lw_in 1192 (by decide +kernel) rfl
theorem hX12_62 : Cond.fieldLink RX12 62 (TX12 22).1 (TX12 22).2.1 (TX12 22).2.2.1 ∈ lw_g := lw_in 1193 (by decide +kernel) rfl
theorem hX12_65 : Cond.fieldLink RX12 65 (TX12 24).1 (TX12 24).2.1 (TX12 24).2.2.1 ∈ lw_g := lw_in 1195 (by decide +kernel) rfl
theorem hX12_68 : Cond.fieldLink RX12 68 (TX12 25).1 (TX12 25).2.1 (TX12 25).2.2.1 ∈ lw_g := lw_in 1196 (by decide +kernel) rfl
theorem hX12_71 : Cond.fieldLink RX12 71 (TX12 26).1 (TX12 26).2.1 (TX12 26).2.2.1 ∈ lw_g := lw_in 1197 (by decide +kernel) rfl
theorem hX12_74 : Cond.fieldLink RX12 74 (TX12 27).1 (TX12 27).2.1 (TX12 27).2.2.1 ∈ lw_g := lw_in 1198 (by decide +kernel) rfl
theorem hX12_77 : Cond.fieldLink RX12 77 (TX12 28).1 (TX12 28).2.1 (TX12 28).2.2.1 ∈ lw_g := lw_in 1199 (by decide +kernel) rfl
theorem hX12_80 : Cond.fieldLink RX12 80 (TX12 42).1 (TX12 42).2.1 (TX12 42).2.2.1 ∈ lw_g := lw_in 1213 (by decide +kernel) rfl
theorem hX12_83 : Cond.fieldLink RX12 83 (TX12 43).1 (TX12 43).2.1 (TX12 43).2.2.1 ∈ lw_g := lw_in 1214 (by decide +kernel) rfl
theorem hX12_86 : Cond.fieldLink RX12 86 (TX12 44).1 (TX12 44).2.1 (TX12 44).2.2.1 ∈ lw_g := lw_in 1215 (by decide +kernel) rfl
theorem hX12_89 : Cond.fieldLink RX12 89 (TX12 45).1 (TX12 45).2.1 (TX12 45).2.2.1 ∈ lw_g := lw_in 1216 (by decide +kernel) rfl
theorem ac_long : Cond.arrayClass .long ∈ lw_g := lw_in 1334 (by decide +kernel) rfl
theorem hX12_92 : Cond.fieldLink RX12 92 (TX12 46).1 (TX12 46).2.1 (TX12 46).2.2.1 ∈ lw_g := lw_in 1217 (by decide +kernel) rfl
theorem hX12_96 : Cond.fieldLink RX12 96 (TX12 49).1 (TX12 49).2.1 (TX12 49).2.2.1 ∈ lw_g := lw_in 1220 (by decide +kernel) rfl
theorem hX12_99 : Cond.fieldLink RX12 99 (TX12 50).1 (TX12 50).2.1 (TX12 50).2.2.1 ∈ lw_g := lw_in 1221 (by decide +kernel) rfl
theorem hX12_102 : Cond.fieldLink RX12 102 (TX12 51).1 (TX12 51).2.1 (TX12 51).2.2.1 ∈ lw_g := lw_in 1222 (by decide +kernel) rfl
theorem hX12_105 : Cond.fieldLink RX12 105 (TX12 52).1 (TX12 52).2.1 (TX12 52).2.2.1 ∈ lw_g := lw_in 1223 (by decide +kernel) rfl

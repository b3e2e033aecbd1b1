theorem dX2_noneStands_0 : decode (mcode mX2_noneStands) 0 = .ok (.iconst 0, 1) := by decide +kernel
theorem dX2_noneStands_1 : decode (mcode mX2_noneStands) 1 = .ok (.istore 4, 2) := by decide +kernel
theorem dX2_noneStands_3 : decode (mcode mX2_noneStands) 3 = .ok (.iconst 0, 1) := by decide +kernel
theorem dX2_noneStands_4 : decode (mcode mX2_noneStands) 4 = .ok (.istore 5, 2) := by decide +kernel
theorem dX2_noneStands_6 : decode (mcode mX2_noneStands) 6 = .ok (.iload 5, 2) := by decide +kernel
theorem dX2_noneStands_8 : decode (mcode mX2_noneStands) 8 = .ok (.aload_n 0, 1) := by decide +kernel
theorem dX2_noneStands_9 : decode (mcode mX2_noneStands) 9 = .ok (.getfield 28, 3) := by decide +kernel
theorem dX2_noneStands_12 : decode (mcode mX2_noneStands) 12 = .ok (.if_icmp .ge 61, 3) := by decide +kernel
theorem dX2_noneStands_15 : decode (mcode mX2_noneStands) 15 = .ok (.aload_n 0, 1) := by decide +kernel
theorem dX2_noneStands_16 : decode (mcode mX2_noneStands) 16 = .ok (.getfield 9, 3) := by decide +kernel
theorem dX2_noneStands_19 : decode (mcode mX2_noneStands) 19 = .ok (.iload 5, 2) := by decide +kernel
theorem dX2_noneStands_21 : decode (mcode mX2_noneStands) 21 = .ok (.iaload, 1) := by decide +kernel
theorem dX2_noneStands_22 : decode (mcode mX2_noneStands) 22 = .ok (.iload_n 1, 1) := by decide +kernel
theorem dX2_noneStands_23 : decode (mcode mX2_noneStands) 23 = .ok (.if_icmp .ne 44, 3) := by decide +kernel
theorem dX2_noneStands_26 : decode (mcode mX2_noneStands) 26 = .ok (.aload_n 0, 1) := by decide +kernel
theorem dX2_noneStands_27 : decode (mcode mX2_noneStands) 27 = .ok (.getfield 15, 3) := by decide +kernel
theorem dX2_noneStands_30 : decode (mcode mX2_noneStands) 30 = .ok (.iload 5, 2) := by decide +kernel
theorem dX2_noneStands_32 : decode (mcode mX2_noneStands) 32 = .ok (.iaload, 1) := by decide +kernel
theorem dX2_noneStands_33 : decode (mcode mX2_noneStands) 33 = .ok (.iload_n 2, 1) := by decide +kernel
theorem dX2_noneStands_34 : decode (mcode mX2_noneStands) 34 = .ok (.if_icmp .eq 6, 3) := by decide +kernel
theorem dX2_noneStands_37 : decode (mcode mX2_noneStands) 37 = .ok (.goto 30, 3) := by decide +kernel
theorem dX2_noneStands_40 : decode (mcode mX2_noneStands) 40 = .ok (.aload_n 0, 1) := by decide +kernel
theorem dX2_noneStands_41 : decode (mcode mX2_noneStands) 41 = .ok (.getfield 18, 3) := by decide +kernel
theorem dX2_noneStands_44 : decode (mcode mX2_noneStands) 44 = .ok (.iload 5, 2) := by decide +kernel
theorem dX2_noneStands_46 : decode (mcode mX2_noneStands) 46 = .ok (.iaload, 1) := by decide +kernel
theorem dX2_noneStands_47 : decode (mcode mX2_noneStands) 47 = .ok (.iload_n 3, 1) := by decide +kernel
theorem dX2_noneStands_48 : decode (mcode mX2_noneStands) 48 = .ok (.if_icmp .gt 16, 3) := by decide +kernel
theorem dX2_noneStands_51 : decode (mcode mX2_noneStands) 51 = .ok (.iload_n 3, 1) := by decide +kernel
theorem dX2_noneStands_52 : decode (mcode mX2_noneStands) 52 = .ok (.aload_n 0, 1) := by decide +kernel
theorem dX2_noneStands_53 : decode (mcode mX2_noneStands) 53 = .ok (.getfield 21, 3) := by decide +kernel
theorem dX2_noneStands_56 : decode (mcode mX2_noneStands) 56 = .ok (.iload 5, 2) := by decide +kernel
theorem dX2_noneStands_58 : decode (mcode mX2_noneStands) 58 = .ok (.iaload, 1) := by decide +kernel
theorem dX2_noneStands_59 : decode (mcode mX2_noneStands) 59 = .ok (.if_icmp .ge 5, 3) := by decide +kernel
theorem dX2_noneStands_62 : decode (mcode mX2_noneStands) 62 = .ok (.iconst 0, 1) := by decide +kernel
theorem dX2_noneStands_63 : decode (mcode mX2_noneStands) 63 = .ok (.ireturn, 1) := by decide +kernel
theorem dX2_noneStands_64 : decode (mcode mX2_noneStands) 64 = .ok (.iconst 1, 1) := by decide +kernel
theorem dX2_noneStands_65 : decode (mcode mX2_noneStands) 65 = .ok (.istore 4, 2) := by decide +kernel
theorem dX2_noneStands_67 : decode (mcode mX2_noneStands) 67 = .ok (.iinc 5 1, 3) := by decide +kernel
theorem dX2_noneStands_70 : decode (mcode mX2_noneStands) 70 = .ok (.goto (-64), 3) := by decide +kernel
theorem dX2_noneStands_73 : decode (mcode mX2_noneStands) 73 = .ok (.iload 4, 2) := by decide +kernel
theorem dX2_noneStands_75 : decode (mcode mX2_noneStands) 75 = .ok (.ireturn, 1) := by decide +kernel
theorem dX2_tell_0 : decode (mcode mX2_tell) 0 = .ok (.aload_n 0, 1) := by decide +kernel
theorem dX2_tell_1 : decode (mcode mX2_tell) 1 = .ok (.getfield 24, 3) := by decide +kernel
theorem dX2_tell_4 : decode (mcode mX2_tell) 4 = .ok (.bipush 20, 2) := by decide +kernel
theorem dX2_tell_6 : decode (mcode mX2_tell) 6 = .ok (.if_icmp .lt 4, 3) := by decide +kernel
theorem dX2_tell_9 : decode (mcode mX2_tell) 9 = .ok (.return_, 1) := by decide +kernel
theorem dX2_tell_10 : decode (mcode mX2_tell) 10 = .ok (.aload_n 0, 1) := by decide +kernel
theorem dX2_tell_11 : decode (mcode mX2_tell) 11 = .ok (.getfield 9, 3) := by decide +kernel
theorem dX2_tell_14 : decode (mcode mX2_tell) 14 = .ok (.aload_n 0, 1) := by decide +kernel
theorem dX2_tell_15 : decode (mcode mX2_tell) 15 = .ok (.getfield 24, 3) := by decide +kernel
theorem dX2_tell_18 : decode (mcode mX2_tell) 18 = .ok (.iload_n 1, 1) := by decide +kernel
theorem dX2_tell_19 : decode (mcode mX2_tell) 19 = .ok (.iastore, 1) := by decide +kernel
theorem dX2_tell_20 : decode (mcode mX2_tell) 20 = .ok (.aload_n 0, 1) := by decide +kernel
theorem dX2_tell_21 : decode (mcode mX2_tell) 21 = .ok (.getfield 15, 3) := by decide +kernel
theorem dX2_tell_24 : decode (mcode mX2_tell) 24 = .ok (.aload_n 0, 1) := by decide +kernel
theorem dX2_tell_25 : decode (mcode mX2_tell) 25 = .ok (.getfield 24, 3) := by decide +kernel
theorem dX2_tell_28 : decode (mcode mX2_tell) 28 = .ok (.iload_n 2, 1) := by decide +kernel
theorem dX2_tell_29 : decode (mcode mX2_tell) 29 = .ok (.iastore, 1) := by decide +kernel
theorem dX2_tell_30 : decode (mcode mX2_tell) 30 = .ok (.aload_n 0, 1) := by decide +kernel
theorem dX2_tell_31 : decode (mcode mX2_tell) 31 = .ok (.getfield 18, 3) := by decide +kernel
theorem dX2_tell_34 : decode (mcode mX2_tell) 34 = .ok (.aload_n 0, 1) := by decide +kernel
theorem dX2_tell_35 : decode (mcode mX2_tell) 35 = .ok (.getfield 24, 3) := by decide +kernel
theorem dX2_tell_38 : decode (mcode mX2_tell) 38 = .ok (.iload_n 3, 1) := by decide +kernel
theorem dX2_tell_39 : decode (mcode mX2_tell) 39 = .ok (.iastore, 1) := by decide +kernel
theorem dX2_tell_40 : decode (mcode mX2_tell) 40 = .ok (.aload_n 0, 1) := by decide +kernel
theorem dX2_tell_41 : decode (mcode mX2_tell) 41 = .ok (.getfield 21, 3) := by decide +kernel
theorem dX2_tell_44 : decode (mcode mX2_tell) 44 = .ok (.aload_n 0, 1) := by decide +kernel
theorem dX2_tell_45 : decode (mcode mX2_tell) 45 = .ok (.getfield 24, 3) := by decide +kernel
theorem dX2_tell_48 : decode (mcode mX2_tell) 48 = .ok (.iload 4, 2) := by decide +kernel
theorem dX2_tell_50 : decode (mcode mX2_tell) 50 = .ok (.iastore, 1) := by decide +kernel
theorem dX2_tell_51 : decode (mcode mX2_tell) 51 = .ok (.aload_n 0, 1) := by decide +kernel
theorem dX2_tell_52 : decode (mcode mX2_tell) 52 = .ok (.dup, 1) := by decide +kernel
theorem dX2_tell_53 : decode (mcode mX2_tell) 53 = .ok (.getfield 24, 3) := by decide +kernel
theorem dX2_tell_56 : decode (mcode mX2_tell) 56 = .ok (.iconst 1, 1) := by decide +kernel
theorem dX2_tell_57 : decode (mcode mX2_tell) 57 = .ok (.iadd, 1) := by decide +kernel
theorem dX2_tell_58 : decode (mcode mX2_tell) 58 = .ok (.putfield 24, 3) := by decide +kernel
theorem dX2_tell_61 : decode (mcode mX2_tell) 61 = .ok (.return_, 1) := by decide +kernel

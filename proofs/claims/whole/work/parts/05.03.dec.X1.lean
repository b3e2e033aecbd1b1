theorem dX1_tell_0 : decode (mcode mX1_tell) 0 = .ok (.aload_n 0, 1) := by decide +kernel
theorem dX1_tell_1 : decode (mcode mX1_tell) 1 = .ok (.getfield 22, 3) := by decide +kernel
theorem dX1_tell_4 : decode (mcode mX1_tell) 4 = .ok (.bipush 10, 2) := by decide +kernel
theorem dX1_tell_6 : decode (mcode mX1_tell) 6 = .ok (.if_icmp .lt 4, 3) := by decide +kernel
theorem dX1_tell_9 : decode (mcode mX1_tell) 9 = .ok (.return_, 1) := by decide +kernel
theorem dX1_tell_10 : decode (mcode mX1_tell) 10 = .ok (.aload_n 0, 1) := by decide +kernel
theorem dX1_tell_11 : decode (mcode mX1_tell) 11 = .ok (.getfield 9, 3) := by decide +kernel
theorem dX1_tell_14 : decode (mcode mX1_tell) 14 = .ok (.aload_n 0, 1) := by decide +kernel
theorem dX1_tell_15 : decode (mcode mX1_tell) 15 = .ok (.getfield 22, 3) := by decide +kernel
theorem dX1_tell_18 : decode (mcode mX1_tell) 18 = .ok (.iload_n 1, 1) := by decide +kernel
theorem dX1_tell_19 : decode (mcode mX1_tell) 19 = .ok (.iastore, 1) := by decide +kernel
theorem dX1_tell_20 : decode (mcode mX1_tell) 20 = .ok (.aload_n 0, 1) := by decide +kernel
theorem dX1_tell_21 : decode (mcode mX1_tell) 21 = .ok (.getfield 15, 3) := by decide +kernel
theorem dX1_tell_24 : decode (mcode mX1_tell) 24 = .ok (.aload_n 0, 1) := by decide +kernel
theorem dX1_tell_25 : decode (mcode mX1_tell) 25 = .ok (.getfield 22, 3) := by decide +kernel
theorem dX1_tell_28 : decode (mcode mX1_tell) 28 = .ok (.iload_n 2, 1) := by decide +kernel
theorem dX1_tell_29 : decode (mcode mX1_tell) 29 = .ok (.iastore, 1) := by decide +kernel
theorem dX1_tell_30 : decode (mcode mX1_tell) 30 = .ok (.aload_n 0, 1) := by decide +kernel
theorem dX1_tell_31 : decode (mcode mX1_tell) 31 = .ok (.dup, 1) := by decide +kernel
theorem dX1_tell_32 : decode (mcode mX1_tell) 32 = .ok (.getfield 22, 3) := by decide +kernel
theorem dX1_tell_35 : decode (mcode mX1_tell) 35 = .ok (.iconst 1, 1) := by decide +kernel
theorem dX1_tell_36 : decode (mcode mX1_tell) 36 = .ok (.iadd, 1) := by decide +kernel
theorem dX1_tell_37 : decode (mcode mX1_tell) 37 = .ok (.putfield 22, 3) := by decide +kernel
theorem dX1_tell_40 : decode (mcode mX1_tell) 40 = .ok (.return_, 1) := by decide +kernel
theorem dX1_worth_0 : decode (mcode mX1_worth) 0 = .ok (.aload_n 0, 1) := by decide +kernel
theorem dX1_worth_1 : decode (mcode mX1_worth) 1 = .ok (.getfield 15, 3) := by decide +kernel
theorem dX1_worth_4 : decode (mcode mX1_worth) 4 = .ok (.iload_n 1, 1) := by decide +kernel
theorem dX1_worth_5 : decode (mcode mX1_worth) 5 = .ok (.iaload, 1) := by decide +kernel
theorem dX1_worth_6 : decode (mcode mX1_worth) 6 = .ok (.iconst 1, 1) := by decide +kernel
theorem dX1_worth_7 : decode (mcode mX1_worth) 7 = .ok (.if_icmp .ge 7, 3) := by decide +kernel
theorem dX1_worth_10 : decode (mcode mX1_worth) 10 = .ok (.iconst 0, 1) := by decide +kernel
theorem dX1_worth_11 : decode (mcode mX1_worth) 11 = .ok (.goto 15, 3) := by decide +kernel
theorem dX1_worth_14 : decode (mcode mX1_worth) 14 = .ok (.iload_n 2, 1) := by decide +kernel
theorem dX1_worth_15 : decode (mcode mX1_worth) 15 = .ok (.sipush 1000, 3) := by decide +kernel
theorem dX1_worth_18 : decode (mcode mX1_worth) 18 = .ok (.imul, 1) := by decide +kernel
theorem dX1_worth_19 : decode (mcode mX1_worth) 19 = .ok (.aload_n 0, 1) := by decide +kernel
theorem dX1_worth_20 : decode (mcode mX1_worth) 20 = .ok (.getfield 15, 3) := by decide +kernel
theorem dX1_worth_23 : decode (mcode mX1_worth) 23 = .ok (.iload_n 1, 1) := by decide +kernel
theorem dX1_worth_24 : decode (mcode mX1_worth) 24 = .ok (.iaload, 1) := by decide +kernel
theorem dX1_worth_25 : decode (mcode mX1_worth) 25 = .ok (.idiv, 1) := by decide +kernel
theorem dX1_worth_26 : decode (mcode mX1_worth) 26 = .ok (.ireturn, 1) := by decide +kernel
theorem dX1_gatheredAbove_0 : decode (mcode mX1_gatheredAbove) 0 = .ok (.sipush 9999, 3) := by decide +kernel
theorem dX1_gatheredAbove_3 : decode (mcode mX1_gatheredAbove) 3 = .ok (.istore_n 2, 1) := by decide +kernel
theorem dX1_gatheredAbove_4 : decode (mcode mX1_gatheredAbove) 4 = .ok (.iconst 0, 1) := by decide +kernel
theorem dX1_gatheredAbove_5 : decode (mcode mX1_gatheredAbove) 5 = .ok (.istore_n 3, 1) := by decide +kernel
theorem dX1_gatheredAbove_6 : decode (mcode mX1_gatheredAbove) 6 = .ok (.iload_n 3, 1) := by decide +kernel
theorem dX1_gatheredAbove_7 : decode (mcode mX1_gatheredAbove) 7 = .ok (.aload_n 0, 1) := by decide +kernel
theorem dX1_gatheredAbove_8 : decode (mcode mX1_gatheredAbove) 8 = .ok (.getfield 26, 3) := by decide +kernel
theorem dX1_gatheredAbove_11 : decode (mcode mX1_gatheredAbove) 11 = .ok (.if_icmp .ge 30, 3) := by decide +kernel
theorem dX1_gatheredAbove_14 : decode (mcode mX1_gatheredAbove) 14 = .ok (.aload_n 0, 1) := by decide +kernel
theorem dX1_gatheredAbove_15 : decode (mcode mX1_gatheredAbove) 15 = .ok (.getfield 9, 3) := by decide +kernel
theorem dX1_gatheredAbove_18 : decode (mcode mX1_gatheredAbove) 18 = .ok (.iload_n 3, 1) := by decide +kernel
theorem dX1_gatheredAbove_19 : decode (mcode mX1_gatheredAbove) 19 = .ok (.iaload, 1) := by decide +kernel
theorem dX1_gatheredAbove_20 : decode (mcode mX1_gatheredAbove) 20 = .ok (.iload_n 1, 1) := by decide +kernel
theorem dX1_gatheredAbove_21 : decode (mcode mX1_gatheredAbove) 21 = .ok (.if_icmp .le 14, 3) := by decide +kernel
theorem dX1_gatheredAbove_24 : decode (mcode mX1_gatheredAbove) 24 = .ok (.iload_n 2, 1) := by decide +kernel
theorem dX1_gatheredAbove_25 : decode (mcode mX1_gatheredAbove) 25 = .ok (.aload_n 0, 1) := by decide +kernel
theorem dX1_gatheredAbove_26 : decode (mcode mX1_gatheredAbove) 26 = .ok (.getfield 9, 3) := by decide +kernel
theorem dX1_gatheredAbove_29 : decode (mcode mX1_gatheredAbove) 29 = .ok (.iload_n 3, 1) := by decide +kernel
theorem dX1_gatheredAbove_30 : decode (mcode mX1_gatheredAbove) 30 = .ok (.iaload, 1) := by decide +kernel
theorem dX1_gatheredAbove_31 : decode (mcode mX1_gatheredAbove) 31 = .ok (.invokestatic 35, 3) := by decide +kernel
theorem dX1_gatheredAbove_34 : decode (mcode mX1_gatheredAbove) 34 = .ok (.istore_n 2, 1) := by decide +kernel
theorem dX1_gatheredAbove_35 : decode (mcode mX1_gatheredAbove) 35 = .ok (.iinc 3 1, 3) := by decide +kernel
theorem dX1_gatheredAbove_38 : decode (mcode mX1_gatheredAbove) 38 = .ok (.goto (-32), 3) := by decide +kernel
theorem dX1_gatheredAbove_41 : decode (mcode mX1_gatheredAbove) 41 = .ok (.iload_n 2, 1) := by decide +kernel
theorem dX1_gatheredAbove_42 : decode (mcode mX1_gatheredAbove) 42 = .ok (.ireturn, 1) := by decide +kernel
theorem dX1_gatheredBelow_0 : decode (mcode mX1_gatheredBelow) 0 = .ok (.iconst 0, 1) := by decide +kernel
theorem dX1_gatheredBelow_1 : decode (mcode mX1_gatheredBelow) 1 = .ok (.istore_n 2, 1) := by decide +kernel
theorem dX1_gatheredBelow_2 : decode (mcode mX1_gatheredBelow) 2 = .ok (.iconst 0, 1) := by decide +kernel
theorem dX1_gatheredBelow_3 : decode (mcode mX1_gatheredBelow) 3 = .ok (.istore_n 3, 1) := by decide +kernel
theorem dX1_gatheredBelow_4 : decode (mcode mX1_gatheredBelow) 4 = .ok (.iload_n 3, 1) := by decide +kernel
theorem dX1_gatheredBelow_5 : decode (mcode mX1_gatheredBelow) 5 = .ok (.aload_n 0, 1) := by decide +kernel
theorem dX1_gatheredBelow_6 : decode (mcode mX1_gatheredBelow) 6 = .ok (.getfield 26, 3) := by decide +kernel
theorem dX1_gatheredBelow_9 : decode (mcode mX1_gatheredBelow) 9 = .ok (.if_icmp .ge 30, 3) := by decide +kernel
theorem dX1_gatheredBelow_12 : decode (mcode mX1_gatheredBelow) 12 = .ok (.aload_n 0, 1) := by decide +kernel
theorem dX1_gatheredBelow_13 : decode (mcode mX1_gatheredBelow) 13 = .ok (.getfield 9, 3) := by decide +kernel
theorem dX1_gatheredBelow_16 : decode (mcode mX1_gatheredBelow) 16 = .ok (.iload_n 3, 1) := by decide +kernel
theorem dX1_gatheredBelow_17 : decode (mcode mX1_gatheredBelow) 17 = .ok (.iaload, 1) := by decide +kernel
theorem dX1_gatheredBelow_18 : decode (mcode mX1_gatheredBelow) 18 = .ok (.iload_n 1, 1) := by decide +kernel
theorem dX1_gatheredBelow_19 : decode (mcode mX1_gatheredBelow) 19 = .ok (.if_icmp .ge 14, 3) := by decide +kernel
theorem dX1_gatheredBelow_22 : decode (mcode mX1_gatheredBelow) 22 = .ok (.iload_n 2, 1) := by decide +kernel
theorem dX1_gatheredBelow_23 : decode (mcode mX1_gatheredBelow) 23 = .ok (.aload_n 0, 1) := by decide +kernel
theorem dX1_gatheredBelow_24 : decode (mcode mX1_gatheredBelow) 24 = .ok (.getfield 9, 3) := by decide +kernel
theorem dX1_gatheredBelow_27 : decode (mcode mX1_gatheredBelow) 27 = .ok (.iload_n 3, 1) := by decide +kernel
theorem dX1_gatheredBelow_28 : decode (mcode mX1_gatheredBelow) 28 = .ok (.iaload, 1) := by decide +kernel
theorem dX1_gatheredBelow_29 : decode (mcode mX1_gatheredBelow) 29 = .ok (.invokestatic 29, 3) := by decide +kernel
theorem dX1_gatheredBelow_32 : decode (mcode mX1_gatheredBelow) 32 = .ok (.istore_n 2, 1) := by decide +kernel
theorem dX1_gatheredBelow_33 : decode (mcode mX1_gatheredBelow) 33 = .ok (.iinc 3 1, 3) := by decide +kernel
theorem dX1_gatheredBelow_36 : decode (mcode mX1_gatheredBelow) 36 = .ok (.goto (-32), 3) := by decide +kernel
theorem dX1_gatheredBelow_39 : decode (mcode mX1_gatheredBelow) 39 = .ok (.iload_n 2, 1) := by decide +kernel
theorem dX1_gatheredBelow_40 : decode (mcode mX1_gatheredBelow) 40 = .ok (.ireturn, 1) := by decide +kernel

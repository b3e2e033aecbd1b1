theorem dX12_all_0 : decode (mcode mX12_all) 0 = .ok (.iconst 1, 1) := by decide +kernel
theorem dX12_all_1 : decode (mcode mX12_all) 1 = .ok (.aload_n 0, 1) := by decide +kernel
theorem dX12_all_2 : decode (mcode mX12_all) 2 = .ok (.getfield 227, 3) := by decide +kernel
theorem dX12_all_5 : decode (mcode mX12_all) 5 = .ok (.ishl, 1) := by decide +kernel
theorem dX12_all_6 : decode (mcode mX12_all) 6 = .ok (.iconst 1, 1) := by decide +kernel
theorem dX12_all_7 : decode (mcode mX12_all) 7 = .ok (.isub, 1) := by decide +kernel
theorem dX12_all_8 : decode (mcode mX12_all) 8 = .ok (.ireturn, 1) := by decide +kernel
theorem dX12_bad_0 : decode (mcode mX12_bad) 0 = .ok (.aload_n 0, 1) := by decide +kernel
theorem dX12_bad_1 : decode (mcode mX12_bad) 1 = .ok (.getfield 166, 3) := by decide +kernel
theorem dX12_bad_4 : decode (mcode mX12_bad) 4 = .ok (.ifCond .ne 16, 3) := by decide +kernel
theorem dX12_bad_7 : decode (mcode mX12_bad) 7 = .ok (.aload_n 0, 1) := by decide +kernel
theorem dX12_bad_8 : decode (mcode mX12_bad) 8 = .ok (.iload_n 1, 1) := by decide +kernel
theorem dX12_bad_9 : decode (mcode mX12_bad) 9 = .ok (.putfield 166, 3) := by decide +kernel
theorem dX12_bad_12 : decode (mcode mX12_bad) 12 = .ok (.aload_n 0, 1) := by decide +kernel
theorem dX12_bad_13 : decode (mcode mX12_bad) 13 = .ok (.aload_n 0, 1) := by decide +kernel
theorem dX12_bad_14 : decode (mcode mX12_bad) 14 = .ok (.getfield 151, 3) := by decide +kernel
theorem dX12_bad_17 : decode (mcode mX12_bad) 17 = .ok (.putfield 169, 3) := by decide +kernel
theorem dX12_bad_20 : decode (mcode mX12_bad) 20 = .ok (.return_, 1) := by decide +kernel
theorem dX12_began_0 : decode (mcode mX12_began) 0 = .ok (.aload_n 0, 1) := by decide +kernel
theorem dX12_began_1 : decode (mcode mX12_began) 1 = .ok (.getfield 345, 3) := by decide +kernel
theorem dX12_began_4 : decode (mcode mX12_began) 4 = .ok (.bipush 16, 2) := by decide +kernel
theorem dX12_began_6 : decode (mcode mX12_began) 6 = .ok (.if_icmp .ge 23, 3) := by decide +kernel
theorem dX12_began_9 : decode (mcode mX12_began) 9 = .ok (.aload_n 0, 1) := by decide +kernel
theorem dX12_began_10 : decode (mcode mX12_began) 10 = .ok (.getfield 105, 3) := by decide +kernel
theorem dX12_began_13 : decode (mcode mX12_began) 13 = .ok (.aload_n 0, 1) := by decide +kernel
theorem dX12_began_14 : decode (mcode mX12_began) 14 = .ok (.getfield 345, 3) := by decide +kernel
theorem dX12_began_17 : decode (mcode mX12_began) 17 = .ok (.iload_n 1, 1) := by decide +kernel
theorem dX12_began_18 : decode (mcode mX12_began) 18 = .ok (.iastore, 1) := by decide +kernel
theorem dX12_began_19 : decode (mcode mX12_began) 19 = .ok (.aload_n 0, 1) := by decide +kernel
theorem dX12_began_20 : decode (mcode mX12_began) 20 = .ok (.dup, 1) := by decide +kernel
theorem dX12_began_21 : decode (mcode mX12_began) 21 = .ok (.getfield 345, 3) := by decide +kernel
theorem dX12_began_24 : decode (mcode mX12_began) 24 = .ok (.iconst 1, 1) := by decide +kernel
theorem dX12_began_25 : decode (mcode mX12_began) 25 = .ok (.iadd, 1) := by decide +kernel
theorem dX12_began_26 : decode (mcode mX12_began) 26 = .ok (.putfield 345, 3) := by decide +kernel
theorem dX12_began_29 : decode (mcode mX12_began) 29 = .ok (.return_, 1) := by decide +kernel
theorem dX12_bits_0 : decode (mcode mX12_bits) 0 = .ok (.iconst 0, 1) := by decide +kernel
theorem dX12_bits_1 : decode (mcode mX12_bits) 1 = .ok (.istore_n 1, 1) := by decide +kernel
theorem dX12_bits_2 : decode (mcode mX12_bits) 2 = .ok (.iconst 0, 1) := by decide +kernel
theorem dX12_bits_3 : decode (mcode mX12_bits) 3 = .ok (.istore_n 2, 1) := by decide +kernel
theorem dX12_bits_4 : decode (mcode mX12_bits) 4 = .ok (.iload_n 2, 1) := by decide +kernel
theorem dX12_bits_5 : decode (mcode mX12_bits) 5 = .ok (.bipush 12, 2) := by decide +kernel
theorem dX12_bits_7 : decode (mcode mX12_bits) 7 = .ok (.if_icmp .ge 17, 3) := by decide +kernel
theorem dX12_bits_10 : decode (mcode mX12_bits) 10 = .ok (.iload_n 1, 1) := by decide +kernel
theorem dX12_bits_11 : decode (mcode mX12_bits) 11 = .ok (.iload_n 0, 1) := by decide +kernel
theorem dX12_bits_12 : decode (mcode mX12_bits) 12 = .ok (.iload_n 2, 1) := by decide +kernel
theorem dX12_bits_13 : decode (mcode mX12_bits) 13 = .ok (.ishr, 1) := by decide +kernel
theorem dX12_bits_14 : decode (mcode mX12_bits) 14 = .ok (.iconst 1, 1) := by decide +kernel
theorem dX12_bits_15 : decode (mcode mX12_bits) 15 = .ok (.iand, 1) := by decide +kernel
theorem dX12_bits_16 : decode (mcode mX12_bits) 16 = .ok (.iadd, 1) := by decide +kernel
theorem dX12_bits_17 : decode (mcode mX12_bits) 17 = .ok (.istore_n 1, 1) := by decide +kernel
theorem dX12_bits_18 : decode (mcode mX12_bits) 18 = .ok (.iinc 2 1, 3) := by decide +kernel
theorem dX12_bits_21 : decode (mcode mX12_bits) 21 = .ok (.goto (-17), 3) := by decide +kernel
theorem dX12_bits_24 : decode (mcode mX12_bits) 24 = .ok (.iload_n 1, 1) := by decide +kernel
theorem dX12_bits_25 : decode (mcode mX12_bits) 25 = .ok (.ireturn, 1) := by decide +kernel
theorem dX12_byteAt_0 : decode (mcode mX12_byteAt) 0 = .ok (.iload_n 1, 1) := by decide +kernel
theorem dX12_byteAt_1 : decode (mcode mX12_byteAt) 1 = .ok (.aload_n 0, 1) := by decide +kernel
theorem dX12_byteAt_2 : decode (mcode mX12_byteAt) 2 = .ok (.getfield 141, 3) := by decide +kernel
theorem dX12_byteAt_5 : decode (mcode mX12_byteAt) 5 = .ok (.if_icmp .ge 12, 3) := by decide +kernel
theorem dX12_byteAt_8 : decode (mcode mX12_byteAt) 8 = .ok (.aload_n 0, 1) := by decide +kernel
theorem dX12_byteAt_9 : decode (mcode mX12_byteAt) 9 = .ok (.getfield 77, 3) := by decide +kernel
theorem dX12_byteAt_12 : decode (mcode mX12_byteAt) 12 = .ok (.iload_n 1, 1) := by decide +kernel
theorem dX12_byteAt_13 : decode (mcode mX12_byteAt) 13 = .ok (.iaload, 1) := by decide +kernel
theorem dX12_byteAt_14 : decode (mcode mX12_byteAt) 14 = .ok (.goto 5, 3) := by decide +kernel
theorem dX12_byteAt_17 : decode (mcode mX12_byteAt) 17 = .ok (.ldc 144, 2) := by decide +kernel
theorem dX12_byteAt_19 : decode (mcode mX12_byteAt) 19 = .ok (.ireturn, 1) := by decide +kernel
theorem dX12_codeOf_0 : decode (mcode mX12_codeOf) 0 = .ok (.bipush 97, 2) := by decide +kernel
theorem dX12_codeOf_2 : decode (mcode mX12_codeOf) 2 = .ok (.iload_n 0, 1) := by decide +kernel
theorem dX12_codeOf_3 : decode (mcode mX12_codeOf) 3 = .ok (.iadd, 1) := by decide +kernel
theorem dX12_codeOf_4 : decode (mcode mX12_codeOf) 4 = .ok (.tableswitch 129 98 122 #[116, 118, 120, 129, 116, 118, 129, 129, 118, 118, 122, 124, 124, 129, 116, 118, 126, 118, 120, 129, 116, 129, 118, 129, 118], 116) := by decide +kernel
theorem dX12_codeOf_120 : decode (mcode mX12_codeOf) 120 = .ok (.iconst 1, 1) := by decide +kernel
theorem dX12_codeOf_121 : decode (mcode mX12_codeOf) 121 = .ok (.ireturn, 1) := by decide +kernel
theorem dX12_codeOf_122 : decode (mcode mX12_codeOf) 122 = .ok (.iconst 2, 1) := by decide +kernel
theorem dX12_codeOf_123 : decode (mcode mX12_codeOf) 123 = .ok (.ireturn, 1) := by decide +kernel
theorem dX12_codeOf_124 : decode (mcode mX12_codeOf) 124 = .ok (.iconst 3, 1) := by decide +kernel
theorem dX12_codeOf_125 : decode (mcode mX12_codeOf) 125 = .ok (.ireturn, 1) := by decide +kernel
theorem dX12_codeOf_126 : decode (mcode mX12_codeOf) 126 = .ok (.iconst 4, 1) := by decide +kernel
theorem dX12_codeOf_127 : decode (mcode mX12_codeOf) 127 = .ok (.ireturn, 1) := by decide +kernel
theorem dX12_codeOf_128 : decode (mcode mX12_codeOf) 128 = .ok (.iconst 5, 1) := by decide +kernel
theorem dX12_codeOf_129 : decode (mcode mX12_codeOf) 129 = .ok (.ireturn, 1) := by decide +kernel
theorem dX12_codeOf_130 : decode (mcode mX12_codeOf) 130 = .ok (.bipush 6, 2) := by decide +kernel
theorem dX12_codeOf_132 : decode (mcode mX12_codeOf) 132 = .ok (.ireturn, 1) := by decide +kernel
theorem dX12_codeOf_133 : decode (mcode mX12_codeOf) 133 = .ok (.iconst 0, 1) := by decide +kernel
theorem dX12_codeOf_134 : decode (mcode mX12_codeOf) 134 = .ok (.ireturn, 1) := by decide +kernel
theorem dX12_fault_0 : decode (mcode mX12_fault) 0 = .ok (.aload_n 0, 1) := by decide +kernel
theorem dX12_fault_1 : decode (mcode mX12_fault) 1 = .ok (.iconst 0, 1) := by decide +kernel
theorem dX12_fault_2 : decode (mcode mX12_fault) 2 = .ok (.putfield 108, 3) := by decide +kernel
theorem dX12_fault_5 : decode (mcode mX12_fault) 5 = .ok (.aload_n 0, 1) := by decide +kernel
theorem dX12_fault_6 : decode (mcode mX12_fault) 6 = .ok (.getfield 242, 3) := by decide +kernel
theorem dX12_fault_9 : decode (mcode mX12_fault) 9 = .ok (.ireturn, 1) := by decide +kernel
theorem dX12_finding_0 : decode (mcode mX12_finding) 0 = .ok (.aload_n 0, 1) := by decide +kernel
theorem dX12_finding_1 : decode (mcode mX12_finding) 1 = .ok (.iload_n 1, 1) := by decide +kernel
theorem dX12_finding_2 : decode (mcode mX12_finding) 2 = .ok (.putfield 112, 3) := by decide +kernel
theorem dX12_finding_5 : decode (mcode mX12_finding) 5 = .ok (.ldc 115, 2) := by decide +kernel
theorem dX12_finding_7 : decode (mcode mX12_finding) 7 = .ok (.iload_n 1, 1) := by decide +kernel
theorem dX12_finding_8 : decode (mcode mX12_finding) 8 = .ok (.isub, 1) := by decide +kernel
theorem dX12_finding_9 : decode (mcode mX12_finding) 9 = .ok (.ireturn, 1) := by decide +kernel
theorem dX12_gathered_0 : decode (mcode mX12_gathered) 0 = .ok (.aload_n 0, 1) := by decide +kernel
theorem dX12_gathered_1 : decode (mcode mX12_gathered) 1 = .ok (.getfield 19, 3) := by decide +kernel
theorem dX12_gathered_4 : decode (mcode mX12_gathered) 4 = .ok (.aload_n 0, 1) := by decide +kernel
theorem dX12_gathered_5 : decode (mcode mX12_gathered) 5 = .ok (.getfield 32, 3) := by decide +kernel
theorem dX12_gathered_8 : decode (mcode mX12_gathered) 8 = .ok (.iload_n 1, 1) := by decide +kernel
theorem dX12_gathered_9 : decode (mcode mX12_gathered) 9 = .ok (.iaload, 1) := by decide +kernel
theorem dX12_gathered_10 : decode (mcode mX12_gathered) 10 = .ok (.iaload, 1) := by decide +kernel
theorem dX12_gathered_11 : decode (mcode mX12_gathered) 11 = .ok (.aload_n 0, 1) := by decide +kernel
theorem dX12_gathered_12 : decode (mcode mX12_gathered) 12 = .ok (.getfield 22, 3) := by decide +kernel
theorem dX12_gathered_15 : decode (mcode mX12_gathered) 15 = .ok (.aload_n 0, 1) := by decide +kernel
theorem dX12_gathered_16 : decode (mcode mX12_gathered) 16 = .ok (.getfield 32, 3) := by decide +kernel
theorem dX12_gathered_19 : decode (mcode mX12_gathered) 19 = .ok (.iload_n 1, 1) := by decide +kernel
theorem dX12_gathered_20 : decode (mcode mX12_gathered) 20 = .ok (.iaload, 1) := by decide +kernel
theorem dX12_gathered_21 : decode (mcode mX12_gathered) 21 = .ok (.iaload, 1) := by decide +kernel
theorem dX12_gathered_22 : decode (mcode mX12_gathered) 22 = .ok (.isub, 1) := by decide +kernel
theorem dX12_gathered_23 : decode (mcode mX12_gathered) 23 = .ok (.ireturn, 1) := by decide +kernel
theorem dX12_in_0 : decode (mcode mX12_in) 0 = .ok (.lload_n 0, 1) := by decide +kernel
theorem dX12_in_1 : decode (mcode mX12_in) 1 = .ok (.lload_n 2, 1) := by decide +kernel
theorem dX12_in_2 : decode (mcode mX12_in) 2 = .ok (.lcmp, 1) := by decide +kernel
theorem dX12_in_3 : decode (mcode mX12_in) 3 = .ok (.ifCond .lt 14, 3) := by decide +kernel
theorem dX12_in_6 : decode (mcode mX12_in) 6 = .ok (.lload_n 0, 1) := by decide +kernel
theorem dX12_in_7 : decode (mcode mX12_in) 7 = .ok (.lload 4, 2) := by decide +kernel
theorem dX12_in_9 : decode (mcode mX12_in) 9 = .ok (.lcmp, 1) := by decide +kernel
theorem dX12_in_10 : decode (mcode mX12_in) 10 = .ok (.ifCond .gt 7, 3) := by decide +kernel
theorem dX12_in_13 : decode (mcode mX12_in) 13 = .ok (.iconst 1, 1) := by decide +kernel
theorem dX12_in_14 : decode (mcode mX12_in) 14 = .ok (.goto 4, 3) := by decide +kernel
theorem dX12_in_17 : decode (mcode mX12_in) 17 = .ok (.iconst 0, 1) := by decide +kernel
theorem dX12_in_18 : decode (mcode mX12_in) 18 = .ok (.ireturn, 1) := by decide +kernel
theorem dX12_isFigure_0 : decode (mcode mX12_isFigure) 0 = .ok (.iload_n 0, 1) := by decide +kernel
theorem dX12_isFigure_1 : decode (mcode mX12_isFigure) 1 = .ok (.bipush 48, 2) := by decide +kernel
theorem dX12_isFigure_3 : decode (mcode mX12_isFigure) 3 = .ok (.if_icmp .lt 13, 3) := by decide +kernel
theorem dX12_isFigure_6 : decode (mcode mX12_isFigure) 6 = .ok (.iload_n 0, 1) := by decide +kernel
theorem dX12_isFigure_7 : decode (mcode mX12_isFigure) 7 = .ok (.bipush 57, 2) := by decide +kernel
theorem dX12_isFigure_9 : decode (mcode mX12_isFigure) 9 = .ok (.if_icmp .gt 7, 3) := by decide +kernel
theorem dX12_isFigure_12 : decode (mcode mX12_isFigure) 12 = .ok (.iconst 1, 1) := by decide +kernel
theorem dX12_isFigure_13 : decode (mcode mX12_isFigure) 13 = .ok (.goto 4, 3) := by decide +kernel
theorem dX12_isFigure_16 : decode (mcode mX12_isFigure) 16 = .ok (.iconst 0, 1) := by decide +kernel
theorem dX12_isFigure_17 : decode (mcode mX12_isFigure) 17 = .ok (.ireturn, 1) := by decide +kernel
theorem dX12_isHome_0 : decode (mcode mX12_isHome) 0 = .ok (.aload_n 0, 1) := by decide +kernel
theorem dX12_isHome_1 : decode (mcode mX12_isHome) 1 = .ok (.getfield 35, 3) := by decide +kernel
theorem dX12_isHome_4 : decode (mcode mX12_isHome) 4 = .ok (.iload_n 1, 1) := by decide +kernel
theorem dX12_isHome_5 : decode (mcode mX12_isHome) 5 = .ok (.iaload, 1) := by decide +kernel
theorem dX12_isHome_6 : decode (mcode mX12_isHome) 6 = .ok (.iconst 3, 1) := by decide +kernel
theorem dX12_isHome_7 : decode (mcode mX12_isHome) 7 = .ok (.if_icmp .ge 7, 3) := by decide +kernel
theorem dX12_isHome_10 : decode (mcode mX12_isHome) 10 = .ok (.iconst 1, 1) := by decide +kernel
theorem dX12_isHome_11 : decode (mcode mX12_isHome) 11 = .ok (.goto 4, 3) := by decide +kernel
theorem dX12_isHome_14 : decode (mcode mX12_isHome) 14 = .ok (.iconst 0, 1) := by decide +kernel
theorem dX12_isHome_15 : decode (mcode mX12_isHome) 15 = .ok (.ireturn, 1) := by decide +kernel
theorem dX12_isLetter_0 : decode (mcode mX12_isLetter) 0 = .ok (.iload_n 0, 1) := by decide +kernel
theorem dX12_isLetter_1 : decode (mcode mX12_isLetter) 1 = .ok (.bipush 97, 2) := by decide +kernel
theorem dX12_isLetter_3 : decode (mcode mX12_isLetter) 3 = .ok (.if_icmp .lt 13, 3) := by decide +kernel
theorem dX12_isLetter_6 : decode (mcode mX12_isLetter) 6 = .ok (.iload_n 0, 1) := by decide +kernel
theorem dX12_isLetter_7 : decode (mcode mX12_isLetter) 7 = .ok (.bipush 122, 2) := by decide +kernel
theorem dX12_isLetter_9 : decode (mcode mX12_isLetter) 9 = .ok (.if_icmp .gt 7, 3) := by decide +kernel
theorem dX12_isLetter_12 : decode (mcode mX12_isLetter) 12 = .ok (.iconst 1, 1) := by decide +kernel
theorem dX12_isLetter_13 : decode (mcode mX12_isLetter) 13 = .ok (.goto 4, 3) := by decide +kernel
theorem dX12_isLetter_16 : decode (mcode mX12_isLetter) 16 = .ok (.iconst 0, 1) := by decide +kernel
theorem dX12_isLetter_17 : decode (mcode mX12_isLetter) 17 = .ok (.ireturn, 1) := by decide +kernel
theorem dX12_isOf_0 : decode (mcode mX12_isOf) 0 = .ok (.iload_n 1, 1) := by decide +kernel
theorem dX12_isOf_1 : decode (mcode mX12_isOf) 1 = .ok (.ifCond .eq 23, 3) := by decide +kernel
theorem dX12_isOf_4 : decode (mcode mX12_isOf) 4 = .ok (.iload_n 0, 1) := by decide +kernel
theorem dX12_isOf_5 : decode (mcode mX12_isOf) 5 = .ok (.iload_n 1, 1) := by decide +kernel
theorem dX12_isOf_6 : decode (mcode mX12_isOf) 6 = .ok (.if_icmp .eq 18, 3) := by decide +kernel
theorem dX12_isOf_9 : decode (mcode mX12_isOf) 9 = .ok (.iload_n 1, 1) := by decide +kernel
theorem dX12_isOf_10 : decode (mcode mX12_isOf) 10 = .ok (.iconst 1, 1) := by decide +kernel
theorem dX12_isOf_11 : decode (mcode mX12_isOf) 11 = .ok (.if_icmp .ne 17, 3) := by decide +kernel
theorem dX12_isOf_14 : decode (mcode mX12_isOf) 14 = .ok (.iload_n 0, 1) := by decide +kernel
theorem dX12_isOf_15 : decode (mcode mX12_isOf) 15 = .ok (.iconst 2, 1) := by decide +kernel
theorem dX12_isOf_16 : decode (mcode mX12_isOf) 16 = .ok (.if_icmp .eq 8, 3) := by decide +kernel
theorem dX12_isOf_19 : decode (mcode mX12_isOf) 19 = .ok (.iload_n 0, 1) := by decide +kernel
theorem dX12_isOf_20 : decode (mcode mX12_isOf) 20 = .ok (.iconst 3, 1) := by decide +kernel
theorem dX12_isOf_21 : decode (mcode mX12_isOf) 21 = .ok (.if_icmp .ne 7, 3) := by decide +kernel
theorem dX12_isOf_24 : decode (mcode mX12_isOf) 24 = .ok (.iconst 1, 1) := by decide +kernel
theorem dX12_isOf_25 : decode (mcode mX12_isOf) 25 = .ok (.goto 4, 3) := by decide +kernel
theorem dX12_isOf_28 : decode (mcode mX12_isOf) 28 = .ok (.iconst 0, 1) := by decide +kernel
theorem dX12_isOf_29 : decode (mcode mX12_isOf) 29 = .ok (.ireturn, 1) := by decide +kernel
theorem dX12_least_0 : decode (mcode mX12_least) 0 = .ok (.iload_n 0, 1) := by decide +kernel
theorem dX12_least_1 : decode (mcode mX12_least) 1 = .ok (.iload_n 1, 1) := by decide +kernel
theorem dX12_least_2 : decode (mcode mX12_least) 2 = .ok (.if_icmp .ge 7, 3) := by decide +kernel
theorem dX12_least_5 : decode (mcode mX12_least) 5 = .ok (.iload_n 0, 1) := by decide +kernel
theorem dX12_least_6 : decode (mcode mX12_least) 6 = .ok (.goto 4, 3) := by decide +kernel
theorem dX12_least_9 : decode (mcode mX12_least) 9 = .ok (.iload_n 1, 1) := by decide +kernel
theorem dX12_least_10 : decode (mcode mX12_least) 10 = .ok (.ireturn, 1) := by decide +kernel
theorem dX12_lowest_0 : decode (mcode mX12_lowest) 0 = .ok (.iconst 0, 1) := by decide +kernel
theorem dX12_lowest_1 : decode (mcode mX12_lowest) 1 = .ok (.istore_n 1, 1) := by decide +kernel
theorem dX12_lowest_2 : decode (mcode mX12_lowest) 2 = .ok (.iload_n 0, 1) := by decide +kernel
theorem dX12_lowest_3 : decode (mcode mX12_lowest) 3 = .ok (.iload_n 1, 1) := by decide +kernel
theorem dX12_lowest_4 : decode (mcode mX12_lowest) 4 = .ok (.ishr, 1) := by decide +kernel
theorem dX12_lowest_5 : decode (mcode mX12_lowest) 5 = .ok (.iconst 1, 1) := by decide +kernel
theorem dX12_lowest_6 : decode (mcode mX12_lowest) 6 = .ok (.iand, 1) := by decide +kernel
theorem dX12_lowest_7 : decode (mcode mX12_lowest) 7 = .ok (.ifCond .ne 9, 3) := by decide +kernel
theorem dX12_lowest_10 : decode (mcode mX12_lowest) 10 = .ok (.iinc 1 1, 3) := by decide +kernel
theorem dX12_lowest_13 : decode (mcode mX12_lowest) 13 = .ok (.goto (-11), 3) := by decide +kernel
theorem dX12_lowest_16 : decode (mcode mX12_lowest) 16 = .ok (.iload_n 1, 1) := by decide +kernel
theorem dX12_lowest_17 : decode (mcode mX12_lowest) 17 = .ok (.ireturn, 1) := by decide +kernel
theorem dX12_quarrels_0 : decode (mcode mX12_quarrels) 0 = .ok (.aload_n 0, 1) := by decide +kernel
theorem dX12_quarrels_1 : decode (mcode mX12_quarrels) 1 = .ok (.iconst 0, 1) := by decide +kernel
theorem dX12_quarrels_2 : decode (mcode mX12_quarrels) 2 = .ok (.putfield 108, 3) := by decide +kernel
theorem dX12_quarrels_5 : decode (mcode mX12_quarrels) 5 = .ok (.iconst 0, 1) := by decide +kernel
theorem dX12_quarrels_6 : decode (mcode mX12_quarrels) 6 = .ok (.istore_n 1, 1) := by decide +kernel
theorem dX12_quarrels_7 : decode (mcode mX12_quarrels) 7 = .ok (.iconst 0, 1) := by decide +kernel
theorem dX12_quarrels_8 : decode (mcode mX12_quarrels) 8 = .ok (.istore_n 2, 1) := by decide +kernel
theorem dX12_quarrels_9 : decode (mcode mX12_quarrels) 9 = .ok (.iload_n 2, 1) := by decide +kernel
theorem dX12_quarrels_10 : decode (mcode mX12_quarrels) 10 = .ok (.aload_n 0, 1) := by decide +kernel
theorem dX12_quarrels_11 : decode (mcode mX12_quarrels) 11 = .ok (.getfield 230, 3) := by decide +kernel
theorem dX12_quarrels_14 : decode (mcode mX12_quarrels) 14 = .ok (.if_icmp .ge 96, 3) := by decide +kernel
theorem dX12_quarrels_17 : decode (mcode mX12_quarrels) 17 = .ok (.iconst 0, 1) := by decide +kernel
theorem dX12_quarrels_18 : decode (mcode mX12_quarrels) 18 = .ok (.istore_n 3, 1) := by decide +kernel
theorem dX12_quarrels_19 : decode (mcode mX12_quarrels) 19 = .ok (.iconst 0, 1) := by decide +kernel
theorem dX12_quarrels_20 : decode (mcode mX12_quarrels) 20 = .ok (.istore 4, 2) := by decide +kernel
theorem dX12_quarrels_22 : decode (mcode mX12_quarrels) 22 = .ok (.iload 4, 2) := by decide +kernel
theorem dX12_quarrels_24 : decode (mcode mX12_quarrels) 24 = .ok (.iload_n 2, 1) := by decide +kernel
theorem dX12_quarrels_25 : decode (mcode mX12_quarrels) 25 = .ok (.if_icmp .ge 67, 3) := by decide +kernel
theorem dX12_quarrels_28 : decode (mcode mX12_quarrels) 28 = .ok (.iload_n 3, 1) := by decide +kernel
theorem dX12_quarrels_29 : decode (mcode mX12_quarrels) 29 = .ok (.ifCond .ne 51, 3) := by decide +kernel
theorem dX12_quarrels_32 : decode (mcode mX12_quarrels) 32 = .ok (.aload_n 0, 1) := by decide +kernel
theorem dX12_quarrels_33 : decode (mcode mX12_quarrels) 33 = .ok (.getfield 53, 3) := by decide +kernel
theorem dX12_quarrels_36 : decode (mcode mX12_quarrels) 36 = .ok (.iload_n 2, 1) := by decide +kernel
theorem dX12_quarrels_37 : decode (mcode mX12_quarrels) 37 = .ok (.iaload, 1) := by decide +kernel
theorem dX12_quarrels_38 : decode (mcode mX12_quarrels) 38 = .ok (.aload_n 0, 1) := by decide +kernel
theorem dX12_quarrels_39 : decode (mcode mX12_quarrels) 39 = .ok (.getfield 53, 3) := by decide +kernel
theorem dX12_quarrels_42 : decode (mcode mX12_quarrels) 42 = .ok (.iload 4, 2) := by decide +kernel
theorem dX12_quarrels_44 : decode (mcode mX12_quarrels) 44 = .ok (.iaload, 1) := by decide +kernel
theorem dX12_quarrels_45 : decode (mcode mX12_quarrels) 45 = .ok (.if_icmp .ne 39, 3) := by decide +kernel
theorem dX12_quarrels_48 : decode (mcode mX12_quarrels) 48 = .ok (.aload_n 0, 1) := by decide +kernel
theorem dX12_quarrels_49 : decode (mcode mX12_quarrels) 49 = .ok (.getfield 56, 3) := by decide +kernel
theorem dX12_quarrels_52 : decode (mcode mX12_quarrels) 52 = .ok (.iload_n 2, 1) := by decide +kernel
theorem dX12_quarrels_53 : decode (mcode mX12_quarrels) 53 = .ok (.iaload, 1) := by decide +kernel
theorem dX12_quarrels_54 : decode (mcode mX12_quarrels) 54 = .ok (.aload_n 0, 1) := by decide +kernel
theorem dX12_quarrels_55 : decode (mcode mX12_quarrels) 55 = .ok (.getfield 56, 3) := by decide +kernel
theorem dX12_quarrels_58 : decode (mcode mX12_quarrels) 58 = .ok (.iload 4, 2) := by decide +kernel
theorem dX12_quarrels_60 : decode (mcode mX12_quarrels) 60 = .ok (.iaload, 1) := by decide +kernel
theorem dX12_quarrels_61 : decode (mcode mX12_quarrels) 61 = .ok (.if_icmp .ne 23, 3) := by decide +kernel
theorem dX12_quarrels_64 : decode (mcode mX12_quarrels) 64 = .ok (.aload_n 0, 1) := by decide +kernel
theorem dX12_quarrels_65 : decode (mcode mX12_quarrels) 65 = .ok (.getfield 59, 3) := by decide +kernel
theorem dX12_quarrels_68 : decode (mcode mX12_quarrels) 68 = .ok (.iload_n 2, 1) := by decide +kernel
theorem dX12_quarrels_69 : decode (mcode mX12_quarrels) 69 = .ok (.iaload, 1) := by decide +kernel
theorem dX12_quarrels_70 : decode (mcode mX12_quarrels) 70 = .ok (.aload_n 0, 1) := by decide +kernel
theorem dX12_quarrels_71 : decode (mcode mX12_quarrels) 71 = .ok (.getfield 59, 3) := by decide +kernel
theorem dX12_quarrels_74 : decode (mcode mX12_quarrels) 74 = .ok (.iload 4, 2) := by decide +kernel
theorem dX12_quarrels_76 : decode (mcode mX12_quarrels) 76 = .ok (.iaload, 1) := by decide +kernel
theorem dX12_quarrels_77 : decode (mcode mX12_quarrels) 77 = .ok (.if_icmp .ne 7, 3) := by decide +kernel
theorem dX12_quarrels_80 : decode (mcode mX12_quarrels) 80 = .ok (.iconst 1, 1) := by decide +kernel
theorem dX12_quarrels_81 : decode (mcode mX12_quarrels) 81 = .ok (.goto 4, 3) := by decide +kernel
theorem dX12_quarrels_84 : decode (mcode mX12_quarrels) 84 = .ok (.iconst 0, 1) := by decide +kernel
theorem dX12_quarrels_85 : decode (mcode mX12_quarrels) 85 = .ok (.istore_n 3, 1) := by decide +kernel
theorem dX12_quarrels_86 : decode (mcode mX12_quarrels) 86 = .ok (.iinc 4 1, 3) := by decide +kernel
theorem dX12_quarrels_89 : decode (mcode mX12_quarrels) 89 = .ok (.goto (-67), 3) := by decide +kernel
theorem dX12_quarrels_92 : decode (mcode mX12_quarrels) 92 = .ok (.iload_n 1, 1) := by decide +kernel
theorem dX12_quarrels_93 : decode (mcode mX12_quarrels) 93 = .ok (.iload_n 3, 1) := by decide +kernel
theorem dX12_quarrels_94 : decode (mcode mX12_quarrels) 94 = .ok (.ifCond .eq 7, 3) := by decide +kernel
theorem dX12_quarrels_97 : decode (mcode mX12_quarrels) 97 = .ok (.iconst 1, 1) := by decide +kernel
theorem dX12_quarrels_98 : decode (mcode mX12_quarrels) 98 = .ok (.goto 4, 3) := by decide +kernel
theorem dX12_quarrels_101 : decode (mcode mX12_quarrels) 101 = .ok (.iconst 0, 1) := by decide +kernel
theorem dX12_quarrels_102 : decode (mcode mX12_quarrels) 102 = .ok (.iadd, 1) := by decide +kernel
theorem dX12_quarrels_103 : decode (mcode mX12_quarrels) 103 = .ok (.istore_n 1, 1) := by decide +kernel
theorem dX12_quarrels_104 : decode (mcode mX12_quarrels) 104 = .ok (.iinc 2 1, 3) := by decide +kernel
theorem dX12_quarrels_107 : decode (mcode mX12_quarrels) 107 = .ok (.goto (-98), 3) := by decide +kernel
theorem dX12_quarrels_110 : decode (mcode mX12_quarrels) 110 = .ok (.iload_n 1, 1) := by decide +kernel
theorem dX12_quarrels_111 : decode (mcode mX12_quarrels) 111 = .ok (.ireturn, 1) := by decide +kernel
theorem dX12_status_0 : decode (mcode mX12_status) 0 = .ok (.aload_n 0, 1) := by decide +kernel
theorem dX12_status_1 : decode (mcode mX12_status) 1 = .ok (.iconst 0, 1) := by decide +kernel
theorem dX12_status_2 : decode (mcode mX12_status) 2 = .ok (.putfield 108, 3) := by decide +kernel
theorem dX12_status_5 : decode (mcode mX12_status) 5 = .ok (.aload_n 0, 1) := by decide +kernel
theorem dX12_status_6 : decode (mcode mX12_status) 6 = .ok (.getfield 112, 3) := by decide +kernel
theorem dX12_status_9 : decode (mcode mX12_status) 9 = .ok (.ireturn, 1) := by decide +kernel
theorem dX12_todayOf_0 : decode (mcode mX12_todayOf) 0 = .ok (.iload_n 2, 1) := by decide +kernel
theorem dX12_todayOf_1 : decode (mcode mX12_todayOf) 1 = .ok (.istore 4, 2) := by decide +kernel
theorem dX12_todayOf_3 : decode (mcode mX12_todayOf) 3 = .ok (.iconst 0, 1) := by decide +kernel
theorem dX12_todayOf_4 : decode (mcode mX12_todayOf) 4 = .ok (.istore 5, 2) := by decide +kernel
theorem dX12_todayOf_6 : decode (mcode mX12_todayOf) 6 = .ok (.iconst 1, 1) := by decide +kernel
theorem dX12_todayOf_7 : decode (mcode mX12_todayOf) 7 = .ok (.istore 6, 2) := by decide +kernel
theorem dX12_todayOf_9 : decode (mcode mX12_todayOf) 9 = .ok (.iload 6, 2) := by decide +kernel
theorem dX12_todayOf_11 : decode (mcode mX12_todayOf) 11 = .ok (.ifCond .eq 147, 3) := by decide +kernel
theorem dX12_todayOf_14 : decode (mcode mX12_todayOf) 14 = .ok (.ldc 144, 2) := by decide +kernel
theorem dX12_todayOf_16 : decode (mcode mX12_todayOf) 16 = .ok (.istore 7, 2) := by decide +kernel
theorem dX12_todayOf_18 : decode (mcode mX12_todayOf) 18 = .ok (.iconst 0, 1) := by decide +kernel
theorem dX12_todayOf_19 : decode (mcode mX12_todayOf) 19 = .ok (.istore 8, 2) := by decide +kernel
theorem dX12_todayOf_21 : decode (mcode mX12_todayOf) 21 = .ok (.iload 8, 2) := by decide +kernel
theorem dX12_todayOf_23 : decode (mcode mX12_todayOf) 23 = .ok (.aload_n 0, 1) := by decide +kernel
theorem dX12_todayOf_24 : decode (mcode mX12_todayOf) 24 = .ok (.getfield 230, 3) := by decide +kernel
theorem dX12_todayOf_27 : decode (mcode mX12_todayOf) 27 = .ok (.if_icmp .ge 63, 3) := by decide +kernel
theorem dX12_todayOf_30 : decode (mcode mX12_todayOf) 30 = .ok (.aload_n 0, 1) := by decide +kernel
theorem dX12_todayOf_31 : decode (mcode mX12_todayOf) 31 = .ok (.getfield 53, 3) := by decide +kernel
theorem dX12_todayOf_34 : decode (mcode mX12_todayOf) 34 = .ok (.iload 8, 2) := by decide +kernel
theorem dX12_todayOf_36 : decode (mcode mX12_todayOf) 36 = .ok (.iaload, 1) := by decide +kernel
theorem dX12_todayOf_37 : decode (mcode mX12_todayOf) 37 = .ok (.iload_n 3, 1) := by decide +kernel
theorem dX12_todayOf_38 : decode (mcode mX12_todayOf) 38 = .ok (.if_icmp .le 46, 3) := by decide +kernel
theorem dX12_todayOf_41 : decode (mcode mX12_todayOf) 41 = .ok (.iload 5, 2) := by decide +kernel
theorem dX12_todayOf_43 : decode (mcode mX12_todayOf) 43 = .ok (.iload 8, 2) := by decide +kernel
theorem dX12_todayOf_45 : decode (mcode mX12_todayOf) 45 = .ok (.ishr, 1) := by decide +kernel
theorem dX12_todayOf_46 : decode (mcode mX12_todayOf) 46 = .ok (.iconst 1, 1) := by decide +kernel
theorem dX12_todayOf_47 : decode (mcode mX12_todayOf) 47 = .ok (.iand, 1) := by decide +kernel
theorem dX12_todayOf_48 : decode (mcode mX12_todayOf) 48 = .ok (.ifCond .ne 36, 3) := by decide +kernel
theorem dX12_todayOf_51 : decode (mcode mX12_todayOf) 51 = .ok (.iload 7, 2) := by decide +kernel
theorem dX12_todayOf_53 : decode (mcode mX12_todayOf) 53 = .ok (.ldc 144, 2) := by decide +kernel
theorem dX12_todayOf_55 : decode (mcode mX12_todayOf) 55 = .ok (.if_icmp .eq 20, 3) := by decide +kernel
theorem dX12_todayOf_58 : decode (mcode mX12_todayOf) 58 = .ok (.aload_n 0, 1) := by decide +kernel
theorem dX12_todayOf_59 : decode (mcode mX12_todayOf) 59 = .ok (.getfield 53, 3) := by decide +kernel
theorem dX12_todayOf_62 : decode (mcode mX12_todayOf) 62 = .ok (.iload 8, 2) := by decide +kernel
theorem dX12_todayOf_64 : decode (mcode mX12_todayOf) 64 = .ok (.iaload, 1) := by decide +kernel
theorem dX12_todayOf_65 : decode (mcode mX12_todayOf) 65 = .ok (.aload_n 0, 1) := by decide +kernel
theorem dX12_todayOf_66 : decode (mcode mX12_todayOf) 66 = .ok (.getfield 53, 3) := by decide +kernel
theorem dX12_todayOf_69 : decode (mcode mX12_todayOf) 69 = .ok (.iload 7, 2) := by decide +kernel
theorem dX12_todayOf_71 : decode (mcode mX12_todayOf) 71 = .ok (.iaload, 1) := by decide +kernel
theorem dX12_todayOf_72 : decode (mcode mX12_todayOf) 72 = .ok (.if_icmp .ge 8, 3) := by decide +kernel
theorem dX12_todayOf_75 : decode (mcode mX12_todayOf) 75 = .ok (.iload 8, 2) := by decide +kernel
theorem dX12_todayOf_77 : decode (mcode mX12_todayOf) 77 = .ok (.goto 5, 3) := by decide +kernel
theorem dX12_todayOf_80 : decode (mcode mX12_todayOf) 80 = .ok (.iload 7, 2) := by decide +kernel
theorem dX12_todayOf_82 : decode (mcode mX12_todayOf) 82 = .ok (.istore 7, 2) := by decide +kernel
theorem dX12_todayOf_84 : decode (mcode mX12_todayOf) 84 = .ok (.iinc 8 1, 3) := by decide +kernel
theorem dX12_todayOf_87 : decode (mcode mX12_todayOf) 87 = .ok (.goto (-66), 3) := by decide +kernel
theorem dX12_todayOf_90 : decode (mcode mX12_todayOf) 90 = .ok (.iload 7, 2) := by decide +kernel
theorem dX12_todayOf_92 : decode (mcode mX12_todayOf) 92 = .ok (.ldc 144, 2) := by decide +kernel
theorem dX12_todayOf_94 : decode (mcode mX12_todayOf) 94 = .ok (.if_icmp .eq 7, 3) := by decide +kernel
theorem dX12_todayOf_97 : decode (mcode mX12_todayOf) 97 = .ok (.iconst 1, 1) := by decide +kernel
theorem dX12_todayOf_98 : decode (mcode mX12_todayOf) 98 = .ok (.goto 4, 3) := by decide +kernel
theorem dX12_todayOf_101 : decode (mcode mX12_todayOf) 101 = .ok (.iconst 0, 1) := by decide +kernel
theorem dX12_todayOf_102 : decode (mcode mX12_todayOf) 102 = .ok (.istore 6, 2) := by decide +kernel
theorem dX12_todayOf_104 : decode (mcode mX12_todayOf) 104 = .ok (.iload 6, 2) := by decide +kernel
theorem dX12_todayOf_106 : decode (mcode mX12_todayOf) 106 = .ok (.ifCond .eq 49, 3) := by decide +kernel
theorem dX12_todayOf_109 : decode (mcode mX12_todayOf) 109 = .ok (.iload 5, 2) := by decide +kernel
theorem dX12_todayOf_111 : decode (mcode mX12_todayOf) 111 = .ok (.iconst 1, 1) := by decide +kernel
theorem dX12_todayOf_112 : decode (mcode mX12_todayOf) 112 = .ok (.iload 7, 2) := by decide +kernel
theorem dX12_todayOf_114 : decode (mcode mX12_todayOf) 114 = .ok (.ishl, 1) := by decide +kernel
theorem dX12_todayOf_115 : decode (mcode mX12_todayOf) 115 = .ok (.ior, 1) := by decide +kernel
theorem dX12_todayOf_116 : decode (mcode mX12_todayOf) 116 = .ok (.istore 5, 2) := by decide +kernel
theorem dX12_todayOf_118 : decode (mcode mX12_todayOf) 118 = .ok (.aload_n 0, 1) := by decide +kernel
theorem dX12_todayOf_119 : decode (mcode mX12_todayOf) 119 = .ok (.getfield 56, 3) := by decide +kernel
theorem dX12_todayOf_122 : decode (mcode mX12_todayOf) 122 = .ok (.iload 7, 2) := by decide +kernel
theorem dX12_todayOf_124 : decode (mcode mX12_todayOf) 124 = .ok (.iaload, 1) := by decide +kernel
theorem dX12_todayOf_125 : decode (mcode mX12_todayOf) 125 = .ok (.iload_n 1, 1) := by decide +kernel
theorem dX12_todayOf_126 : decode (mcode mX12_todayOf) 126 = .ok (.if_icmp .ne 25, 3) := by decide +kernel
theorem dX12_todayOf_129 : decode (mcode mX12_todayOf) 129 = .ok (.aload_n 0, 1) := by decide +kernel
theorem dX12_todayOf_130 : decode (mcode mX12_todayOf) 130 = .ok (.getfield 59, 3) := by decide +kernel
theorem dX12_todayOf_133 : decode (mcode mX12_todayOf) 133 = .ok (.iload 7, 2) := by decide +kernel
theorem dX12_todayOf_135 : decode (mcode mX12_todayOf) 135 = .ok (.iaload, 1) := by decide +kernel
theorem dX12_todayOf_136 : decode (mcode mX12_todayOf) 136 = .ok (.iload 4, 2) := by decide +kernel
theorem dX12_todayOf_138 : decode (mcode mX12_todayOf) 138 = .ok (.if_icmp .ne 13, 3) := by decide +kernel
theorem dX12_todayOf_141 : decode (mcode mX12_todayOf) 141 = .ok (.aload_n 0, 1) := by decide +kernel
theorem dX12_todayOf_142 : decode (mcode mX12_todayOf) 142 = .ok (.getfield 62, 3) := by decide +kernel
theorem dX12_todayOf_145 : decode (mcode mX12_todayOf) 145 = .ok (.iload 7, 2) := by decide +kernel
theorem dX12_todayOf_147 : decode (mcode mX12_todayOf) 147 = .ok (.iaload, 1) := by decide +kernel
theorem dX12_todayOf_148 : decode (mcode mX12_todayOf) 148 = .ok (.goto 5, 3) := by decide +kernel
theorem dX12_todayOf_151 : decode (mcode mX12_todayOf) 151 = .ok (.iload 4, 2) := by decide +kernel
theorem dX12_todayOf_153 : decode (mcode mX12_todayOf) 153 = .ok (.istore 4, 2) := by decide +kernel
theorem dX12_todayOf_155 : decode (mcode mX12_todayOf) 155 = .ok (.goto (-146), 3) := by decide +kernel
theorem dX12_todayOf_158 : decode (mcode mX12_todayOf) 158 = .ok (.iload 4, 2) := by decide +kernel
theorem dX12_todayOf_160 : decode (mcode mX12_todayOf) 160 = .ok (.ireturn, 1) := by decide +kernel
theorem dX12_word_0 : decode (mcode mX12_word) 0 = .ok (.lconst 0, 1) := by decide +kernel
theorem dX12_word_1 : decode (mcode mX12_word) 1 = .ok (.lstore_n 1, 1) := by decide +kernel
theorem dX12_word_2 : decode (mcode mX12_word) 2 = .ok (.aload_n 0, 1) := by decide +kernel
theorem dX12_word_3 : decode (mcode mX12_word) 3 = .ok (.getfield 151, 3) := by decide +kernel
theorem dX12_word_6 : decode (mcode mX12_word) 6 = .ok (.istore_n 3, 1) := by decide +kernel
theorem dX12_word_7 : decode (mcode mX12_word) 7 = .ok (.iload_n 3, 1) := by decide +kernel
theorem dX12_word_8 : decode (mcode mX12_word) 8 = .ok (.aload_n 0, 1) := by decide +kernel
theorem dX12_word_9 : decode (mcode mX12_word) 9 = .ok (.getfield 163, 3) := by decide +kernel
theorem dX12_word_12 : decode (mcode mX12_word) 12 = .ok (.if_icmp .ge 44, 3) := by decide +kernel
theorem dX12_word_15 : decode (mcode mX12_word) 15 = .ok (.aload_n 0, 1) := by decide +kernel
theorem dX12_word_16 : decode (mcode mX12_word) 16 = .ok (.getfield 154, 3) := by decide +kernel
theorem dX12_word_19 : decode (mcode mX12_word) 19 = .ok (.iconst 2, 1) := by decide +kernel
theorem dX12_word_20 : decode (mcode mX12_word) 20 = .ok (.if_icmp .ne 36, 3) := by decide +kernel
theorem dX12_word_23 : decode (mcode mX12_word) 23 = .ok (.aload_n 0, 1) := by decide +kernel
theorem dX12_word_24 : decode (mcode mX12_word) 24 = .ok (.getfield 163, 3) := by decide +kernel
theorem dX12_word_27 : decode (mcode mX12_word) 27 = .ok (.aload_n 0, 1) := by decide +kernel
theorem dX12_word_28 : decode (mcode mX12_word) 28 = .ok (.getfield 151, 3) := by decide +kernel
theorem dX12_word_31 : decode (mcode mX12_word) 31 = .ok (.isub, 1) := by decide +kernel
theorem dX12_word_32 : decode (mcode mX12_word) 32 = .ok (.bipush 8, 2) := by decide +kernel
theorem dX12_word_34 : decode (mcode mX12_word) 34 = .ok (.if_icmp .ge 22, 3) := by decide +kernel
theorem dX12_word_37 : decode (mcode mX12_word) 37 = .ok (.lload_n 1, 1) := by decide +kernel
theorem dX12_word_38 : decode (mcode mX12_word) 38 = .ok (.bipush 8, 2) := by decide +kernel
theorem dX12_word_40 : decode (mcode mX12_word) 40 = .ok (.lshl, 1) := by decide +kernel
theorem dX12_word_41 : decode (mcode mX12_word) 41 = .ok (.aload_n 0, 1) := by decide +kernel
theorem dX12_word_42 : decode (mcode mX12_word) 42 = .ok (.getfield 77, 3) := by decide +kernel
theorem dX12_word_45 : decode (mcode mX12_word) 45 = .ok (.iload_n 3, 1) := by decide +kernel
theorem dX12_word_46 : decode (mcode mX12_word) 46 = .ok (.iaload, 1) := by decide +kernel
theorem dX12_word_47 : decode (mcode mX12_word) 47 = .ok (.i2l, 1) := by decide +kernel
theorem dX12_word_48 : decode (mcode mX12_word) 48 = .ok (.lor, 1) := by decide +kernel
theorem dX12_word_49 : decode (mcode mX12_word) 49 = .ok (.lstore_n 1, 1) := by decide +kernel
theorem dX12_word_50 : decode (mcode mX12_word) 50 = .ok (.iinc 3 1, 3) := by decide +kernel
theorem dX12_word_53 : decode (mcode mX12_word) 53 = .ok (.goto (-46), 3) := by decide +kernel
theorem dX12_word_56 : decode (mcode mX12_word) 56 = .ok (.lload_n 1, 1) := by decide +kernel
theorem dX12_word_57 : decode (mcode mX12_word) 57 = .ok (.lreturn, 1) := by decide +kernel
theorem dX12_doorOf_0 : decode (mcode mX12_doorOf) 0 = .ok (.aload_n 0, 1) := by decide +kernel
theorem dX12_doorOf_1 : decode (mcode mX12_doorOf) 1 = .ok (.aload_n 0, 1) := by decide +kernel
theorem dX12_doorOf_2 : decode (mcode mX12_doorOf) 2 = .ok (.getfield 38, 3) := by decide +kernel
theorem dX12_doorOf_5 : decode (mcode mX12_doorOf) 5 = .ok (.iload_n 1, 1) := by decide +kernel
theorem dX12_doorOf_6 : decode (mcode mX12_doorOf) 6 = .ok (.iaload, 1) := by decide +kernel
theorem dX12_doorOf_7 : decode (mcode mX12_doorOf) 7 = .ok (.aload_n 0, 1) := by decide +kernel
theorem dX12_doorOf_8 : decode (mcode mX12_doorOf) 8 = .ok (.getfield 41, 3) := by decide +kernel
theorem dX12_doorOf_11 : decode (mcode mX12_doorOf) 11 = .ok (.iload_n 1, 1) := by decide +kernel
theorem dX12_doorOf_12 : decode (mcode mX12_doorOf) 12 = .ok (.iaload, 1) := by decide +kernel
theorem dX12_doorOf_13 : decode (mcode mX12_doorOf) 13 = .ok (.aload_n 0, 1) := by decide +kernel
theorem dX12_doorOf_14 : decode (mcode mX12_doorOf) 14 = .ok (.iload_n 1, 1) := by decide +kernel
theorem dX12_doorOf_15 : decode (mcode mX12_doorOf) 15 = .ok (.invokevirtual 246, 3) := by decide +kernel
theorem dX12_doorOf_18 : decode (mcode mX12_doorOf) 18 = .ok (.invokevirtual 249, 3) := by decide +kernel
theorem dX12_doorOf_21 : decode (mcode mX12_doorOf) 21 = .ok (.ireturn, 1) := by decide +kernel
theorem dX12_earOf_0 : decode (mcode mX12_earOf) 0 = .ok (.iconst 0, 1) := by decide +kernel
theorem dX12_earOf_1 : decode (mcode mX12_earOf) 1 = .ok (.istore_n 2, 1) := by decide +kernel
theorem dX12_earOf_2 : decode (mcode mX12_earOf) 2 = .ok (.iconst 0, 1) := by decide +kernel
theorem dX12_earOf_3 : decode (mcode mX12_earOf) 3 = .ok (.istore_n 3, 1) := by decide +kernel
theorem dX12_earOf_4 : decode (mcode mX12_earOf) 4 = .ok (.iconst 0, 1) := by decide +kernel
theorem dX12_earOf_5 : decode (mcode mX12_earOf) 5 = .ok (.istore 4, 2) := by decide +kernel
theorem dX12_earOf_7 : decode (mcode mX12_earOf) 7 = .ok (.iconst 1, 1) := by decide +kernel
theorem dX12_earOf_8 : decode (mcode mX12_earOf) 8 = .ok (.istore 5, 2) := by decide +kernel
theorem dX12_earOf_10 : decode (mcode mX12_earOf) 10 = .ok (.iload 5, 2) := by decide +kernel
theorem dX12_earOf_12 : decode (mcode mX12_earOf) 12 = .ok (.aload_n 0, 1) := by decide +kernel
theorem dX12_earOf_13 : decode (mcode mX12_earOf) 13 = .ok (.getfield 47, 3) := by decide +kernel
theorem dX12_earOf_16 : decode (mcode mX12_earOf) 16 = .ok (.iload_n 1, 1) := by decide +kernel
theorem dX12_earOf_17 : decode (mcode mX12_earOf) 17 = .ok (.iaload, 1) := by decide +kernel
theorem dX12_earOf_18 : decode (mcode mX12_earOf) 18 = .ok (.if_icmp .ge 58, 3) := by decide +kernel
theorem dX12_earOf_21 : decode (mcode mX12_earOf) 21 = .ok (.aload_n 0, 1) := by decide +kernel
theorem dX12_earOf_22 : decode (mcode mX12_earOf) 22 = .ok (.getfield 50, 3) := by decide +kernel
theorem dX12_earOf_25 : decode (mcode mX12_earOf) 25 = .ok (.bipush 8, 2) := by decide +kernel
theorem dX12_earOf_27 : decode (mcode mX12_earOf) 27 = .ok (.iload_n 1, 1) := by decide +kernel
theorem dX12_earOf_28 : decode (mcode mX12_earOf) 28 = .ok (.imul, 1) := by decide +kernel
theorem dX12_earOf_29 : decode (mcode mX12_earOf) 29 = .ok (.iload 5, 2) := by decide +kernel
theorem dX12_earOf_31 : decode (mcode mX12_earOf) 31 = .ok (.iadd, 1) := by decide +kernel
theorem dX12_earOf_32 : decode (mcode mX12_earOf) 32 = .ok (.iaload, 1) := by decide +kernel
theorem dX12_earOf_33 : decode (mcode mX12_earOf) 33 = .ok (.invokestatic 273, 3) := by decide +kernel
theorem dX12_earOf_36 : decode (mcode mX12_earOf) 36 = .ok (.istore 6, 2) := by decide +kernel
theorem dX12_earOf_38 : decode (mcode mX12_earOf) 38 = .ok (.iload 6, 2) := by decide +kernel
theorem dX12_earOf_40 : decode (mcode mX12_earOf) 40 = .ok (.ifCond .le 30, 3) := by decide +kernel
theorem dX12_earOf_43 : decode (mcode mX12_earOf) 43 = .ok (.iload 6, 2) := by decide +kernel
theorem dX12_earOf_45 : decode (mcode mX12_earOf) 45 = .ok (.iload 4, 2) := by decide +kernel
theorem dX12_earOf_47 : decode (mcode mX12_earOf) 47 = .ok (.if_icmp .eq 19, 3) := by decide +kernel
theorem dX12_earOf_50 : decode (mcode mX12_earOf) 50 = .ok (.iload_n 3, 1) := by decide +kernel
theorem dX12_earOf_51 : decode (mcode mX12_earOf) 51 = .ok (.iconst 3, 1) := by decide +kernel
theorem dX12_earOf_52 : decode (mcode mX12_earOf) 52 = .ok (.if_icmp .ge 14, 3) := by decide +kernel
theorem dX12_earOf_55 : decode (mcode mX12_earOf) 55 = .ok (.bipush 10, 2) := by decide +kernel
theorem dX12_earOf_57 : decode (mcode mX12_earOf) 57 = .ok (.iload_n 2, 1) := by decide +kernel
theorem dX12_earOf_58 : decode (mcode mX12_earOf) 58 = .ok (.imul, 1) := by decide +kernel
theorem dX12_earOf_59 : decode (mcode mX12_earOf) 59 = .ok (.iload 6, 2) := by decide +kernel
theorem dX12_earOf_61 : decode (mcode mX12_earOf) 61 = .ok (.iadd, 1) := by decide +kernel
theorem dX12_earOf_62 : decode (mcode mX12_earOf) 62 = .ok (.istore_n 2, 1) := by decide +kernel
theorem dX12_earOf_63 : decode (mcode mX12_earOf) 63 = .ok (.iinc 3 1, 3) := by decide +kernel
theorem dX12_earOf_66 : decode (mcode mX12_earOf) 66 = .ok (.iload 6, 2) := by decide +kernel
theorem dX12_earOf_68 : decode (mcode mX12_earOf) 68 = .ok (.istore 4, 2) := by decide +kernel
theorem dX12_earOf_70 : decode (mcode mX12_earOf) 70 = .ok (.iinc 5 1, 3) := by decide +kernel
theorem dX12_earOf_73 : decode (mcode mX12_earOf) 73 = .ok (.goto (-63), 3) := by decide +kernel
theorem dX12_earOf_76 : decode (mcode mX12_earOf) 76 = .ok (.iload_n 3, 1) := by decide +kernel
theorem dX12_earOf_77 : decode (mcode mX12_earOf) 77 = .ok (.iconst 3, 1) := by decide +kernel
theorem dX12_earOf_78 : decode (mcode mX12_earOf) 78 = .ok (.if_icmp .ge 14, 3) := by decide +kernel
theorem dX12_earOf_81 : decode (mcode mX12_earOf) 81 = .ok (.iload_n 2, 1) := by decide +kernel
theorem dX12_earOf_82 : decode (mcode mX12_earOf) 82 = .ok (.bipush 10, 2) := by decide +kernel
theorem dX12_earOf_84 : decode (mcode mX12_earOf) 84 = .ok (.imul, 1) := by decide +kernel
theorem dX12_earOf_85 : decode (mcode mX12_earOf) 85 = .ok (.istore_n 2, 1) := by decide +kernel
theorem dX12_earOf_86 : decode (mcode mX12_earOf) 86 = .ok (.iinc 3 1, 3) := by decide +kernel
theorem dX12_earOf_89 : decode (mcode mX12_earOf) 89 = .ok (.goto (-13), 3) := by decide +kernel
theorem dX12_earOf_92 : decode (mcode mX12_earOf) 92 = .ok (.sipush 1000, 3) := by decide +kernel
theorem dX12_earOf_95 : decode (mcode mX12_earOf) 95 = .ok (.aload_n 0, 1) := by decide +kernel
theorem dX12_earOf_96 : decode (mcode mX12_earOf) 96 = .ok (.getfield 50, 3) := by decide +kernel
theorem dX12_earOf_99 : decode (mcode mX12_earOf) 99 = .ok (.bipush 8, 2) := by decide +kernel
theorem dX12_earOf_101 : decode (mcode mX12_earOf) 101 = .ok (.iload_n 1, 1) := by decide +kernel
theorem dX12_earOf_102 : decode (mcode mX12_earOf) 102 = .ok (.imul, 1) := by decide +kernel
theorem dX12_earOf_103 : decode (mcode mX12_earOf) 103 = .ok (.iaload, 1) := by decide +kernel
theorem dX12_earOf_104 : decode (mcode mX12_earOf) 104 = .ok (.imul, 1) := by decide +kernel
theorem dX12_earOf_105 : decode (mcode mX12_earOf) 105 = .ok (.iload_n 2, 1) := by decide +kernel
theorem dX12_earOf_106 : decode (mcode mX12_earOf) 106 = .ok (.iadd, 1) := by decide +kernel
theorem dX12_earOf_107 : decode (mcode mX12_earOf) 107 = .ok (.ireturn, 1) := by decide +kernel
theorem dX12_feed_0 : decode (mcode mX12_feed) 0 = .ok (.aload_n 0, 1) := by decide +kernel
theorem dX12_feed_1 : decode (mcode mX12_feed) 1 = .ok (.iconst 0, 1) := by decide +kernel
theorem dX12_feed_2 : decode (mcode mX12_feed) 2 = .ok (.putfield 108, 3) := by decide +kernel
theorem dX12_feed_5 : decode (mcode mX12_feed) 5 = .ok (.iload_n 3, 1) := by decide +kernel
theorem dX12_feed_6 : decode (mcode mX12_feed) 6 = .ok (.i2l, 1) := by decide +kernel
theorem dX12_feed_7 : decode (mcode mX12_feed) 7 = .ok (.lconst 1, 1) := by decide +kernel
theorem dX12_feed_8 : decode (mcode mX12_feed) 8 = .ok (.ldc2_w 133, 3) := by decide +kernel
theorem dX12_feed_11 : decode (mcode mX12_feed) 11 = .ok (.invokestatic 118, 3) := by decide +kernel
theorem dX12_feed_14 : decode (mcode mX12_feed) 14 = .ok (.ifCond .ne 6, 3) := by decide +kernel
theorem dX12_feed_17 : decode (mcode mX12_feed) 17 = .ok (.ldc 128, 2) := by decide +kernel
theorem dX12_feed_19 : decode (mcode mX12_feed) 19 = .ok (.ireturn, 1) := by decide +kernel
theorem dX12_feed_20 : decode (mcode mX12_feed) 20 = .ok (.aload_n 0, 1) := by decide +kernel
theorem dX12_feed_21 : decode (mcode mX12_feed) 21 = .ok (.getfield 135, 3) := by decide +kernel
theorem dX12_feed_24 : decode (mcode mX12_feed) 24 = .ok (.iload_n 3, 1) := by decide +kernel
theorem dX12_feed_25 : decode (mcode mX12_feed) 25 = .ok (.iadd, 1) := by decide +kernel
theorem dX12_feed_26 : decode (mcode mX12_feed) 26 = .ok (.sipush 600, 3) := by decide +kernel
theorem dX12_feed_29 : decode (mcode mX12_feed) 29 = .ok (.if_icmp .le 6, 3) := by decide +kernel
theorem dX12_feed_32 : decode (mcode mX12_feed) 32 = .ok (.ldc 138, 2) := by decide +kernel
theorem dX12_feed_34 : decode (mcode mX12_feed) 34 = .ok (.ireturn, 1) := by decide +kernel
theorem dX12_feed_35 : decode (mcode mX12_feed) 35 = .ok (.iload_n 3, 1) := by decide +kernel
theorem dX12_feed_36 : decode (mcode mX12_feed) 36 = .ok (.iconst 1, 1) := by decide +kernel
theorem dX12_feed_37 : decode (mcode mX12_feed) 37 = .ok (.isub, 1) := by decide +kernel
theorem dX12_feed_38 : decode (mcode mX12_feed) 38 = .ok (.istore 4, 2) := by decide +kernel
theorem dX12_feed_40 : decode (mcode mX12_feed) 40 = .ok (.iload 4, 2) := by decide +kernel
theorem dX12_feed_42 : decode (mcode mX12_feed) 42 = .ok (.ifCond .lt 40, 3) := by decide +kernel
theorem dX12_feed_45 : decode (mcode mX12_feed) 45 = .ok (.aload_n 0, 1) := by decide +kernel
theorem dX12_feed_46 : decode (mcode mX12_feed) 46 = .ok (.getfield 77, 3) := by decide +kernel
theorem dX12_feed_49 : decode (mcode mX12_feed) 49 = .ok (.aload_n 0, 1) := by decide +kernel
theorem dX12_feed_50 : decode (mcode mX12_feed) 50 = .ok (.getfield 135, 3) := by decide +kernel
theorem dX12_feed_53 : decode (mcode mX12_feed) 53 = .ok (.lload_n 1, 1) := by decide +kernel
theorem dX12_feed_54 : decode (mcode mX12_feed) 54 = .ok (.bipush 8, 2) := by decide +kernel
theorem dX12_feed_56 : decode (mcode mX12_feed) 56 = .ok (.iload 4, 2) := by decide +kernel
theorem dX12_feed_58 : decode (mcode mX12_feed) 58 = .ok (.imul, 1) := by decide +kernel
theorem dX12_feed_59 : decode (mcode mX12_feed) 59 = .ok (.lshr, 1) := by decide +kernel
theorem dX12_feed_60 : decode (mcode mX12_feed) 60 = .ok (.ldc2_w 139, 3) := by decide +kernel
theorem dX12_feed_63 : decode (mcode mX12_feed) 63 = .ok (.land, 1) := by decide +kernel
theorem dX12_feed_64 : decode (mcode mX12_feed) 64 = .ok (.l2i, 1) := by decide +kernel
theorem dX12_feed_65 : decode (mcode mX12_feed) 65 = .ok (.iastore, 1) := by decide +kernel
theorem dX12_feed_66 : decode (mcode mX12_feed) 66 = .ok (.aload_n 0, 1) := by decide +kernel
theorem dX12_feed_67 : decode (mcode mX12_feed) 67 = .ok (.dup, 1) := by decide +kernel
theorem dX12_feed_68 : decode (mcode mX12_feed) 68 = .ok (.getfield 135, 3) := by decide +kernel
theorem dX12_feed_71 : decode (mcode mX12_feed) 71 = .ok (.iconst 1, 1) := by decide +kernel
theorem dX12_feed_72 : decode (mcode mX12_feed) 72 = .ok (.iadd, 1) := by decide +kernel
theorem dX12_feed_73 : decode (mcode mX12_feed) 73 = .ok (.putfield 135, 3) := by decide +kernel
theorem dX12_feed_76 : decode (mcode mX12_feed) 76 = .ok (.iinc 4 (-1), 3) := by decide +kernel
theorem dX12_feed_79 : decode (mcode mX12_feed) 79 = .ok (.goto (-39), 3) := by decide +kernel
theorem dX12_feed_82 : decode (mcode mX12_feed) 82 = .ok (.aload_n 0, 1) := by decide +kernel
theorem dX12_feed_83 : decode (mcode mX12_feed) 83 = .ok (.getfield 135, 3) := by decide +kernel
theorem dX12_feed_86 : decode (mcode mX12_feed) 86 = .ok (.ireturn, 1) := by decide +kernel
theorem dX12_handOf_0 : decode (mcode mX12_handOf) 0 = .ok (.iconst 0, 1) := by decide +kernel
theorem dX12_handOf_1 : decode (mcode mX12_handOf) 1 = .ok (.istore_n 3, 1) := by decide +kernel
theorem dX12_handOf_2 : decode (mcode mX12_handOf) 2 = .ok (.iload_n 3, 1) := by decide +kernel
theorem dX12_handOf_3 : decode (mcode mX12_handOf) 3 = .ok (.aload_n 0, 1) := by decide +kernel
theorem dX12_handOf_4 : decode (mcode mX12_handOf) 4 = .ok (.getfield 47, 3) := by decide +kernel
theorem dX12_handOf_7 : decode (mcode mX12_handOf) 7 = .ok (.iload_n 1, 1) := by decide +kernel
theorem dX12_handOf_8 : decode (mcode mX12_handOf) 8 = .ok (.iaload, 1) := by decide +kernel
theorem dX12_handOf_9 : decode (mcode mX12_handOf) 9 = .ok (.if_icmp .gt 161, 3) := by decide +kernel
theorem dX12_handOf_12 : decode (mcode mX12_handOf) 12 = .ok (.iconst 0, 1) := by decide +kernel
theorem dX12_handOf_13 : decode (mcode mX12_handOf) 13 = .ok (.istore 4, 2) := by decide +kernel
theorem dX12_handOf_15 : decode (mcode mX12_handOf) 15 = .ok (.iload 4, 2) := by decide +kernel
theorem dX12_handOf_17 : decode (mcode mX12_handOf) 17 = .ok (.aload_n 0, 1) := by decide +kernel
theorem dX12_handOf_18 : decode (mcode mX12_handOf) 18 = .ok (.getfield 47, 3) := by decide +kernel
theorem dX12_handOf_21 : decode (mcode mX12_handOf) 21 = .ok (.iload_n 2, 1) := by decide +kernel
theorem dX12_handOf_22 : decode (mcode mX12_handOf) 22 = .ok (.iaload, 1) := by decide +kernel
theorem dX12_handOf_23 : decode (mcode mX12_handOf) 23 = .ok (.if_icmp .gt 141, 3) := by decide +kernel
theorem dX12_handOf_26 : decode (mcode mX12_handOf) 26 = .ok (.iload_n 3, 1) := by decide +kernel
theorem dX12_handOf_27 : decode (mcode mX12_handOf) 27 = .ok (.ifCond .eq 8, 3) := by decide +kernel
theorem dX12_handOf_30 : decode (mcode mX12_handOf) 30 = .ok (.iload 4, 2) := by decide +kernel
theorem dX12_handOf_32 : decode (mcode mX12_handOf) 32 = .ok (.ifCond .ne 22, 3) := by decide +kernel
theorem dX12_handOf_35 : decode (mcode mX12_handOf) 35 = .ok (.aload_n 0, 1) := by decide +kernel
theorem dX12_handOf_36 : decode (mcode mX12_handOf) 36 = .ok (.getfield 80, 3) := by decide +kernel
theorem dX12_handOf_39 : decode (mcode mX12_handOf) 39 = .ok (.bipush 9, 2) := by decide +kernel
theorem dX12_handOf_41 : decode (mcode mX12_handOf) 41 = .ok (.iload_n 3, 1) := by decide +kernel
theorem dX12_handOf_42 : decode (mcode mX12_handOf) 42 = .ok (.imul, 1) := by decide +kernel
theorem dX12_handOf_43 : decode (mcode mX12_handOf) 43 = .ok (.iload 4, 2) := by decide +kernel
theorem dX12_handOf_45 : decode (mcode mX12_handOf) 45 = .ok (.iadd, 1) := by decide +kernel
theorem dX12_handOf_46 : decode (mcode mX12_handOf) 46 = .ok (.iload_n 3, 1) := by decide +kernel
theorem dX12_handOf_47 : decode (mcode mX12_handOf) 47 = .ok (.iload 4, 2) := by decide +kernel
theorem dX12_handOf_49 : decode (mcode mX12_handOf) 49 = .ok (.iadd, 1) := by decide +kernel
theorem dX12_handOf_50 : decode (mcode mX12_handOf) 50 = .ok (.iastore, 1) := by decide +kernel
theorem dX12_handOf_51 : decode (mcode mX12_handOf) 51 = .ok (.goto 107, 3) := by decide +kernel
theorem dX12_handOf_54 : decode (mcode mX12_handOf) 54 = .ok (.aload_n 0, 1) := by decide +kernel
theorem dX12_handOf_55 : decode (mcode mX12_handOf) 55 = .ok (.getfield 50, 3) := by decide +kernel
theorem dX12_handOf_58 : decode (mcode mX12_handOf) 58 = .ok (.bipush 8, 2) := by decide +kernel
theorem dX12_handOf_60 : decode (mcode mX12_handOf) 60 = .ok (.iload_n 1, 1) := by decide +kernel
theorem dX12_handOf_61 : decode (mcode mX12_handOf) 61 = .ok (.imul, 1) := by decide +kernel
theorem dX12_handOf_62 : decode (mcode mX12_handOf) 62 = .ok (.iload_n 3, 1) := by decide +kernel
theorem dX12_handOf_63 : decode (mcode mX12_handOf) 63 = .ok (.iadd, 1) := by decide +kernel
theorem dX12_handOf_64 : decode (mcode mX12_handOf) 64 = .ok (.iconst 1, 1) := by decide +kernel
theorem dX12_handOf_65 : decode (mcode mX12_handOf) 65 = .ok (.isub, 1) := by decide +kernel
theorem dX12_handOf_66 : decode (mcode mX12_handOf) 66 = .ok (.iaload, 1) := by decide +kernel
theorem dX12_handOf_67 : decode (mcode mX12_handOf) 67 = .ok (.aload_n 0, 1) := by decide +kernel
theorem dX12_handOf_68 : decode (mcode mX12_handOf) 68 = .ok (.getfield 50, 3) := by decide +kernel
theorem dX12_handOf_71 : decode (mcode mX12_handOf) 71 = .ok (.bipush 8, 2) := by decide +kernel
theorem dX12_handOf_73 : decode (mcode mX12_handOf) 73 = .ok (.iload_n 2, 1) := by decide +kernel
theorem dX12_handOf_74 : decode (mcode mX12_handOf) 74 = .ok (.imul, 1) := by decide +kernel
theorem dX12_handOf_75 : decode (mcode mX12_handOf) 75 = .ok (.iload 4, 2) := by decide +kernel
theorem dX12_handOf_77 : decode (mcode mX12_handOf) 77 = .ok (.iadd, 1) := by decide +kernel
theorem dX12_handOf_78 : decode (mcode mX12_handOf) 78 = .ok (.iconst 1, 1) := by decide +kernel
theorem dX12_handOf_79 : decode (mcode mX12_handOf) 79 = .ok (.isub, 1) := by decide +kernel
theorem dX12_handOf_80 : decode (mcode mX12_handOf) 80 = .ok (.iaload, 1) := by decide +kernel
theorem dX12_handOf_81 : decode (mcode mX12_handOf) 81 = .ok (.if_icmp .ne 7, 3) := by decide +kernel
theorem dX12_handOf_84 : decode (mcode mX12_handOf) 84 = .ok (.iconst 0, 1) := by decide +kernel
theorem dX12_handOf_85 : decode (mcode mX12_handOf) 85 = .ok (.goto 4, 3) := by decide +kernel
theorem dX12_handOf_88 : decode (mcode mX12_handOf) 88 = .ok (.iconst 1, 1) := by decide +kernel
theorem dX12_handOf_89 : decode (mcode mX12_handOf) 89 = .ok (.istore 5, 2) := by decide +kernel
theorem dX12_handOf_91 : decode (mcode mX12_handOf) 91 = .ok (.aload_n 0, 1) := by decide +kernel
theorem dX12_handOf_92 : decode (mcode mX12_handOf) 92 = .ok (.getfield 80, 3) := by decide +kernel
theorem dX12_handOf_95 : decode (mcode mX12_handOf) 95 = .ok (.bipush 9, 2) := by decide +kernel
theorem dX12_handOf_97 : decode (mcode mX12_handOf) 97 = .ok (.iload_n 3, 1) := by decide +kernel
theorem dX12_handOf_98 : decode (mcode mX12_handOf) 98 = .ok (.imul, 1) := by decide +kernel
theorem dX12_handOf_99 : decode (mcode mX12_handOf) 99 = .ok (.iload 4, 2) := by decide +kernel
theorem dX12_handOf_101 : decode (mcode mX12_handOf) 101 = .ok (.iadd, 1) := by decide +kernel
theorem dX12_handOf_102 : decode (mcode mX12_handOf) 102 = .ok (.aload_n 0, 1) := by decide +kernel
theorem dX12_handOf_103 : decode (mcode mX12_handOf) 103 = .ok (.getfield 80, 3) := by decide +kernel
theorem dX12_handOf_106 : decode (mcode mX12_handOf) 106 = .ok (.bipush 9, 2) := by decide +kernel
theorem dX12_handOf_108 : decode (mcode mX12_handOf) 108 = .ok (.iload_n 3, 1) := by decide +kernel
theorem dX12_handOf_109 : decode (mcode mX12_handOf) 109 = .ok (.imul, 1) := by decide +kernel
theorem dX12_handOf_110 : decode (mcode mX12_handOf) 110 = .ok (.iload 4, 2) := by decide +kernel
theorem dX12_handOf_112 : decode (mcode mX12_handOf) 112 = .ok (.iadd, 1) := by decide +kernel
theorem dX12_handOf_113 : decode (mcode mX12_handOf) 113 = .ok (.bipush 10, 2) := by decide +kernel
theorem dX12_handOf_115 : decode (mcode mX12_handOf) 115 = .ok (.isub, 1) := by decide +kernel
theorem dX12_handOf_116 : decode (mcode mX12_handOf) 116 = .ok (.iaload, 1) := by decide +kernel
theorem dX12_handOf_117 : decode (mcode mX12_handOf) 117 = .ok (.iload 5, 2) := by decide +kernel
theorem dX12_handOf_119 : decode (mcode mX12_handOf) 119 = .ok (.iadd, 1) := by decide +kernel
theorem dX12_handOf_120 : decode (mcode mX12_handOf) 120 = .ok (.iconst 1, 1) := by decide +kernel
theorem dX12_handOf_121 : decode (mcode mX12_handOf) 121 = .ok (.aload_n 0, 1) := by decide +kernel
theorem dX12_handOf_122 : decode (mcode mX12_handOf) 122 = .ok (.getfield 80, 3) := by decide +kernel
theorem dX12_handOf_125 : decode (mcode mX12_handOf) 125 = .ok (.bipush 9, 2) := by decide +kernel
theorem dX12_handOf_127 : decode (mcode mX12_handOf) 127 = .ok (.iload_n 3, 1) := by decide +kernel
theorem dX12_handOf_128 : decode (mcode mX12_handOf) 128 = .ok (.imul, 1) := by decide +kernel
theorem dX12_handOf_129 : decode (mcode mX12_handOf) 129 = .ok (.iload 4, 2) := by decide +kernel
theorem dX12_handOf_131 : decode (mcode mX12_handOf) 131 = .ok (.iadd, 1) := by decide +kernel
theorem dX12_handOf_132 : decode (mcode mX12_handOf) 132 = .ok (.bipush 9, 2) := by decide +kernel
theorem dX12_handOf_134 : decode (mcode mX12_handOf) 134 = .ok (.isub, 1) := by decide +kernel
theorem dX12_handOf_135 : decode (mcode mX12_handOf) 135 = .ok (.iaload, 1) := by decide +kernel
theorem dX12_handOf_136 : decode (mcode mX12_handOf) 136 = .ok (.aload_n 0, 1) := by decide +kernel
theorem dX12_handOf_137 : decode (mcode mX12_handOf) 137 = .ok (.getfield 80, 3) := by decide +kernel
theorem dX12_handOf_140 : decode (mcode mX12_handOf) 140 = .ok (.bipush 9, 2) := by decide +kernel
theorem dX12_handOf_142 : decode (mcode mX12_handOf) 142 = .ok (.iload_n 3, 1) := by decide +kernel
theorem dX12_handOf_143 : decode (mcode mX12_handOf) 143 = .ok (.imul, 1) := by decide +kernel
theorem dX12_handOf_144 : decode (mcode mX12_handOf) 144 = .ok (.iload 4, 2) := by decide +kernel
theorem dX12_handOf_146 : decode (mcode mX12_handOf) 146 = .ok (.iadd, 1) := by decide +kernel
theorem dX12_handOf_147 : decode (mcode mX12_handOf) 147 = .ok (.iconst 1, 1) := by decide +kernel
theorem dX12_handOf_148 : decode (mcode mX12_handOf) 148 = .ok (.isub, 1) := by decide +kernel
theorem dX12_handOf_149 : decode (mcode mX12_handOf) 149 = .ok (.iaload, 1) := by decide +kernel
theorem dX12_handOf_150 : decode (mcode mX12_handOf) 150 = .ok (.invokestatic 279, 3) := by decide +kernel
theorem dX12_handOf_153 : decode (mcode mX12_handOf) 153 = .ok (.iadd, 1) := by decide +kernel
theorem dX12_handOf_154 : decode (mcode mX12_handOf) 154 = .ok (.invokestatic 279, 3) := by decide +kernel
theorem dX12_handOf_157 : decode (mcode mX12_handOf) 157 = .ok (.iastore, 1) := by decide +kernel
theorem dX12_handOf_158 : decode (mcode mX12_handOf) 158 = .ok (.iinc 4 1, 3) := by decide +kernel
theorem dX12_handOf_161 : decode (mcode mX12_handOf) 161 = .ok (.goto (-146), 3) := by decide +kernel
theorem dX12_handOf_164 : decode (mcode mX12_handOf) 164 = .ok (.iinc 3 1, 3) := by decide +kernel
theorem dX12_handOf_167 : decode (mcode mX12_handOf) 167 = .ok (.goto (-165), 3) := by decide +kernel
theorem dX12_handOf_170 : decode (mcode mX12_handOf) 170 = .ok (.aload_n 0, 1) := by decide +kernel
theorem dX12_handOf_171 : decode (mcode mX12_handOf) 171 = .ok (.getfield 80, 3) := by decide +kernel
theorem dX12_handOf_174 : decode (mcode mX12_handOf) 174 = .ok (.bipush 9, 2) := by decide +kernel
theorem dX12_handOf_176 : decode (mcode mX12_handOf) 176 = .ok (.aload_n 0, 1) := by decide +kernel
theorem dX12_handOf_177 : decode (mcode mX12_handOf) 177 = .ok (.getfield 47, 3) := by decide +kernel
theorem dX12_handOf_180 : decode (mcode mX12_handOf) 180 = .ok (.iload_n 1, 1) := by decide +kernel
theorem dX12_handOf_181 : decode (mcode mX12_handOf) 181 = .ok (.iaload, 1) := by decide +kernel
theorem dX12_handOf_182 : decode (mcode mX12_handOf) 182 = .ok (.imul, 1) := by decide +kernel
theorem dX12_handOf_183 : decode (mcode mX12_handOf) 183 = .ok (.aload_n 0, 1) := by decide +kernel
theorem dX12_handOf_184 : decode (mcode mX12_handOf) 184 = .ok (.getfield 47, 3) := by decide +kernel
theorem dX12_handOf_187 : decode (mcode mX12_handOf) 187 = .ok (.iload_n 2, 1) := by decide +kernel
theorem dX12_handOf_188 : decode (mcode mX12_handOf) 188 = .ok (.iaload, 1) := by decide +kernel
theorem dX12_handOf_189 : decode (mcode mX12_handOf) 189 = .ok (.iadd, 1) := by decide +kernel
theorem dX12_handOf_190 : decode (mcode mX12_handOf) 190 = .ok (.iaload, 1) := by decide +kernel
theorem dX12_handOf_191 : decode (mcode mX12_handOf) 191 = .ok (.ireturn, 1) := by decide +kernel
theorem dX12_isAddress_0 : decode (mcode mX12_isAddress) 0 = .ok (.iload_n 0, 1) := by decide +kernel
theorem dX12_isAddress_1 : decode (mcode mX12_isAddress) 1 = .ok (.i2l, 1) := by decide +kernel
theorem dX12_isAddress_2 : decode (mcode mX12_isAddress) 2 = .ok (.lconst 0, 1) := by decide +kernel
theorem dX12_isAddress_3 : decode (mcode mX12_isAddress) 3 = .ok (.ldc2_w 261, 3) := by decide +kernel
theorem dX12_isAddress_6 : decode (mcode mX12_isAddress) 6 = .ok (.invokestatic 118, 3) := by decide +kernel
theorem dX12_isAddress_9 : decode (mcode mX12_isAddress) 9 = .ok (.ifCond .eq 31, 3) := by decide +kernel
theorem dX12_isAddress_12 : decode (mcode mX12_isAddress) 12 = .ok (.iload_n 1, 1) := by decide +kernel
theorem dX12_isAddress_13 : decode (mcode mX12_isAddress) 13 = .ok (.i2l, 1) := by decide +kernel
theorem dX12_isAddress_14 : decode (mcode mX12_isAddress) 14 = .ok (.lconst 1, 1) := by decide +kernel
theorem dX12_isAddress_15 : decode (mcode mX12_isAddress) 15 = .ok (.ldc2_w 263, 3) := by decide +kernel
theorem dX12_isAddress_18 : decode (mcode mX12_isAddress) 18 = .ok (.invokestatic 118, 3) := by decide +kernel
theorem dX12_isAddress_21 : decode (mcode mX12_isAddress) 21 = .ok (.ifCond .eq 19, 3) := by decide +kernel
theorem dX12_isAddress_24 : decode (mcode mX12_isAddress) 24 = .ok (.iload_n 2, 1) := by decide +kernel
theorem dX12_isAddress_25 : decode (mcode mX12_isAddress) 25 = .ok (.i2l, 1) := by decide +kernel
theorem dX12_isAddress_26 : decode (mcode mX12_isAddress) 26 = .ok (.lconst 0, 1) := by decide +kernel
theorem dX12_isAddress_27 : decode (mcode mX12_isAddress) 27 = .ok (.ldc2_w 265, 3) := by decide +kernel
theorem dX12_isAddress_30 : decode (mcode mX12_isAddress) 30 = .ok (.invokestatic 118, 3) := by decide +kernel
theorem dX12_isAddress_33 : decode (mcode mX12_isAddress) 33 = .ok (.ifCond .eq 7, 3) := by decide +kernel
theorem dX12_isAddress_36 : decode (mcode mX12_isAddress) 36 = .ok (.iconst 1, 1) := by decide +kernel
theorem dX12_isAddress_37 : decode (mcode mX12_isAddress) 37 = .ok (.goto 4, 3) := by decide +kernel
theorem dX12_isAddress_40 : decode (mcode mX12_isAddress) 40 = .ok (.iconst 0, 1) := by decide +kernel
theorem dX12_isAddress_41 : decode (mcode mX12_isAddress) 41 = .ok (.ireturn, 1) := by decide +kernel
theorem dX12_isBook_0 : decode (mcode mX12_isBook) 0 = .ok (.iload_n 1, 1) := by decide +kernel
theorem dX12_isBook_1 : decode (mcode mX12_isBook) 1 = .ok (.i2l, 1) := by decide +kernel
theorem dX12_isBook_2 : decode (mcode mX12_isBook) 2 = .ok (.lconst 0, 1) := by decide +kernel
theorem dX12_isBook_3 : decode (mcode mX12_isBook) 3 = .ok (.aload_n 0, 1) := by decide +kernel
theorem dX12_isBook_4 : decode (mcode mX12_isBook) 4 = .ok (.getfield 224, 3) := by decide +kernel
theorem dX12_isBook_7 : decode (mcode mX12_isBook) 7 = .ok (.iconst 1, 1) := by decide +kernel
theorem dX12_isBook_8 : decode (mcode mX12_isBook) 8 = .ok (.isub, 1) := by decide +kernel
theorem dX12_isBook_9 : decode (mcode mX12_isBook) 9 = .ok (.i2l, 1) := by decide +kernel
theorem dX12_isBook_10 : decode (mcode mX12_isBook) 10 = .ok (.invokestatic 118, 3) := by decide +kernel
theorem dX12_isBook_13 : decode (mcode mX12_isBook) 13 = .ok (.ireturn, 1) := by decide +kernel
theorem dX12_isLine_0 : decode (mcode mX12_isLine) 0 = .ok (.iload_n 1, 1) := by decide +kernel
theorem dX12_isLine_1 : decode (mcode mX12_isLine) 1 = .ok (.i2l, 1) := by decide +kernel
theorem dX12_isLine_2 : decode (mcode mX12_isLine) 2 = .ok (.lconst 0, 1) := by decide +kernel
theorem dX12_isLine_3 : decode (mcode mX12_isLine) 3 = .ok (.aload_n 0, 1) := by decide +kernel
theorem dX12_isLine_4 : decode (mcode mX12_isLine) 4 = .ok (.getfield 227, 3) := by decide +kernel
theorem dX12_isLine_7 : decode (mcode mX12_isLine) 7 = .ok (.iconst 1, 1) := by decide +kernel
theorem dX12_isLine_8 : decode (mcode mX12_isLine) 8 = .ok (.isub, 1) := by decide +kernel
theorem dX12_isLine_9 : decode (mcode mX12_isLine) 9 = .ok (.i2l, 1) := by decide +kernel
theorem dX12_isLine_10 : decode (mcode mX12_isLine) 10 = .ok (.invokestatic 118, 3) := by decide +kernel
theorem dX12_isLine_13 : decode (mcode mX12_isLine) 13 = .ok (.ireturn, 1) := by decide +kernel
theorem dX12_isSheet_0 : decode (mcode mX12_isSheet) 0 = .ok (.iload_n 0, 1) := by decide +kernel
theorem dX12_isSheet_1 : decode (mcode mX12_isSheet) 1 = .ok (.i2l, 1) := by decide +kernel
theorem dX12_isSheet_2 : decode (mcode mX12_isSheet) 2 = .ok (.lconst 0, 1) := by decide +kernel
theorem dX12_isSheet_3 : decode (mcode mX12_isSheet) 3 = .ok (.ldc2_w 116, 3) := by decide +kernel
theorem dX12_isSheet_6 : decode (mcode mX12_isSheet) 6 = .ok (.invokestatic 118, 3) := by decide +kernel
theorem dX12_isSheet_9 : decode (mcode mX12_isSheet) 9 = .ok (.ireturn, 1) := by decide +kernel
theorem dX12_isSpan_0 : decode (mcode mX12_isSpan) 0 = .ok (.iload_n 0, 1) := by decide +kernel
theorem dX12_isSpan_1 : decode (mcode mX12_isSpan) 1 = .ok (.i2l, 1) := by decide +kernel
theorem dX12_isSpan_2 : decode (mcode mX12_isSpan) 2 = .ok (.lconst 0, 1) := by decide +kernel
theorem dX12_isSpan_3 : decode (mcode mX12_isSpan) 3 = .ok (.ldc2_w 261, 3) := by decide +kernel
theorem dX12_isSpan_6 : decode (mcode mX12_isSpan) 6 = .ok (.invokestatic 118, 3) := by decide +kernel
theorem dX12_isSpan_9 : decode (mcode mX12_isSpan) 9 = .ok (.ifCond .eq 31, 3) := by decide +kernel
theorem dX12_isSpan_12 : decode (mcode mX12_isSpan) 12 = .ok (.iload_n 1, 1) := by decide +kernel
theorem dX12_isSpan_13 : decode (mcode mX12_isSpan) 13 = .ok (.i2l, 1) := by decide +kernel
theorem dX12_isSpan_14 : decode (mcode mX12_isSpan) 14 = .ok (.lconst 0, 1) := by decide +kernel
theorem dX12_isSpan_15 : decode (mcode mX12_isSpan) 15 = .ok (.ldc2_w 265, 3) := by decide +kernel
theorem dX12_isSpan_18 : decode (mcode mX12_isSpan) 18 = .ok (.invokestatic 118, 3) := by decide +kernel
theorem dX12_isSpan_21 : decode (mcode mX12_isSpan) 21 = .ok (.ifCond .eq 19, 3) := by decide +kernel
theorem dX12_isSpan_24 : decode (mcode mX12_isSpan) 24 = .ok (.iload_n 2, 1) := by decide +kernel
theorem dX12_isSpan_25 : decode (mcode mX12_isSpan) 25 = .ok (.i2l, 1) := by decide +kernel
theorem dX12_isSpan_26 : decode (mcode mX12_isSpan) 26 = .ok (.lconst 0, 1) := by decide +kernel
theorem dX12_isSpan_27 : decode (mcode mX12_isSpan) 27 = .ok (.ldc2_w 265, 3) := by decide +kernel
theorem dX12_isSpan_30 : decode (mcode mX12_isSpan) 30 = .ok (.invokestatic 118, 3) := by decide +kernel
theorem dX12_isSpan_33 : decode (mcode mX12_isSpan) 33 = .ok (.ifCond .eq 7, 3) := by decide +kernel
theorem dX12_isSpan_36 : decode (mcode mX12_isSpan) 36 = .ok (.iconst 1, 1) := by decide +kernel
theorem dX12_isSpan_37 : decode (mcode mX12_isSpan) 37 = .ok (.goto 4, 3) := by decide +kernel
theorem dX12_isSpan_40 : decode (mcode mX12_isSpan) 40 = .ok (.iconst 0, 1) := by decide +kernel
theorem dX12_isSpan_41 : decode (mcode mX12_isSpan) 41 = .ok (.ireturn, 1) := by decide +kernel
theorem dX12_personOf_0 : decode (mcode mX12_personOf) 0 = .ok (.aload_n 0, 1) := by decide +kernel
theorem dX12_personOf_1 : decode (mcode mX12_personOf) 1 = .ok (.invokevirtual 304, 3) := by decide +kernel
theorem dX12_personOf_4 : decode (mcode mX12_personOf) 4 = .ok (.istore_n 2, 1) := by decide +kernel
theorem dX12_personOf_5 : decode (mcode mX12_personOf) 5 = .ok (.iload_n 2, 1) := by decide +kernel
theorem dX12_personOf_6 : decode (mcode mX12_personOf) 6 = .ok (.invokestatic 301, 3) := by decide +kernel
theorem dX12_personOf_9 : decode (mcode mX12_personOf) 9 = .ok (.istore_n 3, 1) := by decide +kernel
theorem dX12_personOf_10 : decode (mcode mX12_personOf) 10 = .ok (.iload_n 2, 1) := by decide +kernel
theorem dX12_personOf_11 : decode (mcode mX12_personOf) 11 = .ok (.istore 4, 2) := by decide +kernel
theorem dX12_personOf_13 : decode (mcode mX12_personOf) 13 = .ok (.iload_n 2, 1) := by decide +kernel
theorem dX12_personOf_14 : decode (mcode mX12_personOf) 14 = .ok (.istore 5, 2) := by decide +kernel
theorem dX12_personOf_16 : decode (mcode mX12_personOf) 16 = .ok (.iload 5, 2) := by decide +kernel
theorem dX12_personOf_18 : decode (mcode mX12_personOf) 18 = .ok (.ifCond .le 60, 3) := by decide +kernel
theorem dX12_personOf_21 : decode (mcode mX12_personOf) 21 = .ok (.iload 5, 2) := by decide +kernel
theorem dX12_personOf_23 : decode (mcode mX12_personOf) 23 = .ok (.iload_n 3, 1) := by decide +kernel
theorem dX12_personOf_24 : decode (mcode mX12_personOf) 24 = .ok (.ishr, 1) := by decide +kernel
theorem dX12_personOf_25 : decode (mcode mX12_personOf) 25 = .ok (.iconst 1, 1) := by decide +kernel
theorem dX12_personOf_26 : decode (mcode mX12_personOf) 26 = .ok (.iand, 1) := by decide +kernel
theorem dX12_personOf_27 : decode (mcode mX12_personOf) 27 = .ok (.iconst 1, 1) := by decide +kernel
theorem dX12_personOf_28 : decode (mcode mX12_personOf) 28 = .ok (.if_icmp .ne 39, 3) := by decide +kernel
theorem dX12_personOf_31 : decode (mcode mX12_personOf) 31 = .ok (.aload_n 0, 1) := by decide +kernel
theorem dX12_personOf_32 : decode (mcode mX12_personOf) 32 = .ok (.getfield 86, 3) := by decide +kernel
theorem dX12_personOf_35 : decode (mcode mX12_personOf) 35 = .ok (.iload 5, 2) := by decide +kernel
theorem dX12_personOf_37 : decode (mcode mX12_personOf) 37 = .ok (.baload, 1) := by decide +kernel
theorem dX12_personOf_38 : decode (mcode mX12_personOf) 38 = .ok (.ifCond .eq 29, 3) := by decide +kernel
theorem dX12_personOf_41 : decode (mcode mX12_personOf) 41 = .ok (.aload_n 0, 1) := by decide +kernel
theorem dX12_personOf_42 : decode (mcode mX12_personOf) 42 = .ok (.getfield 89, 3) := by decide +kernel
theorem dX12_personOf_45 : decode (mcode mX12_personOf) 45 = .ok (.iload_n 2, 1) := by decide +kernel
theorem dX12_personOf_46 : decode (mcode mX12_personOf) 46 = .ok (.iload 5, 2) := by decide +kernel
theorem dX12_personOf_48 : decode (mcode mX12_personOf) 48 = .ok (.iconst (-1), 1) := by decide +kernel
theorem dX12_personOf_49 : decode (mcode mX12_personOf) 49 = .ok (.ixor, 1) := by decide +kernel
theorem dX12_personOf_50 : decode (mcode mX12_personOf) 50 = .ok (.iand, 1) := by decide +kernel
theorem dX12_personOf_51 : decode (mcode mX12_personOf) 51 = .ok (.iaload, 1) := by decide +kernel
theorem dX12_personOf_52 : decode (mcode mX12_personOf) 52 = .ok (.iconst 1, 1) := by decide +kernel
theorem dX12_personOf_53 : decode (mcode mX12_personOf) 53 = .ok (.iadd, 1) := by decide +kernel
theorem dX12_personOf_54 : decode (mcode mX12_personOf) 54 = .ok (.aload_n 0, 1) := by decide +kernel
theorem dX12_personOf_55 : decode (mcode mX12_personOf) 55 = .ok (.getfield 89, 3) := by decide +kernel
theorem dX12_personOf_58 : decode (mcode mX12_personOf) 58 = .ok (.iload_n 2, 1) := by decide +kernel
theorem dX12_personOf_59 : decode (mcode mX12_personOf) 59 = .ok (.iaload, 1) := by decide +kernel
theorem dX12_personOf_60 : decode (mcode mX12_personOf) 60 = .ok (.if_icmp .ne 7, 3) := by decide +kernel
theorem dX12_personOf_63 : decode (mcode mX12_personOf) 63 = .ok (.iload 5, 2) := by decide +kernel
theorem dX12_personOf_65 : decode (mcode mX12_personOf) 65 = .ok (.istore 4, 2) := by decide +kernel
theorem dX12_personOf_67 : decode (mcode mX12_personOf) 67 = .ok (.iload 5, 2) := by decide +kernel
theorem dX12_personOf_69 : decode (mcode mX12_personOf) 69 = .ok (.iconst 1, 1) := by decide +kernel
theorem dX12_personOf_70 : decode (mcode mX12_personOf) 70 = .ok (.isub, 1) := by decide +kernel
theorem dX12_personOf_71 : decode (mcode mX12_personOf) 71 = .ok (.iload_n 2, 1) := by decide +kernel
theorem dX12_personOf_72 : decode (mcode mX12_personOf) 72 = .ok (.iand, 1) := by decide +kernel
theorem dX12_personOf_73 : decode (mcode mX12_personOf) 73 = .ok (.istore 5, 2) := by decide +kernel
theorem dX12_personOf_75 : decode (mcode mX12_personOf) 75 = .ok (.goto (-59), 3) := by decide +kernel
theorem dX12_personOf_78 : decode (mcode mX12_personOf) 78 = .ok (.iload 4, 2) := by decide +kernel
theorem dX12_personOf_80 : decode (mcode mX12_personOf) 80 = .ok (.iload_n 1, 1) := by decide +kernel
theorem dX12_personOf_81 : decode (mcode mX12_personOf) 81 = .ok (.ishr, 1) := by decide +kernel
theorem dX12_personOf_82 : decode (mcode mX12_personOf) 82 = .ok (.iconst 1, 1) := by decide +kernel
theorem dX12_personOf_83 : decode (mcode mX12_personOf) 83 = .ok (.iand, 1) := by decide +kernel
theorem dX12_personOf_84 : decode (mcode mX12_personOf) 84 = .ok (.iconst 1, 1) := by decide +kernel
theorem dX12_personOf_85 : decode (mcode mX12_personOf) 85 = .ok (.if_icmp .ne 6, 3) := by decide +kernel
theorem dX12_personOf_88 : decode (mcode mX12_personOf) 88 = .ok (.iload 4, 2) := by decide +kernel
theorem dX12_personOf_90 : decode (mcode mX12_personOf) 90 = .ok (.ireturn, 1) := by decide +kernel
theorem dX12_personOf_91 : decode (mcode mX12_personOf) 91 = .ok (.iload_n 2, 1) := by decide +kernel
theorem dX12_personOf_92 : decode (mcode mX12_personOf) 92 = .ok (.iload 4, 2) := by decide +kernel
theorem dX12_personOf_94 : decode (mcode mX12_personOf) 94 = .ok (.iconst (-1), 1) := by decide +kernel
theorem dX12_personOf_95 : decode (mcode mX12_personOf) 95 = .ok (.ixor, 1) := by decide +kernel
theorem dX12_personOf_96 : decode (mcode mX12_personOf) 96 = .ok (.iand, 1) := by decide +kernel
theorem dX12_personOf_97 : decode (mcode mX12_personOf) 97 = .ok (.istore_n 2, 1) := by decide +kernel
theorem dX12_personOf_98 : decode (mcode mX12_personOf) 98 = .ok (.goto (-93), 3) := by decide +kernel
theorem dX12_plainSize_0 : decode (mcode mX12_plainSize) 0 = .ok (.aload_n 0, 1) := by decide +kernel
theorem dX12_plainSize_1 : decode (mcode mX12_plainSize) 1 = .ok (.bipush 10, 2) := by decide +kernel
theorem dX12_plainSize_3 : decode (mcode mX12_plainSize) 3 = .ok (.invokevirtual 348, 3) := by decide +kernel
theorem dX12_plainSize_6 : decode (mcode mX12_plainSize) 6 = .ok (.aload_n 0, 1) := by decide +kernel
theorem dX12_plainSize_7 : decode (mcode mX12_plainSize) 7 = .ok (.getfield 47, 3) := by decide +kernel
theorem dX12_plainSize_10 : decode (mcode mX12_plainSize) 10 = .ok (.iload_n 1, 1) := by decide +kernel
theorem dX12_plainSize_11 : decode (mcode mX12_plainSize) 11 = .ok (.iaload, 1) := by decide +kernel
theorem dX12_plainSize_12 : decode (mcode mX12_plainSize) 12 = .ok (.ireturn, 1) := by decide +kernel
theorem dX12_sorted_0 : decode (mcode mX12_sorted) 0 = .ok (.iconst 0, 1) := by decide +kernel
theorem dX12_sorted_1 : decode (mcode mX12_sorted) 1 = .ok (.istore 4, 2) := by decide +kernel
theorem dX12_sorted_3 : decode (mcode mX12_sorted) 3 = .ok (.iconst 1, 1) := by decide +kernel
theorem dX12_sorted_4 : decode (mcode mX12_sorted) 4 = .ok (.istore 5, 2) := by decide +kernel
theorem dX12_sorted_6 : decode (mcode mX12_sorted) 6 = .ok (.iload 5, 2) := by decide +kernel
theorem dX12_sorted_8 : decode (mcode mX12_sorted) 8 = .ok (.bipush 100, 2) := by decide +kernel
theorem dX12_sorted_10 : decode (mcode mX12_sorted) 10 = .ok (.if_icmp .ge 69, 3) := by decide +kernel
theorem dX12_sorted_13 : decode (mcode mX12_sorted) 13 = .ok (.iconst 0, 1) := by decide +kernel
theorem dX12_sorted_14 : decode (mcode mX12_sorted) 14 = .ok (.istore 6, 2) := by decide +kernel
theorem dX12_sorted_16 : decode (mcode mX12_sorted) 16 = .ok (.iload 6, 2) := by decide +kernel
theorem dX12_sorted_18 : decode (mcode mX12_sorted) 18 = .ok (.aload_n 0, 1) := by decide +kernel
theorem dX12_sorted_19 : decode (mcode mX12_sorted) 19 = .ok (.getfield 227, 3) := by decide +kernel
theorem dX12_sorted_22 : decode (mcode mX12_sorted) 22 = .ok (.if_icmp .ge 51, 3) := by decide +kernel
theorem dX12_sorted_25 : decode (mcode mX12_sorted) 25 = .ok (.aload_n 0, 1) := by decide +kernel
theorem dX12_sorted_26 : decode (mcode mX12_sorted) 26 = .ok (.getfield 38, 3) := by decide +kernel
theorem dX12_sorted_29 : decode (mcode mX12_sorted) 29 = .ok (.iload 6, 2) := by decide +kernel
theorem dX12_sorted_31 : decode (mcode mX12_sorted) 31 = .ok (.iaload, 1) := by decide +kernel
theorem dX12_sorted_32 : decode (mcode mX12_sorted) 32 = .ok (.iload_n 1, 1) := by decide +kernel
theorem dX12_sorted_33 : decode (mcode mX12_sorted) 33 = .ok (.if_icmp .ne 34, 3) := by decide +kernel
theorem dX12_sorted_36 : decode (mcode mX12_sorted) 36 = .ok (.aload_n 0, 1) := by decide +kernel
theorem dX12_sorted_37 : decode (mcode mX12_sorted) 37 = .ok (.getfield 41, 3) := by decide +kernel
theorem dX12_sorted_40 : decode (mcode mX12_sorted) 40 = .ok (.iload 6, 2) := by decide +kernel
theorem dX12_sorted_42 : decode (mcode mX12_sorted) 42 = .ok (.iaload, 1) := by decide +kernel
theorem dX12_sorted_43 : decode (mcode mX12_sorted) 43 = .ok (.iload 5, 2) := by decide +kernel
theorem dX12_sorted_45 : decode (mcode mX12_sorted) 45 = .ok (.if_icmp .ne 22, 3) := by decide +kernel
theorem dX12_sorted_48 : decode (mcode mX12_sorted) 48 = .ok (.aload_n 0, 1) := by decide +kernel
theorem dX12_sorted_49 : decode (mcode mX12_sorted) 49 = .ok (.iload 6, 2) := by decide +kernel
theorem dX12_sorted_51 : decode (mcode mX12_sorted) 51 = .ok (.invokevirtual 246, 3) := by decide +kernel
theorem dX12_sorted_54 : decode (mcode mX12_sorted) 54 = .ok (.iload_n 2, 1) := by decide +kernel
theorem dX12_sorted_55 : decode (mcode mX12_sorted) 55 = .ok (.if_icmp .ne 12, 3) := by decide +kernel
theorem dX12_sorted_58 : decode (mcode mX12_sorted) 58 = .ok (.aload_n 3, 1) := by decide +kernel
theorem dX12_sorted_59 : decode (mcode mX12_sorted) 59 = .ok (.iload 4, 2) := by decide +kernel
theorem dX12_sorted_61 : decode (mcode mX12_sorted) 61 = .ok (.iload 6, 2) := by decide +kernel
theorem dX12_sorted_63 : decode (mcode mX12_sorted) 63 = .ok (.iastore, 1) := by decide +kernel
theorem dX12_sorted_64 : decode (mcode mX12_sorted) 64 = .ok (.iinc 4 1, 3) := by decide +kernel
theorem dX12_sorted_67 : decode (mcode mX12_sorted) 67 = .ok (.iinc 6 1, 3) := by decide +kernel
theorem dX12_sorted_70 : decode (mcode mX12_sorted) 70 = .ok (.goto (-54), 3) := by decide +kernel
theorem dX12_sorted_73 : decode (mcode mX12_sorted) 73 = .ok (.iinc 5 1, 3) := by decide +kernel
theorem dX12_sorted_76 : decode (mcode mX12_sorted) 76 = .ok (.goto (-70), 3) := by decide +kernel
theorem dX12_sorted_79 : decode (mcode mX12_sorted) 79 = .ok (.iload 4, 2) := by decide +kernel
theorem dX12_sorted_81 : decode (mcode mX12_sorted) 81 = .ok (.ireturn, 1) := by decide +kernel
theorem dX12_step_0 : decode (mcode mX12_step) 0 = .ok (.aload_n 0, 1) := by decide +kernel
theorem dX12_step_1 : decode (mcode mX12_step) 1 = .ok (.aload_n 0, 1) := by decide +kernel
theorem dX12_step_2 : decode (mcode mX12_step) 2 = .ok (.getfield 145, 3) := by decide +kernel
theorem dX12_step_5 : decode (mcode mX12_step) 5 = .ok (.invokevirtual 148, 3) := by decide +kernel
theorem dX12_step_8 : decode (mcode mX12_step) 8 = .ok (.bipush 32, 2) := by decide +kernel
theorem dX12_step_10 : decode (mcode mX12_step) 10 = .ok (.if_icmp .eq 16, 3) := by decide +kernel
theorem dX12_step_13 : decode (mcode mX12_step) 13 = .ok (.aload_n 0, 1) := by decide +kernel
theorem dX12_step_14 : decode (mcode mX12_step) 14 = .ok (.aload_n 0, 1) := by decide +kernel
theorem dX12_step_15 : decode (mcode mX12_step) 15 = .ok (.getfield 145, 3) := by decide +kernel
theorem dX12_step_18 : decode (mcode mX12_step) 18 = .ok (.invokevirtual 148, 3) := by decide +kernel
theorem dX12_step_21 : decode (mcode mX12_step) 21 = .ok (.bipush 10, 2) := by decide +kernel
theorem dX12_step_23 : decode (mcode mX12_step) 23 = .ok (.if_icmp .ne 16, 3) := by decide +kernel
theorem dX12_step_26 : decode (mcode mX12_step) 26 = .ok (.aload_n 0, 1) := by decide +kernel
theorem dX12_step_27 : decode (mcode mX12_step) 27 = .ok (.dup, 1) := by decide +kernel
theorem dX12_step_28 : decode (mcode mX12_step) 28 = .ok (.getfield 145, 3) := by decide +kernel
theorem dX12_step_31 : decode (mcode mX12_step) 31 = .ok (.iconst 1, 1) := by decide +kernel
theorem dX12_step_32 : decode (mcode mX12_step) 32 = .ok (.iadd, 1) := by decide +kernel
theorem dX12_step_33 : decode (mcode mX12_step) 33 = .ok (.putfield 145, 3) := by decide +kernel
theorem dX12_step_36 : decode (mcode mX12_step) 36 = .ok (.goto (-36), 3) := by decide +kernel
theorem dX12_step_39 : decode (mcode mX12_step) 39 = .ok (.aload_n 0, 1) := by decide +kernel
theorem dX12_step_40 : decode (mcode mX12_step) 40 = .ok (.aload_n 0, 1) := by decide +kernel
theorem dX12_step_41 : decode (mcode mX12_step) 41 = .ok (.getfield 145, 3) := by decide +kernel
theorem dX12_step_44 : decode (mcode mX12_step) 44 = .ok (.putfield 151, 3) := by decide +kernel
theorem dX12_step_47 : decode (mcode mX12_step) 47 = .ok (.aload_n 0, 1) := by decide +kernel
theorem dX12_step_48 : decode (mcode mX12_step) 48 = .ok (.aload_n 0, 1) := by decide +kernel
theorem dX12_step_49 : decode (mcode mX12_step) 49 = .ok (.getfield 145, 3) := by decide +kernel
theorem dX12_step_52 : decode (mcode mX12_step) 52 = .ok (.invokevirtual 148, 3) := by decide +kernel
theorem dX12_step_55 : decode (mcode mX12_step) 55 = .ok (.istore_n 1, 1) := by decide +kernel
theorem dX12_step_56 : decode (mcode mX12_step) 56 = .ok (.iload_n 1, 1) := by decide +kernel
theorem dX12_step_57 : decode (mcode mX12_step) 57 = .ok (.ldc 144, 2) := by decide +kernel
theorem dX12_step_59 : decode (mcode mX12_step) 59 = .ok (.if_icmp .ne 11, 3) := by decide +kernel
theorem dX12_step_62 : decode (mcode mX12_step) 62 = .ok (.aload_n 0, 1) := by decide +kernel
theorem dX12_step_63 : decode (mcode mX12_step) 63 = .ok (.iconst 1, 1) := by decide +kernel
theorem dX12_step_64 : decode (mcode mX12_step) 64 = .ok (.putfield 154, 3) := by decide +kernel
theorem dX12_step_67 : decode (mcode mX12_step) 67 = .ok (.goto 129, 3) := by decide +kernel
theorem dX12_step_70 : decode (mcode mX12_step) 70 = .ok (.iload_n 1, 1) := by decide +kernel
theorem dX12_step_71 : decode (mcode mX12_step) 71 = .ok (.invokestatic 157, 3) := by decide +kernel
theorem dX12_step_74 : decode (mcode mX12_step) 74 = .ok (.ifCond .eq 38, 3) := by decide +kernel
theorem dX12_step_77 : decode (mcode mX12_step) 77 = .ok (.aload_n 0, 1) := by decide +kernel
theorem dX12_step_78 : decode (mcode mX12_step) 78 = .ok (.aload_n 0, 1) := by decide +kernel
theorem dX12_step_79 : decode (mcode mX12_step) 79 = .ok (.getfield 145, 3) := by decide +kernel
theorem dX12_step_82 : decode (mcode mX12_step) 82 = .ok (.invokevirtual 148, 3) := by decide +kernel
theorem dX12_step_85 : decode (mcode mX12_step) 85 = .ok (.invokestatic 157, 3) := by decide +kernel
theorem dX12_step_88 : decode (mcode mX12_step) 88 = .ok (.ifCond .eq 16, 3) := by decide +kernel
theorem dX12_step_91 : decode (mcode mX12_step) 91 = .ok (.aload_n 0, 1) := by decide +kernel
theorem dX12_step_92 : decode (mcode mX12_step) 92 = .ok (.dup, 1) := by decide +kernel
theorem dX12_step_93 : decode (mcode mX12_step) 93 = .ok (.getfield 145, 3) := by decide +kernel
theorem dX12_step_96 : decode (mcode mX12_step) 96 = .ok (.iconst 1, 1) := by decide +kernel
theorem dX12_step_97 : decode (mcode mX12_step) 97 = .ok (.iadd, 1) := by decide +kernel
theorem dX12_step_98 : decode (mcode mX12_step) 98 = .ok (.putfield 145, 3) := by decide +kernel
theorem dX12_step_101 : decode (mcode mX12_step) 101 = .ok (.goto (-24), 3) := by decide +kernel
theorem dX12_step_104 : decode (mcode mX12_step) 104 = .ok (.aload_n 0, 1) := by decide +kernel
theorem dX12_step_105 : decode (mcode mX12_step) 105 = .ok (.iconst 2, 1) := by decide +kernel
theorem dX12_step_106 : decode (mcode mX12_step) 106 = .ok (.putfield 154, 3) := by decide +kernel
theorem dX12_step_109 : decode (mcode mX12_step) 109 = .ok (.goto 87, 3) := by decide +kernel
theorem dX12_step_112 : decode (mcode mX12_step) 112 = .ok (.iload_n 1, 1) := by decide +kernel
theorem dX12_step_113 : decode (mcode mX12_step) 113 = .ok (.invokestatic 160, 3) := by decide +kernel
theorem dX12_step_116 : decode (mcode mX12_step) 116 = .ok (.ifCond .eq 55, 3) := by decide +kernel
theorem dX12_step_119 : decode (mcode mX12_step) 119 = .ok (.aload_n 0, 1) := by decide +kernel
theorem dX12_step_120 : decode (mcode mX12_step) 120 = .ok (.aload_n 0, 1) := by decide +kernel
theorem dX12_step_121 : decode (mcode mX12_step) 121 = .ok (.getfield 145, 3) := by decide +kernel
theorem dX12_step_124 : decode (mcode mX12_step) 124 = .ok (.invokevirtual 148, 3) := by decide +kernel
theorem dX12_step_127 : decode (mcode mX12_step) 127 = .ok (.invokestatic 160, 3) := by decide +kernel
theorem dX12_step_130 : decode (mcode mX12_step) 130 = .ok (.ifCond .eq 16, 3) := by decide +kernel
theorem dX12_step_133 : decode (mcode mX12_step) 133 = .ok (.aload_n 0, 1) := by decide +kernel
theorem dX12_step_134 : decode (mcode mX12_step) 134 = .ok (.dup, 1) := by decide +kernel
theorem dX12_step_135 : decode (mcode mX12_step) 135 = .ok (.getfield 145, 3) := by decide +kernel
theorem dX12_step_138 : decode (mcode mX12_step) 138 = .ok (.iconst 1, 1) := by decide +kernel
theorem dX12_step_139 : decode (mcode mX12_step) 139 = .ok (.iadd, 1) := by decide +kernel
theorem dX12_step_140 : decode (mcode mX12_step) 140 = .ok (.putfield 145, 3) := by decide +kernel
theorem dX12_step_143 : decode (mcode mX12_step) 143 = .ok (.goto (-24), 3) := by decide +kernel
theorem dX12_step_146 : decode (mcode mX12_step) 146 = .ok (.aload_n 0, 1) := by decide +kernel
theorem dX12_step_147 : decode (mcode mX12_step) 147 = .ok (.aload_n 0, 1) := by decide +kernel
theorem dX12_step_148 : decode (mcode mX12_step) 148 = .ok (.getfield 145, 3) := by decide +kernel
theorem dX12_step_151 : decode (mcode mX12_step) 151 = .ok (.aload_n 0, 1) := by decide +kernel
theorem dX12_step_152 : decode (mcode mX12_step) 152 = .ok (.getfield 151, 3) := by decide +kernel
theorem dX12_step_155 : decode (mcode mX12_step) 155 = .ok (.isub, 1) := by decide +kernel
theorem dX12_step_156 : decode (mcode mX12_step) 156 = .ok (.iconst 4, 1) := by decide +kernel
theorem dX12_step_157 : decode (mcode mX12_step) 157 = .ok (.if_icmp .le 7, 3) := by decide +kernel
theorem dX12_step_160 : decode (mcode mX12_step) 160 = .ok (.iconst 0, 1) := by decide +kernel
theorem dX12_step_161 : decode (mcode mX12_step) 161 = .ok (.goto 4, 3) := by decide +kernel
theorem dX12_step_164 : decode (mcode mX12_step) 164 = .ok (.iconst 3, 1) := by decide +kernel
theorem dX12_step_165 : decode (mcode mX12_step) 165 = .ok (.putfield 154, 3) := by decide +kernel
theorem dX12_step_168 : decode (mcode mX12_step) 168 = .ok (.goto 28, 3) := by decide +kernel
theorem dX12_step_171 : decode (mcode mX12_step) 171 = .ok (.aload_n 0, 1) := by decide +kernel
theorem dX12_step_172 : decode (mcode mX12_step) 172 = .ok (.dup, 1) := by decide +kernel
theorem dX12_step_173 : decode (mcode mX12_step) 173 = .ok (.getfield 145, 3) := by decide +kernel
theorem dX12_step_176 : decode (mcode mX12_step) 176 = .ok (.iconst 1, 1) := by decide +kernel
theorem dX12_step_177 : decode (mcode mX12_step) 177 = .ok (.iadd, 1) := by decide +kernel
theorem dX12_step_178 : decode (mcode mX12_step) 178 = .ok (.putfield 145, 3) := by decide +kernel
theorem dX12_step_181 : decode (mcode mX12_step) 181 = .ok (.aload_n 0, 1) := by decide +kernel
theorem dX12_step_182 : decode (mcode mX12_step) 182 = .ok (.iload_n 1, 1) := by decide +kernel
theorem dX12_step_183 : decode (mcode mX12_step) 183 = .ok (.bipush 59, 2) := by decide +kernel
theorem dX12_step_185 : decode (mcode mX12_step) 185 = .ok (.if_icmp .ne 7, 3) := by decide +kernel
theorem dX12_step_188 : decode (mcode mX12_step) 188 = .ok (.iconst 4, 1) := by decide +kernel
theorem dX12_step_189 : decode (mcode mX12_step) 189 = .ok (.goto 4, 3) := by decide +kernel
theorem dX12_step_192 : decode (mcode mX12_step) 192 = .ok (.iconst 0, 1) := by decide +kernel
theorem dX12_step_193 : decode (mcode mX12_step) 193 = .ok (.putfield 154, 3) := by decide +kernel
theorem dX12_step_196 : decode (mcode mX12_step) 196 = .ok (.aload_n 0, 1) := by decide +kernel
theorem dX12_step_197 : decode (mcode mX12_step) 197 = .ok (.aload_n 0, 1) := by decide +kernel
theorem dX12_step_198 : decode (mcode mX12_step) 198 = .ok (.getfield 145, 3) := by decide +kernel
theorem dX12_step_201 : decode (mcode mX12_step) 201 = .ok (.putfield 163, 3) := by decide +kernel
theorem dX12_step_204 : decode (mcode mX12_step) 204 = .ok (.return_, 1) := by decide +kernel
theorem dX12_trace_0 : decode (mcode mX12_trace) 0 = .ok (.aload_n 0, 1) := by decide +kernel
theorem dX12_trace_1 : decode (mcode mX12_trace) 1 = .ok (.iconst 0, 1) := by decide +kernel
theorem dX12_trace_2 : decode (mcode mX12_trace) 2 = .ok (.putfield 108, 3) := by decide +kernel
theorem dX12_trace_5 : decode (mcode mX12_trace) 5 = .ok (.iload_n 1, 1) := by decide +kernel
theorem dX12_trace_6 : decode (mcode mX12_trace) 6 = .ok (.i2l, 1) := by decide +kernel
theorem dX12_trace_7 : decode (mcode mX12_trace) 7 = .ok (.lconst 0, 1) := by decide +kernel
theorem dX12_trace_8 : decode (mcode mX12_trace) 8 = .ok (.aload_n 0, 1) := by decide +kernel
theorem dX12_trace_9 : decode (mcode mX12_trace) 9 = .ok (.getfield 345, 3) := by decide +kernel
theorem dX12_trace_12 : decode (mcode mX12_trace) 12 = .ok (.iconst 1, 1) := by decide +kernel
theorem dX12_trace_13 : decode (mcode mX12_trace) 13 = .ok (.isub, 1) := by decide +kernel
theorem dX12_trace_14 : decode (mcode mX12_trace) 14 = .ok (.i2l, 1) := by decide +kernel
theorem dX12_trace_15 : decode (mcode mX12_trace) 15 = .ok (.invokestatic 118, 3) := by decide +kernel
theorem dX12_trace_18 : decode (mcode mX12_trace) 18 = .ok (.ifCond .eq 12, 3) := by decide +kernel
theorem dX12_trace_21 : decode (mcode mX12_trace) 21 = .ok (.aload_n 0, 1) := by decide +kernel
theorem dX12_trace_22 : decode (mcode mX12_trace) 22 = .ok (.getfield 105, 3) := by decide +kernel
theorem dX12_trace_25 : decode (mcode mX12_trace) 25 = .ok (.iload_n 1, 1) := by decide +kernel
theorem dX12_trace_26 : decode (mcode mX12_trace) 26 = .ok (.iaload, 1) := by decide +kernel
theorem dX12_trace_27 : decode (mcode mX12_trace) 27 = .ok (.goto 5, 3) := by decide +kernel
theorem dX12_trace_30 : decode (mcode mX12_trace) 30 = .ok (.ldc 144, 2) := by decide +kernel
theorem dX12_trace_32 : decode (mcode mX12_trace) 32 = .ok (.ireturn, 1) := by decide +kernel
theorem dX12_as_0 : decode (mcode mX12_as) 0 = .ok (.aload_n 0, 1) := by decide +kernel
theorem dX12_as_1 : decode (mcode mX12_as) 1 = .ok (.iconst 0, 1) := by decide +kernel
theorem dX12_as_2 : decode (mcode mX12_as) 2 = .ok (.putfield 108, 3) := by decide +kernel
theorem dX12_as_5 : decode (mcode mX12_as) 5 = .ok (.aload_n 0, 1) := by decide +kernel
theorem dX12_as_6 : decode (mcode mX12_as) 6 = .ok (.iload_n 1, 1) := by decide +kernel
theorem dX12_as_7 : decode (mcode mX12_as) 7 = .ok (.invokevirtual 255, 3) := by decide +kernel
theorem dX12_as_10 : decode (mcode mX12_as) 10 = .ok (.ifCond .eq 15, 3) := by decide +kernel
theorem dX12_as_13 : decode (mcode mX12_as) 13 = .ok (.iload_n 2, 1) := by decide +kernel
theorem dX12_as_14 : decode (mcode mX12_as) 14 = .ok (.i2l, 1) := by decide +kernel
theorem dX12_as_15 : decode (mcode mX12_as) 15 = .ok (.lconst 0, 1) := by decide +kernel
theorem dX12_as_16 : decode (mcode mX12_as) 16 = .ok (.ldc2_w 340, 3) := by decide +kernel
theorem dX12_as_19 : decode (mcode mX12_as) 19 = .ok (.invokestatic 118, 3) := by decide +kernel
theorem dX12_as_22 : decode (mcode mX12_as) 22 = .ok (.ifCond .ne 6, 3) := by decide +kernel
theorem dX12_as_25 : decode (mcode mX12_as) 25 = .ok (.ldc 128, 2) := by decide +kernel
theorem dX12_as_27 : decode (mcode mX12_as) 27 = .ok (.ireturn, 1) := by decide +kernel
theorem dX12_as_28 : decode (mcode mX12_as) 28 = .ok (.aload_n 0, 1) := by decide +kernel
theorem dX12_as_29 : decode (mcode mX12_as) 29 = .ok (.iconst 0, 1) := by decide +kernel
theorem dX12_as_30 : decode (mcode mX12_as) 30 = .ok (.putfield 112, 3) := by decide +kernel
theorem dX12_as_33 : decode (mcode mX12_as) 33 = .ok (.aload_n 0, 1) := by decide +kernel
theorem dX12_as_34 : decode (mcode mX12_as) 34 = .ok (.getfield 35, 3) := by decide +kernel
theorem dX12_as_37 : decode (mcode mX12_as) 37 = .ok (.iload_n 1, 1) := by decide +kernel
theorem dX12_as_38 : decode (mcode mX12_as) 38 = .ok (.iaload, 1) := by decide +kernel
theorem dX12_as_39 : decode (mcode mX12_as) 39 = .ok (.iconst 1, 1) := by decide +kernel
theorem dX12_as_40 : decode (mcode mX12_as) 40 = .ok (.iadd, 1) := by decide +kernel
theorem dX12_as_41 : decode (mcode mX12_as) 41 = .ok (.iload_n 2, 1) := by decide +kernel
theorem dX12_as_42 : decode (mcode mX12_as) 42 = .ok (.invokestatic 342, 3) := by decide +kernel
theorem dX12_as_45 : decode (mcode mX12_as) 45 = .ok (.ifCond .eq 12, 3) := by decide +kernel
theorem dX12_as_48 : decode (mcode mX12_as) 48 = .ok (.aload_n 0, 1) := by decide +kernel
theorem dX12_as_49 : decode (mcode mX12_as) 49 = .ok (.getfield 41, 3) := by decide +kernel
theorem dX12_as_52 : decode (mcode mX12_as) 52 = .ok (.iload_n 1, 1) := by decide +kernel
theorem dX12_as_53 : decode (mcode mX12_as) 53 = .ok (.iaload, 1) := by decide +kernel
theorem dX12_as_54 : decode (mcode mX12_as) 54 = .ok (.goto 8, 3) := by decide +kernel
theorem dX12_as_57 : decode (mcode mX12_as) 57 = .ok (.aload_n 0, 1) := by decide +kernel
theorem dX12_as_58 : decode (mcode mX12_as) 58 = .ok (.iconst 3, 1) := by decide +kernel
theorem dX12_as_59 : decode (mcode mX12_as) 59 = .ok (.invokevirtual 129, 3) := by decide +kernel
theorem dX12_as_62 : decode (mcode mX12_as) 62 = .ok (.ireturn, 1) := by decide +kernel
theorem dX12_copy_0 : decode (mcode mX12_copy) 0 = .ok (.aload_n 0, 1) := by decide +kernel
theorem dX12_copy_1 : decode (mcode mX12_copy) 1 = .ok (.iconst 0, 1) := by decide +kernel
theorem dX12_copy_2 : decode (mcode mX12_copy) 2 = .ok (.putfield 108, 3) := by decide +kernel
theorem dX12_copy_5 : decode (mcode mX12_copy) 5 = .ok (.iload_n 1, 1) := by decide +kernel
theorem dX12_copy_6 : decode (mcode mX12_copy) 6 = .ok (.invokestatic 122, 3) := by decide +kernel
theorem dX12_copy_9 : decode (mcode mX12_copy) 9 = .ok (.ifCond .eq 10, 3) := by decide +kernel
theorem dX12_copy_12 : decode (mcode mX12_copy) 12 = .ok (.iload_n 3, 1) := by decide +kernel
theorem dX12_copy_13 : decode (mcode mX12_copy) 13 = .ok (.invokestatic 122, 3) := by decide +kernel
theorem dX12_copy_16 : decode (mcode mX12_copy) 16 = .ok (.ifCond .ne 6, 3) := by decide +kernel
theorem dX12_copy_19 : decode (mcode mX12_copy) 19 = .ok (.ldc 128, 2) := by decide +kernel
theorem dX12_copy_21 : decode (mcode mX12_copy) 21 = .ok (.ireturn, 1) := by decide +kernel
theorem dX12_copy_22 : decode (mcode mX12_copy) 22 = .ok (.aload_n 0, 1) := by decide +kernel
theorem dX12_copy_23 : decode (mcode mX12_copy) 23 = .ok (.iconst 0, 1) := by decide +kernel
theorem dX12_copy_24 : decode (mcode mX12_copy) 24 = .ok (.putfield 112, 3) := by decide +kernel
theorem dX12_copy_27 : decode (mcode mX12_copy) 27 = .ok (.aload_n 0, 1) := by decide +kernel
theorem dX12_copy_28 : decode (mcode mX12_copy) 28 = .ok (.getfield 7, 3) := by decide +kernel
theorem dX12_copy_31 : decode (mcode mX12_copy) 31 = .ok (.iload_n 1, 1) := by decide +kernel
theorem dX12_copy_32 : decode (mcode mX12_copy) 32 = .ok (.iaload, 1) := by decide +kernel
theorem dX12_copy_33 : decode (mcode mX12_copy) 33 = .ok (.ifCond .lt 12, 3) := by decide +kernel
theorem dX12_copy_36 : decode (mcode mX12_copy) 36 = .ok (.aload_n 0, 1) := by decide +kernel
theorem dX12_copy_37 : decode (mcode mX12_copy) 37 = .ok (.getfield 7, 3) := by decide +kernel
theorem dX12_copy_40 : decode (mcode mX12_copy) 40 = .ok (.iload_n 3, 1) := by decide +kernel
theorem dX12_copy_41 : decode (mcode mX12_copy) 41 = .ok (.iaload, 1) := by decide +kernel
theorem dX12_copy_42 : decode (mcode mX12_copy) 42 = .ok (.ifCond .ge 9, 3) := by decide +kernel
theorem dX12_copy_45 : decode (mcode mX12_copy) 45 = .ok (.aload_n 0, 1) := by decide +kernel
theorem dX12_copy_46 : decode (mcode mX12_copy) 46 = .ok (.iconst 1, 1) := by decide +kernel
theorem dX12_copy_47 : decode (mcode mX12_copy) 47 = .ok (.invokevirtual 129, 3) := by decide +kernel
theorem dX12_copy_50 : decode (mcode mX12_copy) 50 = .ok (.ireturn, 1) := by decide +kernel
theorem dX12_copy_51 : decode (mcode mX12_copy) 51 = .ok (.aload_n 0, 1) := by decide +kernel
theorem dX12_copy_52 : decode (mcode mX12_copy) 52 = .ok (.getfield 7, 3) := by decide +kernel
theorem dX12_copy_55 : decode (mcode mX12_copy) 55 = .ok (.iload_n 1, 1) := by decide +kernel
theorem dX12_copy_56 : decode (mcode mX12_copy) 56 = .ok (.iaload, 1) := by decide +kernel
theorem dX12_copy_57 : decode (mcode mX12_copy) 57 = .ok (.aload_n 0, 1) := by decide +kernel
theorem dX12_copy_58 : decode (mcode mX12_copy) 58 = .ok (.getfield 7, 3) := by decide +kernel
theorem dX12_copy_61 : decode (mcode mX12_copy) 61 = .ok (.iload_n 3, 1) := by decide +kernel
theorem dX12_copy_62 : decode (mcode mX12_copy) 62 = .ok (.iaload, 1) := by decide +kernel
theorem dX12_copy_63 : decode (mcode mX12_copy) 63 = .ok (.if_icmp .eq 9, 3) := by decide +kernel
theorem dX12_copy_66 : decode (mcode mX12_copy) 66 = .ok (.aload_n 0, 1) := by decide +kernel
theorem dX12_copy_67 : decode (mcode mX12_copy) 67 = .ok (.iconst 5, 1) := by decide +kernel
theorem dX12_copy_68 : decode (mcode mX12_copy) 68 = .ok (.invokevirtual 129, 3) := by decide +kernel
theorem dX12_copy_71 : decode (mcode mX12_copy) 71 = .ok (.ireturn, 1) := by decide +kernel
theorem dX12_copy_72 : decode (mcode mX12_copy) 72 = .ok (.iload_n 2, 1) := by decide +kernel
theorem dX12_copy_73 : decode (mcode mX12_copy) 73 = .ok (.ifCond .lt 48, 3) := by decide +kernel
theorem dX12_copy_76 : decode (mcode mX12_copy) 76 = .ok (.iload 4, 2) := by decide +kernel
theorem dX12_copy_78 : decode (mcode mX12_copy) 78 = .ok (.ifCond .lt 43, 3) := by decide +kernel
theorem dX12_copy_81 : decode (mcode mX12_copy) 81 = .ok (.iload 5, 2) := by decide +kernel
theorem dX12_copy_83 : decode (mcode mX12_copy) 83 = .ok (.ifCond .lt 38, 3) := by decide +kernel
theorem dX12_copy_86 : decode (mcode mX12_copy) 86 = .ok (.iload_n 2, 1) := by decide +kernel
theorem dX12_copy_87 : decode (mcode mX12_copy) 87 = .ok (.i2l, 1) := by decide +kernel
theorem dX12_copy_88 : decode (mcode mX12_copy) 88 = .ok (.iload 5, 2) := by decide +kernel
theorem dX12_copy_90 : decode (mcode mX12_copy) 90 = .ok (.i2l, 1) := by decide +kernel
theorem dX12_copy_91 : decode (mcode mX12_copy) 91 = .ok (.ladd, 1) := by decide +kernel
theorem dX12_copy_92 : decode (mcode mX12_copy) 92 = .ok (.aload_n 0, 1) := by decide +kernel
theorem dX12_copy_93 : decode (mcode mX12_copy) 93 = .ok (.getfield 13, 3) := by decide +kernel
theorem dX12_copy_96 : decode (mcode mX12_copy) 96 = .ok (.iload_n 1, 1) := by decide +kernel
theorem dX12_copy_97 : decode (mcode mX12_copy) 97 = .ok (.iaload, 1) := by decide +kernel
theorem dX12_copy_98 : decode (mcode mX12_copy) 98 = .ok (.i2l, 1) := by decide +kernel
theorem dX12_copy_99 : decode (mcode mX12_copy) 99 = .ok (.lcmp, 1) := by decide +kernel
theorem dX12_copy_100 : decode (mcode mX12_copy) 100 = .ok (.ifCond .gt 21, 3) := by decide +kernel
theorem dX12_copy_103 : decode (mcode mX12_copy) 103 = .ok (.iload 4, 2) := by decide +kernel
theorem dX12_copy_105 : decode (mcode mX12_copy) 105 = .ok (.i2l, 1) := by decide +kernel
theorem dX12_copy_106 : decode (mcode mX12_copy) 106 = .ok (.iload 5, 2) := by decide +kernel
theorem dX12_copy_108 : decode (mcode mX12_copy) 108 = .ok (.i2l, 1) := by decide +kernel
theorem dX12_copy_109 : decode (mcode mX12_copy) 109 = .ok (.ladd, 1) := by decide +kernel
theorem dX12_copy_110 : decode (mcode mX12_copy) 110 = .ok (.aload_n 0, 1) := by decide +kernel
theorem dX12_copy_111 : decode (mcode mX12_copy) 111 = .ok (.getfield 13, 3) := by decide +kernel
theorem dX12_copy_114 : decode (mcode mX12_copy) 114 = .ok (.iload_n 3, 1) := by decide +kernel
theorem dX12_copy_115 : decode (mcode mX12_copy) 115 = .ok (.iaload, 1) := by decide +kernel
theorem dX12_copy_116 : decode (mcode mX12_copy) 116 = .ok (.i2l, 1) := by decide +kernel
theorem dX12_copy_117 : decode (mcode mX12_copy) 117 = .ok (.lcmp, 1) := by decide +kernel
theorem dX12_copy_118 : decode (mcode mX12_copy) 118 = .ok (.ifCond .le 9, 3) := by decide +kernel
theorem dX12_copy_121 : decode (mcode mX12_copy) 121 = .ok (.aload_n 0, 1) := by decide +kernel
theorem dX12_copy_122 : decode (mcode mX12_copy) 122 = .ok (.iconst 2, 1) := by decide +kernel
theorem dX12_copy_123 : decode (mcode mX12_copy) 123 = .ok (.invokevirtual 129, 3) := by decide +kernel
theorem dX12_copy_126 : decode (mcode mX12_copy) 126 = .ok (.ireturn, 1) := by decide +kernel
theorem dX12_copy_127 : decode (mcode mX12_copy) 127 = .ok (.iload_n 2, 1) := by decide +kernel
theorem dX12_copy_128 : decode (mcode mX12_copy) 128 = .ok (.iload 4, 2) := by decide +kernel
theorem dX12_copy_130 : decode (mcode mX12_copy) 130 = .ok (.if_icmp .lt 7, 3) := by decide +kernel
theorem dX12_copy_133 : decode (mcode mX12_copy) 133 = .ok (.iconst 1, 1) := by decide +kernel
theorem dX12_copy_134 : decode (mcode mX12_copy) 134 = .ok (.goto 4, 3) := by decide +kernel
theorem dX12_copy_137 : decode (mcode mX12_copy) 137 = .ok (.iconst 0, 1) := by decide +kernel
theorem dX12_copy_138 : decode (mcode mX12_copy) 138 = .ok (.istore 6, 2) := by decide +kernel
theorem dX12_copy_140 : decode (mcode mX12_copy) 140 = .ok (.iconst 0, 1) := by decide +kernel
theorem dX12_copy_141 : decode (mcode mX12_copy) 141 = .ok (.istore 7, 2) := by decide +kernel
theorem dX12_copy_143 : decode (mcode mX12_copy) 143 = .ok (.iload 7, 2) := by decide +kernel
theorem dX12_copy_145 : decode (mcode mX12_copy) 145 = .ok (.iload 5, 2) := by decide +kernel
theorem dX12_copy_147 : decode (mcode mX12_copy) 147 = .ok (.if_icmp .ge 57, 3) := by decide +kernel
theorem dX12_copy_150 : decode (mcode mX12_copy) 150 = .ok (.iload 6, 2) := by decide +kernel
theorem dX12_copy_152 : decode (mcode mX12_copy) 152 = .ok (.ifCond .eq 8, 3) := by decide +kernel
theorem dX12_copy_155 : decode (mcode mX12_copy) 155 = .ok (.iload 7, 2) := by decide +kernel
theorem dX12_copy_157 : decode (mcode mX12_copy) 157 = .ok (.goto 10, 3) := by decide +kernel
theorem dX12_copy_160 : decode (mcode mX12_copy) 160 = .ok (.iload 5, 2) := by decide +kernel
theorem dX12_copy_162 : decode (mcode mX12_copy) 162 = .ok (.iconst 1, 1) := by decide +kernel
theorem dX12_copy_163 : decode (mcode mX12_copy) 163 = .ok (.isub, 1) := by decide +kernel
theorem dX12_copy_164 : decode (mcode mX12_copy) 164 = .ok (.iload 7, 2) := by decide +kernel
theorem dX12_copy_166 : decode (mcode mX12_copy) 166 = .ok (.isub, 1) := by decide +kernel
theorem dX12_copy_167 : decode (mcode mX12_copy) 167 = .ok (.istore 8, 2) := by decide +kernel
theorem dX12_copy_169 : decode (mcode mX12_copy) 169 = .ok (.aload_n 0, 1) := by decide +kernel
theorem dX12_copy_170 : decode (mcode mX12_copy) 170 = .ok (.getfield 16, 3) := by decide +kernel
theorem dX12_copy_173 : decode (mcode mX12_copy) 173 = .ok (.bipush 60, 2) := by decide +kernel
theorem dX12_copy_175 : decode (mcode mX12_copy) 175 = .ok (.iload_n 3, 1) := by decide +kernel
theorem dX12_copy_176 : decode (mcode mX12_copy) 176 = .ok (.imul, 1) := by decide +kernel
theorem dX12_copy_177 : decode (mcode mX12_copy) 177 = .ok (.iload 4, 2) := by decide +kernel
theorem dX12_copy_179 : decode (mcode mX12_copy) 179 = .ok (.iadd, 1) := by decide +kernel
theorem dX12_copy_180 : decode (mcode mX12_copy) 180 = .ok (.iload 8, 2) := by decide +kernel
theorem dX12_copy_182 : decode (mcode mX12_copy) 182 = .ok (.iadd, 1) := by decide +kernel
theorem dX12_copy_183 : decode (mcode mX12_copy) 183 = .ok (.aload_n 0, 1) := by decide +kernel
theorem dX12_copy_184 : decode (mcode mX12_copy) 184 = .ok (.getfield 16, 3) := by decide +kernel
theorem dX12_copy_187 : decode (mcode mX12_copy) 187 = .ok (.bipush 60, 2) := by decide +kernel
theorem dX12_copy_189 : decode (mcode mX12_copy) 189 = .ok (.iload_n 1, 1) := by decide +kernel
theorem dX12_copy_190 : decode (mcode mX12_copy) 190 = .ok (.imul, 1) := by decide +kernel
theorem dX12_copy_191 : decode (mcode mX12_copy) 191 = .ok (.iload_n 2, 1) := by decide +kernel
theorem dX12_copy_192 : decode (mcode mX12_copy) 192 = .ok (.iadd, 1) := by decide +kernel
theorem dX12_copy_193 : decode (mcode mX12_copy) 193 = .ok (.iload 8, 2) := by decide +kernel
theorem dX12_copy_195 : decode (mcode mX12_copy) 195 = .ok (.iadd, 1) := by decide +kernel
theorem dX12_copy_196 : decode (mcode mX12_copy) 196 = .ok (.iaload, 1) := by decide +kernel
theorem dX12_copy_197 : decode (mcode mX12_copy) 197 = .ok (.iastore, 1) := by decide +kernel
theorem dX12_copy_198 : decode (mcode mX12_copy) 198 = .ok (.iinc 7 1, 3) := by decide +kernel
theorem dX12_copy_201 : decode (mcode mX12_copy) 201 = .ok (.goto (-58), 3) := by decide +kernel
theorem dX12_copy_204 : decode (mcode mX12_copy) 204 = .ok (.iload 5, 2) := by decide +kernel
theorem dX12_copy_206 : decode (mcode mX12_copy) 206 = .ok (.ireturn, 1) := by decide +kernel
theorem dX12_drop_0 : decode (mcode mX12_drop) 0 = .ok (.aload_n 0, 1) := by decide +kernel
theorem dX12_drop_1 : decode (mcode mX12_drop) 1 = .ok (.iconst 0, 1) := by decide +kernel
theorem dX12_drop_2 : decode (mcode mX12_drop) 2 = .ok (.putfield 108, 3) := by decide +kernel
theorem dX12_drop_5 : decode (mcode mX12_drop) 5 = .ok (.iload_n 1, 1) := by decide +kernel
theorem dX12_drop_6 : decode (mcode mX12_drop) 6 = .ok (.invokestatic 122, 3) := by decide +kernel
theorem dX12_drop_9 : decode (mcode mX12_drop) 9 = .ok (.ifCond .ne 6, 3) := by decide +kernel
theorem dX12_drop_12 : decode (mcode mX12_drop) 12 = .ok (.ldc 128, 2) := by decide +kernel
theorem dX12_drop_14 : decode (mcode mX12_drop) 14 = .ok (.ireturn, 1) := by decide +kernel
theorem dX12_drop_15 : decode (mcode mX12_drop) 15 = .ok (.aload_n 0, 1) := by decide +kernel
theorem dX12_drop_16 : decode (mcode mX12_drop) 16 = .ok (.iconst 0, 1) := by decide +kernel
theorem dX12_drop_17 : decode (mcode mX12_drop) 17 = .ok (.putfield 112, 3) := by decide +kernel
theorem dX12_drop_20 : decode (mcode mX12_drop) 20 = .ok (.aload_n 0, 1) := by decide +kernel
theorem dX12_drop_21 : decode (mcode mX12_drop) 21 = .ok (.getfield 7, 3) := by decide +kernel
theorem dX12_drop_24 : decode (mcode mX12_drop) 24 = .ok (.iload_n 1, 1) := by decide +kernel
theorem dX12_drop_25 : decode (mcode mX12_drop) 25 = .ok (.iaload, 1) := by decide +kernel
theorem dX12_drop_26 : decode (mcode mX12_drop) 26 = .ok (.ifCond .ge 9, 3) := by decide +kernel
theorem dX12_drop_29 : decode (mcode mX12_drop) 29 = .ok (.aload_n 0, 1) := by decide +kernel
theorem dX12_drop_30 : decode (mcode mX12_drop) 30 = .ok (.iconst 1, 1) := by decide +kernel
theorem dX12_drop_31 : decode (mcode mX12_drop) 31 = .ok (.invokevirtual 129, 3) := by decide +kernel
theorem dX12_drop_34 : decode (mcode mX12_drop) 34 = .ok (.ireturn, 1) := by decide +kernel
theorem dX12_drop_35 : decode (mcode mX12_drop) 35 = .ok (.aload_n 0, 1) := by decide +kernel
theorem dX12_drop_36 : decode (mcode mX12_drop) 36 = .ok (.getfield 7, 3) := by decide +kernel
theorem dX12_drop_39 : decode (mcode mX12_drop) 39 = .ok (.iload_n 1, 1) := by decide +kernel
theorem dX12_drop_40 : decode (mcode mX12_drop) 40 = .ok (.iconst (-1), 1) := by decide +kernel
theorem dX12_drop_41 : decode (mcode mX12_drop) 41 = .ok (.iastore, 1) := by decide +kernel
theorem dX12_drop_42 : decode (mcode mX12_drop) 42 = .ok (.aload_n 0, 1) := by decide +kernel
theorem dX12_drop_43 : decode (mcode mX12_drop) 43 = .ok (.getfield 13, 3) := by decide +kernel
theorem dX12_drop_46 : decode (mcode mX12_drop) 46 = .ok (.iload_n 1, 1) := by decide +kernel
theorem dX12_drop_47 : decode (mcode mX12_drop) 47 = .ok (.iaload, 1) := by decide +kernel
theorem dX12_drop_48 : decode (mcode mX12_drop) 48 = .ok (.ireturn, 1) := by decide +kernel
theorem dX12_ear_0 : decode (mcode mX12_ear) 0 = .ok (.aload_n 0, 1) := by decide +kernel
theorem dX12_ear_1 : decode (mcode mX12_ear) 1 = .ok (.iconst 0, 1) := by decide +kernel
theorem dX12_ear_2 : decode (mcode mX12_ear) 2 = .ok (.putfield 108, 3) := by decide +kernel
theorem dX12_ear_5 : decode (mcode mX12_ear) 5 = .ok (.aload_n 0, 1) := by decide +kernel
theorem dX12_ear_6 : decode (mcode mX12_ear) 6 = .ok (.iload_n 1, 1) := by decide +kernel
theorem dX12_ear_7 : decode (mcode mX12_ear) 7 = .ok (.invokevirtual 255, 3) := by decide +kernel
theorem dX12_ear_10 : decode (mcode mX12_ear) 10 = .ok (.ifCond .eq 11, 3) := by decide +kernel
theorem dX12_ear_13 : decode (mcode mX12_ear) 13 = .ok (.aload_n 0, 1) := by decide +kernel
theorem dX12_ear_14 : decode (mcode mX12_ear) 14 = .ok (.iload_n 1, 1) := by decide +kernel
theorem dX12_ear_15 : decode (mcode mX12_ear) 15 = .ok (.invokevirtual 276, 3) := by decide +kernel
theorem dX12_ear_18 : decode (mcode mX12_ear) 18 = .ok (.goto 5, 3) := by decide +kernel
theorem dX12_ear_21 : decode (mcode mX12_ear) 21 = .ok (.ldc 128, 2) := by decide +kernel
theorem dX12_ear_23 : decode (mcode mX12_ear) 23 = .ok (.ireturn, 1) := by decide +kernel
theorem dX12_isHomeless_0 : decode (mcode mX12_isHomeless) 0 = .ok (.iconst 0, 1) := by decide +kernel
theorem dX12_isHomeless_1 : decode (mcode mX12_isHomeless) 1 = .ok (.istore_n 2, 1) := by decide +kernel
theorem dX12_isHomeless_2 : decode (mcode mX12_isHomeless) 2 = .ok (.iconst 0, 1) := by decide +kernel
theorem dX12_isHomeless_3 : decode (mcode mX12_isHomeless) 3 = .ok (.istore_n 3, 1) := by decide +kernel
theorem dX12_isHomeless_4 : decode (mcode mX12_isHomeless) 4 = .ok (.iconst 0, 1) := by decide +kernel
theorem dX12_isHomeless_5 : decode (mcode mX12_isHomeless) 5 = .ok (.istore 4, 2) := by decide +kernel
theorem dX12_isHomeless_7 : decode (mcode mX12_isHomeless) 7 = .ok (.iload 4, 2) := by decide +kernel
theorem dX12_isHomeless_9 : decode (mcode mX12_isHomeless) 9 = .ok (.aload_n 0, 1) := by decide +kernel
theorem dX12_isHomeless_10 : decode (mcode mX12_isHomeless) 10 = .ok (.getfield 233, 3) := by decide +kernel
theorem dX12_isHomeless_13 : decode (mcode mX12_isHomeless) 13 = .ok (.if_icmp .ge 107, 3) := by decide +kernel
theorem dX12_isHomeless_16 : decode (mcode mX12_isHomeless) 16 = .ok (.aload_n 0, 1) := by decide +kernel
theorem dX12_isHomeless_17 : decode (mcode mX12_isHomeless) 17 = .ok (.getfield 65, 3) := by decide +kernel
theorem dX12_isHomeless_20 : decode (mcode mX12_isHomeless) 20 = .ok (.iload 4, 2) := by decide +kernel
theorem dX12_isHomeless_22 : decode (mcode mX12_isHomeless) 22 = .ok (.iaload, 1) := by decide +kernel
theorem dX12_isHomeless_23 : decode (mcode mX12_isHomeless) 23 = .ok (.aload_n 0, 1) := by decide +kernel
theorem dX12_isHomeless_24 : decode (mcode mX12_isHomeless) 24 = .ok (.getfield 38, 3) := by decide +kernel
theorem dX12_isHomeless_27 : decode (mcode mX12_isHomeless) 27 = .ok (.iload_n 1, 1) := by decide +kernel
theorem dX12_isHomeless_28 : decode (mcode mX12_isHomeless) 28 = .ok (.iaload, 1) := by decide +kernel
theorem dX12_isHomeless_29 : decode (mcode mX12_isHomeless) 29 = .ok (.if_icmp .ne 22, 3) := by decide +kernel
theorem dX12_isHomeless_32 : decode (mcode mX12_isHomeless) 32 = .ok (.aload_n 0, 1) := by decide +kernel
theorem dX12_isHomeless_33 : decode (mcode mX12_isHomeless) 33 = .ok (.getfield 68, 3) := by decide +kernel
theorem dX12_isHomeless_36 : decode (mcode mX12_isHomeless) 36 = .ok (.iload 4, 2) := by decide +kernel
theorem dX12_isHomeless_38 : decode (mcode mX12_isHomeless) 38 = .ok (.iaload, 1) := by decide +kernel
theorem dX12_isHomeless_39 : decode (mcode mX12_isHomeless) 39 = .ok (.aload_n 0, 1) := by decide +kernel
theorem dX12_isHomeless_40 : decode (mcode mX12_isHomeless) 40 = .ok (.iload_n 1, 1) := by decide +kernel
theorem dX12_isHomeless_41 : decode (mcode mX12_isHomeless) 41 = .ok (.invokevirtual 252, 3) := by decide +kernel
theorem dX12_isHomeless_44 : decode (mcode mX12_isHomeless) 44 = .ok (.if_icmp .ne 7, 3) := by decide +kernel
theorem dX12_isHomeless_47 : decode (mcode mX12_isHomeless) 47 = .ok (.iconst 1, 1) := by decide +kernel
theorem dX12_isHomeless_48 : decode (mcode mX12_isHomeless) 48 = .ok (.goto 4, 3) := by decide +kernel
theorem dX12_isHomeless_51 : decode (mcode mX12_isHomeless) 51 = .ok (.iconst 0, 1) := by decide +kernel
theorem dX12_isHomeless_52 : decode (mcode mX12_isHomeless) 52 = .ok (.istore 5, 2) := by decide +kernel
theorem dX12_isHomeless_54 : decode (mcode mX12_isHomeless) 54 = .ok (.iload_n 2, 1) := by decide +kernel
theorem dX12_isHomeless_55 : decode (mcode mX12_isHomeless) 55 = .ok (.ifCond .ne 8, 3) := by decide +kernel
theorem dX12_isHomeless_58 : decode (mcode mX12_isHomeless) 58 = .ok (.iload 5, 2) := by decide +kernel
theorem dX12_isHomeless_60 : decode (mcode mX12_isHomeless) 60 = .ok (.ifCond .eq 7, 3) := by decide +kernel
theorem dX12_isHomeless_63 : decode (mcode mX12_isHomeless) 63 = .ok (.iconst 1, 1) := by decide +kernel
theorem dX12_isHomeless_64 : decode (mcode mX12_isHomeless) 64 = .ok (.goto 4, 3) := by decide +kernel
theorem dX12_isHomeless_67 : decode (mcode mX12_isHomeless) 67 = .ok (.iconst 0, 1) := by decide +kernel
theorem dX12_isHomeless_68 : decode (mcode mX12_isHomeless) 68 = .ok (.istore_n 2, 1) := by decide +kernel
theorem dX12_isHomeless_69 : decode (mcode mX12_isHomeless) 69 = .ok (.iload_n 3, 1) := by decide +kernel
theorem dX12_isHomeless_70 : decode (mcode mX12_isHomeless) 70 = .ok (.ifCond .ne 38, 3) := by decide +kernel
theorem dX12_isHomeless_73 : decode (mcode mX12_isHomeless) 73 = .ok (.iload 5, 2) := by decide +kernel
theorem dX12_isHomeless_75 : decode (mcode mX12_isHomeless) 75 = .ok (.ifCond .eq 37, 3) := by decide +kernel
theorem dX12_isHomeless_78 : decode (mcode mX12_isHomeless) 78 = .ok (.aload_n 0, 1) := by decide +kernel
theorem dX12_isHomeless_79 : decode (mcode mX12_isHomeless) 79 = .ok (.iload_n 1, 1) := by decide +kernel
theorem dX12_isHomeless_80 : decode (mcode mX12_isHomeless) 80 = .ok (.invokevirtual 246, 3) := by decide +kernel
theorem dX12_isHomeless_83 : decode (mcode mX12_isHomeless) 83 = .ok (.i2l, 1) := by decide +kernel
theorem dX12_isHomeless_84 : decode (mcode mX12_isHomeless) 84 = .ok (.aload_n 0, 1) := by decide +kernel
theorem dX12_isHomeless_85 : decode (mcode mX12_isHomeless) 85 = .ok (.getfield 71, 3) := by decide +kernel
theorem dX12_isHomeless_88 : decode (mcode mX12_isHomeless) 88 = .ok (.iload 4, 2) := by decide +kernel
theorem dX12_isHomeless_90 : decode (mcode mX12_isHomeless) 90 = .ok (.iaload, 1) := by decide +kernel
theorem dX12_isHomeless_91 : decode (mcode mX12_isHomeless) 91 = .ok (.i2l, 1) := by decide +kernel
theorem dX12_isHomeless_92 : decode (mcode mX12_isHomeless) 92 = .ok (.aload_n 0, 1) := by decide +kernel
theorem dX12_isHomeless_93 : decode (mcode mX12_isHomeless) 93 = .ok (.getfield 74, 3) := by decide +kernel
theorem dX12_isHomeless_96 : decode (mcode mX12_isHomeless) 96 = .ok (.iload 4, 2) := by decide +kernel
theorem dX12_isHomeless_98 : decode (mcode mX12_isHomeless) 98 = .ok (.iaload, 1) := by decide +kernel
theorem dX12_isHomeless_99 : decode (mcode mX12_isHomeless) 99 = .ok (.iconst 1, 1) := by decide +kernel
theorem dX12_isHomeless_100 : decode (mcode mX12_isHomeless) 100 = .ok (.isub, 1) := by decide +kernel
theorem dX12_isHomeless_101 : decode (mcode mX12_isHomeless) 101 = .ok (.i2l, 1) := by decide +kernel
theorem dX12_isHomeless_102 : decode (mcode mX12_isHomeless) 102 = .ok (.invokestatic 118, 3) := by decide +kernel
theorem dX12_isHomeless_105 : decode (mcode mX12_isHomeless) 105 = .ok (.ifCond .eq 7, 3) := by decide +kernel
theorem dX12_isHomeless_108 : decode (mcode mX12_isHomeless) 108 = .ok (.iconst 1, 1) := by decide +kernel
theorem dX12_isHomeless_109 : decode (mcode mX12_isHomeless) 109 = .ok (.goto 4, 3) := by decide +kernel
theorem dX12_isHomeless_112 : decode (mcode mX12_isHomeless) 112 = .ok (.iconst 0, 1) := by decide +kernel
theorem dX12_isHomeless_113 : decode (mcode mX12_isHomeless) 113 = .ok (.istore_n 3, 1) := by decide +kernel
theorem dX12_isHomeless_114 : decode (mcode mX12_isHomeless) 114 = .ok (.iinc 4 1, 3) := by decide +kernel
theorem dX12_isHomeless_117 : decode (mcode mX12_isHomeless) 117 = .ok (.goto (-110), 3) := by decide +kernel
theorem dX12_isHomeless_120 : decode (mcode mX12_isHomeless) 120 = .ok (.iload_n 2, 1) := by decide +kernel
theorem dX12_isHomeless_121 : decode (mcode mX12_isHomeless) 121 = .ok (.ifCond .eq 11, 3) := by decide +kernel
theorem dX12_isHomeless_124 : decode (mcode mX12_isHomeless) 124 = .ok (.iload_n 3, 1) := by decide +kernel
theorem dX12_isHomeless_125 : decode (mcode mX12_isHomeless) 125 = .ok (.ifCond .ne 7, 3) := by decide +kernel
theorem dX12_isHomeless_128 : decode (mcode mX12_isHomeless) 128 = .ok (.iconst 1, 1) := by decide +kernel
theorem dX12_isHomeless_129 : decode (mcode mX12_isHomeless) 129 = .ok (.goto 4, 3) := by decide +kernel
theorem dX12_isHomeless_132 : decode (mcode mX12_isHomeless) 132 = .ok (.iconst 0, 1) := by decide +kernel
theorem dX12_isHomeless_133 : decode (mcode mX12_isHomeless) 133 = .ok (.ireturn, 1) := by decide +kernel
theorem dX12_isLike_0 : decode (mcode mX12_isLike) 0 = .ok (.aload_n 0, 1) := by decide +kernel
theorem dX12_isLike_1 : decode (mcode mX12_isLike) 1 = .ok (.iload_n 1, 1) := by decide +kernel
theorem dX12_isLike_2 : decode (mcode mX12_isLike) 2 = .ok (.invokevirtual 276, 3) := by decide +kernel
theorem dX12_isLike_5 : decode (mcode mX12_isLike) 5 = .ok (.aload_n 0, 1) := by decide +kernel
theorem dX12_isLike_6 : decode (mcode mX12_isLike) 6 = .ok (.iload_n 2, 1) := by decide +kernel
theorem dX12_isLike_7 : decode (mcode mX12_isLike) 7 = .ok (.invokevirtual 276, 3) := by decide +kernel
theorem dX12_isLike_10 : decode (mcode mX12_isLike) 10 = .ok (.if_icmp .eq 13, 3) := by decide +kernel
theorem dX12_isLike_13 : decode (mcode mX12_isLike) 13 = .ok (.aload_n 0, 1) := by decide +kernel
theorem dX12_isLike_14 : decode (mcode mX12_isLike) 14 = .ok (.iload_n 1, 1) := by decide +kernel
theorem dX12_isLike_15 : decode (mcode mX12_isLike) 15 = .ok (.iload_n 2, 1) := by decide +kernel
theorem dX12_isLike_16 : decode (mcode mX12_isLike) 16 = .ok (.invokevirtual 283, 3) := by decide +kernel
theorem dX12_isLike_19 : decode (mcode mX12_isLike) 19 = .ok (.iconst 2, 1) := by decide +kernel
theorem dX12_isLike_20 : decode (mcode mX12_isLike) 20 = .ok (.if_icmp .ge 7, 3) := by decide +kernel
theorem dX12_isLike_23 : decode (mcode mX12_isLike) 23 = .ok (.iconst 1, 1) := by decide +kernel
theorem dX12_isLike_24 : decode (mcode mX12_isLike) 24 = .ok (.goto 4, 3) := by decide +kernel
theorem dX12_isLike_27 : decode (mcode mX12_isLike) 27 = .ok (.iconst 0, 1) := by decide +kernel
theorem dX12_isLike_28 : decode (mcode mX12_isLike) 28 = .ok (.ireturn, 1) := by decide +kernel
theorem dX12_isOneDoor_0 : decode (mcode mX12_isOneDoor) 0 = .ok (.aload_n 0, 1) := by decide +kernel
theorem dX12_isOneDoor_1 : decode (mcode mX12_isOneDoor) 1 = .ok (.getfield 38, 3) := by decide +kernel
theorem dX12_isOneDoor_4 : decode (mcode mX12_isOneDoor) 4 = .ok (.iload_n 1, 1) := by decide +kernel
theorem dX12_isOneDoor_5 : decode (mcode mX12_isOneDoor) 5 = .ok (.iaload, 1) := by decide +kernel
theorem dX12_isOneDoor_6 : decode (mcode mX12_isOneDoor) 6 = .ok (.aload_n 0, 1) := by decide +kernel
theorem dX12_isOneDoor_7 : decode (mcode mX12_isOneDoor) 7 = .ok (.getfield 38, 3) := by decide +kernel
theorem dX12_isOneDoor_10 : decode (mcode mX12_isOneDoor) 10 = .ok (.iload_n 2, 1) := by decide +kernel
theorem dX12_isOneDoor_11 : decode (mcode mX12_isOneDoor) 11 = .ok (.iaload, 1) := by decide +kernel
theorem dX12_isOneDoor_12 : decode (mcode mX12_isOneDoor) 12 = .ok (.if_icmp .ne 20, 3) := by decide +kernel
theorem dX12_isOneDoor_15 : decode (mcode mX12_isOneDoor) 15 = .ok (.aload_n 0, 1) := by decide +kernel
theorem dX12_isOneDoor_16 : decode (mcode mX12_isOneDoor) 16 = .ok (.iload_n 1, 1) := by decide +kernel
theorem dX12_isOneDoor_17 : decode (mcode mX12_isOneDoor) 17 = .ok (.invokevirtual 252, 3) := by decide +kernel
theorem dX12_isOneDoor_20 : decode (mcode mX12_isOneDoor) 20 = .ok (.aload_n 0, 1) := by decide +kernel
theorem dX12_isOneDoor_21 : decode (mcode mX12_isOneDoor) 21 = .ok (.iload_n 2, 1) := by decide +kernel
theorem dX12_isOneDoor_22 : decode (mcode mX12_isOneDoor) 22 = .ok (.invokevirtual 252, 3) := by decide +kernel
theorem dX12_isOneDoor_25 : decode (mcode mX12_isOneDoor) 25 = .ok (.if_icmp .ne 7, 3) := by decide +kernel
theorem dX12_isOneDoor_28 : decode (mcode mX12_isOneDoor) 28 = .ok (.iconst 1, 1) := by decide +kernel
theorem dX12_isOneDoor_29 : decode (mcode mX12_isOneDoor) 29 = .ok (.goto 4, 3) := by decide +kernel
theorem dX12_isOneDoor_32 : decode (mcode mX12_isOneDoor) 32 = .ok (.iconst 0, 1) := by decide +kernel
theorem dX12_isOneDoor_33 : decode (mcode mX12_isOneDoor) 33 = .ok (.ireturn, 1) := by decide +kernel
theorem dX12_kind_0 : decode (mcode mX12_kind) 0 = .ok (.aload_n 0, 1) := by decide +kernel
theorem dX12_kind_1 : decode (mcode mX12_kind) 1 = .ok (.iconst 0, 1) := by decide +kernel
theorem dX12_kind_2 : decode (mcode mX12_kind) 2 = .ok (.putfield 108, 3) := by decide +kernel
theorem dX12_kind_5 : decode (mcode mX12_kind) 5 = .ok (.aload_n 0, 1) := by decide +kernel
theorem dX12_kind_6 : decode (mcode mX12_kind) 6 = .ok (.iload_n 1, 1) := by decide +kernel
theorem dX12_kind_7 : decode (mcode mX12_kind) 7 = .ok (.invokevirtual 255, 3) := by decide +kernel
theorem dX12_kind_10 : decode (mcode mX12_kind) 10 = .ok (.ifCond .eq 14, 3) := by decide +kernel
theorem dX12_kind_13 : decode (mcode mX12_kind) 13 = .ok (.aload_n 0, 1) := by decide +kernel
theorem dX12_kind_14 : decode (mcode mX12_kind) 14 = .ok (.getfield 35, 3) := by decide +kernel
theorem dX12_kind_17 : decode (mcode mX12_kind) 17 = .ok (.iload_n 1, 1) := by decide +kernel
theorem dX12_kind_18 : decode (mcode mX12_kind) 18 = .ok (.iaload, 1) := by decide +kernel
theorem dX12_kind_19 : decode (mcode mX12_kind) 19 = .ok (.iconst 1, 1) := by decide +kernel
theorem dX12_kind_20 : decode (mcode mX12_kind) 20 = .ok (.iadd, 1) := by decide +kernel
theorem dX12_kind_21 : decode (mcode mX12_kind) 21 = .ok (.goto 5, 3) := by decide +kernel
theorem dX12_kind_24 : decode (mcode mX12_kind) 24 = .ok (.ldc 128, 2) := by decide +kernel
theorem dX12_kind_26 : decode (mcode mX12_kind) 26 = .ok (.ireturn, 1) := by decide +kernel
theorem dX12_leaf_0 : decode (mcode mX12_leaf) 0 = .ok (.aload_n 0, 1) := by decide +kernel
theorem dX12_leaf_1 : decode (mcode mX12_leaf) 1 = .ok (.iconst 0, 1) := by decide +kernel
theorem dX12_leaf_2 : decode (mcode mX12_leaf) 2 = .ok (.putfield 108, 3) := by decide +kernel
theorem dX12_leaf_5 : decode (mcode mX12_leaf) 5 = .ok (.aload_n 0, 1) := by decide +kernel
theorem dX12_leaf_6 : decode (mcode mX12_leaf) 6 = .ok (.iload_n 1, 1) := by decide +kernel
theorem dX12_leaf_7 : decode (mcode mX12_leaf) 7 = .ok (.invokevirtual 337, 3) := by decide +kernel
theorem dX12_leaf_10 : decode (mcode mX12_leaf) 10 = .ok (.ifCond .eq 13, 3) := by decide +kernel
theorem dX12_leaf_13 : decode (mcode mX12_leaf) 13 = .ok (.iload_n 2, 1) := by decide +kernel
theorem dX12_leaf_14 : decode (mcode mX12_leaf) 14 = .ok (.i2l, 1) := by decide +kernel
theorem dX12_leaf_15 : decode (mcode mX12_leaf) 15 = .ok (.lconst 0, 1) := by decide +kernel
theorem dX12_leaf_16 : decode (mcode mX12_leaf) 16 = .ok (.lconst 1, 1) := by decide +kernel
theorem dX12_leaf_17 : decode (mcode mX12_leaf) 17 = .ok (.invokestatic 118, 3) := by decide +kernel
theorem dX12_leaf_20 : decode (mcode mX12_leaf) 20 = .ok (.ifCond .ne 6, 3) := by decide +kernel
theorem dX12_leaf_23 : decode (mcode mX12_leaf) 23 = .ok (.ldc 128, 2) := by decide +kernel
theorem dX12_leaf_25 : decode (mcode mX12_leaf) 25 = .ok (.ireturn, 1) := by decide +kernel
theorem dX12_leaf_26 : decode (mcode mX12_leaf) 26 = .ok (.aload_n 0, 1) := by decide +kernel
theorem dX12_leaf_27 : decode (mcode mX12_leaf) 27 = .ok (.getfield 28, 3) := by decide +kernel
theorem dX12_leaf_30 : decode (mcode mX12_leaf) 30 = .ok (.iload_n 1, 1) := by decide +kernel
theorem dX12_leaf_31 : decode (mcode mX12_leaf) 31 = .ok (.baload, 1) := by decide +kernel
theorem dX12_leaf_32 : decode (mcode mX12_leaf) 32 = .ok (.ifCond .eq 7, 3) := by decide +kernel
theorem dX12_leaf_35 : decode (mcode mX12_leaf) 35 = .ok (.iconst 1, 1) := by decide +kernel
theorem dX12_leaf_36 : decode (mcode mX12_leaf) 36 = .ok (.goto 4, 3) := by decide +kernel
theorem dX12_leaf_39 : decode (mcode mX12_leaf) 39 = .ok (.iconst 0, 1) := by decide +kernel
theorem dX12_leaf_40 : decode (mcode mX12_leaf) 40 = .ok (.istore_n 3, 1) := by decide +kernel
theorem dX12_leaf_41 : decode (mcode mX12_leaf) 41 = .ok (.aload_n 0, 1) := by decide +kernel
theorem dX12_leaf_42 : decode (mcode mX12_leaf) 42 = .ok (.getfield 28, 3) := by decide +kernel
theorem dX12_leaf_45 : decode (mcode mX12_leaf) 45 = .ok (.iload_n 1, 1) := by decide +kernel
theorem dX12_leaf_46 : decode (mcode mX12_leaf) 46 = .ok (.iload_n 2, 1) := by decide +kernel
theorem dX12_leaf_47 : decode (mcode mX12_leaf) 47 = .ok (.iconst 1, 1) := by decide +kernel
theorem dX12_leaf_48 : decode (mcode mX12_leaf) 48 = .ok (.if_icmp .ne 7, 3) := by decide +kernel
theorem dX12_leaf_51 : decode (mcode mX12_leaf) 51 = .ok (.iconst 1, 1) := by decide +kernel
theorem dX12_leaf_52 : decode (mcode mX12_leaf) 52 = .ok (.goto 4, 3) := by decide +kernel
theorem dX12_leaf_55 : decode (mcode mX12_leaf) 55 = .ok (.iconst 0, 1) := by decide +kernel
theorem dX12_leaf_56 : decode (mcode mX12_leaf) 56 = .ok (.bastore, 1) := by decide +kernel
theorem dX12_leaf_57 : decode (mcode mX12_leaf) 57 = .ok (.iload_n 3, 1) := by decide +kernel
theorem dX12_leaf_58 : decode (mcode mX12_leaf) 58 = .ok (.ireturn, 1) := by decide +kernel
theorem dX12_markOf_0 : decode (mcode mX12_markOf) 0 = .ok (.aload_n 0, 1) := by decide +kernel
theorem dX12_markOf_1 : decode (mcode mX12_markOf) 1 = .ok (.getfield 35, 3) := by decide +kernel
theorem dX12_markOf_4 : decode (mcode mX12_markOf) 4 = .ok (.iload_n 1, 1) := by decide +kernel
theorem dX12_markOf_5 : decode (mcode mX12_markOf) 5 = .ok (.iaload, 1) := by decide +kernel
theorem dX12_markOf_6 : decode (mcode mX12_markOf) 6 = .ok (.iconst 1, 1) := by decide +kernel
theorem dX12_markOf_7 : decode (mcode mX12_markOf) 7 = .ok (.iadd, 1) := by decide +kernel
theorem dX12_markOf_8 : decode (mcode mX12_markOf) 8 = .ok (.istore_n 2, 1) := by decide +kernel
theorem dX12_markOf_9 : decode (mcode mX12_markOf) 9 = .ok (.iload_n 2, 1) := by decide +kernel
theorem dX12_markOf_10 : decode (mcode mX12_markOf) 10 = .ok (.iconst 3, 1) := by decide +kernel
theorem dX12_markOf_11 : decode (mcode mX12_markOf) 11 = .ok (.if_icmp .ne 9, 3) := by decide +kernel
theorem dX12_markOf_14 : decode (mcode mX12_markOf) 14 = .ok (.aload_n 0, 1) := by decide +kernel
theorem dX12_markOf_15 : decode (mcode mX12_markOf) 15 = .ok (.bipush 22, 2) := by decide +kernel
theorem dX12_markOf_17 : decode (mcode mX12_markOf) 17 = .ok (.invokevirtual 348, 3) := by decide +kernel
theorem dX12_markOf_20 : decode (mcode mX12_markOf) 20 = .ok (.iload_n 2, 1) := by decide +kernel
theorem dX12_markOf_21 : decode (mcode mX12_markOf) 21 = .ok (.iconst 1, 1) := by decide +kernel
theorem dX12_markOf_22 : decode (mcode mX12_markOf) 22 = .ok (.invokestatic 342, 3) := by decide +kernel
theorem dX12_markOf_25 : decode (mcode mX12_markOf) 25 = .ok (.ifCond .eq 9, 3) := by decide +kernel
theorem dX12_markOf_28 : decode (mcode mX12_markOf) 28 = .ok (.aload_n 0, 1) := by decide +kernel
theorem dX12_markOf_29 : decode (mcode mX12_markOf) 29 = .ok (.bipush 21, 2) := by decide +kernel
theorem dX12_markOf_31 : decode (mcode mX12_markOf) 31 = .ok (.invokevirtual 348, 3) := by decide +kernel
theorem dX12_markOf_34 : decode (mcode mX12_markOf) 34 = .ok (.iload_n 2, 1) := by decide +kernel
theorem dX12_markOf_35 : decode (mcode mX12_markOf) 35 = .ok (.iconst 4, 1) := by decide +kernel
theorem dX12_markOf_36 : decode (mcode mX12_markOf) 36 = .ok (.if_icmp .ne 9, 3) := by decide +kernel
theorem dX12_markOf_39 : decode (mcode mX12_markOf) 39 = .ok (.aload_n 0, 1) := by decide +kernel
theorem dX12_markOf_40 : decode (mcode mX12_markOf) 40 = .ok (.bipush 23, 2) := by decide +kernel
theorem dX12_markOf_42 : decode (mcode mX12_markOf) 42 = .ok (.invokevirtual 348, 3) := by decide +kernel
theorem dX12_markOf_45 : decode (mcode mX12_markOf) 45 = .ok (.aload_n 0, 1) := by decide +kernel
theorem dX12_markOf_46 : decode (mcode mX12_markOf) 46 = .ok (.bipush 20, 2) := by decide +kernel
theorem dX12_markOf_48 : decode (mcode mX12_markOf) 48 = .ok (.invokevirtual 348, 3) := by decide +kernel
theorem dX12_markOf_51 : decode (mcode mX12_markOf) 51 = .ok (.aload_n 0, 1) := by decide +kernel
theorem dX12_markOf_52 : decode (mcode mX12_markOf) 52 = .ok (.iload_n 1, 1) := by decide +kernel
theorem dX12_markOf_53 : decode (mcode mX12_markOf) 53 = .ok (.invokevirtual 246, 3) := by decide +kernel
theorem dX12_markOf_56 : decode (mcode mX12_markOf) 56 = .ok (.iload_n 2, 1) := by decide +kernel
theorem dX12_markOf_57 : decode (mcode mX12_markOf) 57 = .ok (.iconst 1, 1) := by decide +kernel
theorem dX12_markOf_58 : decode (mcode mX12_markOf) 58 = .ok (.invokestatic 342, 3) := by decide +kernel
theorem dX12_markOf_61 : decode (mcode mX12_markOf) 61 = .ok (.ifCond .eq 12, 3) := by decide +kernel
theorem dX12_markOf_64 : decode (mcode mX12_markOf) 64 = .ok (.aload_n 0, 1) := by decide +kernel
theorem dX12_markOf_65 : decode (mcode mX12_markOf) 65 = .ok (.getfield 38, 3) := by decide +kernel
theorem dX12_markOf_68 : decode (mcode mX12_markOf) 68 = .ok (.iload_n 1, 1) := by decide +kernel
theorem dX12_markOf_69 : decode (mcode mX12_markOf) 69 = .ok (.iaload, 1) := by decide +kernel
theorem dX12_markOf_70 : decode (mcode mX12_markOf) 70 = .ok (.goto 4, 3) := by decide +kernel
theorem dX12_markOf_73 : decode (mcode mX12_markOf) 73 = .ok (.iconst 0, 1) := by decide +kernel
theorem dX12_markOf_74 : decode (mcode mX12_markOf) 74 = .ok (.iadd, 1) := by decide +kernel
theorem dX12_markOf_75 : decode (mcode mX12_markOf) 75 = .ok (.istore_n 3, 1) := by decide +kernel
theorem dX12_markOf_76 : decode (mcode mX12_markOf) 76 = .ok (.iload_n 2, 1) := by decide +kernel
theorem dX12_markOf_77 : decode (mcode mX12_markOf) 77 = .ok (.iconst 3, 1) := by decide +kernel
theorem dX12_markOf_78 : decode (mcode mX12_markOf) 78 = .ok (.if_icmp .ne 29, 3) := by decide +kernel
theorem dX12_markOf_81 : decode (mcode mX12_markOf) 81 = .ok (.iload_n 3, 1) := by decide +kernel
theorem dX12_markOf_82 : decode (mcode mX12_markOf) 82 = .ok (.aload_n 0, 1) := by decide +kernel
theorem dX12_markOf_83 : decode (mcode mX12_markOf) 83 = .ok (.getfield 44, 3) := by decide +kernel
theorem dX12_markOf_86 : decode (mcode mX12_markOf) 86 = .ok (.iload_n 1, 1) := by decide +kernel
theorem dX12_markOf_87 : decode (mcode mX12_markOf) 87 = .ok (.iaload, 1) := by decide +kernel
theorem dX12_markOf_88 : decode (mcode mX12_markOf) 88 = .ok (.ldc 144, 2) := by decide +kernel
theorem dX12_markOf_90 : decode (mcode mX12_markOf) 90 = .ok (.if_icmp .ne 7, 3) := by decide +kernel
theorem dX12_markOf_93 : decode (mcode mX12_markOf) 93 = .ok (.iconst 0, 1) := by decide +kernel
theorem dX12_markOf_94 : decode (mcode mX12_markOf) 94 = .ok (.goto 9, 3) := by decide +kernel
theorem dX12_markOf_97 : decode (mcode mX12_markOf) 97 = .ok (.aload_n 0, 1) := by decide +kernel
theorem dX12_markOf_98 : decode (mcode mX12_markOf) 98 = .ok (.getfield 44, 3) := by decide +kernel
theorem dX12_markOf_101 : decode (mcode mX12_markOf) 101 = .ok (.iload_n 1, 1) := by decide +kernel
theorem dX12_markOf_102 : decode (mcode mX12_markOf) 102 = .ok (.iaload, 1) := by decide +kernel
theorem dX12_markOf_103 : decode (mcode mX12_markOf) 103 = .ok (.iadd, 1) := by decide +kernel
theorem dX12_markOf_104 : decode (mcode mX12_markOf) 104 = .ok (.goto 19, 3) := by decide +kernel
theorem dX12_markOf_107 : decode (mcode mX12_markOf) 107 = .ok (.iload_n 2, 1) := by decide +kernel
theorem dX12_markOf_108 : decode (mcode mX12_markOf) 108 = .ok (.iconst 4, 1) := by decide +kernel
theorem dX12_markOf_109 : decode (mcode mX12_markOf) 109 = .ok (.if_icmp .ne 13, 3) := by decide +kernel
theorem dX12_markOf_112 : decode (mcode mX12_markOf) 112 = .ok (.iload_n 3, 1) := by decide +kernel
theorem dX12_markOf_113 : decode (mcode mX12_markOf) 113 = .ok (.aload_n 0, 1) := by decide +kernel
theorem dX12_markOf_114 : decode (mcode mX12_markOf) 114 = .ok (.iload_n 1, 1) := by decide +kernel
theorem dX12_markOf_115 : decode (mcode mX12_markOf) 115 = .ok (.invokevirtual 351, 3) := by decide +kernel
theorem dX12_markOf_118 : decode (mcode mX12_markOf) 118 = .ok (.iadd, 1) := by decide +kernel
theorem dX12_markOf_119 : decode (mcode mX12_markOf) 119 = .ok (.goto 4, 3) := by decide +kernel
theorem dX12_markOf_122 : decode (mcode mX12_markOf) 122 = .ok (.iload_n 3, 1) := by decide +kernel
theorem dX12_markOf_123 : decode (mcode mX12_markOf) 123 = .ok (.ireturn, 1) := by decide +kernel
theorem dX12_need_0 : decode (mcode mX12_need) 0 = .ok (.iload_n 1, 1) := by decide +kernel
theorem dX12_need_1 : decode (mcode mX12_need) 1 = .ok (.ifCond .ne 8, 3) := by decide +kernel
theorem dX12_need_4 : decode (mcode mX12_need) 4 = .ok (.aload_n 0, 1) := by decide +kernel
theorem dX12_need_5 : decode (mcode mX12_need) 5 = .ok (.iconst 1, 1) := by decide +kernel
theorem dX12_need_6 : decode (mcode mX12_need) 6 = .ok (.invokevirtual 172, 3) := by decide +kernel
theorem dX12_need_9 : decode (mcode mX12_need) 9 = .ok (.aload_n 0, 1) := by decide +kernel
theorem dX12_need_10 : decode (mcode mX12_need) 10 = .ok (.getfield 166, 3) := by decide +kernel
theorem dX12_need_13 : decode (mcode mX12_need) 13 = .ok (.ifCond .ne 7, 3) := by decide +kernel
theorem dX12_need_16 : decode (mcode mX12_need) 16 = .ok (.aload_n 0, 1) := by decide +kernel
theorem dX12_need_17 : decode (mcode mX12_need) 17 = .ok (.invokevirtual 176, 3) := by decide +kernel
theorem dX12_need_20 : decode (mcode mX12_need) 20 = .ok (.return_, 1) := by decide +kernel
theorem dX12_set_0 : decode (mcode mX12_set) 0 = .ok (.aload_n 0, 1) := by decide +kernel
theorem dX12_set_1 : decode (mcode mX12_set) 1 = .ok (.iconst 0, 1) := by decide +kernel
theorem dX12_set_2 : decode (mcode mX12_set) 2 = .ok (.putfield 108, 3) := by decide +kernel
theorem dX12_set_5 : decode (mcode mX12_set) 5 = .ok (.iload_n 1, 1) := by decide +kernel
theorem dX12_set_6 : decode (mcode mX12_set) 6 = .ok (.invokestatic 122, 3) := by decide +kernel
theorem dX12_set_9 : decode (mcode mX12_set) 9 = .ok (.ifCond .ne 6, 3) := by decide +kernel
theorem dX12_set_12 : decode (mcode mX12_set) 12 = .ok (.ldc 128, 2) := by decide +kernel
theorem dX12_set_14 : decode (mcode mX12_set) 14 = .ok (.ireturn, 1) := by decide +kernel
theorem dX12_set_15 : decode (mcode mX12_set) 15 = .ok (.aload_n 0, 1) := by decide +kernel
theorem dX12_set_16 : decode (mcode mX12_set) 16 = .ok (.iconst 0, 1) := by decide +kernel
theorem dX12_set_17 : decode (mcode mX12_set) 17 = .ok (.putfield 112, 3) := by decide +kernel
theorem dX12_set_20 : decode (mcode mX12_set) 20 = .ok (.aload_n 0, 1) := by decide +kernel
theorem dX12_set_21 : decode (mcode mX12_set) 21 = .ok (.getfield 7, 3) := by decide +kernel
theorem dX12_set_24 : decode (mcode mX12_set) 24 = .ok (.iload_n 1, 1) := by decide +kernel
theorem dX12_set_25 : decode (mcode mX12_set) 25 = .ok (.iaload, 1) := by decide +kernel
theorem dX12_set_26 : decode (mcode mX12_set) 26 = .ok (.ifCond .ge 9, 3) := by decide +kernel
theorem dX12_set_29 : decode (mcode mX12_set) 29 = .ok (.aload_n 0, 1) := by decide +kernel
theorem dX12_set_30 : decode (mcode mX12_set) 30 = .ok (.iconst 1, 1) := by decide +kernel
theorem dX12_set_31 : decode (mcode mX12_set) 31 = .ok (.invokevirtual 129, 3) := by decide +kernel
theorem dX12_set_34 : decode (mcode mX12_set) 34 = .ok (.ireturn, 1) := by decide +kernel
theorem dX12_set_35 : decode (mcode mX12_set) 35 = .ok (.iload_n 2, 1) := by decide +kernel
theorem dX12_set_36 : decode (mcode mX12_set) 36 = .ok (.i2l, 1) := by decide +kernel
theorem dX12_set_37 : decode (mcode mX12_set) 37 = .ok (.lconst 0, 1) := by decide +kernel
theorem dX12_set_38 : decode (mcode mX12_set) 38 = .ok (.aload_n 0, 1) := by decide +kernel
theorem dX12_set_39 : decode (mcode mX12_set) 39 = .ok (.getfield 13, 3) := by decide +kernel
theorem dX12_set_42 : decode (mcode mX12_set) 42 = .ok (.iload_n 1, 1) := by decide +kernel
theorem dX12_set_43 : decode (mcode mX12_set) 43 = .ok (.iaload, 1) := by decide +kernel
theorem dX12_set_44 : decode (mcode mX12_set) 44 = .ok (.iconst 1, 1) := by decide +kernel
theorem dX12_set_45 : decode (mcode mX12_set) 45 = .ok (.isub, 1) := by decide +kernel
theorem dX12_set_46 : decode (mcode mX12_set) 46 = .ok (.i2l, 1) := by decide +kernel
theorem dX12_set_47 : decode (mcode mX12_set) 47 = .ok (.invokestatic 118, 3) := by decide +kernel
theorem dX12_set_50 : decode (mcode mX12_set) 50 = .ok (.ifCond .ne 9, 3) := by decide +kernel
theorem dX12_set_53 : decode (mcode mX12_set) 53 = .ok (.aload_n 0, 1) := by decide +kernel
theorem dX12_set_54 : decode (mcode mX12_set) 54 = .ok (.iconst 2, 1) := by decide +kernel
theorem dX12_set_55 : decode (mcode mX12_set) 55 = .ok (.invokevirtual 129, 3) := by decide +kernel
theorem dX12_set_58 : decode (mcode mX12_set) 58 = .ok (.ireturn, 1) := by decide +kernel
theorem dX12_set_59 : decode (mcode mX12_set) 59 = .ok (.aload_n 0, 1) := by decide +kernel
theorem dX12_set_60 : decode (mcode mX12_set) 60 = .ok (.getfield 16, 3) := by decide +kernel
theorem dX12_set_63 : decode (mcode mX12_set) 63 = .ok (.bipush 60, 2) := by decide +kernel
theorem dX12_set_65 : decode (mcode mX12_set) 65 = .ok (.iload_n 1, 1) := by decide +kernel
theorem dX12_set_66 : decode (mcode mX12_set) 66 = .ok (.imul, 1) := by decide +kernel
theorem dX12_set_67 : decode (mcode mX12_set) 67 = .ok (.iload_n 2, 1) := by decide +kernel
theorem dX12_set_68 : decode (mcode mX12_set) 68 = .ok (.iadd, 1) := by decide +kernel
theorem dX12_set_69 : decode (mcode mX12_set) 69 = .ok (.aload_n 0, 1) := by decide +kernel
theorem dX12_set_70 : decode (mcode mX12_set) 70 = .ok (.getfield 7, 3) := by decide +kernel
theorem dX12_set_73 : decode (mcode mX12_set) 73 = .ok (.iload_n 1, 1) := by decide +kernel
theorem dX12_set_74 : decode (mcode mX12_set) 74 = .ok (.iaload, 1) := by decide +kernel
theorem dX12_set_75 : decode (mcode mX12_set) 75 = .ok (.ifCond .ne 8, 3) := by decide +kernel
theorem dX12_set_78 : decode (mcode mX12_set) 78 = .ok (.iload_n 3, 1) := by decide +kernel
theorem dX12_set_79 : decode (mcode mX12_set) 79 = .ok (.i2b, 1) := by decide +kernel
theorem dX12_set_80 : decode (mcode mX12_set) 80 = .ok (.goto 19, 3) := by decide +kernel
theorem dX12_set_83 : decode (mcode mX12_set) 83 = .ok (.aload_n 0, 1) := by decide +kernel
theorem dX12_set_84 : decode (mcode mX12_set) 84 = .ok (.getfield 7, 3) := by decide +kernel
theorem dX12_set_87 : decode (mcode mX12_set) 87 = .ok (.iload_n 1, 1) := by decide +kernel
theorem dX12_set_88 : decode (mcode mX12_set) 88 = .ok (.iaload, 1) := by decide +kernel
theorem dX12_set_89 : decode (mcode mX12_set) 89 = .ok (.iconst 1, 1) := by decide +kernel
theorem dX12_set_90 : decode (mcode mX12_set) 90 = .ok (.if_icmp .ne 8, 3) := by decide +kernel
theorem dX12_set_93 : decode (mcode mX12_set) 93 = .ok (.iload_n 3, 1) := by decide +kernel
theorem dX12_set_94 : decode (mcode mX12_set) 94 = .ok (.i2s, 1) := by decide +kernel
theorem dX12_set_95 : decode (mcode mX12_set) 95 = .ok (.goto 4, 3) := by decide +kernel
theorem dX12_set_98 : decode (mcode mX12_set) 98 = .ok (.iload_n 3, 1) := by decide +kernel
theorem dX12_set_99 : decode (mcode mX12_set) 99 = .ok (.iastore, 1) := by decide +kernel
theorem dX12_set_100 : decode (mcode mX12_set) 100 = .ok (.aload_n 0, 1) := by decide +kernel
theorem dX12_set_101 : decode (mcode mX12_set) 101 = .ok (.getfield 16, 3) := by decide +kernel
theorem dX12_set_104 : decode (mcode mX12_set) 104 = .ok (.bipush 60, 2) := by decide +kernel
theorem dX12_set_106 : decode (mcode mX12_set) 106 = .ok (.iload_n 1, 1) := by decide +kernel
theorem dX12_set_107 : decode (mcode mX12_set) 107 = .ok (.imul, 1) := by decide +kernel
theorem dX12_set_108 : decode (mcode mX12_set) 108 = .ok (.iload_n 2, 1) := by decide +kernel
theorem dX12_set_109 : decode (mcode mX12_set) 109 = .ok (.iadd, 1) := by decide +kernel
theorem dX12_set_110 : decode (mcode mX12_set) 110 = .ok (.iaload, 1) := by decide +kernel
theorem dX12_set_111 : decode (mcode mX12_set) 111 = .ok (.ireturn, 1) := by decide +kernel
theorem dX12_sheet_0 : decode (mcode mX12_sheet) 0 = .ok (.aload_n 0, 1) := by decide +kernel
theorem dX12_sheet_1 : decode (mcode mX12_sheet) 1 = .ok (.iconst 0, 1) := by decide +kernel
theorem dX12_sheet_2 : decode (mcode mX12_sheet) 2 = .ok (.putfield 108, 3) := by decide +kernel
theorem dX12_sheet_5 : decode (mcode mX12_sheet) 5 = .ok (.iload_n 1, 1) := by decide +kernel
theorem dX12_sheet_6 : decode (mcode mX12_sheet) 6 = .ok (.invokestatic 122, 3) := by decide +kernel
theorem dX12_sheet_9 : decode (mcode mX12_sheet) 9 = .ok (.ifCond .eq 21, 3) := by decide +kernel
theorem dX12_sheet_12 : decode (mcode mX12_sheet) 12 = .ok (.iload_n 2, 1) := by decide +kernel
theorem dX12_sheet_13 : decode (mcode mX12_sheet) 13 = .ok (.i2l, 1) := by decide +kernel
theorem dX12_sheet_14 : decode (mcode mX12_sheet) 14 = .ok (.lconst 0, 1) := by decide +kernel
theorem dX12_sheet_15 : decode (mcode mX12_sheet) 15 = .ok (.ldc2_w 126, 3) := by decide +kernel
theorem dX12_sheet_18 : decode (mcode mX12_sheet) 18 = .ok (.invokestatic 118, 3) := by decide +kernel
theorem dX12_sheet_21 : decode (mcode mX12_sheet) 21 = .ok (.ifCond .eq 9, 3) := by decide +kernel
theorem dX12_sheet_24 : decode (mcode mX12_sheet) 24 = .ok (.iload_n 3, 1) := by decide +kernel
theorem dX12_sheet_25 : decode (mcode mX12_sheet) 25 = .ok (.bipush 60, 2) := by decide +kernel
theorem dX12_sheet_27 : decode (mcode mX12_sheet) 27 = .ok (.if_icmp .le 6, 3) := by decide +kernel
theorem dX12_sheet_30 : decode (mcode mX12_sheet) 30 = .ok (.ldc 128, 2) := by decide +kernel
theorem dX12_sheet_32 : decode (mcode mX12_sheet) 32 = .ok (.ireturn, 1) := by decide +kernel
theorem dX12_sheet_33 : decode (mcode mX12_sheet) 33 = .ok (.aload_n 0, 1) := by decide +kernel
theorem dX12_sheet_34 : decode (mcode mX12_sheet) 34 = .ok (.iconst 0, 1) := by decide +kernel
theorem dX12_sheet_35 : decode (mcode mX12_sheet) 35 = .ok (.putfield 112, 3) := by decide +kernel
theorem dX12_sheet_38 : decode (mcode mX12_sheet) 38 = .ok (.iload_n 3, 1) := by decide +kernel
theorem dX12_sheet_39 : decode (mcode mX12_sheet) 39 = .ok (.ifCond .ge 9, 3) := by decide +kernel
theorem dX12_sheet_42 : decode (mcode mX12_sheet) 42 = .ok (.aload_n 0, 1) := by decide +kernel
theorem dX12_sheet_43 : decode (mcode mX12_sheet) 43 = .ok (.iconst 4, 1) := by decide +kernel
theorem dX12_sheet_44 : decode (mcode mX12_sheet) 44 = .ok (.invokevirtual 129, 3) := by decide +kernel
theorem dX12_sheet_47 : decode (mcode mX12_sheet) 47 = .ok (.ireturn, 1) := by decide +kernel
theorem dX12_sheet_48 : decode (mcode mX12_sheet) 48 = .ok (.aload_n 0, 1) := by decide +kernel
theorem dX12_sheet_49 : decode (mcode mX12_sheet) 49 = .ok (.getfield 7, 3) := by decide +kernel
theorem dX12_sheet_52 : decode (mcode mX12_sheet) 52 = .ok (.iload_n 1, 1) := by decide +kernel
theorem dX12_sheet_53 : decode (mcode mX12_sheet) 53 = .ok (.iload_n 2, 1) := by decide +kernel
theorem dX12_sheet_54 : decode (mcode mX12_sheet) 54 = .ok (.iastore, 1) := by decide +kernel
theorem dX12_sheet_55 : decode (mcode mX12_sheet) 55 = .ok (.aload_n 0, 1) := by decide +kernel
theorem dX12_sheet_56 : decode (mcode mX12_sheet) 56 = .ok (.getfield 13, 3) := by decide +kernel
theorem dX12_sheet_59 : decode (mcode mX12_sheet) 59 = .ok (.iload_n 1, 1) := by decide +kernel
theorem dX12_sheet_60 : decode (mcode mX12_sheet) 60 = .ok (.iload_n 3, 1) := by decide +kernel
theorem dX12_sheet_61 : decode (mcode mX12_sheet) 61 = .ok (.iastore, 1) := by decide +kernel
theorem dX12_sheet_62 : decode (mcode mX12_sheet) 62 = .ok (.iconst 0, 1) := by decide +kernel
theorem dX12_sheet_63 : decode (mcode mX12_sheet) 63 = .ok (.istore 4, 2) := by decide +kernel
theorem dX12_sheet_65 : decode (mcode mX12_sheet) 65 = .ok (.iload 4, 2) := by decide +kernel
theorem dX12_sheet_67 : decode (mcode mX12_sheet) 67 = .ok (.bipush 60, 2) := by decide +kernel
theorem dX12_sheet_69 : decode (mcode mX12_sheet) 69 = .ok (.if_icmp .ge 22, 3) := by decide +kernel
theorem dX12_sheet_72 : decode (mcode mX12_sheet) 72 = .ok (.aload_n 0, 1) := by decide +kernel
theorem dX12_sheet_73 : decode (mcode mX12_sheet) 73 = .ok (.getfield 16, 3) := by decide +kernel
theorem dX12_sheet_76 : decode (mcode mX12_sheet) 76 = .ok (.bipush 60, 2) := by decide +kernel
theorem dX12_sheet_78 : decode (mcode mX12_sheet) 78 = .ok (.iload_n 1, 1) := by decide +kernel
theorem dX12_sheet_79 : decode (mcode mX12_sheet) 79 = .ok (.imul, 1) := by decide +kernel
theorem dX12_sheet_80 : decode (mcode mX12_sheet) 80 = .ok (.iload 4, 2) := by decide +kernel
theorem dX12_sheet_82 : decode (mcode mX12_sheet) 82 = .ok (.iadd, 1) := by decide +kernel
theorem dX12_sheet_83 : decode (mcode mX12_sheet) 83 = .ok (.iconst 0, 1) := by decide +kernel
theorem dX12_sheet_84 : decode (mcode mX12_sheet) 84 = .ok (.iastore, 1) := by decide +kernel
theorem dX12_sheet_85 : decode (mcode mX12_sheet) 85 = .ok (.iinc 4 1, 3) := by decide +kernel
theorem dX12_sheet_88 : decode (mcode mX12_sheet) 88 = .ok (.goto (-23), 3) := by decide +kernel
theorem dX12_sheet_91 : decode (mcode mX12_sheet) 91 = .ok (.iload_n 3, 1) := by decide +kernel
theorem dX12_sheet_92 : decode (mcode mX12_sheet) 92 = .ok (.ireturn, 1) := by decide +kernel
theorem dX12_shown_0 : decode (mcode mX12_shown) 0 = .ok (.aload_n 0, 1) := by decide +kernel
theorem dX12_shown_1 : decode (mcode mX12_shown) 1 = .ok (.iconst 0, 1) := by decide +kernel
theorem dX12_shown_2 : decode (mcode mX12_shown) 2 = .ok (.putfield 108, 3) := by decide +kernel
theorem dX12_shown_5 : decode (mcode mX12_shown) 5 = .ok (.aload_n 0, 1) := by decide +kernel
theorem dX12_shown_6 : decode (mcode mX12_shown) 6 = .ok (.iload_n 1, 1) := by decide +kernel
theorem dX12_shown_7 : decode (mcode mX12_shown) 7 = .ok (.invokevirtual 255, 3) := by decide +kernel
theorem dX12_shown_10 : decode (mcode mX12_shown) 10 = .ok (.ifCond .eq 15, 3) := by decide +kernel
theorem dX12_shown_13 : decode (mcode mX12_shown) 13 = .ok (.iload_n 2, 1) := by decide +kernel
theorem dX12_shown_14 : decode (mcode mX12_shown) 14 = .ok (.i2l, 1) := by decide +kernel
theorem dX12_shown_15 : decode (mcode mX12_shown) 15 = .ok (.lconst 0, 1) := by decide +kernel
theorem dX12_shown_16 : decode (mcode mX12_shown) 16 = .ok (.ldc2_w 265, 3) := by decide +kernel
theorem dX12_shown_19 : decode (mcode mX12_shown) 19 = .ok (.invokestatic 118, 3) := by decide +kernel
theorem dX12_shown_22 : decode (mcode mX12_shown) 22 = .ok (.ifCond .ne 6, 3) := by decide +kernel
theorem dX12_shown_25 : decode (mcode mX12_shown) 25 = .ok (.ldc 128, 2) := by decide +kernel
theorem dX12_shown_27 : decode (mcode mX12_shown) 27 = .ok (.ireturn, 1) := by decide +kernel
theorem dX12_shown_28 : decode (mcode mX12_shown) 28 = .ok (.iload_n 2, 1) := by decide +kernel
theorem dX12_shown_29 : decode (mcode mX12_shown) 29 = .ok (.aload_n 0, 1) := by decide +kernel
theorem dX12_shown_30 : decode (mcode mX12_shown) 30 = .ok (.iload_n 1, 1) := by decide +kernel
theorem dX12_shown_31 : decode (mcode mX12_shown) 31 = .ok (.invokevirtual 246, 3) := by decide +kernel
theorem dX12_shown_34 : decode (mcode mX12_shown) 34 = .ok (.isub, 1) := by decide +kernel
theorem dX12_shown_35 : decode (mcode mX12_shown) 35 = .ok (.aload_n 0, 1) := by decide +kernel
theorem dX12_shown_36 : decode (mcode mX12_shown) 36 = .ok (.getfield 35, 3) := by decide +kernel
theorem dX12_shown_39 : decode (mcode mX12_shown) 39 = .ok (.iload_n 1, 1) := by decide +kernel
theorem dX12_shown_40 : decode (mcode mX12_shown) 40 = .ok (.iaload, 1) := by decide +kernel
theorem dX12_shown_41 : decode (mcode mX12_shown) 41 = .ok (.iconst 2, 1) := by decide +kernel
theorem dX12_shown_42 : decode (mcode mX12_shown) 42 = .ok (.if_icmp .ne 8, 3) := by decide +kernel
theorem dX12_shown_45 : decode (mcode mX12_shown) 45 = .ok (.bipush 100, 2) := by decide +kernel
theorem dX12_shown_47 : decode (mcode mX12_shown) 47 = .ok (.goto 5, 3) := by decide +kernel
theorem dX12_shown_50 : decode (mcode mX12_shown) 50 = .ok (.bipush 72, 2) := by decide +kernel
theorem dX12_shown_52 : decode (mcode mX12_shown) 52 = .ok (.if_icmp .lt 7, 3) := by decide +kernel
theorem dX12_shown_55 : decode (mcode mX12_shown) 55 = .ok (.iconst 1, 1) := by decide +kernel
theorem dX12_shown_56 : decode (mcode mX12_shown) 56 = .ok (.goto 4, 3) := by decide +kernel
theorem dX12_shown_59 : decode (mcode mX12_shown) 59 = .ok (.iconst 0, 1) := by decide +kernel
theorem dX12_shown_60 : decode (mcode mX12_shown) 60 = .ok (.ireturn, 1) := by decide +kernel
theorem dX12_today_0 : decode (mcode mX12_today) 0 = .ok (.aload_n 0, 1) := by decide +kernel
theorem dX12_today_1 : decode (mcode mX12_today) 1 = .ok (.iconst 0, 1) := by decide +kernel
theorem dX12_today_2 : decode (mcode mX12_today) 2 = .ok (.putfield 108, 3) := by decide +kernel
theorem dX12_today_5 : decode (mcode mX12_today) 5 = .ok (.iload_n 1, 1) := by decide +kernel
theorem dX12_today_6 : decode (mcode mX12_today) 6 = .ok (.iload_n 2, 1) := by decide +kernel
theorem dX12_today_7 : decode (mcode mX12_today) 7 = .ok (.iload_n 3, 1) := by decide +kernel
theorem dX12_today_8 : decode (mcode mX12_today) 8 = .ok (.invokestatic 267, 3) := by decide +kernel
theorem dX12_today_11 : decode (mcode mX12_today) 11 = .ok (.ifCond .eq 13, 3) := by decide +kernel
theorem dX12_today_14 : decode (mcode mX12_today) 14 = .ok (.aload_n 0, 1) := by decide +kernel
theorem dX12_today_15 : decode (mcode mX12_today) 15 = .ok (.iload_n 1, 1) := by decide +kernel
theorem dX12_today_16 : decode (mcode mX12_today) 16 = .ok (.iload_n 2, 1) := by decide +kernel
theorem dX12_today_17 : decode (mcode mX12_today) 17 = .ok (.iload_n 3, 1) := by decide +kernel
theorem dX12_today_18 : decode (mcode mX12_today) 18 = .ok (.invokevirtual 249, 3) := by decide +kernel
theorem dX12_today_21 : decode (mcode mX12_today) 21 = .ok (.goto 5, 3) := by decide +kernel
theorem dX12_today_24 : decode (mcode mX12_today) 24 = .ok (.ldc 128, 2) := by decide +kernel
theorem dX12_today_26 : decode (mcode mX12_today) 26 = .ok (.ireturn, 1) := by decide +kernel
theorem dX12_walks_0 : decode (mcode mX12_walks) 0 = .ok (.aload_n 0, 1) := by decide +kernel
theorem dX12_walks_1 : decode (mcode mX12_walks) 1 = .ok (.iconst 0, 1) := by decide +kernel
theorem dX12_walks_2 : decode (mcode mX12_walks) 2 = .ok (.putfield 108, 3) := by decide +kernel
theorem dX12_walks_5 : decode (mcode mX12_walks) 5 = .ok (.iload_n 1, 1) := by decide +kernel
theorem dX12_walks_6 : decode (mcode mX12_walks) 6 = .ok (.invokestatic 122, 3) := by decide +kernel
theorem dX12_walks_9 : decode (mcode mX12_walks) 9 = .ok (.ifCond .eq 15, 3) := by decide +kernel
theorem dX12_walks_12 : decode (mcode mX12_walks) 12 = .ok (.iload_n 3, 1) := by decide +kernel
theorem dX12_walks_13 : decode (mcode mX12_walks) 13 = .ok (.i2l, 1) := by decide +kernel
theorem dX12_walks_14 : decode (mcode mX12_walks) 14 = .ok (.lconst 1, 1) := by decide +kernel
theorem dX12_walks_15 : decode (mcode mX12_walks) 15 = .ok (.ldc2_w 271, 3) := by decide +kernel
theorem dX12_walks_18 : decode (mcode mX12_walks) 18 = .ok (.invokestatic 118, 3) := by decide +kernel
theorem dX12_walks_21 : decode (mcode mX12_walks) 21 = .ok (.ifCond .ne 6, 3) := by decide +kernel
theorem dX12_walks_24 : decode (mcode mX12_walks) 24 = .ok (.ldc 128, 2) := by decide +kernel
theorem dX12_walks_26 : decode (mcode mX12_walks) 26 = .ok (.ireturn, 1) := by decide +kernel
theorem dX12_walks_27 : decode (mcode mX12_walks) 27 = .ok (.aload_n 0, 1) := by decide +kernel
theorem dX12_walks_28 : decode (mcode mX12_walks) 28 = .ok (.getfield 7, 3) := by decide +kernel
theorem dX12_walks_31 : decode (mcode mX12_walks) 31 = .ok (.iload_n 1, 1) := by decide +kernel
theorem dX12_walks_32 : decode (mcode mX12_walks) 32 = .ok (.iaload, 1) := by decide +kernel
theorem dX12_walks_33 : decode (mcode mX12_walks) 33 = .ok (.ifCond .ge 9, 3) := by decide +kernel
theorem dX12_walks_36 : decode (mcode mX12_walks) 36 = .ok (.aload_n 0, 1) := by decide +kernel
theorem dX12_walks_37 : decode (mcode mX12_walks) 37 = .ok (.iconst 1, 1) := by decide +kernel
theorem dX12_walks_38 : decode (mcode mX12_walks) 38 = .ok (.invokevirtual 129, 3) := by decide +kernel
theorem dX12_walks_41 : decode (mcode mX12_walks) 41 = .ok (.ireturn, 1) := by decide +kernel
theorem dX12_walks_42 : decode (mcode mX12_walks) 42 = .ok (.iload_n 2, 1) := by decide +kernel
theorem dX12_walks_43 : decode (mcode mX12_walks) 43 = .ok (.ifCond .lt 21, 3) := by decide +kernel
theorem dX12_walks_46 : decode (mcode mX12_walks) 46 = .ok (.iload_n 2, 1) := by decide +kernel
theorem dX12_walks_47 : decode (mcode mX12_walks) 47 = .ok (.i2l, 1) := by decide +kernel
theorem dX12_walks_48 : decode (mcode mX12_walks) 48 = .ok (.iconst 3, 1) := by decide +kernel
theorem dX12_walks_49 : decode (mcode mX12_walks) 49 = .ok (.iload_n 3, 1) := by decide +kernel
theorem dX12_walks_50 : decode (mcode mX12_walks) 50 = .ok (.imul, 1) := by decide +kernel
theorem dX12_walks_51 : decode (mcode mX12_walks) 51 = .ok (.i2l, 1) := by decide +kernel
theorem dX12_walks_52 : decode (mcode mX12_walks) 52 = .ok (.ladd, 1) := by decide +kernel
theorem dX12_walks_53 : decode (mcode mX12_walks) 53 = .ok (.aload_n 0, 1) := by decide +kernel
theorem dX12_walks_54 : decode (mcode mX12_walks) 54 = .ok (.getfield 13, 3) := by decide +kernel
theorem dX12_walks_57 : decode (mcode mX12_walks) 57 = .ok (.iload_n 1, 1) := by decide +kernel
theorem dX12_walks_58 : decode (mcode mX12_walks) 58 = .ok (.iaload, 1) := by decide +kernel
theorem dX12_walks_59 : decode (mcode mX12_walks) 59 = .ok (.i2l, 1) := by decide +kernel
theorem dX12_walks_60 : decode (mcode mX12_walks) 60 = .ok (.lcmp, 1) := by decide +kernel
theorem dX12_walks_61 : decode (mcode mX12_walks) 61 = .ok (.ifCond .le 9, 3) := by decide +kernel
theorem dX12_walks_64 : decode (mcode mX12_walks) 64 = .ok (.aload_n 0, 1) := by decide +kernel
theorem dX12_walks_65 : decode (mcode mX12_walks) 65 = .ok (.iconst 2, 1) := by decide +kernel
theorem dX12_walks_66 : decode (mcode mX12_walks) 66 = .ok (.invokevirtual 129, 3) := by decide +kernel
theorem dX12_walks_69 : decode (mcode mX12_walks) 69 = .ok (.ireturn, 1) := by decide +kernel
theorem dX12_walks_70 : decode (mcode mX12_walks) 70 = .ok (.bipush 60, 2) := by decide +kernel
theorem dX12_walks_72 : decode (mcode mX12_walks) 72 = .ok (.iload_n 1, 1) := by decide +kernel
theorem dX12_walks_73 : decode (mcode mX12_walks) 73 = .ok (.imul, 1) := by decide +kernel
theorem dX12_walks_74 : decode (mcode mX12_walks) 74 = .ok (.iload_n 2, 1) := by decide +kernel
theorem dX12_walks_75 : decode (mcode mX12_walks) 75 = .ok (.iadd, 1) := by decide +kernel
theorem dX12_walks_76 : decode (mcode mX12_walks) 76 = .ok (.istore 4, 2) := by decide +kernel
theorem dX12_walks_78 : decode (mcode mX12_walks) 78 = .ok (.iconst 0, 1) := by decide +kernel
theorem dX12_walks_79 : decode (mcode mX12_walks) 79 = .ok (.istore 5, 2) := by decide +kernel
theorem dX12_walks_81 : decode (mcode mX12_walks) 81 = .ok (.iload 5, 2) := by decide +kernel
theorem dX12_walks_83 : decode (mcode mX12_walks) 83 = .ok (.iload_n 3, 1) := by decide +kernel
theorem dX12_walks_84 : decode (mcode mX12_walks) 84 = .ok (.if_icmp .ge 58, 3) := by decide +kernel
theorem dX12_walks_87 : decode (mcode mX12_walks) 87 = .ok (.aload_n 0, 1) := by decide +kernel
theorem dX12_walks_88 : decode (mcode mX12_walks) 88 = .ok (.getfield 16, 3) := by decide +kernel
theorem dX12_walks_91 : decode (mcode mX12_walks) 91 = .ok (.iload 4, 2) := by decide +kernel
theorem dX12_walks_93 : decode (mcode mX12_walks) 93 = .ok (.iconst 3, 1) := by decide +kernel
theorem dX12_walks_94 : decode (mcode mX12_walks) 94 = .ok (.iload 5, 2) := by decide +kernel
theorem dX12_walks_96 : decode (mcode mX12_walks) 96 = .ok (.imul, 1) := by decide +kernel
theorem dX12_walks_97 : decode (mcode mX12_walks) 97 = .ok (.iadd, 1) := by decide +kernel
theorem dX12_walks_98 : decode (mcode mX12_walks) 98 = .ok (.iaload, 1) := by decide +kernel
theorem dX12_walks_99 : decode (mcode mX12_walks) 99 = .ok (.aload_n 0, 1) := by decide +kernel
theorem dX12_walks_100 : decode (mcode mX12_walks) 100 = .ok (.getfield 16, 3) := by decide +kernel
theorem dX12_walks_103 : decode (mcode mX12_walks) 103 = .ok (.iload 4, 2) := by decide +kernel
theorem dX12_walks_105 : decode (mcode mX12_walks) 105 = .ok (.iconst 3, 1) := by decide +kernel
theorem dX12_walks_106 : decode (mcode mX12_walks) 106 = .ok (.iload 5, 2) := by decide +kernel
theorem dX12_walks_108 : decode (mcode mX12_walks) 108 = .ok (.imul, 1) := by decide +kernel
theorem dX12_walks_109 : decode (mcode mX12_walks) 109 = .ok (.iadd, 1) := by decide +kernel
theorem dX12_walks_110 : decode (mcode mX12_walks) 110 = .ok (.iconst 1, 1) := by decide +kernel
theorem dX12_walks_111 : decode (mcode mX12_walks) 111 = .ok (.iadd, 1) := by decide +kernel
theorem dX12_walks_112 : decode (mcode mX12_walks) 112 = .ok (.iaload, 1) := by decide +kernel
theorem dX12_walks_113 : decode (mcode mX12_walks) 113 = .ok (.aload_n 0, 1) := by decide +kernel
theorem dX12_walks_114 : decode (mcode mX12_walks) 114 = .ok (.getfield 16, 3) := by decide +kernel
theorem dX12_walks_117 : decode (mcode mX12_walks) 117 = .ok (.iload 4, 2) := by decide +kernel
theorem dX12_walks_119 : decode (mcode mX12_walks) 119 = .ok (.iconst 3, 1) := by decide +kernel
theorem dX12_walks_120 : decode (mcode mX12_walks) 120 = .ok (.iload 5, 2) := by decide +kernel
theorem dX12_walks_122 : decode (mcode mX12_walks) 122 = .ok (.imul, 1) := by decide +kernel
theorem dX12_walks_123 : decode (mcode mX12_walks) 123 = .ok (.iadd, 1) := by decide +kernel
theorem dX12_walks_124 : decode (mcode mX12_walks) 124 = .ok (.iconst 2, 1) := by decide +kernel
theorem dX12_walks_125 : decode (mcode mX12_walks) 125 = .ok (.iadd, 1) := by decide +kernel
theorem dX12_walks_126 : decode (mcode mX12_walks) 126 = .ok (.iaload, 1) := by decide +kernel
theorem dX12_walks_127 : decode (mcode mX12_walks) 127 = .ok (.invokestatic 267, 3) := by decide +kernel
theorem dX12_walks_130 : decode (mcode mX12_walks) 130 = .ok (.ifCond .ne 6, 3) := by decide +kernel
theorem dX12_walks_133 : decode (mcode mX12_walks) 133 = .ok (.ldc 128, 2) := by decide +kernel
theorem dX12_walks_135 : decode (mcode mX12_walks) 135 = .ok (.ireturn, 1) := by decide +kernel
theorem dX12_walks_136 : decode (mcode mX12_walks) 136 = .ok (.iinc 5 1, 3) := by decide +kernel
theorem dX12_walks_139 : decode (mcode mX12_walks) 139 = .ok (.goto (-58), 3) := by decide +kernel
theorem dX12_walks_142 : decode (mcode mX12_walks) 142 = .ok (.aload_n 0, 1) := by decide +kernel
theorem dX12_walks_143 : decode (mcode mX12_walks) 143 = .ok (.iconst 0, 1) := by decide +kernel
theorem dX12_walks_144 : decode (mcode mX12_walks) 144 = .ok (.putfield 112, 3) := by decide +kernel
theorem dX12_walks_147 : decode (mcode mX12_walks) 147 = .ok (.iconst 0, 1) := by decide +kernel
theorem dX12_walks_148 : decode (mcode mX12_walks) 148 = .ok (.istore 5, 2) := by decide +kernel
theorem dX12_walks_150 : decode (mcode mX12_walks) 150 = .ok (.iconst 0, 1) := by decide +kernel
theorem dX12_walks_151 : decode (mcode mX12_walks) 151 = .ok (.istore 6, 2) := by decide +kernel
theorem dX12_walks_153 : decode (mcode mX12_walks) 153 = .ok (.iload 6, 2) := by decide +kernel
theorem dX12_walks_155 : decode (mcode mX12_walks) 155 = .ok (.iload_n 3, 1) := by decide +kernel
theorem dX12_walks_156 : decode (mcode mX12_walks) 156 = .ok (.if_icmp .ge 183, 3) := by decide +kernel
theorem dX12_walks_159 : decode (mcode mX12_walks) 159 = .ok (.iconst 0, 1) := by decide +kernel
theorem dX12_walks_160 : decode (mcode mX12_walks) 160 = .ok (.istore 7, 2) := by decide +kernel
theorem dX12_walks_162 : decode (mcode mX12_walks) 162 = .ok (.aload_n 0, 1) := by decide +kernel
theorem dX12_walks_163 : decode (mcode mX12_walks) 163 = .ok (.aload_n 0, 1) := by decide +kernel
theorem dX12_walks_164 : decode (mcode mX12_walks) 164 = .ok (.getfield 16, 3) := by decide +kernel
theorem dX12_walks_167 : decode (mcode mX12_walks) 167 = .ok (.iload 4, 2) := by decide +kernel
theorem dX12_walks_169 : decode (mcode mX12_walks) 169 = .ok (.iconst 3, 1) := by decide +kernel
theorem dX12_walks_170 : decode (mcode mX12_walks) 170 = .ok (.iload 6, 2) := by decide +kernel
theorem dX12_walks_172 : decode (mcode mX12_walks) 172 = .ok (.imul, 1) := by decide +kernel
theorem dX12_walks_173 : decode (mcode mX12_walks) 173 = .ok (.iadd, 1) := by decide +kernel
theorem dX12_walks_174 : decode (mcode mX12_walks) 174 = .ok (.iaload, 1) := by decide +kernel
theorem dX12_walks_175 : decode (mcode mX12_walks) 175 = .ok (.aload_n 0, 1) := by decide +kernel
theorem dX12_walks_176 : decode (mcode mX12_walks) 176 = .ok (.getfield 16, 3) := by decide +kernel
theorem dX12_walks_179 : decode (mcode mX12_walks) 179 = .ok (.iload 4, 2) := by decide +kernel
theorem dX12_walks_181 : decode (mcode mX12_walks) 181 = .ok (.iconst 3, 1) := by decide +kernel
theorem dX12_walks_182 : decode (mcode mX12_walks) 182 = .ok (.iload 6, 2) := by decide +kernel
theorem dX12_walks_184 : decode (mcode mX12_walks) 184 = .ok (.imul, 1) := by decide +kernel
theorem dX12_walks_185 : decode (mcode mX12_walks) 185 = .ok (.iadd, 1) := by decide +kernel
theorem dX12_walks_186 : decode (mcode mX12_walks) 186 = .ok (.iconst 1, 1) := by decide +kernel
theorem dX12_walks_187 : decode (mcode mX12_walks) 187 = .ok (.iadd, 1) := by decide +kernel
theorem dX12_walks_188 : decode (mcode mX12_walks) 188 = .ok (.iaload, 1) := by decide +kernel
theorem dX12_walks_189 : decode (mcode mX12_walks) 189 = .ok (.aload_n 0, 1) := by decide +kernel
theorem dX12_walks_190 : decode (mcode mX12_walks) 190 = .ok (.getfield 16, 3) := by decide +kernel
theorem dX12_walks_193 : decode (mcode mX12_walks) 193 = .ok (.iload 4, 2) := by decide +kernel
theorem dX12_walks_195 : decode (mcode mX12_walks) 195 = .ok (.iconst 3, 1) := by decide +kernel
theorem dX12_walks_196 : decode (mcode mX12_walks) 196 = .ok (.iload 6, 2) := by decide +kernel
theorem dX12_walks_198 : decode (mcode mX12_walks) 198 = .ok (.imul, 1) := by decide +kernel
theorem dX12_walks_199 : decode (mcode mX12_walks) 199 = .ok (.iadd, 1) := by decide +kernel
theorem dX12_walks_200 : decode (mcode mX12_walks) 200 = .ok (.iconst 2, 1) := by decide +kernel
theorem dX12_walks_201 : decode (mcode mX12_walks) 201 = .ok (.iadd, 1) := by decide +kernel
theorem dX12_walks_202 : decode (mcode mX12_walks) 202 = .ok (.iaload, 1) := by decide +kernel
theorem dX12_walks_203 : decode (mcode mX12_walks) 203 = .ok (.invokevirtual 249, 3) := by decide +kernel
theorem dX12_walks_206 : decode (mcode mX12_walks) 206 = .ok (.istore 8, 2) := by decide +kernel
theorem dX12_walks_208 : decode (mcode mX12_walks) 208 = .ok (.iconst 0, 1) := by decide +kernel
theorem dX12_walks_209 : decode (mcode mX12_walks) 209 = .ok (.istore 9, 2) := by decide +kernel
theorem dX12_walks_211 : decode (mcode mX12_walks) 211 = .ok (.iload 9, 2) := by decide +kernel
theorem dX12_walks_213 : decode (mcode mX12_walks) 213 = .ok (.iload_n 3, 1) := by decide +kernel
theorem dX12_walks_214 : decode (mcode mX12_walks) 214 = .ok (.if_icmp .ge 104, 3) := by decide +kernel
theorem dX12_walks_217 : decode (mcode mX12_walks) 217 = .ok (.iload 7, 2) := by decide +kernel
theorem dX12_walks_219 : decode (mcode mX12_walks) 219 = .ok (.ifCond .ne 86, 3) := by decide +kernel
theorem dX12_walks_222 : decode (mcode mX12_walks) 222 = .ok (.iload 9, 2) := by decide +kernel
theorem dX12_walks_224 : decode (mcode mX12_walks) 224 = .ok (.iload 6, 2) := by decide +kernel
theorem dX12_walks_226 : decode (mcode mX12_walks) 226 = .ok (.if_icmp .eq 83, 3) := by decide +kernel
theorem dX12_walks_229 : decode (mcode mX12_walks) 229 = .ok (.aload_n 0, 1) := by decide +kernel
theorem dX12_walks_230 : decode (mcode mX12_walks) 230 = .ok (.getfield 16, 3) := by decide +kernel
theorem dX12_walks_233 : decode (mcode mX12_walks) 233 = .ok (.iload 4, 2) := by decide +kernel
theorem dX12_walks_235 : decode (mcode mX12_walks) 235 = .ok (.iconst 3, 1) := by decide +kernel
theorem dX12_walks_236 : decode (mcode mX12_walks) 236 = .ok (.iload 6, 2) := by decide +kernel
theorem dX12_walks_238 : decode (mcode mX12_walks) 238 = .ok (.imul, 1) := by decide +kernel
theorem dX12_walks_239 : decode (mcode mX12_walks) 239 = .ok (.iadd, 1) := by decide +kernel
theorem dX12_walks_240 : decode (mcode mX12_walks) 240 = .ok (.iaload, 1) := by decide +kernel
theorem dX12_walks_241 : decode (mcode mX12_walks) 241 = .ok (.aload_n 0, 1) := by decide +kernel
theorem dX12_walks_242 : decode (mcode mX12_walks) 242 = .ok (.getfield 16, 3) := by decide +kernel
theorem dX12_walks_245 : decode (mcode mX12_walks) 245 = .ok (.iload 4, 2) := by decide +kernel
theorem dX12_walks_247 : decode (mcode mX12_walks) 247 = .ok (.iconst 3, 1) := by decide +kernel
theorem dX12_walks_248 : decode (mcode mX12_walks) 248 = .ok (.iload 9, 2) := by decide +kernel
theorem dX12_walks_250 : decode (mcode mX12_walks) 250 = .ok (.imul, 1) := by decide +kernel
theorem dX12_walks_251 : decode (mcode mX12_walks) 251 = .ok (.iadd, 1) := by decide +kernel
theorem dX12_walks_252 : decode (mcode mX12_walks) 252 = .ok (.iaload, 1) := by decide +kernel
theorem dX12_walks_253 : decode (mcode mX12_walks) 253 = .ok (.if_icmp .ne 56, 3) := by decide +kernel
theorem dX12_walks_256 : decode (mcode mX12_walks) 256 = .ok (.aload_n 0, 1) := by decide +kernel
theorem dX12_walks_257 : decode (mcode mX12_walks) 257 = .ok (.aload_n 0, 1) := by decide +kernel
theorem dX12_walks_258 : decode (mcode mX12_walks) 258 = .ok (.getfield 16, 3) := by decide +kernel
theorem dX12_walks_261 : decode (mcode mX12_walks) 261 = .ok (.iload 4, 2) := by decide +kernel
theorem dX12_walks_263 : decode (mcode mX12_walks) 263 = .ok (.iconst 3, 1) := by decide +kernel
theorem dX12_walks_264 : decode (mcode mX12_walks) 264 = .ok (.iload 9, 2) := by decide +kernel
theorem dX12_walks_266 : decode (mcode mX12_walks) 266 = .ok (.imul, 1) := by decide +kernel
theorem dX12_walks_267 : decode (mcode mX12_walks) 267 = .ok (.iadd, 1) := by decide +kernel
theorem dX12_walks_268 : decode (mcode mX12_walks) 268 = .ok (.iaload, 1) := by decide +kernel
theorem dX12_walks_269 : decode (mcode mX12_walks) 269 = .ok (.aload_n 0, 1) := by decide +kernel
theorem dX12_walks_270 : decode (mcode mX12_walks) 270 = .ok (.getfield 16, 3) := by decide +kernel
theorem dX12_walks_273 : decode (mcode mX12_walks) 273 = .ok (.iload 4, 2) := by decide +kernel
theorem dX12_walks_275 : decode (mcode mX12_walks) 275 = .ok (.iconst 3, 1) := by decide +kernel
theorem dX12_walks_276 : decode (mcode mX12_walks) 276 = .ok (.iload 9, 2) := by decide +kernel
theorem dX12_walks_278 : decode (mcode mX12_walks) 278 = .ok (.imul, 1) := by decide +kernel
theorem dX12_walks_279 : decode (mcode mX12_walks) 279 = .ok (.iadd, 1) := by decide +kernel
theorem dX12_walks_280 : decode (mcode mX12_walks) 280 = .ok (.iconst 1, 1) := by decide +kernel
theorem dX12_walks_281 : decode (mcode mX12_walks) 281 = .ok (.iadd, 1) := by decide +kernel
theorem dX12_walks_282 : decode (mcode mX12_walks) 282 = .ok (.iaload, 1) := by decide +kernel
theorem dX12_walks_283 : decode (mcode mX12_walks) 283 = .ok (.aload_n 0, 1) := by decide +kernel
theorem dX12_walks_284 : decode (mcode mX12_walks) 284 = .ok (.getfield 16, 3) := by decide +kernel
theorem dX12_walks_287 : decode (mcode mX12_walks) 287 = .ok (.iload 4, 2) := by decide +kernel
theorem dX12_walks_289 : decode (mcode mX12_walks) 289 = .ok (.iconst 3, 1) := by decide +kernel
theorem dX12_walks_290 : decode (mcode mX12_walks) 290 = .ok (.iload 9, 2) := by decide +kernel
theorem dX12_walks_292 : decode (mcode mX12_walks) 292 = .ok (.imul, 1) := by decide +kernel
theorem dX12_walks_293 : decode (mcode mX12_walks) 293 = .ok (.iadd, 1) := by decide +kernel
theorem dX12_walks_294 : decode (mcode mX12_walks) 294 = .ok (.iconst 2, 1) := by decide +kernel
theorem dX12_walks_295 : decode (mcode mX12_walks) 295 = .ok (.iadd, 1) := by decide +kernel
theorem dX12_walks_296 : decode (mcode mX12_walks) 296 = .ok (.iaload, 1) := by decide +kernel
theorem dX12_walks_297 : decode (mcode mX12_walks) 297 = .ok (.invokevirtual 249, 3) := by decide +kernel
theorem dX12_walks_300 : decode (mcode mX12_walks) 300 = .ok (.iload 8, 2) := by decide +kernel
theorem dX12_walks_302 : decode (mcode mX12_walks) 302 = .ok (.if_icmp .ne 7, 3) := by decide +kernel
theorem dX12_walks_305 : decode (mcode mX12_walks) 305 = .ok (.iconst 1, 1) := by decide +kernel
theorem dX12_walks_306 : decode (mcode mX12_walks) 306 = .ok (.goto 4, 3) := by decide +kernel
theorem dX12_walks_309 : decode (mcode mX12_walks) 309 = .ok (.iconst 0, 1) := by decide +kernel
theorem dX12_walks_310 : decode (mcode mX12_walks) 310 = .ok (.istore 7, 2) := by decide +kernel
theorem dX12_walks_312 : decode (mcode mX12_walks) 312 = .ok (.iinc 9 1, 3) := by decide +kernel
theorem dX12_walks_315 : decode (mcode mX12_walks) 315 = .ok (.goto (-104), 3) := by decide +kernel
theorem dX12_walks_318 : decode (mcode mX12_walks) 318 = .ok (.iload 5, 2) := by decide +kernel
theorem dX12_walks_320 : decode (mcode mX12_walks) 320 = .ok (.iload 7, 2) := by decide +kernel
theorem dX12_walks_322 : decode (mcode mX12_walks) 322 = .ok (.ifCond .eq 7, 3) := by decide +kernel
theorem dX12_walks_325 : decode (mcode mX12_walks) 325 = .ok (.iconst 1, 1) := by decide +kernel
theorem dX12_walks_326 : decode (mcode mX12_walks) 326 = .ok (.goto 4, 3) := by decide +kernel
theorem dX12_walks_329 : decode (mcode mX12_walks) 329 = .ok (.iconst 0, 1) := by decide +kernel
theorem dX12_walks_330 : decode (mcode mX12_walks) 330 = .ok (.iadd, 1) := by decide +kernel
theorem dX12_walks_331 : decode (mcode mX12_walks) 331 = .ok (.istore 5, 2) := by decide +kernel
theorem dX12_walks_333 : decode (mcode mX12_walks) 333 = .ok (.iinc 6 1, 3) := by decide +kernel
theorem dX12_walks_336 : decode (mcode mX12_walks) 336 = .ok (.goto (-183), 3) := by decide +kernel
theorem dX12_walks_339 : decode (mcode mX12_walks) 339 = .ok (.iload 5, 2) := by decide +kernel
theorem dX12_walks_341 : decode (mcode mX12_walks) 341 = .ok (.ireturn, 1) := by decide +kernel
theorem dX12_count_0 : decode (mcode mX12_count) 0 = .ok (.aload_n 0, 1) := by decide +kernel
theorem dX12_count_1 : decode (mcode mX12_count) 1 = .ok (.iconst 0, 1) := by decide +kernel
theorem dX12_count_2 : decode (mcode mX12_count) 2 = .ok (.putfield 108, 3) := by decide +kernel
theorem dX12_count_5 : decode (mcode mX12_count) 5 = .ok (.iconst 0, 1) := by decide +kernel
theorem dX12_count_6 : decode (mcode mX12_count) 6 = .ok (.istore_n 2, 1) := by decide +kernel
theorem dX12_count_7 : decode (mcode mX12_count) 7 = .ok (.iload_n 1, 1) := by decide +kernel
theorem dX12_count_8 : decode (mcode mX12_count) 8 = .ok (.tableswitch 161 0 7 #[48, 81, 86, 91, 96, 101, 101, 156], 48) := by decide +kernel
theorem dX12_count_56 : decode (mcode mX12_count) 56 = .ok (.iconst 0, 1) := by decide +kernel
theorem dX12_count_57 : decode (mcode mX12_count) 57 = .ok (.istore_n 3, 1) := by decide +kernel
theorem dX12_count_58 : decode (mcode mX12_count) 58 = .ok (.iload_n 3, 1) := by decide +kernel
theorem dX12_count_59 : decode (mcode mX12_count) 59 = .ok (.bipush 8, 2) := by decide +kernel
theorem dX12_count_61 : decode (mcode mX12_count) 61 = .ok (.if_icmp .ge 26, 3) := by decide +kernel
theorem dX12_count_64 : decode (mcode mX12_count) 64 = .ok (.iload_n 2, 1) := by decide +kernel
theorem dX12_count_65 : decode (mcode mX12_count) 65 = .ok (.aload_n 0, 1) := by decide +kernel
theorem dX12_count_66 : decode (mcode mX12_count) 66 = .ok (.getfield 7, 3) := by decide +kernel
theorem dX12_count_69 : decode (mcode mX12_count) 69 = .ok (.iload_n 3, 1) := by decide +kernel
theorem dX12_count_70 : decode (mcode mX12_count) 70 = .ok (.iaload, 1) := by decide +kernel
theorem dX12_count_71 : decode (mcode mX12_count) 71 = .ok (.ifCond .lt 7, 3) := by decide +kernel
theorem dX12_count_74 : decode (mcode mX12_count) 74 = .ok (.iconst 1, 1) := by decide +kernel
theorem dX12_count_75 : decode (mcode mX12_count) 75 = .ok (.goto 4, 3) := by decide +kernel
theorem dX12_count_78 : decode (mcode mX12_count) 78 = .ok (.iconst 0, 1) := by decide +kernel
theorem dX12_count_79 : decode (mcode mX12_count) 79 = .ok (.iadd, 1) := by decide +kernel
theorem dX12_count_80 : decode (mcode mX12_count) 80 = .ok (.istore_n 2, 1) := by decide +kernel
theorem dX12_count_81 : decode (mcode mX12_count) 81 = .ok (.iinc 3 1, 3) := by decide +kernel
theorem dX12_count_84 : decode (mcode mX12_count) 84 = .ok (.goto (-26), 3) := by decide +kernel
theorem dX12_count_87 : decode (mcode mX12_count) 87 = .ok (.iload_n 2, 1) := by decide +kernel
theorem dX12_count_88 : decode (mcode mX12_count) 88 = .ok (.ireturn, 1) := by decide +kernel
theorem dX12_count_89 : decode (mcode mX12_count) 89 = .ok (.aload_n 0, 1) := by decide +kernel
theorem dX12_count_90 : decode (mcode mX12_count) 90 = .ok (.getfield 224, 3) := by decide +kernel
theorem dX12_count_93 : decode (mcode mX12_count) 93 = .ok (.ireturn, 1) := by decide +kernel
theorem dX12_count_94 : decode (mcode mX12_count) 94 = .ok (.aload_n 0, 1) := by decide +kernel
theorem dX12_count_95 : decode (mcode mX12_count) 95 = .ok (.getfield 227, 3) := by decide +kernel
theorem dX12_count_98 : decode (mcode mX12_count) 98 = .ok (.ireturn, 1) := by decide +kernel
theorem dX12_count_99 : decode (mcode mX12_count) 99 = .ok (.aload_n 0, 1) := by decide +kernel
theorem dX12_count_100 : decode (mcode mX12_count) 100 = .ok (.getfield 230, 3) := by decide +kernel
theorem dX12_count_103 : decode (mcode mX12_count) 103 = .ok (.ireturn, 1) := by decide +kernel
theorem dX12_count_104 : decode (mcode mX12_count) 104 = .ok (.aload_n 0, 1) := by decide +kernel
theorem dX12_count_105 : decode (mcode mX12_count) 105 = .ok (.getfield 233, 3) := by decide +kernel
theorem dX12_count_108 : decode (mcode mX12_count) 108 = .ok (.ireturn, 1) := by decide +kernel
theorem dX12_count_109 : decode (mcode mX12_count) 109 = .ok (.iconst 0, 1) := by decide +kernel
theorem dX12_count_110 : decode (mcode mX12_count) 110 = .ok (.istore_n 3, 1) := by decide +kernel
theorem dX12_count_111 : decode (mcode mX12_count) 111 = .ok (.iload_n 3, 1) := by decide +kernel
theorem dX12_count_112 : decode (mcode mX12_count) 112 = .ok (.aload_n 0, 1) := by decide +kernel
theorem dX12_count_113 : decode (mcode mX12_count) 113 = .ok (.getfield 227, 3) := by decide +kernel
theorem dX12_count_116 : decode (mcode mX12_count) 116 = .ok (.if_icmp .ge 46, 3) := by decide +kernel
theorem dX12_count_119 : decode (mcode mX12_count) 119 = .ok (.iload_n 2, 1) := by decide +kernel
theorem dX12_count_120 : decode (mcode mX12_count) 120 = .ok (.iload_n 1, 1) := by decide +kernel
theorem dX12_count_121 : decode (mcode mX12_count) 121 = .ok (.iconst 5, 1) := by decide +kernel
theorem dX12_count_122 : decode (mcode mX12_count) 122 = .ok (.if_icmp .ne 19, 3) := by decide +kernel
theorem dX12_count_125 : decode (mcode mX12_count) 125 = .ok (.aload_n 0, 1) := by decide +kernel
theorem dX12_count_126 : decode (mcode mX12_count) 126 = .ok (.iload_n 3, 1) := by decide +kernel
theorem dX12_count_127 : decode (mcode mX12_count) 127 = .ok (.invokevirtual 292, 3) := by decide +kernel
theorem dX12_count_130 : decode (mcode mX12_count) 130 = .ok (.ifCond .eq 7, 3) := by decide +kernel
theorem dX12_count_133 : decode (mcode mX12_count) 133 = .ok (.iconst 1, 1) := by decide +kernel
theorem dX12_count_134 : decode (mcode mX12_count) 134 = .ok (.goto 20, 3) := by decide +kernel
theorem dX12_count_137 : decode (mcode mX12_count) 137 = .ok (.iconst 0, 1) := by decide +kernel
theorem dX12_count_138 : decode (mcode mX12_count) 138 = .ok (.goto 16, 3) := by decide +kernel
theorem dX12_count_141 : decode (mcode mX12_count) 141 = .ok (.aload_n 0, 1) := by decide +kernel
theorem dX12_count_142 : decode (mcode mX12_count) 142 = .ok (.iload_n 3, 1) := by decide +kernel
theorem dX12_count_143 : decode (mcode mX12_count) 143 = .ok (.invokevirtual 258, 3) := by decide +kernel
theorem dX12_count_146 : decode (mcode mX12_count) 146 = .ok (.ifCond .eq 7, 3) := by decide +kernel
theorem dX12_count_149 : decode (mcode mX12_count) 149 = .ok (.iconst 1, 1) := by decide +kernel
theorem dX12_count_150 : decode (mcode mX12_count) 150 = .ok (.goto 4, 3) := by decide +kernel
theorem dX12_count_153 : decode (mcode mX12_count) 153 = .ok (.iconst 0, 1) := by decide +kernel
theorem dX12_count_154 : decode (mcode mX12_count) 154 = .ok (.iadd, 1) := by decide +kernel
theorem dX12_count_155 : decode (mcode mX12_count) 155 = .ok (.istore_n 2, 1) := by decide +kernel
theorem dX12_count_156 : decode (mcode mX12_count) 156 = .ok (.iinc 3 1, 3) := by decide +kernel
theorem dX12_count_159 : decode (mcode mX12_count) 159 = .ok (.goto (-48), 3) := by decide +kernel
theorem dX12_count_162 : decode (mcode mX12_count) 162 = .ok (.iload_n 2, 1) := by decide +kernel
theorem dX12_count_163 : decode (mcode mX12_count) 163 = .ok (.ireturn, 1) := by decide +kernel
theorem dX12_count_164 : decode (mcode mX12_count) 164 = .ok (.aload_n 0, 1) := by decide +kernel
theorem dX12_count_165 : decode (mcode mX12_count) 165 = .ok (.getfield 135, 3) := by decide +kernel
theorem dX12_count_168 : decode (mcode mX12_count) 168 = .ok (.ireturn, 1) := by decide +kernel
theorem dX12_count_169 : decode (mcode mX12_count) 169 = .ok (.ldc 128, 2) := by decide +kernel
theorem dX12_count_171 : decode (mcode mX12_count) 171 = .ok (.ireturn, 1) := by decide +kernel
theorem dX12_line_0 : decode (mcode mX12_line) 0 = .ok (.aload_n 0, 1) := by decide +kernel
theorem dX12_line_1 : decode (mcode mX12_line) 1 = .ok (.iconst 0, 1) := by decide +kernel
theorem dX12_line_2 : decode (mcode mX12_line) 2 = .ok (.putfield 108, 3) := by decide +kernel
theorem dX12_line_5 : decode (mcode mX12_line) 5 = .ok (.aload_n 0, 1) := by decide +kernel
theorem dX12_line_6 : decode (mcode mX12_line) 6 = .ok (.iload_n 1, 1) := by decide +kernel
theorem dX12_line_7 : decode (mcode mX12_line) 7 = .ok (.invokevirtual 255, 3) := by decide +kernel
theorem dX12_line_10 : decode (mcode mX12_line) 10 = .ok (.ifCond .eq 15, 3) := by decide +kernel
theorem dX12_line_13 : decode (mcode mX12_line) 13 = .ok (.iload_n 2, 1) := by decide +kernel
theorem dX12_line_14 : decode (mcode mX12_line) 14 = .ok (.i2l, 1) := by decide +kernel
theorem dX12_line_15 : decode (mcode mX12_line) 15 = .ok (.lconst 0, 1) := by decide +kernel
theorem dX12_line_16 : decode (mcode mX12_line) 16 = .ok (.ldc2_w 133, 3) := by decide +kernel
theorem dX12_line_19 : decode (mcode mX12_line) 19 = .ok (.invokestatic 118, 3) := by decide +kernel
theorem dX12_line_22 : decode (mcode mX12_line) 22 = .ok (.ifCond .ne 6, 3) := by decide +kernel
theorem dX12_line_25 : decode (mcode mX12_line) 25 = .ok (.ldc 128, 2) := by decide +kernel
theorem dX12_line_27 : decode (mcode mX12_line) 27 = .ok (.ireturn, 1) := by decide +kernel
theorem dX12_line_28 : decode (mcode mX12_line) 28 = .ok (.iload_n 2, 1) := by decide +kernel
theorem dX12_line_29 : decode (mcode mX12_line) 29 = .ok (.tableswitch 108 0 7 #[47, 54, 61, 68, 75, 82, 88, 94], 47) := by decide +kernel
theorem dX12_line_76 : decode (mcode mX12_line) 76 = .ok (.aload_n 0, 1) := by decide +kernel
theorem dX12_line_77 : decode (mcode mX12_line) 77 = .ok (.getfield 32, 3) := by decide +kernel
theorem dX12_line_80 : decode (mcode mX12_line) 80 = .ok (.iload_n 1, 1) := by decide +kernel
theorem dX12_line_81 : decode (mcode mX12_line) 81 = .ok (.iaload, 1) := by decide +kernel
theorem dX12_line_82 : decode (mcode mX12_line) 82 = .ok (.ireturn, 1) := by decide +kernel
theorem dX12_line_83 : decode (mcode mX12_line) 83 = .ok (.aload_n 0, 1) := by decide +kernel
theorem dX12_line_84 : decode (mcode mX12_line) 84 = .ok (.getfield 35, 3) := by decide +kernel
theorem dX12_line_87 : decode (mcode mX12_line) 87 = .ok (.iload_n 1, 1) := by decide +kernel
theorem dX12_line_88 : decode (mcode mX12_line) 88 = .ok (.iaload, 1) := by decide +kernel
theorem dX12_line_89 : decode (mcode mX12_line) 89 = .ok (.ireturn, 1) := by decide +kernel
theorem dX12_line_90 : decode (mcode mX12_line) 90 = .ok (.aload_n 0, 1) := by decide +kernel
theorem dX12_line_91 : decode (mcode mX12_line) 91 = .ok (.getfield 38, 3) := by decide +kernel
theorem dX12_line_94 : decode (mcode mX12_line) 94 = .ok (.iload_n 1, 1) := by decide +kernel
theorem dX12_line_95 : decode (mcode mX12_line) 95 = .ok (.iaload, 1) := by decide +kernel
theorem dX12_line_96 : decode (mcode mX12_line) 96 = .ok (.ireturn, 1) := by decide +kernel
theorem dX12_line_97 : decode (mcode mX12_line) 97 = .ok (.aload_n 0, 1) := by decide +kernel
theorem dX12_line_98 : decode (mcode mX12_line) 98 = .ok (.getfield 41, 3) := by decide +kernel
theorem dX12_line_101 : decode (mcode mX12_line) 101 = .ok (.iload_n 1, 1) := by decide +kernel
theorem dX12_line_102 : decode (mcode mX12_line) 102 = .ok (.iaload, 1) := by decide +kernel
theorem dX12_line_103 : decode (mcode mX12_line) 103 = .ok (.ireturn, 1) := by decide +kernel
theorem dX12_line_104 : decode (mcode mX12_line) 104 = .ok (.aload_n 0, 1) := by decide +kernel
theorem dX12_line_105 : decode (mcode mX12_line) 105 = .ok (.getfield 44, 3) := by decide +kernel
theorem dX12_line_108 : decode (mcode mX12_line) 108 = .ok (.iload_n 1, 1) := by decide +kernel
theorem dX12_line_109 : decode (mcode mX12_line) 109 = .ok (.iaload, 1) := by decide +kernel
theorem dX12_line_110 : decode (mcode mX12_line) 110 = .ok (.ireturn, 1) := by decide +kernel
theorem dX12_line_111 : decode (mcode mX12_line) 111 = .ok (.aload_n 0, 1) := by decide +kernel
theorem dX12_line_112 : decode (mcode mX12_line) 112 = .ok (.iload_n 1, 1) := by decide +kernel
theorem dX12_line_113 : decode (mcode mX12_line) 113 = .ok (.invokevirtual 246, 3) := by decide +kernel
theorem dX12_line_116 : decode (mcode mX12_line) 116 = .ok (.ireturn, 1) := by decide +kernel
theorem dX12_line_117 : decode (mcode mX12_line) 117 = .ok (.aload_n 0, 1) := by decide +kernel
theorem dX12_line_118 : decode (mcode mX12_line) 118 = .ok (.iload_n 1, 1) := by decide +kernel
theorem dX12_line_119 : decode (mcode mX12_line) 119 = .ok (.invokevirtual 252, 3) := by decide +kernel
theorem dX12_line_122 : decode (mcode mX12_line) 122 = .ok (.ireturn, 1) := by decide +kernel
theorem dX12_line_123 : decode (mcode mX12_line) 123 = .ok (.aload_n 0, 1) := by decide +kernel
theorem dX12_line_124 : decode (mcode mX12_line) 124 = .ok (.iload_n 1, 1) := by decide +kernel
theorem dX12_line_125 : decode (mcode mX12_line) 125 = .ok (.invokevirtual 258, 3) := by decide +kernel
theorem dX12_line_128 : decode (mcode mX12_line) 128 = .ok (.ifCond .eq 7, 3) := by decide +kernel
theorem dX12_line_131 : decode (mcode mX12_line) 131 = .ok (.iconst 1, 1) := by decide +kernel
theorem dX12_line_132 : decode (mcode mX12_line) 132 = .ok (.goto 4, 3) := by decide +kernel
theorem dX12_line_135 : decode (mcode mX12_line) 135 = .ok (.iconst 0, 1) := by decide +kernel
theorem dX12_line_136 : decode (mcode mX12_line) 136 = .ok (.ireturn, 1) := by decide +kernel
theorem dX12_line_137 : decode (mcode mX12_line) 137 = .ok (.aload_n 0, 1) := by decide +kernel
theorem dX12_line_138 : decode (mcode mX12_line) 138 = .ok (.getfield 47, 3) := by decide +kernel
theorem dX12_line_141 : decode (mcode mX12_line) 141 = .ok (.iload_n 1, 1) := by decide +kernel
theorem dX12_line_142 : decode (mcode mX12_line) 142 = .ok (.iaload, 1) := by decide +kernel
theorem dX12_line_143 : decode (mcode mX12_line) 143 = .ok (.ireturn, 1) := by decide +kernel
theorem dX12_match_0 : decode (mcode mX12_match) 0 = .ok (.aload_n 0, 1) := by decide +kernel
theorem dX12_match_1 : decode (mcode mX12_match) 1 = .ok (.aload_n 0, 1) := by decide +kernel
theorem dX12_match_2 : decode (mcode mX12_match) 2 = .ok (.iload_n 1, 1) := by decide +kernel
theorem dX12_match_3 : decode (mcode mX12_match) 3 = .ok (.iload_n 2, 1) := by decide +kernel
theorem dX12_match_4 : decode (mcode mX12_match) 4 = .ok (.aload_n 0, 1) := by decide +kernel
theorem dX12_match_5 : decode (mcode mX12_match) 5 = .ok (.getfield 96, 3) := by decide +kernel
theorem dX12_match_8 : decode (mcode mX12_match) 8 = .ok (.invokevirtual 320, 3) := by decide +kernel
theorem dX12_match_11 : decode (mcode mX12_match) 11 = .ok (.putfield 324, 3) := by decide +kernel
theorem dX12_match_14 : decode (mcode mX12_match) 14 = .ok (.aload_n 0, 1) := by decide +kernel
theorem dX12_match_15 : decode (mcode mX12_match) 15 = .ok (.aload_n 0, 1) := by decide +kernel
theorem dX12_match_16 : decode (mcode mX12_match) 16 = .ok (.iload_n 1, 1) := by decide +kernel
theorem dX12_match_17 : decode (mcode mX12_match) 17 = .ok (.iload_n 3, 1) := by decide +kernel
theorem dX12_match_18 : decode (mcode mX12_match) 18 = .ok (.aload_n 0, 1) := by decide +kernel
theorem dX12_match_19 : decode (mcode mX12_match) 19 = .ok (.getfield 99, 3) := by decide +kernel
theorem dX12_match_22 : decode (mcode mX12_match) 22 = .ok (.invokevirtual 320, 3) := by decide +kernel
theorem dX12_match_25 : decode (mcode mX12_match) 25 = .ok (.putfield 327, 3) := by decide +kernel
theorem dX12_match_28 : decode (mcode mX12_match) 28 = .ok (.iconst 0, 1) := by decide +kernel
theorem dX12_match_29 : decode (mcode mX12_match) 29 = .ok (.istore 4, 2) := by decide +kernel
theorem dX12_match_31 : decode (mcode mX12_match) 31 = .ok (.iload 4, 2) := by decide +kernel
theorem dX12_match_33 : decode (mcode mX12_match) 33 = .ok (.sipush 169, 3) := by decide +kernel
theorem dX12_match_36 : decode (mcode mX12_match) 36 = .ok (.if_icmp .ge 17, 3) := by decide +kernel
theorem dX12_match_39 : decode (mcode mX12_match) 39 = .ok (.aload_n 0, 1) := by decide +kernel
theorem dX12_match_40 : decode (mcode mX12_match) 40 = .ok (.getfield 102, 3) := by decide +kernel
theorem dX12_match_43 : decode (mcode mX12_match) 43 = .ok (.iload 4, 2) := by decide +kernel
theorem dX12_match_45 : decode (mcode mX12_match) 45 = .ok (.iconst 0, 1) := by decide +kernel
theorem dX12_match_46 : decode (mcode mX12_match) 46 = .ok (.iastore, 1) := by decide +kernel
theorem dX12_match_47 : decode (mcode mX12_match) 47 = .ok (.iinc 4 1, 3) := by decide +kernel
theorem dX12_match_50 : decode (mcode mX12_match) 50 = .ok (.goto (-19), 3) := by decide +kernel
theorem dX12_match_53 : decode (mcode mX12_match) 53 = .ok (.aload_n 0, 1) := by decide +kernel
theorem dX12_match_54 : decode (mcode mX12_match) 54 = .ok (.getfield 324, 3) := by decide +kernel
theorem dX12_match_57 : decode (mcode mX12_match) 57 = .ok (.iconst 1, 1) := by decide +kernel
theorem dX12_match_58 : decode (mcode mX12_match) 58 = .ok (.isub, 1) := by decide +kernel
theorem dX12_match_59 : decode (mcode mX12_match) 59 = .ok (.istore 4, 2) := by decide +kernel
theorem dX12_match_61 : decode (mcode mX12_match) 61 = .ok (.iload 4, 2) := by decide +kernel
theorem dX12_match_63 : decode (mcode mX12_match) 63 = .ok (.ifCond .lt 170, 3) := by decide +kernel
theorem dX12_match_66 : decode (mcode mX12_match) 66 = .ok (.aload_n 0, 1) := by decide +kernel
theorem dX12_match_67 : decode (mcode mX12_match) 67 = .ok (.getfield 327, 3) := by decide +kernel
theorem dX12_match_70 : decode (mcode mX12_match) 70 = .ok (.iconst 1, 1) := by decide +kernel
theorem dX12_match_71 : decode (mcode mX12_match) 71 = .ok (.isub, 1) := by decide +kernel
theorem dX12_match_72 : decode (mcode mX12_match) 72 = .ok (.istore 5, 2) := by decide +kernel
theorem dX12_match_74 : decode (mcode mX12_match) 74 = .ok (.iload 5, 2) := by decide +kernel
theorem dX12_match_76 : decode (mcode mX12_match) 76 = .ok (.ifCond .lt 151, 3) := by decide +kernel
theorem dX12_match_79 : decode (mcode mX12_match) 79 = .ok (.aload_n 0, 1) := by decide +kernel
theorem dX12_match_80 : decode (mcode mX12_match) 80 = .ok (.getfield 102, 3) := by decide +kernel
theorem dX12_match_83 : decode (mcode mX12_match) 83 = .ok (.bipush 13, 2) := by decide +kernel
theorem dX12_match_85 : decode (mcode mX12_match) 85 = .ok (.iload 4, 2) := by decide +kernel
theorem dX12_match_87 : decode (mcode mX12_match) 87 = .ok (.imul, 1) := by decide +kernel
theorem dX12_match_88 : decode (mcode mX12_match) 88 = .ok (.bipush 13, 2) := by decide +kernel
theorem dX12_match_90 : decode (mcode mX12_match) 90 = .ok (.iadd, 1) := by decide +kernel
theorem dX12_match_91 : decode (mcode mX12_match) 91 = .ok (.iload 5, 2) := by decide +kernel
theorem dX12_match_93 : decode (mcode mX12_match) 93 = .ok (.iadd, 1) := by decide +kernel
theorem dX12_match_94 : decode (mcode mX12_match) 94 = .ok (.iaload, 1) := by decide +kernel
theorem dX12_match_95 : decode (mcode mX12_match) 95 = .ok (.aload_n 0, 1) := by decide +kernel
theorem dX12_match_96 : decode (mcode mX12_match) 96 = .ok (.getfield 102, 3) := by decide +kernel
theorem dX12_match_99 : decode (mcode mX12_match) 99 = .ok (.bipush 13, 2) := by decide +kernel
theorem dX12_match_101 : decode (mcode mX12_match) 101 = .ok (.iload 4, 2) := by decide +kernel
theorem dX12_match_103 : decode (mcode mX12_match) 103 = .ok (.imul, 1) := by decide +kernel
theorem dX12_match_104 : decode (mcode mX12_match) 104 = .ok (.iload 5, 2) := by decide +kernel
theorem dX12_match_106 : decode (mcode mX12_match) 106 = .ok (.iadd, 1) := by decide +kernel
theorem dX12_match_107 : decode (mcode mX12_match) 107 = .ok (.iconst 1, 1) := by decide +kernel
theorem dX12_match_108 : decode (mcode mX12_match) 108 = .ok (.iadd, 1) := by decide +kernel
theorem dX12_match_109 : decode (mcode mX12_match) 109 = .ok (.iaload, 1) := by decide +kernel
theorem dX12_match_110 : decode (mcode mX12_match) 110 = .ok (.if_icmp .le 22, 3) := by decide +kernel
theorem dX12_match_113 : decode (mcode mX12_match) 113 = .ok (.aload_n 0, 1) := by decide +kernel
theorem dX12_match_114 : decode (mcode mX12_match) 114 = .ok (.getfield 102, 3) := by decide +kernel
theorem dX12_match_117 : decode (mcode mX12_match) 117 = .ok (.bipush 13, 2) := by decide +kernel
theorem dX12_match_119 : decode (mcode mX12_match) 119 = .ok (.iload 4, 2) := by decide +kernel
theorem dX12_match_121 : decode (mcode mX12_match) 121 = .ok (.imul, 1) := by decide +kernel
theorem dX12_match_122 : decode (mcode mX12_match) 122 = .ok (.bipush 13, 2) := by decide +kernel
theorem dX12_match_124 : decode (mcode mX12_match) 124 = .ok (.iadd, 1) := by decide +kernel
theorem dX12_match_125 : decode (mcode mX12_match) 125 = .ok (.iload 5, 2) := by decide +kernel
theorem dX12_match_127 : decode (mcode mX12_match) 127 = .ok (.iadd, 1) := by decide +kernel
theorem dX12_match_128 : decode (mcode mX12_match) 128 = .ok (.iaload, 1) := by decide +kernel
theorem dX12_match_129 : decode (mcode mX12_match) 129 = .ok (.goto 18, 3) := by decide +kernel
theorem dX12_match_132 : decode (mcode mX12_match) 132 = .ok (.aload_n 0, 1) := by decide +kernel
theorem dX12_match_133 : decode (mcode mX12_match) 133 = .ok (.getfield 102, 3) := by decide +kernel
theorem dX12_match_136 : decode (mcode mX12_match) 136 = .ok (.bipush 13, 2) := by decide +kernel
theorem dX12_match_138 : decode (mcode mX12_match) 138 = .ok (.iload 4, 2) := by decide +kernel
theorem dX12_match_140 : decode (mcode mX12_match) 140 = .ok (.imul, 1) := by decide +kernel
theorem dX12_match_141 : decode (mcode mX12_match) 141 = .ok (.iload 5, 2) := by decide +kernel
theorem dX12_match_143 : decode (mcode mX12_match) 143 = .ok (.iadd, 1) := by decide +kernel
theorem dX12_match_144 : decode (mcode mX12_match) 144 = .ok (.iconst 1, 1) := by decide +kernel
theorem dX12_match_145 : decode (mcode mX12_match) 145 = .ok (.iadd, 1) := by decide +kernel
theorem dX12_match_146 : decode (mcode mX12_match) 146 = .ok (.iaload, 1) := by decide +kernel
theorem dX12_match_147 : decode (mcode mX12_match) 147 = .ok (.istore 6, 2) := by decide +kernel
theorem dX12_match_149 : decode (mcode mX12_match) 149 = .ok (.aload_n 0, 1) := by decide +kernel
theorem dX12_match_150 : decode (mcode mX12_match) 150 = .ok (.aload_n 0, 1) := by decide +kernel
theorem dX12_match_151 : decode (mcode mX12_match) 151 = .ok (.getfield 96, 3) := by decide +kernel
theorem dX12_match_154 : decode (mcode mX12_match) 154 = .ok (.iload 4, 2) := by decide +kernel
theorem dX12_match_156 : decode (mcode mX12_match) 156 = .ok (.iaload, 1) := by decide +kernel
theorem dX12_match_157 : decode (mcode mX12_match) 157 = .ok (.aload_n 0, 1) := by decide +kernel
theorem dX12_match_158 : decode (mcode mX12_match) 158 = .ok (.getfield 99, 3) := by decide +kernel
theorem dX12_match_161 : decode (mcode mX12_match) 161 = .ok (.iload 5, 2) := by decide +kernel
theorem dX12_match_163 : decode (mcode mX12_match) 163 = .ok (.iaload, 1) := by decide +kernel
theorem dX12_match_164 : decode (mcode mX12_match) 164 = .ok (.invokevirtual 286, 3) := by decide +kernel
theorem dX12_match_167 : decode (mcode mX12_match) 167 = .ok (.ifCond .eq 24, 3) := by decide +kernel
theorem dX12_match_170 : decode (mcode mX12_match) 170 = .ok (.aload_n 0, 1) := by decide +kernel
theorem dX12_match_171 : decode (mcode mX12_match) 171 = .ok (.getfield 102, 3) := by decide +kernel
theorem dX12_match_174 : decode (mcode mX12_match) 174 = .ok (.bipush 13, 2) := by decide +kernel
theorem dX12_match_176 : decode (mcode mX12_match) 176 = .ok (.iload 4, 2) := by decide +kernel
theorem dX12_match_178 : decode (mcode mX12_match) 178 = .ok (.imul, 1) := by decide +kernel
theorem dX12_match_179 : decode (mcode mX12_match) 179 = .ok (.bipush 14, 2) := by decide +kernel
theorem dX12_match_181 : decode (mcode mX12_match) 181 = .ok (.iadd, 1) := by decide +kernel
theorem dX12_match_182 : decode (mcode mX12_match) 182 = .ok (.iload 5, 2) := by decide +kernel
theorem dX12_match_184 : decode (mcode mX12_match) 184 = .ok (.iadd, 1) := by decide +kernel
theorem dX12_match_185 : decode (mcode mX12_match) 185 = .ok (.iaload, 1) := by decide +kernel
theorem dX12_match_186 : decode (mcode mX12_match) 186 = .ok (.iconst 1, 1) := by decide +kernel
theorem dX12_match_187 : decode (mcode mX12_match) 187 = .ok (.iadd, 1) := by decide +kernel
theorem dX12_match_188 : decode (mcode mX12_match) 188 = .ok (.goto 4, 3) := by decide +kernel
theorem dX12_match_191 : decode (mcode mX12_match) 191 = .ok (.iconst 0, 1) := by decide +kernel
theorem dX12_match_192 : decode (mcode mX12_match) 192 = .ok (.istore 7, 2) := by decide +kernel
theorem dX12_match_194 : decode (mcode mX12_match) 194 = .ok (.aload_n 0, 1) := by decide +kernel
theorem dX12_match_195 : decode (mcode mX12_match) 195 = .ok (.getfield 102, 3) := by decide +kernel
theorem dX12_match_198 : decode (mcode mX12_match) 198 = .ok (.bipush 13, 2) := by decide +kernel
theorem dX12_match_200 : decode (mcode mX12_match) 200 = .ok (.iload 4, 2) := by decide +kernel
theorem dX12_match_202 : decode (mcode mX12_match) 202 = .ok (.imul, 1) := by decide +kernel
theorem dX12_match_203 : decode (mcode mX12_match) 203 = .ok (.iload 5, 2) := by decide +kernel
theorem dX12_match_205 : decode (mcode mX12_match) 205 = .ok (.iadd, 1) := by decide +kernel
theorem dX12_match_206 : decode (mcode mX12_match) 206 = .ok (.iload 6, 2) := by decide +kernel
theorem dX12_match_208 : decode (mcode mX12_match) 208 = .ok (.iload 7, 2) := by decide +kernel
theorem dX12_match_210 : decode (mcode mX12_match) 210 = .ok (.if_icmp .le 8, 3) := by decide +kernel
theorem dX12_match_213 : decode (mcode mX12_match) 213 = .ok (.iload 6, 2) := by decide +kernel
theorem dX12_match_215 : decode (mcode mX12_match) 215 = .ok (.goto 5, 3) := by decide +kernel
theorem dX12_match_218 : decode (mcode mX12_match) 218 = .ok (.iload 7, 2) := by decide +kernel
theorem dX12_match_220 : decode (mcode mX12_match) 220 = .ok (.iastore, 1) := by decide +kernel
theorem dX12_match_221 : decode (mcode mX12_match) 221 = .ok (.iinc 5 (-1), 3) := by decide +kernel
theorem dX12_match_224 : decode (mcode mX12_match) 224 = .ok (.goto (-150), 3) := by decide +kernel
theorem dX12_match_227 : decode (mcode mX12_match) 227 = .ok (.iinc 4 (-1), 3) := by decide +kernel
theorem dX12_match_230 : decode (mcode mX12_match) 230 = .ok (.goto (-169), 3) := by decide +kernel
theorem dX12_match_233 : decode (mcode mX12_match) 233 = .ok (.return_, 1) := by decide +kernel
theorem dX12_mayBe_0 : decode (mcode mX12_mayBe) 0 = .ok (.aload_n 0, 1) := by decide +kernel
theorem dX12_mayBe_1 : decode (mcode mX12_mayBe) 1 = .ok (.iload_n 1, 1) := by decide +kernel
theorem dX12_mayBe_2 : decode (mcode mX12_mayBe) 2 = .ok (.iload_n 2, 1) := by decide +kernel
theorem dX12_mayBe_3 : decode (mcode mX12_mayBe) 3 = .ok (.invokevirtual 286, 3) := by decide +kernel
theorem dX12_mayBe_6 : decode (mcode mX12_mayBe) 6 = .ok (.ifCond .ne 5, 3) := by decide +kernel
theorem dX12_mayBe_9 : decode (mcode mX12_mayBe) 9 = .ok (.iconst 0, 1) := by decide +kernel
theorem dX12_mayBe_10 : decode (mcode mX12_mayBe) 10 = .ok (.ireturn, 1) := by decide +kernel
theorem dX12_mayBe_11 : decode (mcode mX12_mayBe) 11 = .ok (.aload_n 0, 1) := by decide +kernel
theorem dX12_mayBe_12 : decode (mcode mX12_mayBe) 12 = .ok (.getfield 44, 3) := by decide +kernel
theorem dX12_mayBe_15 : decode (mcode mX12_mayBe) 15 = .ok (.iload_n 1, 1) := by decide +kernel
theorem dX12_mayBe_16 : decode (mcode mX12_mayBe) 16 = .ok (.iaload, 1) := by decide +kernel
theorem dX12_mayBe_17 : decode (mcode mX12_mayBe) 17 = .ok (.ldc 144, 2) := by decide +kernel
theorem dX12_mayBe_19 : decode (mcode mX12_mayBe) 19 = .ok (.if_icmp .eq 54, 3) := by decide +kernel
theorem dX12_mayBe_22 : decode (mcode mX12_mayBe) 22 = .ok (.aload_n 0, 1) := by decide +kernel
theorem dX12_mayBe_23 : decode (mcode mX12_mayBe) 23 = .ok (.getfield 44, 3) := by decide +kernel
theorem dX12_mayBe_26 : decode (mcode mX12_mayBe) 26 = .ok (.iload_n 2, 1) := by decide +kernel
theorem dX12_mayBe_27 : decode (mcode mX12_mayBe) 27 = .ok (.iaload, 1) := by decide +kernel
theorem dX12_mayBe_28 : decode (mcode mX12_mayBe) 28 = .ok (.ldc 144, 2) := by decide +kernel
theorem dX12_mayBe_30 : decode (mcode mX12_mayBe) 30 = .ok (.if_icmp .eq 43, 3) := by decide +kernel
theorem dX12_mayBe_33 : decode (mcode mX12_mayBe) 33 = .ok (.aload_n 0, 1) := by decide +kernel
theorem dX12_mayBe_34 : decode (mcode mX12_mayBe) 34 = .ok (.getfield 44, 3) := by decide +kernel
theorem dX12_mayBe_37 : decode (mcode mX12_mayBe) 37 = .ok (.iload_n 1, 1) := by decide +kernel
theorem dX12_mayBe_38 : decode (mcode mX12_mayBe) 38 = .ok (.iaload, 1) := by decide +kernel
theorem dX12_mayBe_39 : decode (mcode mX12_mayBe) 39 = .ok (.aload_n 0, 1) := by decide +kernel
theorem dX12_mayBe_40 : decode (mcode mX12_mayBe) 40 = .ok (.getfield 44, 3) := by decide +kernel
theorem dX12_mayBe_43 : decode (mcode mX12_mayBe) 43 = .ok (.iload_n 2, 1) := by decide +kernel
theorem dX12_mayBe_44 : decode (mcode mX12_mayBe) 44 = .ok (.iaload, 1) := by decide +kernel
theorem dX12_mayBe_45 : decode (mcode mX12_mayBe) 45 = .ok (.isub, 1) := by decide +kernel
theorem dX12_mayBe_46 : decode (mcode mX12_mayBe) 46 = .ok (.aload_n 0, 1) := by decide +kernel
theorem dX12_mayBe_47 : decode (mcode mX12_mayBe) 47 = .ok (.iload_n 1, 1) := by decide +kernel
theorem dX12_mayBe_48 : decode (mcode mX12_mayBe) 48 = .ok (.invokevirtual 246, 3) := by decide +kernel
theorem dX12_mayBe_51 : decode (mcode mX12_mayBe) 51 = .ok (.aload_n 0, 1) := by decide +kernel
theorem dX12_mayBe_52 : decode (mcode mX12_mayBe) 52 = .ok (.iload_n 2, 1) := by decide +kernel
theorem dX12_mayBe_53 : decode (mcode mX12_mayBe) 53 = .ok (.invokevirtual 246, 3) := by decide +kernel
theorem dX12_mayBe_56 : decode (mcode mX12_mayBe) 56 = .ok (.isub, 1) := by decide +kernel
theorem dX12_mayBe_57 : decode (mcode mX12_mayBe) 57 = .ok (.isub, 1) := by decide +kernel
theorem dX12_mayBe_58 : decode (mcode mX12_mayBe) 58 = .ok (.i2l, 1) := by decide +kernel
theorem dX12_mayBe_59 : decode (mcode mX12_mayBe) 59 = .ok (.ldc2_w 290, 3) := by decide +kernel
theorem dX12_mayBe_62 : decode (mcode mX12_mayBe) 62 = .ok (.ldc2_w 126, 3) := by decide +kernel
theorem dX12_mayBe_65 : decode (mcode mX12_mayBe) 65 = .ok (.invokestatic 118, 3) := by decide +kernel
theorem dX12_mayBe_68 : decode (mcode mX12_mayBe) 68 = .ok (.ifCond .ne 5, 3) := by decide +kernel
theorem dX12_mayBe_71 : decode (mcode mX12_mayBe) 71 = .ok (.iconst 0, 1) := by decide +kernel
theorem dX12_mayBe_72 : decode (mcode mX12_mayBe) 72 = .ok (.ireturn, 1) := by decide +kernel
theorem dX12_mayBe_73 : decode (mcode mX12_mayBe) 73 = .ok (.aload_n 0, 1) := by decide +kernel
theorem dX12_mayBe_74 : decode (mcode mX12_mayBe) 74 = .ok (.iload_n 1, 1) := by decide +kernel
theorem dX12_mayBe_75 : decode (mcode mX12_mayBe) 75 = .ok (.invokevirtual 292, 3) := by decide +kernel
theorem dX12_mayBe_78 : decode (mcode mX12_mayBe) 78 = .ok (.ifCond .eq 33, 3) := by decide +kernel
theorem dX12_mayBe_81 : decode (mcode mX12_mayBe) 81 = .ok (.aload_n 0, 1) := by decide +kernel
theorem dX12_mayBe_82 : decode (mcode mX12_mayBe) 82 = .ok (.iload_n 2, 1) := by decide +kernel
theorem dX12_mayBe_83 : decode (mcode mX12_mayBe) 83 = .ok (.invokevirtual 292, 3) := by decide +kernel
theorem dX12_mayBe_86 : decode (mcode mX12_mayBe) 86 = .ok (.ifCond .eq 25, 3) := by decide +kernel
theorem dX12_mayBe_89 : decode (mcode mX12_mayBe) 89 = .ok (.aload_n 0, 1) := by decide +kernel
theorem dX12_mayBe_90 : decode (mcode mX12_mayBe) 90 = .ok (.iload_n 1, 1) := by decide +kernel
theorem dX12_mayBe_91 : decode (mcode mX12_mayBe) 91 = .ok (.invokevirtual 246, 3) := by decide +kernel
theorem dX12_mayBe_94 : decode (mcode mX12_mayBe) 94 = .ok (.aload_n 0, 1) := by decide +kernel
theorem dX12_mayBe_95 : decode (mcode mX12_mayBe) 95 = .ok (.iload_n 2, 1) := by decide +kernel
theorem dX12_mayBe_96 : decode (mcode mX12_mayBe) 96 = .ok (.invokevirtual 246, 3) := by decide +kernel
theorem dX12_mayBe_99 : decode (mcode mX12_mayBe) 99 = .ok (.if_icmp .ne 12, 3) := by decide +kernel
theorem dX12_mayBe_102 : decode (mcode mX12_mayBe) 102 = .ok (.aload_n 0, 1) := by decide +kernel
theorem dX12_mayBe_103 : decode (mcode mX12_mayBe) 103 = .ok (.iload_n 1, 1) := by decide +kernel
theorem dX12_mayBe_104 : decode (mcode mX12_mayBe) 104 = .ok (.iload_n 2, 1) := by decide +kernel
theorem dX12_mayBe_105 : decode (mcode mX12_mayBe) 105 = .ok (.invokevirtual 295, 3) := by decide +kernel
theorem dX12_mayBe_108 : decode (mcode mX12_mayBe) 108 = .ok (.ifCond .eq 7, 3) := by decide +kernel
theorem dX12_mayBe_111 : decode (mcode mX12_mayBe) 111 = .ok (.iconst 1, 1) := by decide +kernel
theorem dX12_mayBe_112 : decode (mcode mX12_mayBe) 112 = .ok (.goto 4, 3) := by decide +kernel
theorem dX12_mayBe_115 : decode (mcode mX12_mayBe) 115 = .ok (.iconst 0, 1) := by decide +kernel
theorem dX12_mayBe_116 : decode (mcode mX12_mayBe) 116 = .ok (.ireturn, 1) := by decide +kernel
theorem dX12_missing_0 : decode (mcode mX12_missing) 0 = .ok (.aload_n 0, 1) := by decide +kernel
theorem dX12_missing_1 : decode (mcode mX12_missing) 1 = .ok (.iconst 0, 1) := by decide +kernel
theorem dX12_missing_2 : decode (mcode mX12_missing) 2 = .ok (.putfield 108, 3) := by decide +kernel
theorem dX12_missing_5 : decode (mcode mX12_missing) 5 = .ok (.aload_n 0, 1) := by decide +kernel
theorem dX12_missing_6 : decode (mcode mX12_missing) 6 = .ok (.iload_n 1, 1) := by decide +kernel
theorem dX12_missing_7 : decode (mcode mX12_missing) 7 = .ok (.invokevirtual 337, 3) := by decide +kernel
theorem dX12_missing_10 : decode (mcode mX12_missing) 10 = .ok (.ifCond .eq 28, 3) := by decide +kernel
theorem dX12_missing_13 : decode (mcode mX12_missing) 13 = .ok (.aload_n 0, 1) := by decide +kernel
theorem dX12_missing_14 : decode (mcode mX12_missing) 14 = .ok (.iload_n 2, 1) := by decide +kernel
theorem dX12_missing_15 : decode (mcode mX12_missing) 15 = .ok (.invokevirtual 337, 3) := by decide +kernel
theorem dX12_missing_18 : decode (mcode mX12_missing) 18 = .ok (.ifCond .eq 20, 3) := by decide +kernel
theorem dX12_missing_21 : decode (mcode mX12_missing) 21 = .ok (.iload_n 1, 1) := by decide +kernel
theorem dX12_missing_22 : decode (mcode mX12_missing) 22 = .ok (.iload_n 2, 1) := by decide +kernel
theorem dX12_missing_23 : decode (mcode mX12_missing) 23 = .ok (.if_icmp .eq 15, 3) := by decide +kernel
theorem dX12_missing_26 : decode (mcode mX12_missing) 26 = .ok (.iload_n 3, 1) := by decide +kernel
theorem dX12_missing_27 : decode (mcode mX12_missing) 27 = .ok (.i2l, 1) := by decide +kernel
theorem dX12_missing_28 : decode (mcode mX12_missing) 28 = .ok (.lconst 0, 1) := by decide +kernel
theorem dX12_missing_29 : decode (mcode mX12_missing) 29 = .ok (.ldc2_w 126, 3) := by decide +kernel
theorem dX12_missing_32 : decode (mcode mX12_missing) 32 = .ok (.invokestatic 118, 3) := by decide +kernel
theorem dX12_missing_35 : decode (mcode mX12_missing) 35 = .ok (.ifCond .ne 6, 3) := by decide +kernel
theorem dX12_missing_38 : decode (mcode mX12_missing) 38 = .ok (.ldc 128, 2) := by decide +kernel
theorem dX12_missing_40 : decode (mcode mX12_missing) 40 = .ok (.ireturn, 1) := by decide +kernel
theorem dX12_missing_41 : decode (mcode mX12_missing) 41 = .ok (.iconst 0, 1) := by decide +kernel
theorem dX12_missing_42 : decode (mcode mX12_missing) 42 = .ok (.istore 4, 2) := by decide +kernel
theorem dX12_missing_44 : decode (mcode mX12_missing) 44 = .ok (.iconst 0, 1) := by decide +kernel
theorem dX12_missing_45 : decode (mcode mX12_missing) 45 = .ok (.istore 5, 2) := by decide +kernel
theorem dX12_missing_47 : decode (mcode mX12_missing) 47 = .ok (.iconst 0, 1) := by decide +kernel
theorem dX12_missing_48 : decode (mcode mX12_missing) 48 = .ok (.istore 6, 2) := by decide +kernel
theorem dX12_missing_50 : decode (mcode mX12_missing) 50 = .ok (.iconst 0, 1) := by decide +kernel
theorem dX12_missing_51 : decode (mcode mX12_missing) 51 = .ok (.istore 7, 2) := by decide +kernel
theorem dX12_missing_53 : decode (mcode mX12_missing) 53 = .ok (.iload 7, 2) := by decide +kernel
theorem dX12_missing_55 : decode (mcode mX12_missing) 55 = .ok (.aload_n 0, 1) := by decide +kernel
theorem dX12_missing_56 : decode (mcode mX12_missing) 56 = .ok (.getfield 227, 3) := by decide +kernel
theorem dX12_missing_59 : decode (mcode mX12_missing) 59 = .ok (.if_icmp .ge 143, 3) := by decide +kernel
theorem dX12_missing_62 : decode (mcode mX12_missing) 62 = .ok (.iload 4, 2) := by decide +kernel
theorem dX12_missing_64 : decode (mcode mX12_missing) 64 = .ok (.aload_n 0, 1) := by decide +kernel
theorem dX12_missing_65 : decode (mcode mX12_missing) 65 = .ok (.getfield 32, 3) := by decide +kernel
theorem dX12_missing_68 : decode (mcode mX12_missing) 68 = .ok (.iload 7, 2) := by decide +kernel
theorem dX12_missing_70 : decode (mcode mX12_missing) 70 = .ok (.iaload, 1) := by decide +kernel
theorem dX12_missing_71 : decode (mcode mX12_missing) 71 = .ok (.iload_n 1, 1) := by decide +kernel
theorem dX12_missing_72 : decode (mcode mX12_missing) 72 = .ok (.if_icmp .ne 7, 3) := by decide +kernel
theorem dX12_missing_75 : decode (mcode mX12_missing) 75 = .ok (.iconst 1, 1) := by decide +kernel
theorem dX12_missing_76 : decode (mcode mX12_missing) 76 = .ok (.goto 4, 3) := by decide +kernel
theorem dX12_missing_79 : decode (mcode mX12_missing) 79 = .ok (.iconst 0, 1) := by decide +kernel
theorem dX12_missing_80 : decode (mcode mX12_missing) 80 = .ok (.iadd, 1) := by decide +kernel
theorem dX12_missing_81 : decode (mcode mX12_missing) 81 = .ok (.istore 4, 2) := by decide +kernel
theorem dX12_missing_83 : decode (mcode mX12_missing) 83 = .ok (.iload 5, 2) := by decide +kernel
theorem dX12_missing_85 : decode (mcode mX12_missing) 85 = .ok (.aload_n 0, 1) := by decide +kernel
theorem dX12_missing_86 : decode (mcode mX12_missing) 86 = .ok (.getfield 32, 3) := by decide +kernel
theorem dX12_missing_89 : decode (mcode mX12_missing) 89 = .ok (.iload 7, 2) := by decide +kernel
theorem dX12_missing_91 : decode (mcode mX12_missing) 91 = .ok (.iaload, 1) := by decide +kernel
theorem dX12_missing_92 : decode (mcode mX12_missing) 92 = .ok (.iload_n 2, 1) := by decide +kernel
theorem dX12_missing_93 : decode (mcode mX12_missing) 93 = .ok (.if_icmp .ne 7, 3) := by decide +kernel
theorem dX12_missing_96 : decode (mcode mX12_missing) 96 = .ok (.iconst 1, 1) := by decide +kernel
theorem dX12_missing_97 : decode (mcode mX12_missing) 97 = .ok (.goto 4, 3) := by decide +kernel
theorem dX12_missing_100 : decode (mcode mX12_missing) 100 = .ok (.iconst 0, 1) := by decide +kernel
theorem dX12_missing_101 : decode (mcode mX12_missing) 101 = .ok (.iadd, 1) := by decide +kernel
theorem dX12_missing_102 : decode (mcode mX12_missing) 102 = .ok (.istore 5, 2) := by decide +kernel
theorem dX12_missing_104 : decode (mcode mX12_missing) 104 = .ok (.iconst 0, 1) := by decide +kernel
theorem dX12_missing_105 : decode (mcode mX12_missing) 105 = .ok (.istore 8, 2) := by decide +kernel
theorem dX12_missing_107 : decode (mcode mX12_missing) 107 = .ok (.iconst 0, 1) := by decide +kernel
theorem dX12_missing_108 : decode (mcode mX12_missing) 108 = .ok (.istore 9, 2) := by decide +kernel
theorem dX12_missing_110 : decode (mcode mX12_missing) 110 = .ok (.iload 9, 2) := by decide +kernel
theorem dX12_missing_112 : decode (mcode mX12_missing) 112 = .ok (.aload_n 0, 1) := by decide +kernel
theorem dX12_missing_113 : decode (mcode mX12_missing) 113 = .ok (.getfield 227, 3) := by decide +kernel
theorem dX12_missing_116 : decode (mcode mX12_missing) 116 = .ok (.if_icmp .ge 65, 3) := by decide +kernel
theorem dX12_missing_119 : decode (mcode mX12_missing) 119 = .ok (.aload_n 0, 1) := by decide +kernel
theorem dX12_missing_120 : decode (mcode mX12_missing) 120 = .ok (.getfield 32, 3) := by decide +kernel
theorem dX12_missing_123 : decode (mcode mX12_missing) 123 = .ok (.iload 7, 2) := by decide +kernel
theorem dX12_missing_125 : decode (mcode mX12_missing) 125 = .ok (.iaload, 1) := by decide +kernel
theorem dX12_missing_126 : decode (mcode mX12_missing) 126 = .ok (.iload_n 1, 1) := by decide +kernel
theorem dX12_missing_127 : decode (mcode mX12_missing) 127 = .ok (.if_icmp .ne 54, 3) := by decide +kernel
theorem dX12_missing_130 : decode (mcode mX12_missing) 130 = .ok (.iload 8, 2) := by decide +kernel
theorem dX12_missing_132 : decode (mcode mX12_missing) 132 = .ok (.ifCond .ne 36, 3) := by decide +kernel
theorem dX12_missing_135 : decode (mcode mX12_missing) 135 = .ok (.aload_n 0, 1) := by decide +kernel
theorem dX12_missing_136 : decode (mcode mX12_missing) 136 = .ok (.getfield 32, 3) := by decide +kernel
theorem dX12_missing_139 : decode (mcode mX12_missing) 139 = .ok (.iload 9, 2) := by decide +kernel
theorem dX12_missing_141 : decode (mcode mX12_missing) 141 = .ok (.iaload, 1) := by decide +kernel
theorem dX12_missing_142 : decode (mcode mX12_missing) 142 = .ok (.iload_n 2, 1) := by decide +kernel
theorem dX12_missing_143 : decode (mcode mX12_missing) 143 = .ok (.if_icmp .ne 29, 3) := by decide +kernel
theorem dX12_missing_146 : decode (mcode mX12_missing) 146 = .ok (.aload_n 0, 1) := by decide +kernel
theorem dX12_missing_147 : decode (mcode mX12_missing) 147 = .ok (.iload 7, 2) := by decide +kernel
theorem dX12_missing_149 : decode (mcode mX12_missing) 149 = .ok (.iload 9, 2) := by decide +kernel
theorem dX12_missing_151 : decode (mcode mX12_missing) 151 = .ok (.invokevirtual 286, 3) := by decide +kernel
theorem dX12_missing_154 : decode (mcode mX12_missing) 154 = .ok (.ifCond .eq 18, 3) := by decide +kernel
theorem dX12_missing_157 : decode (mcode mX12_missing) 157 = .ok (.aload_n 0, 1) := by decide +kernel
theorem dX12_missing_158 : decode (mcode mX12_missing) 158 = .ok (.iload 7, 2) := by decide +kernel
theorem dX12_missing_160 : decode (mcode mX12_missing) 160 = .ok (.iload 9, 2) := by decide +kernel
theorem dX12_missing_162 : decode (mcode mX12_missing) 162 = .ok (.invokevirtual 295, 3) := by decide +kernel
theorem dX12_missing_165 : decode (mcode mX12_missing) 165 = .ok (.ifCond .eq 7, 3) := by decide +kernel
theorem dX12_missing_168 : decode (mcode mX12_missing) 168 = .ok (.iconst 1, 1) := by decide +kernel
theorem dX12_missing_169 : decode (mcode mX12_missing) 169 = .ok (.goto 4, 3) := by decide +kernel
theorem dX12_missing_172 : decode (mcode mX12_missing) 172 = .ok (.iconst 0, 1) := by decide +kernel
theorem dX12_missing_173 : decode (mcode mX12_missing) 173 = .ok (.istore 8, 2) := by decide +kernel
theorem dX12_missing_175 : decode (mcode mX12_missing) 175 = .ok (.iinc 9 1, 3) := by decide +kernel
theorem dX12_missing_178 : decode (mcode mX12_missing) 178 = .ok (.goto (-68), 3) := by decide +kernel
theorem dX12_missing_181 : decode (mcode mX12_missing) 181 = .ok (.iload 6, 2) := by decide +kernel
theorem dX12_missing_183 : decode (mcode mX12_missing) 183 = .ok (.iload 8, 2) := by decide +kernel
theorem dX12_missing_185 : decode (mcode mX12_missing) 185 = .ok (.ifCond .eq 7, 3) := by decide +kernel
theorem dX12_missing_188 : decode (mcode mX12_missing) 188 = .ok (.iconst 1, 1) := by decide +kernel
theorem dX12_missing_189 : decode (mcode mX12_missing) 189 = .ok (.goto 4, 3) := by decide +kernel
theorem dX12_missing_192 : decode (mcode mX12_missing) 192 = .ok (.iconst 0, 1) := by decide +kernel
theorem dX12_missing_193 : decode (mcode mX12_missing) 193 = .ok (.iadd, 1) := by decide +kernel
theorem dX12_missing_194 : decode (mcode mX12_missing) 194 = .ok (.istore 6, 2) := by decide +kernel
theorem dX12_missing_196 : decode (mcode mX12_missing) 196 = .ok (.iinc 7 1, 3) := by decide +kernel
theorem dX12_missing_199 : decode (mcode mX12_missing) 199 = .ok (.goto (-146), 3) := by decide +kernel
theorem dX12_missing_202 : decode (mcode mX12_missing) 202 = .ok (.iload_n 3, 1) := by decide +kernel
theorem dX12_missing_203 : decode (mcode mX12_missing) 203 = .ok (.iconst 2, 1) := by decide +kernel
theorem dX12_missing_204 : decode (mcode mX12_missing) 204 = .ok (.if_icmp .ne 8, 3) := by decide +kernel
theorem dX12_missing_207 : decode (mcode mX12_missing) 207 = .ok (.iload 6, 2) := by decide +kernel
theorem dX12_missing_209 : decode (mcode mX12_missing) 209 = .ok (.goto 37, 3) := by decide +kernel
theorem dX12_missing_212 : decode (mcode mX12_missing) 212 = .ok (.iload_n 3, 1) := by decide +kernel
theorem dX12_missing_213 : decode (mcode mX12_missing) 213 = .ok (.iconst 1, 1) := by decide +kernel
theorem dX12_missing_214 : decode (mcode mX12_missing) 214 = .ok (.if_icmp .ne 14, 3) := by decide +kernel
theorem dX12_missing_217 : decode (mcode mX12_missing) 217 = .ok (.iload 4, 2) := by decide +kernel
theorem dX12_missing_219 : decode (mcode mX12_missing) 219 = .ok (.iload 5, 2) := by decide +kernel
theorem dX12_missing_221 : decode (mcode mX12_missing) 221 = .ok (.iadd, 1) := by decide +kernel
theorem dX12_missing_222 : decode (mcode mX12_missing) 222 = .ok (.iload 6, 2) := by decide +kernel
theorem dX12_missing_224 : decode (mcode mX12_missing) 224 = .ok (.isub, 1) := by decide +kernel
theorem dX12_missing_225 : decode (mcode mX12_missing) 225 = .ok (.goto 21, 3) := by decide +kernel
theorem dX12_missing_228 : decode (mcode mX12_missing) 228 = .ok (.iload 6, 2) := by decide +kernel
theorem dX12_missing_230 : decode (mcode mX12_missing) 230 = .ok (.ifCond .ne 8, 3) := by decide +kernel
theorem dX12_missing_233 : decode (mcode mX12_missing) 233 = .ok (.ldc 144, 2) := by decide +kernel
theorem dX12_missing_235 : decode (mcode mX12_missing) 235 = .ok (.goto 11, 3) := by decide +kernel
theorem dX12_missing_238 : decode (mcode mX12_missing) 238 = .ok (.iload 4, 2) := by decide +kernel
theorem dX12_missing_240 : decode (mcode mX12_missing) 240 = .ok (.iload 5, 2) := by decide +kernel
theorem dX12_missing_242 : decode (mcode mX12_missing) 242 = .ok (.imul, 1) := by decide +kernel
theorem dX12_missing_243 : decode (mcode mX12_missing) 243 = .ok (.iload 6, 2) := by decide +kernel
theorem dX12_missing_245 : decode (mcode mX12_missing) 245 = .ok (.idiv, 1) := by decide +kernel
theorem dX12_missing_246 : decode (mcode mX12_missing) 246 = .ok (.ireturn, 1) := by decide +kernel
theorem dX12_next_0 : decode (mcode mX12_next) 0 = .ok (.aload_n 0, 1) := by decide +kernel
theorem dX12_next_1 : decode (mcode mX12_next) 1 = .ok (.iconst 0, 1) := by decide +kernel
theorem dX12_next_2 : decode (mcode mX12_next) 2 = .ok (.putfield 108, 3) := by decide +kernel
theorem dX12_next_5 : decode (mcode mX12_next) 5 = .ok (.ldc 144, 2) := by decide +kernel
theorem dX12_next_7 : decode (mcode mX12_next) 7 = .ok (.istore_n 1, 1) := by decide +kernel
theorem dX12_next_8 : decode (mcode mX12_next) 8 = .ok (.iconst 0, 1) := by decide +kernel
theorem dX12_next_9 : decode (mcode mX12_next) 9 = .ok (.istore_n 2, 1) := by decide +kernel
theorem dX12_next_10 : decode (mcode mX12_next) 10 = .ok (.iconst 0, 1) := by decide +kernel
theorem dX12_next_11 : decode (mcode mX12_next) 11 = .ok (.istore_n 3, 1) := by decide +kernel
theorem dX12_next_12 : decode (mcode mX12_next) 12 = .ok (.iload_n 3, 1) := by decide +kernel
theorem dX12_next_13 : decode (mcode mX12_next) 13 = .ok (.aload_n 0, 1) := by decide +kernel
theorem dX12_next_14 : decode (mcode mX12_next) 14 = .ok (.getfield 224, 3) := by decide +kernel
theorem dX12_next_17 : decode (mcode mX12_next) 17 = .ok (.if_icmp .ge 167, 3) := by decide +kernel
theorem dX12_next_20 : decode (mcode mX12_next) 20 = .ok (.iconst 0, 1) := by decide +kernel
theorem dX12_next_21 : decode (mcode mX12_next) 21 = .ok (.istore 4, 2) := by decide +kernel
theorem dX12_next_23 : decode (mcode mX12_next) 23 = .ok (.iconst 0, 1) := by decide +kernel
theorem dX12_next_24 : decode (mcode mX12_next) 24 = .ok (.istore 5, 2) := by decide +kernel
theorem dX12_next_26 : decode (mcode mX12_next) 26 = .ok (.iload 5, 2) := by decide +kernel
theorem dX12_next_28 : decode (mcode mX12_next) 28 = .ok (.aload_n 0, 1) := by decide +kernel
theorem dX12_next_29 : decode (mcode mX12_next) 29 = .ok (.getfield 227, 3) := by decide +kernel
theorem dX12_next_32 : decode (mcode mX12_next) 32 = .ok (.if_icmp .ge 105, 3) := by decide +kernel
theorem dX12_next_35 : decode (mcode mX12_next) 35 = .ok (.iconst 0, 1) := by decide +kernel
theorem dX12_next_36 : decode (mcode mX12_next) 36 = .ok (.istore 6, 2) := by decide +kernel
theorem dX12_next_38 : decode (mcode mX12_next) 38 = .ok (.iconst 0, 1) := by decide +kernel
theorem dX12_next_39 : decode (mcode mX12_next) 39 = .ok (.istore 7, 2) := by decide +kernel
theorem dX12_next_41 : decode (mcode mX12_next) 41 = .ok (.iload 7, 2) := by decide +kernel
theorem dX12_next_43 : decode (mcode mX12_next) 43 = .ok (.aload_n 0, 1) := by decide +kernel
theorem dX12_next_44 : decode (mcode mX12_next) 44 = .ok (.getfield 227, 3) := by decide +kernel
theorem dX12_next_47 : decode (mcode mX12_next) 47 = .ok (.if_icmp .ge 58, 3) := by decide +kernel
theorem dX12_next_50 : decode (mcode mX12_next) 50 = .ok (.aload_n 0, 1) := by decide +kernel
theorem dX12_next_51 : decode (mcode mX12_next) 51 = .ok (.getfield 32, 3) := by decide +kernel
theorem dX12_next_54 : decode (mcode mX12_next) 54 = .ok (.iload 5, 2) := by decide +kernel
theorem dX12_next_56 : decode (mcode mX12_next) 56 = .ok (.iaload, 1) := by decide +kernel
theorem dX12_next_57 : decode (mcode mX12_next) 57 = .ok (.iload_n 3, 1) := by decide +kernel
theorem dX12_next_58 : decode (mcode mX12_next) 58 = .ok (.if_icmp .ne 47, 3) := by decide +kernel
theorem dX12_next_61 : decode (mcode mX12_next) 61 = .ok (.iload 6, 2) := by decide +kernel
theorem dX12_next_63 : decode (mcode mX12_next) 63 = .ok (.ifCond .ne 29, 3) := by decide +kernel
theorem dX12_next_66 : decode (mcode mX12_next) 66 = .ok (.aload_n 0, 1) := by decide +kernel
theorem dX12_next_67 : decode (mcode mX12_next) 67 = .ok (.getfield 28, 3) := by decide +kernel
theorem dX12_next_70 : decode (mcode mX12_next) 70 = .ok (.aload_n 0, 1) := by decide +kernel
theorem dX12_next_71 : decode (mcode mX12_next) 71 = .ok (.getfield 32, 3) := by decide +kernel
theorem dX12_next_74 : decode (mcode mX12_next) 74 = .ok (.iload 7, 2) := by decide +kernel
theorem dX12_next_76 : decode (mcode mX12_next) 76 = .ok (.iaload, 1) := by decide +kernel
theorem dX12_next_77 : decode (mcode mX12_next) 77 = .ok (.baload, 1) := by decide +kernel
theorem dX12_next_78 : decode (mcode mX12_next) 78 = .ok (.ifCond .eq 18, 3) := by decide +kernel
theorem dX12_next_81 : decode (mcode mX12_next) 81 = .ok (.aload_n 0, 1) := by decide +kernel
theorem dX12_next_82 : decode (mcode mX12_next) 82 = .ok (.iload 5, 2) := by decide +kernel
theorem dX12_next_84 : decode (mcode mX12_next) 84 = .ok (.iload 7, 2) := by decide +kernel
theorem dX12_next_86 : decode (mcode mX12_next) 86 = .ok (.invokevirtual 295, 3) := by decide +kernel
theorem dX12_next_89 : decode (mcode mX12_next) 89 = .ok (.ifCond .eq 7, 3) := by decide +kernel
theorem dX12_next_92 : decode (mcode mX12_next) 92 = .ok (.iconst 1, 1) := by decide +kernel
theorem dX12_next_93 : decode (mcode mX12_next) 93 = .ok (.goto 4, 3) := by decide +kernel
theorem dX12_next_96 : decode (mcode mX12_next) 96 = .ok (.iconst 0, 1) := by decide +kernel
theorem dX12_next_97 : decode (mcode mX12_next) 97 = .ok (.istore 6, 2) := by decide +kernel
theorem dX12_next_99 : decode (mcode mX12_next) 99 = .ok (.iinc 7 1, 3) := by decide +kernel
theorem dX12_next_102 : decode (mcode mX12_next) 102 = .ok (.goto (-61), 3) := by decide +kernel
theorem dX12_next_105 : decode (mcode mX12_next) 105 = .ok (.iload 4, 2) := by decide +kernel
theorem dX12_next_107 : decode (mcode mX12_next) 107 = .ok (.aload_n 0, 1) := by decide +kernel
theorem dX12_next_108 : decode (mcode mX12_next) 108 = .ok (.getfield 32, 3) := by decide +kernel
theorem dX12_next_111 : decode (mcode mX12_next) 111 = .ok (.iload 5, 2) := by decide +kernel
theorem dX12_next_113 : decode (mcode mX12_next) 113 = .ok (.iaload, 1) := by decide +kernel
theorem dX12_next_114 : decode (mcode mX12_next) 114 = .ok (.iload_n 3, 1) := by decide +kernel
theorem dX12_next_115 : decode (mcode mX12_next) 115 = .ok (.if_icmp .ne 12, 3) := by decide +kernel
theorem dX12_next_118 : decode (mcode mX12_next) 118 = .ok (.iload 6, 2) := by decide +kernel
theorem dX12_next_120 : decode (mcode mX12_next) 120 = .ok (.ifCond .ne 7, 3) := by decide +kernel
theorem dX12_next_123 : decode (mcode mX12_next) 123 = .ok (.iconst 1, 1) := by decide +kernel
theorem dX12_next_124 : decode (mcode mX12_next) 124 = .ok (.goto 4, 3) := by decide +kernel
theorem dX12_next_127 : decode (mcode mX12_next) 127 = .ok (.iconst 0, 1) := by decide +kernel
theorem dX12_next_128 : decode (mcode mX12_next) 128 = .ok (.iadd, 1) := by decide +kernel
theorem dX12_next_129 : decode (mcode mX12_next) 129 = .ok (.istore 4, 2) := by decide +kernel
theorem dX12_next_131 : decode (mcode mX12_next) 131 = .ok (.iinc 5 1, 3) := by decide +kernel
theorem dX12_next_134 : decode (mcode mX12_next) 134 = .ok (.goto (-108), 3) := by decide +kernel
theorem dX12_next_137 : decode (mcode mX12_next) 137 = .ok (.sipush 1000, 3) := by decide +kernel
theorem dX12_next_140 : decode (mcode mX12_next) 140 = .ok (.iload 4, 2) := by decide +kernel
theorem dX12_next_142 : decode (mcode mX12_next) 142 = .ok (.imul, 1) := by decide +kernel
theorem dX12_next_143 : decode (mcode mX12_next) 143 = .ok (.aload_n 0, 1) := by decide +kernel
theorem dX12_next_144 : decode (mcode mX12_next) 144 = .ok (.getfield 25, 3) := by decide +kernel
theorem dX12_next_147 : decode (mcode mX12_next) 147 = .ok (.iload_n 3, 1) := by decide +kernel
theorem dX12_next_148 : decode (mcode mX12_next) 148 = .ok (.iaload, 1) := by decide +kernel
theorem dX12_next_149 : decode (mcode mX12_next) 149 = .ok (.idiv, 1) := by decide +kernel
theorem dX12_next_150 : decode (mcode mX12_next) 150 = .ok (.istore 5, 2) := by decide +kernel
theorem dX12_next_152 : decode (mcode mX12_next) 152 = .ok (.aload_n 0, 1) := by decide +kernel
theorem dX12_next_153 : decode (mcode mX12_next) 153 = .ok (.getfield 28, 3) := by decide +kernel
theorem dX12_next_156 : decode (mcode mX12_next) 156 = .ok (.iload_n 3, 1) := by decide +kernel
theorem dX12_next_157 : decode (mcode mX12_next) 157 = .ok (.baload, 1) := by decide +kernel
theorem dX12_next_158 : decode (mcode mX12_next) 158 = .ok (.ifCond .ne 20, 3) := by decide +kernel
theorem dX12_next_161 : decode (mcode mX12_next) 161 = .ok (.iload_n 1, 1) := by decide +kernel
theorem dX12_next_162 : decode (mcode mX12_next) 162 = .ok (.ldc 144, 2) := by decide +kernel
theorem dX12_next_164 : decode (mcode mX12_next) 164 = .ok (.if_icmp .eq 9, 3) := by decide +kernel
theorem dX12_next_167 : decode (mcode mX12_next) 167 = .ok (.iload 5, 2) := by decide +kernel
theorem dX12_next_169 : decode (mcode mX12_next) 169 = .ok (.iload_n 2, 1) := by decide +kernel
theorem dX12_next_170 : decode (mcode mX12_next) 170 = .ok (.if_icmp .le 8, 3) := by decide +kernel
theorem dX12_next_173 : decode (mcode mX12_next) 173 = .ok (.iload_n 3, 1) := by decide +kernel
theorem dX12_next_174 : decode (mcode mX12_next) 174 = .ok (.istore_n 1, 1) := by decide +kernel
theorem dX12_next_175 : decode (mcode mX12_next) 175 = .ok (.iload 5, 2) := by decide +kernel
theorem dX12_next_177 : decode (mcode mX12_next) 177 = .ok (.istore_n 2, 1) := by decide +kernel
theorem dX12_next_178 : decode (mcode mX12_next) 178 = .ok (.iinc 3 1, 3) := by decide +kernel
theorem dX12_next_181 : decode (mcode mX12_next) 181 = .ok (.goto (-169), 3) := by decide +kernel
theorem dX12_next_184 : decode (mcode mX12_next) 184 = .ok (.iload_n 1, 1) := by decide +kernel
theorem dX12_next_185 : decode (mcode mX12_next) 185 = .ok (.ireturn, 1) := by decide +kernel
theorem dX12_numberIn_0 : decode (mcode mX12_numberIn) 0 = .ok (.aload_n 0, 1) := by decide +kernel
theorem dX12_numberIn_1 : decode (mcode mX12_numberIn) 1 = .ok (.getfield 166, 3) := by decide +kernel
theorem dX12_numberIn_4 : decode (mcode mX12_numberIn) 4 = .ok (.ifCond .le 5, 3) := by decide +kernel
theorem dX12_numberIn_7 : decode (mcode mX12_numberIn) 7 = .ok (.iconst 0, 1) := by decide +kernel
theorem dX12_numberIn_8 : decode (mcode mX12_numberIn) 8 = .ok (.ireturn, 1) := by decide +kernel
theorem dX12_numberIn_9 : decode (mcode mX12_numberIn) 9 = .ok (.iconst 0, 1) := by decide +kernel
theorem dX12_numberIn_10 : decode (mcode mX12_numberIn) 10 = .ok (.istore 4, 2) := by decide +kernel
theorem dX12_numberIn_12 : decode (mcode mX12_numberIn) 12 = .ok (.aload_n 0, 1) := by decide +kernel
theorem dX12_numberIn_13 : decode (mcode mX12_numberIn) 13 = .ok (.getfield 151, 3) := by decide +kernel
theorem dX12_numberIn_16 : decode (mcode mX12_numberIn) 16 = .ok (.istore 5, 2) := by decide +kernel
theorem dX12_numberIn_18 : decode (mcode mX12_numberIn) 18 = .ok (.iload 5, 2) := by decide +kernel
theorem dX12_numberIn_20 : decode (mcode mX12_numberIn) 20 = .ok (.aload_n 0, 1) := by decide +kernel
theorem dX12_numberIn_21 : decode (mcode mX12_numberIn) 21 = .ok (.getfield 163, 3) := by decide +kernel
theorem dX12_numberIn_24 : decode (mcode mX12_numberIn) 24 = .ok (.if_icmp .ge 35, 3) := by decide +kernel
theorem dX12_numberIn_27 : decode (mcode mX12_numberIn) 27 = .ok (.aload_n 0, 1) := by decide +kernel
theorem dX12_numberIn_28 : decode (mcode mX12_numberIn) 28 = .ok (.getfield 154, 3) := by decide +kernel
theorem dX12_numberIn_31 : decode (mcode mX12_numberIn) 31 = .ok (.iconst 3, 1) := by decide +kernel
theorem dX12_numberIn_32 : decode (mcode mX12_numberIn) 32 = .ok (.if_icmp .ne 27, 3) := by decide +kernel
theorem dX12_numberIn_35 : decode (mcode mX12_numberIn) 35 = .ok (.bipush 10, 2) := by decide +kernel
theorem dX12_numberIn_37 : decode (mcode mX12_numberIn) 37 = .ok (.iload 4, 2) := by decide +kernel
theorem dX12_numberIn_39 : decode (mcode mX12_numberIn) 39 = .ok (.imul, 1) := by decide +kernel
theorem dX12_numberIn_40 : decode (mcode mX12_numberIn) 40 = .ok (.aload_n 0, 1) := by decide +kernel
theorem dX12_numberIn_41 : decode (mcode mX12_numberIn) 41 = .ok (.getfield 77, 3) := by decide +kernel
theorem dX12_numberIn_44 : decode (mcode mX12_numberIn) 44 = .ok (.iload 5, 2) := by decide +kernel
theorem dX12_numberIn_46 : decode (mcode mX12_numberIn) 46 = .ok (.iaload, 1) := by decide +kernel
theorem dX12_numberIn_47 : decode (mcode mX12_numberIn) 47 = .ok (.iadd, 1) := by decide +kernel
theorem dX12_numberIn_48 : decode (mcode mX12_numberIn) 48 = .ok (.bipush 48, 2) := by decide +kernel
theorem dX12_numberIn_50 : decode (mcode mX12_numberIn) 50 = .ok (.isub, 1) := by decide +kernel
theorem dX12_numberIn_51 : decode (mcode mX12_numberIn) 51 = .ok (.istore 4, 2) := by decide +kernel
theorem dX12_numberIn_53 : decode (mcode mX12_numberIn) 53 = .ok (.iinc 5 1, 3) := by decide +kernel
theorem dX12_numberIn_56 : decode (mcode mX12_numberIn) 56 = .ok (.goto (-38), 3) := by decide +kernel
theorem dX12_numberIn_59 : decode (mcode mX12_numberIn) 59 = .ok (.aload_n 0, 1) := by decide +kernel
theorem dX12_numberIn_60 : decode (mcode mX12_numberIn) 60 = .ok (.getfield 154, 3) := by decide +kernel
theorem dX12_numberIn_63 : decode (mcode mX12_numberIn) 63 = .ok (.iconst 3, 1) := by decide +kernel
theorem dX12_numberIn_64 : decode (mcode mX12_numberIn) 64 = .ok (.if_icmp .ne 27, 3) := by decide +kernel
theorem dX12_numberIn_67 : decode (mcode mX12_numberIn) 67 = .ok (.iload 4, 2) := by decide +kernel
theorem dX12_numberIn_69 : decode (mcode mX12_numberIn) 69 = .ok (.i2l, 1) := by decide +kernel
theorem dX12_numberIn_70 : decode (mcode mX12_numberIn) 70 = .ok (.iload_n 1, 1) := by decide +kernel
theorem dX12_numberIn_71 : decode (mcode mX12_numberIn) 71 = .ok (.i2l, 1) := by decide +kernel
theorem dX12_numberIn_72 : decode (mcode mX12_numberIn) 72 = .ok (.iload_n 2, 1) := by decide +kernel
theorem dX12_numberIn_73 : decode (mcode mX12_numberIn) 73 = .ok (.i2l, 1) := by decide +kernel
theorem dX12_numberIn_74 : decode (mcode mX12_numberIn) 74 = .ok (.invokestatic 118, 3) := by decide +kernel
theorem dX12_numberIn_77 : decode (mcode mX12_numberIn) 77 = .ok (.ifCond .eq 9, 3) := by decide +kernel
theorem dX12_numberIn_80 : decode (mcode mX12_numberIn) 80 = .ok (.iload 4, 2) := by decide +kernel
theorem dX12_numberIn_82 : decode (mcode mX12_numberIn) 82 = .ok (.iload_n 3, 1) := by decide +kernel
theorem dX12_numberIn_83 : decode (mcode mX12_numberIn) 83 = .ok (.if_icmp .ne 8, 3) := by decide +kernel
theorem dX12_numberIn_86 : decode (mcode mX12_numberIn) 86 = .ok (.aload_n 0, 1) := by decide +kernel
theorem dX12_numberIn_87 : decode (mcode mX12_numberIn) 87 = .ok (.iconst 2, 1) := by decide +kernel
theorem dX12_numberIn_88 : decode (mcode mX12_numberIn) 88 = .ok (.invokevirtual 172, 3) := by decide +kernel
theorem dX12_numberIn_91 : decode (mcode mX12_numberIn) 91 = .ok (.aload_n 0, 1) := by decide +kernel
theorem dX12_numberIn_92 : decode (mcode mX12_numberIn) 92 = .ok (.aload_n 0, 1) := by decide +kernel
theorem dX12_numberIn_93 : decode (mcode mX12_numberIn) 93 = .ok (.getfield 154, 3) := by decide +kernel
theorem dX12_numberIn_96 : decode (mcode mX12_numberIn) 96 = .ok (.iconst 3, 1) := by decide +kernel
theorem dX12_numberIn_97 : decode (mcode mX12_numberIn) 97 = .ok (.if_icmp .ne 7, 3) := by decide +kernel
theorem dX12_numberIn_100 : decode (mcode mX12_numberIn) 100 = .ok (.iconst 1, 1) := by decide +kernel
theorem dX12_numberIn_101 : decode (mcode mX12_numberIn) 101 = .ok (.goto 4, 3) := by decide +kernel
theorem dX12_numberIn_104 : decode (mcode mX12_numberIn) 104 = .ok (.iconst 0, 1) := by decide +kernel
theorem dX12_numberIn_105 : decode (mcode mX12_numberIn) 105 = .ok (.invokevirtual 179, 3) := by decide +kernel
theorem dX12_numberIn_108 : decode (mcode mX12_numberIn) 108 = .ok (.iload 4, 2) := by decide +kernel
theorem dX12_numberIn_110 : decode (mcode mX12_numberIn) 110 = .ok (.ireturn, 1) := by decide +kernel
theorem dX12_sizeOf_0 : decode (mcode mX12_sizeOf) 0 = .ok (.aload_n 0, 1) := by decide +kernel
theorem dX12_sizeOf_1 : decode (mcode mX12_sizeOf) 1 = .ok (.getfield 35, 3) := by decide +kernel
theorem dX12_sizeOf_4 : decode (mcode mX12_sizeOf) 4 = .ok (.iload_n 1, 1) := by decide +kernel
theorem dX12_sizeOf_5 : decode (mcode mX12_sizeOf) 5 = .ok (.iaload, 1) := by decide +kernel
theorem dX12_sizeOf_6 : decode (mcode mX12_sizeOf) 6 = .ok (.iconst 1, 1) := by decide +kernel
theorem dX12_sizeOf_7 : decode (mcode mX12_sizeOf) 7 = .ok (.iadd, 1) := by decide +kernel
theorem dX12_sizeOf_8 : decode (mcode mX12_sizeOf) 8 = .ok (.istore_n 2, 1) := by decide +kernel
theorem dX12_sizeOf_9 : decode (mcode mX12_sizeOf) 9 = .ok (.iload_n 2, 1) := by decide +kernel
theorem dX12_sizeOf_10 : decode (mcode mX12_sizeOf) 10 = .ok (.iconst 5, 1) := by decide +kernel
theorem dX12_sizeOf_11 : decode (mcode mX12_sizeOf) 11 = .ok (.if_icmp .ne 16, 3) := by decide +kernel
theorem dX12_sizeOf_14 : decode (mcode mX12_sizeOf) 14 = .ok (.aload_n 0, 1) := by decide +kernel
theorem dX12_sizeOf_15 : decode (mcode mX12_sizeOf) 15 = .ok (.bipush 14, 2) := by decide +kernel
theorem dX12_sizeOf_17 : decode (mcode mX12_sizeOf) 17 = .ok (.invokevirtual 348, 3) := by decide +kernel
theorem dX12_sizeOf_20 : decode (mcode mX12_sizeOf) 20 = .ok (.aload_n 0, 1) := by decide +kernel
theorem dX12_sizeOf_21 : decode (mcode mX12_sizeOf) 21 = .ok (.iload_n 1, 1) := by decide +kernel
theorem dX12_sizeOf_22 : decode (mcode mX12_sizeOf) 22 = .ok (.invokevirtual 351, 3) := by decide +kernel
theorem dX12_sizeOf_25 : decode (mcode mX12_sizeOf) 25 = .ok (.ineg, 1) := by decide +kernel
theorem dX12_sizeOf_26 : decode (mcode mX12_sizeOf) 26 = .ok (.ireturn, 1) := by decide +kernel
theorem dX12_sizeOf_27 : decode (mcode mX12_sizeOf) 27 = .ok (.iload_n 2, 1) := by decide +kernel
theorem dX12_sizeOf_28 : decode (mcode mX12_sizeOf) 28 = .ok (.iconst 2, 1) := by decide +kernel
theorem dX12_sizeOf_29 : decode (mcode mX12_sizeOf) 29 = .ok (.if_icmp .ne 9, 3) := by decide +kernel
theorem dX12_sizeOf_32 : decode (mcode mX12_sizeOf) 32 = .ok (.aload_n 0, 1) := by decide +kernel
theorem dX12_sizeOf_33 : decode (mcode mX12_sizeOf) 33 = .ok (.bipush 12, 2) := by decide +kernel
theorem dX12_sizeOf_35 : decode (mcode mX12_sizeOf) 35 = .ok (.invokevirtual 348, 3) := by decide +kernel
theorem dX12_sizeOf_38 : decode (mcode mX12_sizeOf) 38 = .ok (.iload_n 2, 1) := by decide +kernel
theorem dX12_sizeOf_39 : decode (mcode mX12_sizeOf) 39 = .ok (.iconst 3, 1) := by decide +kernel
theorem dX12_sizeOf_40 : decode (mcode mX12_sizeOf) 40 = .ok (.if_icmp .ne 9, 3) := by decide +kernel
theorem dX12_sizeOf_43 : decode (mcode mX12_sizeOf) 43 = .ok (.aload_n 0, 1) := by decide +kernel
theorem dX12_sizeOf_44 : decode (mcode mX12_sizeOf) 44 = .ok (.bipush 13, 2) := by decide +kernel
theorem dX12_sizeOf_46 : decode (mcode mX12_sizeOf) 46 = .ok (.invokevirtual 348, 3) := by decide +kernel
theorem dX12_sizeOf_49 : decode (mcode mX12_sizeOf) 49 = .ok (.iload_n 2, 1) := by decide +kernel
theorem dX12_sizeOf_50 : decode (mcode mX12_sizeOf) 50 = .ok (.iconst 1, 1) := by decide +kernel
theorem dX12_sizeOf_51 : decode (mcode mX12_sizeOf) 51 = .ok (.invokestatic 342, 3) := by decide +kernel
theorem dX12_sizeOf_54 : decode (mcode mX12_sizeOf) 54 = .ok (.ifCond .eq 9, 3) := by decide +kernel
theorem dX12_sizeOf_57 : decode (mcode mX12_sizeOf) 57 = .ok (.aload_n 0, 1) := by decide +kernel
theorem dX12_sizeOf_58 : decode (mcode mX12_sizeOf) 58 = .ok (.bipush 11, 2) := by decide +kernel
theorem dX12_sizeOf_60 : decode (mcode mX12_sizeOf) 60 = .ok (.invokevirtual 348, 3) := by decide +kernel
theorem dX12_sizeOf_63 : decode (mcode mX12_sizeOf) 63 = .ok (.aload_n 0, 1) := by decide +kernel
theorem dX12_sizeOf_64 : decode (mcode mX12_sizeOf) 64 = .ok (.iload_n 1, 1) := by decide +kernel
theorem dX12_sizeOf_65 : decode (mcode mX12_sizeOf) 65 = .ok (.invokevirtual 351, 3) := by decide +kernel
theorem dX12_sizeOf_68 : decode (mcode mX12_sizeOf) 68 = .ok (.iload_n 2, 1) := by decide +kernel
theorem dX12_sizeOf_69 : decode (mcode mX12_sizeOf) 69 = .ok (.iconst 1, 1) := by decide +kernel
theorem dX12_sizeOf_70 : decode (mcode mX12_sizeOf) 70 = .ok (.invokestatic 342, 3) := by decide +kernel
theorem dX12_sizeOf_73 : decode (mcode mX12_sizeOf) 73 = .ok (.ifCond .eq 12, 3) := by decide +kernel
theorem dX12_sizeOf_76 : decode (mcode mX12_sizeOf) 76 = .ok (.aload_n 0, 1) := by decide +kernel
theorem dX12_sizeOf_77 : decode (mcode mX12_sizeOf) 77 = .ok (.getfield 41, 3) := by decide +kernel
theorem dX12_sizeOf_80 : decode (mcode mX12_sizeOf) 80 = .ok (.iload_n 1, 1) := by decide +kernel
theorem dX12_sizeOf_81 : decode (mcode mX12_sizeOf) 81 = .ok (.iaload, 1) := by decide +kernel
theorem dX12_sizeOf_82 : decode (mcode mX12_sizeOf) 82 = .ok (.goto 4, 3) := by decide +kernel
theorem dX12_sizeOf_85 : decode (mcode mX12_sizeOf) 85 = .ok (.iconst 0, 1) := by decide +kernel
theorem dX12_sizeOf_86 : decode (mcode mX12_sizeOf) 86 = .ok (.iadd, 1) := by decide +kernel
theorem dX12_sizeOf_87 : decode (mcode mX12_sizeOf) 87 = .ok (.istore_n 3, 1) := by decide +kernel
theorem dX12_sizeOf_88 : decode (mcode mX12_sizeOf) 88 = .ok (.iload_n 2, 1) := by decide +kernel
theorem dX12_sizeOf_89 : decode (mcode mX12_sizeOf) 89 = .ok (.iconst 2, 1) := by decide +kernel
theorem dX12_sizeOf_90 : decode (mcode mX12_sizeOf) 90 = .ok (.if_icmp .ne 9, 3) := by decide +kernel
theorem dX12_sizeOf_93 : decode (mcode mX12_sizeOf) 93 = .ok (.iconst 2, 1) := by decide +kernel
theorem dX12_sizeOf_94 : decode (mcode mX12_sizeOf) 94 = .ok (.iload_n 3, 1) := by decide +kernel
theorem dX12_sizeOf_95 : decode (mcode mX12_sizeOf) 95 = .ok (.imul, 1) := by decide +kernel
theorem dX12_sizeOf_96 : decode (mcode mX12_sizeOf) 96 = .ok (.goto 19, 3) := by decide +kernel
theorem dX12_sizeOf_99 : decode (mcode mX12_sizeOf) 99 = .ok (.iload_n 2, 1) := by decide +kernel
theorem dX12_sizeOf_100 : decode (mcode mX12_sizeOf) 100 = .ok (.iconst 3, 1) := by decide +kernel
theorem dX12_sizeOf_101 : decode (mcode mX12_sizeOf) 101 = .ok (.if_icmp .ne 13, 3) := by decide +kernel
theorem dX12_sizeOf_104 : decode (mcode mX12_sizeOf) 104 = .ok (.iload_n 3, 1) := by decide +kernel
theorem dX12_sizeOf_105 : decode (mcode mX12_sizeOf) 105 = .ok (.aload_n 0, 1) := by decide +kernel
theorem dX12_sizeOf_106 : decode (mcode mX12_sizeOf) 106 = .ok (.iload_n 1, 1) := by decide +kernel
theorem dX12_sizeOf_107 : decode (mcode mX12_sizeOf) 107 = .ok (.invokevirtual 354, 3) := by decide +kernel
theorem dX12_sizeOf_110 : decode (mcode mX12_sizeOf) 110 = .ok (.iadd, 1) := by decide +kernel
theorem dX12_sizeOf_111 : decode (mcode mX12_sizeOf) 111 = .ok (.goto 4, 3) := by decide +kernel
theorem dX12_sizeOf_114 : decode (mcode mX12_sizeOf) 114 = .ok (.iload_n 3, 1) := by decide +kernel
theorem dX12_sizeOf_115 : decode (mcode mX12_sizeOf) 115 = .ok (.ireturn, 1) := by decide +kernel
theorem dX12_alike_0 : decode (mcode mX12_alike) 0 = .ok (.aload_n 0, 1) := by decide +kernel
theorem dX12_alike_1 : decode (mcode mX12_alike) 1 = .ok (.iconst 0, 1) := by decide +kernel
theorem dX12_alike_2 : decode (mcode mX12_alike) 2 = .ok (.putfield 108, 3) := by decide +kernel
theorem dX12_alike_5 : decode (mcode mX12_alike) 5 = .ok (.aload_n 0, 1) := by decide +kernel
theorem dX12_alike_6 : decode (mcode mX12_alike) 6 = .ok (.iload_n 1, 1) := by decide +kernel
theorem dX12_alike_7 : decode (mcode mX12_alike) 7 = .ok (.invokevirtual 255, 3) := by decide +kernel
theorem dX12_alike_10 : decode (mcode mX12_alike) 10 = .ok (.ifCond .eq 23, 3) := by decide +kernel
theorem dX12_alike_13 : decode (mcode mX12_alike) 13 = .ok (.aload_n 0, 1) := by decide +kernel
theorem dX12_alike_14 : decode (mcode mX12_alike) 14 = .ok (.iload_n 2, 1) := by decide +kernel
theorem dX12_alike_15 : decode (mcode mX12_alike) 15 = .ok (.invokevirtual 255, 3) := by decide +kernel
theorem dX12_alike_18 : decode (mcode mX12_alike) 18 = .ok (.ifCond .eq 15, 3) := by decide +kernel
theorem dX12_alike_21 : decode (mcode mX12_alike) 21 = .ok (.iload_n 3, 1) := by decide +kernel
theorem dX12_alike_22 : decode (mcode mX12_alike) 22 = .ok (.i2l, 1) := by decide +kernel
theorem dX12_alike_23 : decode (mcode mX12_alike) 23 = .ok (.lconst 0, 1) := by decide +kernel
theorem dX12_alike_24 : decode (mcode mX12_alike) 24 = .ok (.ldc2_w 126, 3) := by decide +kernel
theorem dX12_alike_27 : decode (mcode mX12_alike) 27 = .ok (.invokestatic 118, 3) := by decide +kernel
theorem dX12_alike_30 : decode (mcode mX12_alike) 30 = .ok (.ifCond .ne 6, 3) := by decide +kernel
theorem dX12_alike_33 : decode (mcode mX12_alike) 33 = .ok (.ldc 128, 2) := by decide +kernel
theorem dX12_alike_35 : decode (mcode mX12_alike) 35 = .ok (.ireturn, 1) := by decide +kernel
theorem dX12_alike_36 : decode (mcode mX12_alike) 36 = .ok (.iload_n 3, 1) := by decide +kernel
theorem dX12_alike_37 : decode (mcode mX12_alike) 37 = .ok (.ifCond .ne 12, 3) := by decide +kernel
theorem dX12_alike_40 : decode (mcode mX12_alike) 40 = .ok (.aload_n 0, 1) := by decide +kernel
theorem dX12_alike_41 : decode (mcode mX12_alike) 41 = .ok (.iload_n 1, 1) := by decide +kernel
theorem dX12_alike_42 : decode (mcode mX12_alike) 42 = .ok (.iload_n 2, 1) := by decide +kernel
theorem dX12_alike_43 : decode (mcode mX12_alike) 43 = .ok (.invokevirtual 283, 3) := by decide +kernel
theorem dX12_alike_46 : decode (mcode mX12_alike) 46 = .ok (.goto 39, 3) := by decide +kernel
theorem dX12_alike_49 : decode (mcode mX12_alike) 49 = .ok (.iload_n 3, 1) := by decide +kernel
theorem dX12_alike_50 : decode (mcode mX12_alike) 50 = .ok (.iconst 1, 1) := by decide +kernel
theorem dX12_alike_51 : decode (mcode mX12_alike) 51 = .ok (.if_icmp .ne 20, 3) := by decide +kernel
theorem dX12_alike_54 : decode (mcode mX12_alike) 54 = .ok (.aload_n 0, 1) := by decide +kernel
theorem dX12_alike_55 : decode (mcode mX12_alike) 55 = .ok (.iload_n 1, 1) := by decide +kernel
theorem dX12_alike_56 : decode (mcode mX12_alike) 56 = .ok (.iload_n 2, 1) := by decide +kernel
theorem dX12_alike_57 : decode (mcode mX12_alike) 57 = .ok (.invokevirtual 286, 3) := by decide +kernel
theorem dX12_alike_60 : decode (mcode mX12_alike) 60 = .ok (.ifCond .eq 7, 3) := by decide +kernel
theorem dX12_alike_63 : decode (mcode mX12_alike) 63 = .ok (.iconst 1, 1) := by decide +kernel
theorem dX12_alike_64 : decode (mcode mX12_alike) 64 = .ok (.goto 21, 3) := by decide +kernel
theorem dX12_alike_67 : decode (mcode mX12_alike) 67 = .ok (.iconst 0, 1) := by decide +kernel
theorem dX12_alike_68 : decode (mcode mX12_alike) 68 = .ok (.goto 17, 3) := by decide +kernel
theorem dX12_alike_71 : decode (mcode mX12_alike) 71 = .ok (.aload_n 0, 1) := by decide +kernel
theorem dX12_alike_72 : decode (mcode mX12_alike) 72 = .ok (.iload_n 1, 1) := by decide +kernel
theorem dX12_alike_73 : decode (mcode mX12_alike) 73 = .ok (.iload_n 2, 1) := by decide +kernel
theorem dX12_alike_74 : decode (mcode mX12_alike) 74 = .ok (.invokevirtual 298, 3) := by decide +kernel
theorem dX12_alike_77 : decode (mcode mX12_alike) 77 = .ok (.ifCond .eq 7, 3) := by decide +kernel
theorem dX12_alike_80 : decode (mcode mX12_alike) 80 = .ok (.iconst 1, 1) := by decide +kernel
theorem dX12_alike_81 : decode (mcode mX12_alike) 81 = .ok (.goto 4, 3) := by decide +kernel
theorem dX12_alike_84 : decode (mcode mX12_alike) 84 = .ok (.iconst 0, 1) := by decide +kernel
theorem dX12_alike_85 : decode (mcode mX12_alike) 85 = .ok (.ireturn, 1) := by decide +kernel
theorem dX12_ask_0 : decode (mcode mX12_ask) 0 = .ok (.aload_n 0, 1) := by decide +kernel
theorem dX12_ask_1 : decode (mcode mX12_ask) 1 = .ok (.iconst 0, 1) := by decide +kernel
theorem dX12_ask_2 : decode (mcode mX12_ask) 2 = .ok (.putfield 108, 3) := by decide +kernel
theorem dX12_ask_5 : decode (mcode mX12_ask) 5 = .ok (.aload_n 0, 1) := by decide +kernel
theorem dX12_ask_6 : decode (mcode mX12_ask) 6 = .ok (.iload_n 1, 1) := by decide +kernel
theorem dX12_ask_7 : decode (mcode mX12_ask) 7 = .ok (.invokevirtual 255, 3) := by decide +kernel
theorem dX12_ask_10 : decode (mcode mX12_ask) 10 = .ok (.ifCond .eq 13, 3) := by decide +kernel
theorem dX12_ask_13 : decode (mcode mX12_ask) 13 = .ok (.iload_n 2, 1) := by decide +kernel
theorem dX12_ask_14 : decode (mcode mX12_ask) 14 = .ok (.i2l, 1) := by decide +kernel
theorem dX12_ask_15 : decode (mcode mX12_ask) 15 = .ok (.lconst 0, 1) := by decide +kernel
theorem dX12_ask_16 : decode (mcode mX12_ask) 16 = .ok (.lconst 1, 1) := by decide +kernel
theorem dX12_ask_17 : decode (mcode mX12_ask) 17 = .ok (.invokestatic 118, 3) := by decide +kernel
theorem dX12_ask_20 : decode (mcode mX12_ask) 20 = .ok (.ifCond .ne 6, 3) := by decide +kernel
theorem dX12_ask_23 : decode (mcode mX12_ask) 23 = .ok (.ldc 128, 2) := by decide +kernel
theorem dX12_ask_25 : decode (mcode mX12_ask) 25 = .ok (.ireturn, 1) := by decide +kernel
theorem dX12_ask_26 : decode (mcode mX12_ask) 26 = .ok (.aload_n 0, 1) := by decide +kernel
theorem dX12_ask_27 : decode (mcode mX12_ask) 27 = .ok (.iconst 0, 1) := by decide +kernel
theorem dX12_ask_28 : decode (mcode mX12_ask) 28 = .ok (.putfield 345, 3) := by decide +kernel
theorem dX12_ask_31 : decode (mcode mX12_ask) 31 = .ok (.iload_n 2, 1) := by decide +kernel
theorem dX12_ask_32 : decode (mcode mX12_ask) 32 = .ok (.ifCond .ne 11, 3) := by decide +kernel
theorem dX12_ask_35 : decode (mcode mX12_ask) 35 = .ok (.aload_n 0, 1) := by decide +kernel
theorem dX12_ask_36 : decode (mcode mX12_ask) 36 = .ok (.iload_n 1, 1) := by decide +kernel
theorem dX12_ask_37 : decode (mcode mX12_ask) 37 = .ok (.invokevirtual 357, 3) := by decide +kernel
theorem dX12_ask_40 : decode (mcode mX12_ask) 40 = .ok (.goto 8, 3) := by decide +kernel
theorem dX12_ask_43 : decode (mcode mX12_ask) 43 = .ok (.aload_n 0, 1) := by decide +kernel
theorem dX12_ask_44 : decode (mcode mX12_ask) 44 = .ok (.iload_n 1, 1) := by decide +kernel
theorem dX12_ask_45 : decode (mcode mX12_ask) 45 = .ok (.invokevirtual 354, 3) := by decide +kernel
theorem dX12_ask_48 : decode (mcode mX12_ask) 48 = .ok (.ireturn, 1) := by decide +kernel
theorem dX12_found_0 : decode (mcode mX12_found) 0 = .ok (.aload_n 0, 1) := by decide +kernel
theorem dX12_found_1 : decode (mcode mX12_found) 1 = .ok (.iconst 0, 1) := by decide +kernel
theorem dX12_found_2 : decode (mcode mX12_found) 2 = .ok (.putfield 108, 3) := by decide +kernel
theorem dX12_found_5 : decode (mcode mX12_found) 5 = .ok (.iload_n 1, 1) := by decide +kernel
theorem dX12_found_6 : decode (mcode mX12_found) 6 = .ok (.iload_n 2, 1) := by decide +kernel
theorem dX12_found_7 : decode (mcode mX12_found) 7 = .ok (.iload_n 3, 1) := by decide +kernel
theorem dX12_found_8 : decode (mcode mX12_found) 8 = .ok (.invokestatic 330, 3) := by decide +kernel
theorem dX12_found_11 : decode (mcode mX12_found) 11 = .ok (.ifCond .eq 14, 3) := by decide +kernel
theorem dX12_found_14 : decode (mcode mX12_found) 14 = .ok (.iload 5, 2) := by decide +kernel
theorem dX12_found_16 : decode (mcode mX12_found) 16 = .ok (.i2l, 1) := by decide +kernel
theorem dX12_found_17 : decode (mcode mX12_found) 17 = .ok (.lconst 0, 1) := by decide +kernel
theorem dX12_found_18 : decode (mcode mX12_found) 18 = .ok (.lconst 1, 1) := by decide +kernel
theorem dX12_found_19 : decode (mcode mX12_found) 19 = .ok (.invokestatic 118, 3) := by decide +kernel
theorem dX12_found_22 : decode (mcode mX12_found) 22 = .ok (.ifCond .ne 6, 3) := by decide +kernel
theorem dX12_found_25 : decode (mcode mX12_found) 25 = .ok (.ldc 128, 2) := by decide +kernel
theorem dX12_found_27 : decode (mcode mX12_found) 27 = .ok (.ireturn, 1) := by decide +kernel
theorem dX12_found_28 : decode (mcode mX12_found) 28 = .ok (.aload_n 0, 1) := by decide +kernel
theorem dX12_found_29 : decode (mcode mX12_found) 29 = .ok (.iload_n 1, 1) := by decide +kernel
theorem dX12_found_30 : decode (mcode mX12_found) 30 = .ok (.iload_n 2, 1) := by decide +kernel
theorem dX12_found_31 : decode (mcode mX12_found) 31 = .ok (.iload_n 3, 1) := by decide +kernel
theorem dX12_found_32 : decode (mcode mX12_found) 32 = .ok (.invokevirtual 333, 3) := by decide +kernel
theorem dX12_found_35 : decode (mcode mX12_found) 35 = .ok (.iconst 0, 1) := by decide +kernel
theorem dX12_found_36 : decode (mcode mX12_found) 36 = .ok (.istore 6, 2) := by decide +kernel
theorem dX12_found_38 : decode (mcode mX12_found) 38 = .ok (.iconst 0, 1) := by decide +kernel
theorem dX12_found_39 : decode (mcode mX12_found) 39 = .ok (.istore 7, 2) := by decide +kernel
theorem dX12_found_41 : decode (mcode mX12_found) 41 = .ok (.iconst 0, 1) := by decide +kernel
theorem dX12_found_42 : decode (mcode mX12_found) 42 = .ok (.istore 8, 2) := by decide +kernel
theorem dX12_found_44 : decode (mcode mX12_found) 44 = .ok (.iload 8, 2) := by decide +kernel
theorem dX12_found_46 : decode (mcode mX12_found) 46 = .ok (.iload 4, 2) := by decide +kernel
theorem dX12_found_48 : decode (mcode mX12_found) 48 = .ok (.if_icmp .gt 194, 3) := by decide +kernel
theorem dX12_found_51 : decode (mcode mX12_found) 51 = .ok (.aload_n 0, 1) := by decide +kernel
theorem dX12_found_52 : decode (mcode mX12_found) 52 = .ok (.getfield 102, 3) := by decide +kernel
theorem dX12_found_55 : decode (mcode mX12_found) 55 = .ok (.bipush 13, 2) := by decide +kernel
theorem dX12_found_57 : decode (mcode mX12_found) 57 = .ok (.iload 6, 2) := by decide +kernel
theorem dX12_found_59 : decode (mcode mX12_found) 59 = .ok (.imul, 1) := by decide +kernel
theorem dX12_found_60 : decode (mcode mX12_found) 60 = .ok (.iload 7, 2) := by decide +kernel
theorem dX12_found_62 : decode (mcode mX12_found) 62 = .ok (.iadd, 1) := by decide +kernel
theorem dX12_found_63 : decode (mcode mX12_found) 63 = .ok (.iaload, 1) := by decide +kernel
theorem dX12_found_64 : decode (mcode mX12_found) 64 = .ok (.ifCond .le 178, 3) := by decide +kernel
theorem dX12_found_67 : decode (mcode mX12_found) 67 = .ok (.aload_n 0, 1) := by decide +kernel
theorem dX12_found_68 : decode (mcode mX12_found) 68 = .ok (.getfield 102, 3) := by decide +kernel
theorem dX12_found_71 : decode (mcode mX12_found) 71 = .ok (.bipush 13, 2) := by decide +kernel
theorem dX12_found_73 : decode (mcode mX12_found) 73 = .ok (.iload 6, 2) := by decide +kernel
theorem dX12_found_75 : decode (mcode mX12_found) 75 = .ok (.imul, 1) := by decide +kernel
theorem dX12_found_76 : decode (mcode mX12_found) 76 = .ok (.iload 7, 2) := by decide +kernel
theorem dX12_found_78 : decode (mcode mX12_found) 78 = .ok (.iadd, 1) := by decide +kernel
theorem dX12_found_79 : decode (mcode mX12_found) 79 = .ok (.iaload, 1) := by decide +kernel
theorem dX12_found_80 : decode (mcode mX12_found) 80 = .ok (.istore 9, 2) := by decide +kernel
theorem dX12_found_82 : decode (mcode mX12_found) 82 = .ok (.ldc 144, 2) := by decide +kernel
theorem dX12_found_84 : decode (mcode mX12_found) 84 = .ok (.istore 10, 2) := by decide +kernel
theorem dX12_found_86 : decode (mcode mX12_found) 86 = .ok (.ldc 144, 2) := by decide +kernel
theorem dX12_found_88 : decode (mcode mX12_found) 88 = .ok (.istore 11, 2) := by decide +kernel
theorem dX12_found_90 : decode (mcode mX12_found) 90 = .ok (.iload 6, 2) := by decide +kernel
theorem dX12_found_92 : decode (mcode mX12_found) 92 = .ok (.istore 12, 2) := by decide +kernel
theorem dX12_found_94 : decode (mcode mX12_found) 94 = .ok (.iload 12, 2) := by decide +kernel
theorem dX12_found_96 : decode (mcode mX12_found) 96 = .ok (.aload_n 0, 1) := by decide +kernel
theorem dX12_found_97 : decode (mcode mX12_found) 97 = .ok (.getfield 324, 3) := by decide +kernel
theorem dX12_found_100 : decode (mcode mX12_found) 100 = .ok (.if_icmp .ge 94, 3) := by decide +kernel
theorem dX12_found_103 : decode (mcode mX12_found) 103 = .ok (.iload 10, 2) := by decide +kernel
theorem dX12_found_105 : decode (mcode mX12_found) 105 = .ok (.ldc 144, 2) := by decide +kernel
theorem dX12_found_107 : decode (mcode mX12_found) 107 = .ok (.if_icmp .ne 87, 3) := by decide +kernel
theorem dX12_found_110 : decode (mcode mX12_found) 110 = .ok (.iload 7, 2) := by decide +kernel
theorem dX12_found_112 : decode (mcode mX12_found) 112 = .ok (.istore 13, 2) := by decide +kernel
theorem dX12_found_114 : decode (mcode mX12_found) 114 = .ok (.iload 13, 2) := by decide +kernel
theorem dX12_found_116 : decode (mcode mX12_found) 116 = .ok (.aload_n 0, 1) := by decide +kernel
theorem dX12_found_117 : decode (mcode mX12_found) 117 = .ok (.getfield 327, 3) := by decide +kernel
theorem dX12_found_120 : decode (mcode mX12_found) 120 = .ok (.if_icmp .ge 68, 3) := by decide +kernel
theorem dX12_found_123 : decode (mcode mX12_found) 123 = .ok (.iload 10, 2) := by decide +kernel
theorem dX12_found_125 : decode (mcode mX12_found) 125 = .ok (.ldc 144, 2) := by decide +kernel
theorem dX12_found_127 : decode (mcode mX12_found) 127 = .ok (.if_icmp .ne 61, 3) := by decide +kernel
theorem dX12_found_130 : decode (mcode mX12_found) 130 = .ok (.aload_n 0, 1) := by decide +kernel
theorem dX12_found_131 : decode (mcode mX12_found) 131 = .ok (.aload_n 0, 1) := by decide +kernel
theorem dX12_found_132 : decode (mcode mX12_found) 132 = .ok (.getfield 96, 3) := by decide +kernel
theorem dX12_found_135 : decode (mcode mX12_found) 135 = .ok (.iload 12, 2) := by decide +kernel
theorem dX12_found_137 : decode (mcode mX12_found) 137 = .ok (.iaload, 1) := by decide +kernel
theorem dX12_found_138 : decode (mcode mX12_found) 138 = .ok (.aload_n 0, 1) := by decide +kernel
theorem dX12_found_139 : decode (mcode mX12_found) 139 = .ok (.getfield 99, 3) := by decide +kernel
theorem dX12_found_142 : decode (mcode mX12_found) 142 = .ok (.iload 13, 2) := by decide +kernel
theorem dX12_found_144 : decode (mcode mX12_found) 144 = .ok (.iaload, 1) := by decide +kernel
theorem dX12_found_145 : decode (mcode mX12_found) 145 = .ok (.invokevirtual 286, 3) := by decide +kernel
theorem dX12_found_148 : decode (mcode mX12_found) 148 = .ok (.ifCond .eq 34, 3) := by decide +kernel
theorem dX12_found_151 : decode (mcode mX12_found) 151 = .ok (.aload_n 0, 1) := by decide +kernel
theorem dX12_found_152 : decode (mcode mX12_found) 152 = .ok (.getfield 102, 3) := by decide +kernel
theorem dX12_found_155 : decode (mcode mX12_found) 155 = .ok (.bipush 13, 2) := by decide +kernel
theorem dX12_found_157 : decode (mcode mX12_found) 157 = .ok (.iload 12, 2) := by decide +kernel
theorem dX12_found_159 : decode (mcode mX12_found) 159 = .ok (.imul, 1) := by decide +kernel
theorem dX12_found_160 : decode (mcode mX12_found) 160 = .ok (.bipush 14, 2) := by decide +kernel
theorem dX12_found_162 : decode (mcode mX12_found) 162 = .ok (.iadd, 1) := by decide +kernel
theorem dX12_found_163 : decode (mcode mX12_found) 163 = .ok (.iload 13, 2) := by decide +kernel
theorem dX12_found_165 : decode (mcode mX12_found) 165 = .ok (.iadd, 1) := by decide +kernel
theorem dX12_found_166 : decode (mcode mX12_found) 166 = .ok (.iaload, 1) := by decide +kernel
theorem dX12_found_167 : decode (mcode mX12_found) 167 = .ok (.iconst 1, 1) := by decide +kernel
theorem dX12_found_168 : decode (mcode mX12_found) 168 = .ok (.iadd, 1) := by decide +kernel
theorem dX12_found_169 : decode (mcode mX12_found) 169 = .ok (.iload 9, 2) := by decide +kernel
theorem dX12_found_171 : decode (mcode mX12_found) 171 = .ok (.if_icmp .ne 11, 3) := by decide +kernel
theorem dX12_found_174 : decode (mcode mX12_found) 174 = .ok (.iload 12, 2) := by decide +kernel
theorem dX12_found_176 : decode (mcode mX12_found) 176 = .ok (.istore 10, 2) := by decide +kernel
theorem dX12_found_178 : decode (mcode mX12_found) 178 = .ok (.iload 13, 2) := by decide +kernel
theorem dX12_found_180 : decode (mcode mX12_found) 180 = .ok (.istore 11, 2) := by decide +kernel
theorem dX12_found_182 : decode (mcode mX12_found) 182 = .ok (.iinc 13 1, 3) := by decide +kernel
theorem dX12_found_185 : decode (mcode mX12_found) 185 = .ok (.goto (-71), 3) := by decide +kernel
theorem dX12_found_188 : decode (mcode mX12_found) 188 = .ok (.iinc 12 1, 3) := by decide +kernel
theorem dX12_found_191 : decode (mcode mX12_found) 191 = .ok (.goto (-97), 3) := by decide +kernel
theorem dX12_found_194 : decode (mcode mX12_found) 194 = .ok (.iload 8, 2) := by decide +kernel
theorem dX12_found_196 : decode (mcode mX12_found) 196 = .ok (.iload 4, 2) := by decide +kernel
theorem dX12_found_198 : decode (mcode mX12_found) 198 = .ok (.if_icmp .ne 26, 3) := by decide +kernel
theorem dX12_found_201 : decode (mcode mX12_found) 201 = .ok (.iload 5, 2) := by decide +kernel
theorem dX12_found_203 : decode (mcode mX12_found) 203 = .ok (.ifCond .ne 13, 3) := by decide +kernel
theorem dX12_found_206 : decode (mcode mX12_found) 206 = .ok (.aload_n 0, 1) := by decide +kernel
theorem dX12_found_207 : decode (mcode mX12_found) 207 = .ok (.getfield 96, 3) := by decide +kernel
theorem dX12_found_210 : decode (mcode mX12_found) 210 = .ok (.iload 10, 2) := by decide +kernel
theorem dX12_found_212 : decode (mcode mX12_found) 212 = .ok (.iaload, 1) := by decide +kernel
theorem dX12_found_213 : decode (mcode mX12_found) 213 = .ok (.goto 10, 3) := by decide +kernel
theorem dX12_found_216 : decode (mcode mX12_found) 216 = .ok (.aload_n 0, 1) := by decide +kernel
theorem dX12_found_217 : decode (mcode mX12_found) 217 = .ok (.getfield 99, 3) := by decide +kernel
theorem dX12_found_220 : decode (mcode mX12_found) 220 = .ok (.iload 11, 2) := by decide +kernel
theorem dX12_found_222 : decode (mcode mX12_found) 222 = .ok (.iaload, 1) := by decide +kernel
theorem dX12_found_223 : decode (mcode mX12_found) 223 = .ok (.ireturn, 1) := by decide +kernel
theorem dX12_found_224 : decode (mcode mX12_found) 224 = .ok (.iload 10, 2) := by decide +kernel
theorem dX12_found_226 : decode (mcode mX12_found) 226 = .ok (.iconst 1, 1) := by decide +kernel
theorem dX12_found_227 : decode (mcode mX12_found) 227 = .ok (.iadd, 1) := by decide +kernel
theorem dX12_found_228 : decode (mcode mX12_found) 228 = .ok (.istore 6, 2) := by decide +kernel
theorem dX12_found_230 : decode (mcode mX12_found) 230 = .ok (.iload 11, 2) := by decide +kernel
theorem dX12_found_232 : decode (mcode mX12_found) 232 = .ok (.iconst 1, 1) := by decide +kernel
theorem dX12_found_233 : decode (mcode mX12_found) 233 = .ok (.iadd, 1) := by decide +kernel
theorem dX12_found_234 : decode (mcode mX12_found) 234 = .ok (.istore 7, 2) := by decide +kernel
theorem dX12_found_236 : decode (mcode mX12_found) 236 = .ok (.iinc 8 1, 3) := by decide +kernel
theorem dX12_found_239 : decode (mcode mX12_found) 239 = .ok (.goto (-195), 3) := by decide +kernel
theorem dX12_found_242 : decode (mcode mX12_found) 242 = .ok (.ldc 144, 2) := by decide +kernel
theorem dX12_found_244 : decode (mcode mX12_found) 244 = .ok (.ireturn, 1) := by decide +kernel
theorem dX12_lost_0 : decode (mcode mX12_lost) 0 = .ok (.aload_n 0, 1) := by decide +kernel
theorem dX12_lost_1 : decode (mcode mX12_lost) 1 = .ok (.iconst 0, 1) := by decide +kernel
theorem dX12_lost_2 : decode (mcode mX12_lost) 2 = .ok (.putfield 108, 3) := by decide +kernel
theorem dX12_lost_5 : decode (mcode mX12_lost) 5 = .ok (.iload_n 1, 1) := by decide +kernel
theorem dX12_lost_6 : decode (mcode mX12_lost) 6 = .ok (.iload_n 2, 1) := by decide +kernel
theorem dX12_lost_7 : decode (mcode mX12_lost) 7 = .ok (.iload_n 3, 1) := by decide +kernel
theorem dX12_lost_8 : decode (mcode mX12_lost) 8 = .ok (.invokestatic 330, 3) := by decide +kernel
theorem dX12_lost_11 : decode (mcode mX12_lost) 11 = .ok (.ifCond .eq 16, 3) := by decide +kernel
theorem dX12_lost_14 : decode (mcode mX12_lost) 14 = .ok (.iload 4, 2) := by decide +kernel
theorem dX12_lost_16 : decode (mcode mX12_lost) 16 = .ok (.i2l, 1) := by decide +kernel
theorem dX12_lost_17 : decode (mcode mX12_lost) 17 = .ok (.lconst 0, 1) := by decide +kernel
theorem dX12_lost_18 : decode (mcode mX12_lost) 18 = .ok (.ldc2_w 126, 3) := by decide +kernel
theorem dX12_lost_21 : decode (mcode mX12_lost) 21 = .ok (.invokestatic 118, 3) := by decide +kernel
theorem dX12_lost_24 : decode (mcode mX12_lost) 24 = .ok (.ifCond .ne 6, 3) := by decide +kernel
theorem dX12_lost_27 : decode (mcode mX12_lost) 27 = .ok (.ldc 128, 2) := by decide +kernel
theorem dX12_lost_29 : decode (mcode mX12_lost) 29 = .ok (.ireturn, 1) := by decide +kernel
theorem dX12_lost_30 : decode (mcode mX12_lost) 30 = .ok (.aload_n 0, 1) := by decide +kernel
theorem dX12_lost_31 : decode (mcode mX12_lost) 31 = .ok (.iload_n 1, 1) := by decide +kernel
theorem dX12_lost_32 : decode (mcode mX12_lost) 32 = .ok (.iload_n 2, 1) := by decide +kernel
theorem dX12_lost_33 : decode (mcode mX12_lost) 33 = .ok (.iload_n 3, 1) := by decide +kernel
theorem dX12_lost_34 : decode (mcode mX12_lost) 34 = .ok (.invokevirtual 333, 3) := by decide +kernel
theorem dX12_lost_37 : decode (mcode mX12_lost) 37 = .ok (.iload 4, 2) := by decide +kernel
theorem dX12_lost_39 : decode (mcode mX12_lost) 39 = .ok (.ifCond .ne 12, 3) := by decide +kernel
theorem dX12_lost_42 : decode (mcode mX12_lost) 42 = .ok (.aload_n 0, 1) := by decide +kernel
theorem dX12_lost_43 : decode (mcode mX12_lost) 43 = .ok (.getfield 102, 3) := by decide +kernel
theorem dX12_lost_46 : decode (mcode mX12_lost) 46 = .ok (.iconst 0, 1) := by decide +kernel
theorem dX12_lost_47 : decode (mcode mX12_lost) 47 = .ok (.iaload, 1) := by decide +kernel
theorem dX12_lost_48 : decode (mcode mX12_lost) 48 = .ok (.goto 20, 3) := by decide +kernel
theorem dX12_lost_51 : decode (mcode mX12_lost) 51 = .ok (.iload 4, 2) := by decide +kernel
theorem dX12_lost_53 : decode (mcode mX12_lost) 53 = .ok (.iconst 1, 1) := by decide +kernel
theorem dX12_lost_54 : decode (mcode mX12_lost) 54 = .ok (.if_icmp .ne 10, 3) := by decide +kernel
theorem dX12_lost_57 : decode (mcode mX12_lost) 57 = .ok (.aload_n 0, 1) := by decide +kernel
theorem dX12_lost_58 : decode (mcode mX12_lost) 58 = .ok (.getfield 324, 3) := by decide +kernel
theorem dX12_lost_61 : decode (mcode mX12_lost) 61 = .ok (.goto 7, 3) := by decide +kernel
theorem dX12_lost_64 : decode (mcode mX12_lost) 64 = .ok (.aload_n 0, 1) := by decide +kernel
theorem dX12_lost_65 : decode (mcode mX12_lost) 65 = .ok (.getfield 327, 3) := by decide +kernel
theorem dX12_lost_68 : decode (mcode mX12_lost) 68 = .ok (.ireturn, 1) := by decide +kernel
theorem dX12_partAll_0 : decode (mcode mX12_partAll) 0 = .ok (.iload_n 1, 1) := by decide +kernel
theorem dX12_partAll_1 : decode (mcode mX12_partAll) 1 = .ok (.iload_n 2, 1) := by decide +kernel
theorem dX12_partAll_2 : decode (mcode mX12_partAll) 2 = .ok (.if_icmp .ne 7, 3) := by decide +kernel
theorem dX12_partAll_5 : decode (mcode mX12_partAll) 5 = .ok (.iconst 0, 1) := by decide +kernel
theorem dX12_partAll_6 : decode (mcode mX12_partAll) 6 = .ok (.goto 10, 3) := by decide +kernel
theorem dX12_partAll_9 : decode (mcode mX12_partAll) 9 = .ok (.iconst 1, 1) := by decide +kernel
theorem dX12_partAll_10 : decode (mcode mX12_partAll) 10 = .ok (.iload_n 1, 1) := by decide +kernel
theorem dX12_partAll_11 : decode (mcode mX12_partAll) 11 = .ok (.ishl, 1) := by decide +kernel
theorem dX12_partAll_12 : decode (mcode mX12_partAll) 12 = .ok (.iconst 1, 1) := by decide +kernel
theorem dX12_partAll_13 : decode (mcode mX12_partAll) 13 = .ok (.iload_n 2, 1) := by decide +kernel
theorem dX12_partAll_14 : decode (mcode mX12_partAll) 14 = .ok (.ishl, 1) := by decide +kernel
theorem dX12_partAll_15 : decode (mcode mX12_partAll) 15 = .ok (.ior, 1) := by decide +kernel
theorem dX12_partAll_16 : decode (mcode mX12_partAll) 16 = .ok (.istore_n 3, 1) := by decide +kernel
theorem dX12_partAll_17 : decode (mcode mX12_partAll) 17 = .ok (.iconst 0, 1) := by decide +kernel
theorem dX12_partAll_18 : decode (mcode mX12_partAll) 18 = .ok (.istore 4, 2) := by decide +kernel
theorem dX12_partAll_20 : decode (mcode mX12_partAll) 20 = .ok (.iload 4, 2) := by decide +kernel
theorem dX12_partAll_22 : decode (mcode mX12_partAll) 22 = .ok (.aload_n 0, 1) := by decide +kernel
theorem dX12_partAll_23 : decode (mcode mX12_partAll) 23 = .ok (.getfield 227, 3) := by decide +kernel
theorem dX12_partAll_26 : decode (mcode mX12_partAll) 26 = .ok (.if_icmp .ge 71, 3) := by decide +kernel
theorem dX12_partAll_29 : decode (mcode mX12_partAll) 29 = .ok (.aload_n 0, 1) := by decide +kernel
theorem dX12_partAll_30 : decode (mcode mX12_partAll) 30 = .ok (.getfield 83, 3) := by decide +kernel
theorem dX12_partAll_33 : decode (mcode mX12_partAll) 33 = .ok (.iload 4, 2) := by decide +kernel
theorem dX12_partAll_35 : decode (mcode mX12_partAll) 35 = .ok (.iconst 0, 1) := by decide +kernel
theorem dX12_partAll_36 : decode (mcode mX12_partAll) 36 = .ok (.iastore, 1) := by decide +kernel
theorem dX12_partAll_37 : decode (mcode mX12_partAll) 37 = .ok (.iconst 0, 1) := by decide +kernel
theorem dX12_partAll_38 : decode (mcode mX12_partAll) 38 = .ok (.istore 5, 2) := by decide +kernel
theorem dX12_partAll_40 : decode (mcode mX12_partAll) 40 = .ok (.iload 5, 2) := by decide +kernel
theorem dX12_partAll_42 : decode (mcode mX12_partAll) 42 = .ok (.aload_n 0, 1) := by decide +kernel
theorem dX12_partAll_43 : decode (mcode mX12_partAll) 43 = .ok (.getfield 227, 3) := by decide +kernel
theorem dX12_partAll_46 : decode (mcode mX12_partAll) 46 = .ok (.if_icmp .ge 45, 3) := by decide +kernel
theorem dX12_partAll_49 : decode (mcode mX12_partAll) 49 = .ok (.aload_n 0, 1) := by decide +kernel
theorem dX12_partAll_50 : decode (mcode mX12_partAll) 50 = .ok (.getfield 83, 3) := by decide +kernel
theorem dX12_partAll_53 : decode (mcode mX12_partAll) 53 = .ok (.iload 4, 2) := by decide +kernel
theorem dX12_partAll_55 : decode (mcode mX12_partAll) 55 = .ok (.dup2, 1) := by decide +kernel
theorem dX12_partAll_56 : decode (mcode mX12_partAll) 56 = .ok (.iaload, 1) := by decide +kernel
theorem dX12_partAll_57 : decode (mcode mX12_partAll) 57 = .ok (.iload 4, 2) := by decide +kernel
theorem dX12_partAll_59 : decode (mcode mX12_partAll) 59 = .ok (.iload 5, 2) := by decide +kernel
theorem dX12_partAll_61 : decode (mcode mX12_partAll) 61 = .ok (.if_icmp .eq 14, 3) := by decide +kernel
theorem dX12_partAll_64 : decode (mcode mX12_partAll) 64 = .ok (.aload_n 0, 1) := by decide +kernel
theorem dX12_partAll_65 : decode (mcode mX12_partAll) 65 = .ok (.iload 4, 2) := by decide +kernel
theorem dX12_partAll_67 : decode (mcode mX12_partAll) 67 = .ok (.iload 5, 2) := by decide +kernel
theorem dX12_partAll_69 : decode (mcode mX12_partAll) 69 = .ok (.invokevirtual 298, 3) := by decide +kernel
theorem dX12_partAll_72 : decode (mcode mX12_partAll) 72 = .ok (.ifCond .eq 10, 3) := by decide +kernel
theorem dX12_partAll_75 : decode (mcode mX12_partAll) 75 = .ok (.iconst 1, 1) := by decide +kernel
theorem dX12_partAll_76 : decode (mcode mX12_partAll) 76 = .ok (.iload 5, 2) := by decide +kernel
theorem dX12_partAll_78 : decode (mcode mX12_partAll) 78 = .ok (.ishl, 1) := by decide +kernel
theorem dX12_partAll_79 : decode (mcode mX12_partAll) 79 = .ok (.goto 4, 3) := by decide +kernel
theorem dX12_partAll_82 : decode (mcode mX12_partAll) 82 = .ok (.iconst 0, 1) := by decide +kernel
theorem dX12_partAll_83 : decode (mcode mX12_partAll) 83 = .ok (.ior, 1) := by decide +kernel
theorem dX12_partAll_84 : decode (mcode mX12_partAll) 84 = .ok (.iastore, 1) := by decide +kernel
theorem dX12_partAll_85 : decode (mcode mX12_partAll) 85 = .ok (.iinc 5 1, 3) := by decide +kernel
theorem dX12_partAll_88 : decode (mcode mX12_partAll) 88 = .ok (.goto (-48), 3) := by decide +kernel
theorem dX12_partAll_91 : decode (mcode mX12_partAll) 91 = .ok (.iinc 4 1, 3) := by decide +kernel
theorem dX12_partAll_94 : decode (mcode mX12_partAll) 94 = .ok (.goto (-74), 3) := by decide +kernel
theorem dX12_partAll_97 : decode (mcode mX12_partAll) 97 = .ok (.aload_n 0, 1) := by decide +kernel
theorem dX12_partAll_98 : decode (mcode mX12_partAll) 98 = .ok (.getfield 86, 3) := by decide +kernel
theorem dX12_partAll_101 : decode (mcode mX12_partAll) 101 = .ok (.iconst 0, 1) := by decide +kernel
theorem dX12_partAll_102 : decode (mcode mX12_partAll) 102 = .ok (.iconst 1, 1) := by decide +kernel
theorem dX12_partAll_103 : decode (mcode mX12_partAll) 103 = .ok (.bastore, 1) := by decide +kernel
theorem dX12_partAll_104 : decode (mcode mX12_partAll) 104 = .ok (.aload_n 0, 1) := by decide +kernel
theorem dX12_partAll_105 : decode (mcode mX12_partAll) 105 = .ok (.getfield 89, 3) := by decide +kernel
theorem dX12_partAll_108 : decode (mcode mX12_partAll) 108 = .ok (.iconst 0, 1) := by decide +kernel
theorem dX12_partAll_109 : decode (mcode mX12_partAll) 109 = .ok (.iconst 0, 1) := by decide +kernel
theorem dX12_partAll_110 : decode (mcode mX12_partAll) 110 = .ok (.iastore, 1) := by decide +kernel
theorem dX12_partAll_111 : decode (mcode mX12_partAll) 111 = .ok (.aload_n 0, 1) := by decide +kernel
theorem dX12_partAll_112 : decode (mcode mX12_partAll) 112 = .ok (.getfield 92, 3) := by decide +kernel
theorem dX12_partAll_115 : decode (mcode mX12_partAll) 115 = .ok (.iconst 0, 1) := by decide +kernel
theorem dX12_partAll_116 : decode (mcode mX12_partAll) 116 = .ok (.lconst 1, 1) := by decide +kernel
theorem dX12_partAll_117 : decode (mcode mX12_partAll) 117 = .ok (.lastore, 1) := by decide +kernel
theorem dX12_partAll_118 : decode (mcode mX12_partAll) 118 = .ok (.iconst 1, 1) := by decide +kernel
theorem dX12_partAll_119 : decode (mcode mX12_partAll) 119 = .ok (.istore 4, 2) := by decide +kernel
theorem dX12_partAll_121 : decode (mcode mX12_partAll) 121 = .ok (.iload 4, 2) := by decide +kernel
theorem dX12_partAll_123 : decode (mcode mX12_partAll) 123 = .ok (.iconst 1, 1) := by decide +kernel
theorem dX12_partAll_124 : decode (mcode mX12_partAll) 124 = .ok (.aload_n 0, 1) := by decide +kernel
theorem dX12_partAll_125 : decode (mcode mX12_partAll) 125 = .ok (.getfield 227, 3) := by decide +kernel
theorem dX12_partAll_128 : decode (mcode mX12_partAll) 128 = .ok (.ishl, 1) := by decide +kernel
theorem dX12_partAll_129 : decode (mcode mX12_partAll) 129 = .ok (.if_icmp .ge 280, 3) := by decide +kernel
theorem dX12_partAll_132 : decode (mcode mX12_partAll) 132 = .ok (.iload 4, 2) := by decide +kernel
theorem dX12_partAll_134 : decode (mcode mX12_partAll) 134 = .ok (.invokestatic 301, 3) := by decide +kernel
theorem dX12_partAll_137 : decode (mcode mX12_partAll) 137 = .ok (.istore 5, 2) := by decide +kernel
theorem dX12_partAll_139 : decode (mcode mX12_partAll) 139 = .ok (.iload 4, 2) := by decide +kernel
theorem dX12_partAll_141 : decode (mcode mX12_partAll) 141 = .ok (.iconst 1, 1) := by decide +kernel
theorem dX12_partAll_142 : decode (mcode mX12_partAll) 142 = .ok (.iload 5, 2) := by decide +kernel
theorem dX12_partAll_144 : decode (mcode mX12_partAll) 144 = .ok (.ishl, 1) := by decide +kernel
theorem dX12_partAll_145 : decode (mcode mX12_partAll) 145 = .ok (.iconst (-1), 1) := by decide +kernel
theorem dX12_partAll_146 : decode (mcode mX12_partAll) 146 = .ok (.ixor, 1) := by decide +kernel
theorem dX12_partAll_147 : decode (mcode mX12_partAll) 147 = .ok (.iand, 1) := by decide +kernel
theorem dX12_partAll_148 : decode (mcode mX12_partAll) 148 = .ok (.istore 6, 2) := by decide +kernel
theorem dX12_partAll_150 : decode (mcode mX12_partAll) 150 = .ok (.aload_n 0, 1) := by decide +kernel
theorem dX12_partAll_151 : decode (mcode mX12_partAll) 151 = .ok (.getfield 86, 3) := by decide +kernel
theorem dX12_partAll_154 : decode (mcode mX12_partAll) 154 = .ok (.iload 4, 2) := by decide +kernel
theorem dX12_partAll_156 : decode (mcode mX12_partAll) 156 = .ok (.aload_n 0, 1) := by decide +kernel
theorem dX12_partAll_157 : decode (mcode mX12_partAll) 157 = .ok (.getfield 86, 3) := by decide +kernel
theorem dX12_partAll_160 : decode (mcode mX12_partAll) 160 = .ok (.iload 6, 2) := by decide +kernel
theorem dX12_partAll_162 : decode (mcode mX12_partAll) 162 = .ok (.baload, 1) := by decide +kernel
theorem dX12_partAll_163 : decode (mcode mX12_partAll) 163 = .ok (.ifCond .eq 22, 3) := by decide +kernel
theorem dX12_partAll_166 : decode (mcode mX12_partAll) 166 = .ok (.iload 6, 2) := by decide +kernel
theorem dX12_partAll_168 : decode (mcode mX12_partAll) 168 = .ok (.aload_n 0, 1) := by decide +kernel
theorem dX12_partAll_169 : decode (mcode mX12_partAll) 169 = .ok (.getfield 83, 3) := by decide +kernel
theorem dX12_partAll_172 : decode (mcode mX12_partAll) 172 = .ok (.iload 5, 2) := by decide +kernel
theorem dX12_partAll_174 : decode (mcode mX12_partAll) 174 = .ok (.iaload, 1) := by decide +kernel
theorem dX12_partAll_175 : decode (mcode mX12_partAll) 175 = .ok (.iconst (-1), 1) := by decide +kernel
theorem dX12_partAll_176 : decode (mcode mX12_partAll) 176 = .ok (.ixor, 1) := by decide +kernel
theorem dX12_partAll_177 : decode (mcode mX12_partAll) 177 = .ok (.iand, 1) := by decide +kernel
theorem dX12_partAll_178 : decode (mcode mX12_partAll) 178 = .ok (.ifCond .ne 7, 3) := by decide +kernel
theorem dX12_partAll_181 : decode (mcode mX12_partAll) 181 = .ok (.iconst 1, 1) := by decide +kernel
theorem dX12_partAll_182 : decode (mcode mX12_partAll) 182 = .ok (.goto 4, 3) := by decide +kernel
theorem dX12_partAll_185 : decode (mcode mX12_partAll) 185 = .ok (.iconst 0, 1) := by decide +kernel
theorem dX12_partAll_186 : decode (mcode mX12_partAll) 186 = .ok (.bastore, 1) := by decide +kernel
theorem dX12_partAll_187 : decode (mcode mX12_partAll) 187 = .ok (.aload_n 0, 1) := by decide +kernel
theorem dX12_partAll_188 : decode (mcode mX12_partAll) 188 = .ok (.getfield 89, 3) := by decide +kernel
theorem dX12_partAll_191 : decode (mcode mX12_partAll) 191 = .ok (.iload 4, 2) := by decide +kernel
theorem dX12_partAll_193 : decode (mcode mX12_partAll) 193 = .ok (.sipush 1000, 3) := by decide +kernel
theorem dX12_partAll_196 : decode (mcode mX12_partAll) 196 = .ok (.iastore, 1) := by decide +kernel
theorem dX12_partAll_197 : decode (mcode mX12_partAll) 197 = .ok (.aload_n 0, 1) := by decide +kernel
theorem dX12_partAll_198 : decode (mcode mX12_partAll) 198 = .ok (.getfield 92, 3) := by decide +kernel
theorem dX12_partAll_201 : decode (mcode mX12_partAll) 201 = .ok (.iload 4, 2) := by decide +kernel
theorem dX12_partAll_203 : decode (mcode mX12_partAll) 203 = .ok (.lconst 0, 1) := by decide +kernel
theorem dX12_partAll_204 : decode (mcode mX12_partAll) 204 = .ok (.lastore, 1) := by decide +kernel
theorem dX12_partAll_205 : decode (mcode mX12_partAll) 205 = .ok (.iload 6, 2) := by decide +kernel
theorem dX12_partAll_207 : decode (mcode mX12_partAll) 207 = .ok (.istore 7, 2) := by decide +kernel
theorem dX12_partAll_209 : decode (mcode mX12_partAll) 209 = .ok (.iconst 1, 1) := by decide +kernel
theorem dX12_partAll_210 : decode (mcode mX12_partAll) 210 = .ok (.istore 8, 2) := by decide +kernel
theorem dX12_partAll_212 : decode (mcode mX12_partAll) 212 = .ok (.iload 8, 2) := by decide +kernel
theorem dX12_partAll_214 : decode (mcode mX12_partAll) 214 = .ok (.ifCond .eq 189, 3) := by decide +kernel
theorem dX12_partAll_217 : decode (mcode mX12_partAll) 217 = .ok (.iload 7, 2) := by decide +kernel
theorem dX12_partAll_219 : decode (mcode mX12_partAll) 219 = .ok (.iconst 1, 1) := by decide +kernel
theorem dX12_partAll_220 : decode (mcode mX12_partAll) 220 = .ok (.iload 5, 2) := by decide +kernel
theorem dX12_partAll_222 : decode (mcode mX12_partAll) 222 = .ok (.ishl, 1) := by decide +kernel
theorem dX12_partAll_223 : decode (mcode mX12_partAll) 223 = .ok (.ior, 1) := by decide +kernel
theorem dX12_partAll_224 : decode (mcode mX12_partAll) 224 = .ok (.istore 9, 2) := by decide +kernel
theorem dX12_partAll_226 : decode (mcode mX12_partAll) 226 = .ok (.iload 4, 2) := by decide +kernel
theorem dX12_partAll_228 : decode (mcode mX12_partAll) 228 = .ok (.iload 9, 2) := by decide +kernel
theorem dX12_partAll_230 : decode (mcode mX12_partAll) 230 = .ok (.iconst (-1), 1) := by decide +kernel
theorem dX12_partAll_231 : decode (mcode mX12_partAll) 231 = .ok (.ixor, 1) := by decide +kernel
theorem dX12_partAll_232 : decode (mcode mX12_partAll) 232 = .ok (.iand, 1) := by decide +kernel
theorem dX12_partAll_233 : decode (mcode mX12_partAll) 233 = .ok (.istore 10, 2) := by decide +kernel
theorem dX12_partAll_235 : decode (mcode mX12_partAll) 235 = .ok (.iload 9, 2) := by decide +kernel
theorem dX12_partAll_237 : decode (mcode mX12_partAll) 237 = .ok (.iload_n 3, 1) := by decide +kernel
theorem dX12_partAll_238 : decode (mcode mX12_partAll) 238 = .ok (.iand, 1) := by decide +kernel
theorem dX12_partAll_239 : decode (mcode mX12_partAll) 239 = .ok (.ifCond .eq 14, 3) := by decide +kernel
theorem dX12_partAll_242 : decode (mcode mX12_partAll) 242 = .ok (.iload 10, 2) := by decide +kernel
theorem dX12_partAll_244 : decode (mcode mX12_partAll) 244 = .ok (.iload_n 3, 1) := by decide +kernel
theorem dX12_partAll_245 : decode (mcode mX12_partAll) 245 = .ok (.iand, 1) := by decide +kernel
theorem dX12_partAll_246 : decode (mcode mX12_partAll) 246 = .ok (.ifCond .eq 7, 3) := by decide +kernel
theorem dX12_partAll_249 : decode (mcode mX12_partAll) 249 = .ok (.iconst 1, 1) := by decide +kernel
theorem dX12_partAll_250 : decode (mcode mX12_partAll) 250 = .ok (.goto 4, 3) := by decide +kernel
theorem dX12_partAll_253 : decode (mcode mX12_partAll) 253 = .ok (.iconst 0, 1) := by decide +kernel
theorem dX12_partAll_254 : decode (mcode mX12_partAll) 254 = .ok (.istore 11, 2) := by decide +kernel
theorem dX12_partAll_256 : decode (mcode mX12_partAll) 256 = .ok (.aload_n 0, 1) := by decide +kernel
theorem dX12_partAll_257 : decode (mcode mX12_partAll) 257 = .ok (.getfield 86, 3) := by decide +kernel
theorem dX12_partAll_260 : decode (mcode mX12_partAll) 260 = .ok (.iload 9, 2) := by decide +kernel
theorem dX12_partAll_262 : decode (mcode mX12_partAll) 262 = .ok (.baload, 1) := by decide +kernel
theorem dX12_partAll_263 : decode (mcode mX12_partAll) 263 = .ok (.ifCond .eq 116, 3) := by decide +kernel
theorem dX12_partAll_266 : decode (mcode mX12_partAll) 266 = .ok (.iload 11, 2) := by decide +kernel
theorem dX12_partAll_268 : decode (mcode mX12_partAll) 268 = .ok (.ifCond .ne 111, 3) := by decide +kernel
theorem dX12_partAll_271 : decode (mcode mX12_partAll) 271 = .ok (.aload_n 0, 1) := by decide +kernel
theorem dX12_partAll_272 : decode (mcode mX12_partAll) 272 = .ok (.getfield 89, 3) := by decide +kernel
theorem dX12_partAll_275 : decode (mcode mX12_partAll) 275 = .ok (.iload 10, 2) := by decide +kernel
theorem dX12_partAll_277 : decode (mcode mX12_partAll) 277 = .ok (.iaload, 1) := by decide +kernel
theorem dX12_partAll_278 : decode (mcode mX12_partAll) 278 = .ok (.iconst 1, 1) := by decide +kernel
theorem dX12_partAll_279 : decode (mcode mX12_partAll) 279 = .ok (.iadd, 1) := by decide +kernel
theorem dX12_partAll_280 : decode (mcode mX12_partAll) 280 = .ok (.istore 12, 2) := by decide +kernel
theorem dX12_partAll_282 : decode (mcode mX12_partAll) 282 = .ok (.aload_n 0, 1) := by decide +kernel
theorem dX12_partAll_283 : decode (mcode mX12_partAll) 283 = .ok (.getfield 92, 3) := by decide +kernel
theorem dX12_partAll_286 : decode (mcode mX12_partAll) 286 = .ok (.iload 4, 2) := by decide +kernel
theorem dX12_partAll_288 : decode (mcode mX12_partAll) 288 = .ok (.iload 12, 2) := by decide +kernel
theorem dX12_partAll_290 : decode (mcode mX12_partAll) 290 = .ok (.aload_n 0, 1) := by decide +kernel
theorem dX12_partAll_291 : decode (mcode mX12_partAll) 291 = .ok (.getfield 89, 3) := by decide +kernel
theorem dX12_partAll_294 : decode (mcode mX12_partAll) 294 = .ok (.iload 4, 2) := by decide +kernel
theorem dX12_partAll_296 : decode (mcode mX12_partAll) 296 = .ok (.iaload, 1) := by decide +kernel
theorem dX12_partAll_297 : decode (mcode mX12_partAll) 297 = .ok (.if_icmp .ge 13, 3) := by decide +kernel
theorem dX12_partAll_300 : decode (mcode mX12_partAll) 300 = .ok (.aload_n 0, 1) := by decide +kernel
theorem dX12_partAll_301 : decode (mcode mX12_partAll) 301 = .ok (.getfield 92, 3) := by decide +kernel
theorem dX12_partAll_304 : decode (mcode mX12_partAll) 304 = .ok (.iload 10, 2) := by decide +kernel
theorem dX12_partAll_306 : decode (mcode mX12_partAll) 306 = .ok (.laload, 1) := by decide +kernel
theorem dX12_partAll_307 : decode (mcode mX12_partAll) 307 = .ok (.goto 40, 3) := by decide +kernel
theorem dX12_partAll_310 : decode (mcode mX12_partAll) 310 = .ok (.iload 12, 2) := by decide +kernel
theorem dX12_partAll_312 : decode (mcode mX12_partAll) 312 = .ok (.aload_n 0, 1) := by decide +kernel
theorem dX12_partAll_313 : decode (mcode mX12_partAll) 313 = .ok (.getfield 89, 3) := by decide +kernel
theorem dX12_partAll_316 : decode (mcode mX12_partAll) 316 = .ok (.iload 4, 2) := by decide +kernel
theorem dX12_partAll_318 : decode (mcode mX12_partAll) 318 = .ok (.iaload, 1) := by decide +kernel
theorem dX12_partAll_319 : decode (mcode mX12_partAll) 319 = .ok (.if_icmp .ne 21, 3) := by decide +kernel
theorem dX12_partAll_322 : decode (mcode mX12_partAll) 322 = .ok (.aload_n 0, 1) := by decide +kernel
theorem dX12_partAll_323 : decode (mcode mX12_partAll) 323 = .ok (.getfield 92, 3) := by decide +kernel
theorem dX12_partAll_326 : decode (mcode mX12_partAll) 326 = .ok (.iload 4, 2) := by decide +kernel
theorem dX12_partAll_328 : decode (mcode mX12_partAll) 328 = .ok (.laload, 1) := by decide +kernel
theorem dX12_partAll_329 : decode (mcode mX12_partAll) 329 = .ok (.aload_n 0, 1) := by decide +kernel
theorem dX12_partAll_330 : decode (mcode mX12_partAll) 330 = .ok (.getfield 92, 3) := by decide +kernel
theorem dX12_partAll_333 : decode (mcode mX12_partAll) 333 = .ok (.iload 10, 2) := by decide +kernel
theorem dX12_partAll_335 : decode (mcode mX12_partAll) 335 = .ok (.laload, 1) := by decide +kernel
theorem dX12_partAll_336 : decode (mcode mX12_partAll) 336 = .ok (.ladd, 1) := by decide +kernel
theorem dX12_partAll_337 : decode (mcode mX12_partAll) 337 = .ok (.goto 10, 3) := by decide +kernel
theorem dX12_partAll_340 : decode (mcode mX12_partAll) 340 = .ok (.aload_n 0, 1) := by decide +kernel
theorem dX12_partAll_341 : decode (mcode mX12_partAll) 341 = .ok (.getfield 92, 3) := by decide +kernel
theorem dX12_partAll_344 : decode (mcode mX12_partAll) 344 = .ok (.iload 4, 2) := by decide +kernel
theorem dX12_partAll_346 : decode (mcode mX12_partAll) 346 = .ok (.laload, 1) := by decide +kernel
theorem dX12_partAll_347 : decode (mcode mX12_partAll) 347 = .ok (.lastore, 1) := by decide +kernel
theorem dX12_partAll_348 : decode (mcode mX12_partAll) 348 = .ok (.aload_n 0, 1) := by decide +kernel
theorem dX12_partAll_349 : decode (mcode mX12_partAll) 349 = .ok (.getfield 89, 3) := by decide +kernel
theorem dX12_partAll_352 : decode (mcode mX12_partAll) 352 = .ok (.iload 4, 2) := by decide +kernel
theorem dX12_partAll_354 : decode (mcode mX12_partAll) 354 = .ok (.iload 12, 2) := by decide +kernel
theorem dX12_partAll_356 : decode (mcode mX12_partAll) 356 = .ok (.aload_n 0, 1) := by decide +kernel
theorem dX12_partAll_357 : decode (mcode mX12_partAll) 357 = .ok (.getfield 89, 3) := by decide +kernel
theorem dX12_partAll_360 : decode (mcode mX12_partAll) 360 = .ok (.iload 4, 2) := by decide +kernel
theorem dX12_partAll_362 : decode (mcode mX12_partAll) 362 = .ok (.iaload, 1) := by decide +kernel
theorem dX12_partAll_363 : decode (mcode mX12_partAll) 363 = .ok (.if_icmp .ge 8, 3) := by decide +kernel
theorem dX12_partAll_366 : decode (mcode mX12_partAll) 366 = .ok (.iload 12, 2) := by decide +kernel
theorem dX12_partAll_368 : decode (mcode mX12_partAll) 368 = .ok (.goto 10, 3) := by decide +kernel
theorem dX12_partAll_371 : decode (mcode mX12_partAll) 371 = .ok (.aload_n 0, 1) := by decide +kernel
theorem dX12_partAll_372 : decode (mcode mX12_partAll) 372 = .ok (.getfield 89, 3) := by decide +kernel
theorem dX12_partAll_375 : decode (mcode mX12_partAll) 375 = .ok (.iload 4, 2) := by decide +kernel
theorem dX12_partAll_377 : decode (mcode mX12_partAll) 377 = .ok (.iaload, 1) := by decide +kernel
theorem dX12_partAll_378 : decode (mcode mX12_partAll) 378 = .ok (.iastore, 1) := by decide +kernel
theorem dX12_partAll_379 : decode (mcode mX12_partAll) 379 = .ok (.iload 7, 2) := by decide +kernel
theorem dX12_partAll_381 : decode (mcode mX12_partAll) 381 = .ok (.ifCond .eq 7, 3) := by decide +kernel
theorem dX12_partAll_384 : decode (mcode mX12_partAll) 384 = .ok (.iconst 1, 1) := by decide +kernel
theorem dX12_partAll_385 : decode (mcode mX12_partAll) 385 = .ok (.goto 4, 3) := by decide +kernel
theorem dX12_partAll_388 : decode (mcode mX12_partAll) 388 = .ok (.iconst 0, 1) := by decide +kernel
theorem dX12_partAll_389 : decode (mcode mX12_partAll) 389 = .ok (.istore 8, 2) := by decide +kernel
theorem dX12_partAll_391 : decode (mcode mX12_partAll) 391 = .ok (.iload 7, 2) := by decide +kernel
theorem dX12_partAll_393 : decode (mcode mX12_partAll) 393 = .ok (.iconst 1, 1) := by decide +kernel
theorem dX12_partAll_394 : decode (mcode mX12_partAll) 394 = .ok (.isub, 1) := by decide +kernel
theorem dX12_partAll_395 : decode (mcode mX12_partAll) 395 = .ok (.iload 6, 2) := by decide +kernel
theorem dX12_partAll_397 : decode (mcode mX12_partAll) 397 = .ok (.iand, 1) := by decide +kernel
theorem dX12_partAll_398 : decode (mcode mX12_partAll) 398 = .ok (.istore 7, 2) := by decide +kernel
theorem dX12_partAll_400 : decode (mcode mX12_partAll) 400 = .ok (.goto (-188), 3) := by decide +kernel
theorem dX12_partAll_403 : decode (mcode mX12_partAll) 403 = .ok (.iinc 4 1, 3) := by decide +kernel
theorem dX12_partAll_406 : decode (mcode mX12_partAll) 406 = .ok (.goto (-285), 3) := by decide +kernel
theorem dX12_partAll_409 : decode (mcode mX12_partAll) 409 = .ok (.return_, 1) := by decide +kernel
theorem dX12_readLine_0 : decode (mcode mX12_readLine) 0 = .ok (.aload_n 0, 1) := by decide +kernel
theorem dX12_readLine_1 : decode (mcode mX12_readLine) 1 = .ok (.getfield 183, 3) := by decide +kernel
theorem dX12_readLine_4 : decode (mcode mX12_readLine) 4 = .ok (.istore_n 1, 1) := by decide +kernel
theorem dX12_readLine_5 : decode (mcode mX12_readLine) 5 = .ok (.aload_n 0, 1) := by decide +kernel
theorem dX12_readLine_6 : decode (mcode mX12_readLine) 6 = .ok (.getfield 32, 3) := by decide +kernel
theorem dX12_readLine_9 : decode (mcode mX12_readLine) 9 = .ok (.iload_n 1, 1) := by decide +kernel
theorem dX12_readLine_10 : decode (mcode mX12_readLine) 10 = .ok (.aload_n 0, 1) := by decide +kernel
theorem dX12_readLine_11 : decode (mcode mX12_readLine) 11 = .ok (.iconst 0, 1) := by decide +kernel
theorem dX12_readLine_12 : decode (mcode mX12_readLine) 12 = .ok (.aload_n 0, 1) := by decide +kernel
theorem dX12_readLine_13 : decode (mcode mX12_readLine) 13 = .ok (.getfield 186, 3) := by decide +kernel
theorem dX12_readLine_16 : decode (mcode mX12_readLine) 16 = .ok (.iconst 1, 1) := by decide +kernel
theorem dX12_readLine_17 : decode (mcode mX12_readLine) 17 = .ok (.isub, 1) := by decide +kernel
theorem dX12_readLine_18 : decode (mcode mX12_readLine) 18 = .ok (.ldc 144, 2) := by decide +kernel
theorem dX12_readLine_20 : decode (mcode mX12_readLine) 20 = .ok (.invokevirtual 189, 3) := by decide +kernel
theorem dX12_readLine_23 : decode (mcode mX12_readLine) 23 = .ok (.iastore, 1) := by decide +kernel
theorem dX12_readLine_24 : decode (mcode mX12_readLine) 24 = .ok (.aload_n 0, 1) := by decide +kernel
theorem dX12_readLine_25 : decode (mcode mX12_readLine) 25 = .ok (.getfield 166, 3) := by decide +kernel
theorem dX12_readLine_28 : decode (mcode mX12_readLine) 28 = .ok (.ifCond .ne 96, 3) := by decide +kernel
theorem dX12_readLine_31 : decode (mcode mX12_readLine) 31 = .ok (.aload_n 0, 1) := by decide +kernel
theorem dX12_readLine_32 : decode (mcode mX12_readLine) 32 = .ok (.invokevirtual 193, 3) := by decide +kernel
theorem dX12_readLine_35 : decode (mcode mX12_readLine) 35 = .ok (.lstore_n 2, 1) := by decide +kernel
theorem dX12_readLine_36 : decode (mcode mX12_readLine) 36 = .ok (.lload_n 2, 1) := by decide +kernel
theorem dX12_readLine_37 : decode (mcode mX12_readLine) 37 = .ok (.ldc2_w 197, 3) := by decide +kernel
theorem dX12_readLine_40 : decode (mcode mX12_readLine) 40 = .ok (.lcmp, 1) := by decide +kernel
theorem dX12_readLine_41 : decode (mcode mX12_readLine) 41 = .ok (.ifCond .ne 7, 3) := by decide +kernel
theorem dX12_readLine_44 : decode (mcode mX12_readLine) 44 = .ok (.iconst 0, 1) := by decide +kernel
theorem dX12_readLine_45 : decode (mcode mX12_readLine) 45 = .ok (.goto 53, 3) := by decide +kernel
theorem dX12_readLine_48 : decode (mcode mX12_readLine) 48 = .ok (.lload_n 2, 1) := by decide +kernel
theorem dX12_readLine_49 : decode (mcode mX12_readLine) 49 = .ok (.ldc2_w 199, 3) := by decide +kernel
theorem dX12_readLine_52 : decode (mcode mX12_readLine) 52 = .ok (.lcmp, 1) := by decide +kernel
theorem dX12_readLine_53 : decode (mcode mX12_readLine) 53 = .ok (.ifCond .ne 7, 3) := by decide +kernel
theorem dX12_readLine_56 : decode (mcode mX12_readLine) 56 = .ok (.iconst 1, 1) := by decide +kernel
theorem dX12_readLine_57 : decode (mcode mX12_readLine) 57 = .ok (.goto 41, 3) := by decide +kernel
theorem dX12_readLine_60 : decode (mcode mX12_readLine) 60 = .ok (.lload_n 2, 1) := by decide +kernel
theorem dX12_readLine_61 : decode (mcode mX12_readLine) 61 = .ok (.ldc2_w 201, 3) := by decide +kernel
theorem dX12_readLine_64 : decode (mcode mX12_readLine) 64 = .ok (.lcmp, 1) := by decide +kernel
theorem dX12_readLine_65 : decode (mcode mX12_readLine) 65 = .ok (.ifCond .ne 7, 3) := by decide +kernel
theorem dX12_readLine_68 : decode (mcode mX12_readLine) 68 = .ok (.iconst 2, 1) := by decide +kernel
theorem dX12_readLine_69 : decode (mcode mX12_readLine) 69 = .ok (.goto 29, 3) := by decide +kernel
theorem dX12_readLine_72 : decode (mcode mX12_readLine) 72 = .ok (.lload_n 2, 1) := by decide +kernel
theorem dX12_readLine_73 : decode (mcode mX12_readLine) 73 = .ok (.ldc2_w 203, 3) := by decide +kernel
theorem dX12_readLine_76 : decode (mcode mX12_readLine) 76 = .ok (.lcmp, 1) := by decide +kernel
theorem dX12_readLine_77 : decode (mcode mX12_readLine) 77 = .ok (.ifCond .ne 7, 3) := by decide +kernel
theorem dX12_readLine_80 : decode (mcode mX12_readLine) 80 = .ok (.iconst 3, 1) := by decide +kernel
theorem dX12_readLine_81 : decode (mcode mX12_readLine) 81 = .ok (.goto 17, 3) := by decide +kernel
theorem dX12_readLine_84 : decode (mcode mX12_readLine) 84 = .ok (.lload_n 2, 1) := by decide +kernel
theorem dX12_readLine_85 : decode (mcode mX12_readLine) 85 = .ok (.ldc2_w 205, 3) := by decide +kernel
theorem dX12_readLine_88 : decode (mcode mX12_readLine) 88 = .ok (.lcmp, 1) := by decide +kernel
theorem dX12_readLine_89 : decode (mcode mX12_readLine) 89 = .ok (.ifCond .ne 7, 3) := by decide +kernel
theorem dX12_readLine_92 : decode (mcode mX12_readLine) 92 = .ok (.iconst 4, 1) := by decide +kernel
theorem dX12_readLine_93 : decode (mcode mX12_readLine) 93 = .ok (.goto 5, 3) := by decide +kernel
theorem dX12_readLine_96 : decode (mcode mX12_readLine) 96 = .ok (.ldc 144, 2) := by decide +kernel
theorem dX12_readLine_98 : decode (mcode mX12_readLine) 98 = .ok (.istore 4, 2) := by decide +kernel
theorem dX12_readLine_100 : decode (mcode mX12_readLine) 100 = .ok (.aload_n 0, 1) := by decide +kernel
theorem dX12_readLine_101 : decode (mcode mX12_readLine) 101 = .ok (.getfield 35, 3) := by decide +kernel
theorem dX12_readLine_104 : decode (mcode mX12_readLine) 104 = .ok (.iload_n 1, 1) := by decide +kernel
theorem dX12_readLine_105 : decode (mcode mX12_readLine) 105 = .ok (.iload 4, 2) := by decide +kernel
theorem dX12_readLine_107 : decode (mcode mX12_readLine) 107 = .ok (.iastore, 1) := by decide +kernel
theorem dX12_readLine_108 : decode (mcode mX12_readLine) 108 = .ok (.aload_n 0, 1) := by decide +kernel
theorem dX12_readLine_109 : decode (mcode mX12_readLine) 109 = .ok (.iload 4, 2) := by decide +kernel
theorem dX12_readLine_111 : decode (mcode mX12_readLine) 111 = .ok (.ldc 144, 2) := by decide +kernel
theorem dX12_readLine_113 : decode (mcode mX12_readLine) 113 = .ok (.if_icmp .eq 7, 3) := by decide +kernel
theorem dX12_readLine_116 : decode (mcode mX12_readLine) 116 = .ok (.iconst 1, 1) := by decide +kernel
theorem dX12_readLine_117 : decode (mcode mX12_readLine) 117 = .ok (.goto 4, 3) := by decide +kernel
theorem dX12_readLine_120 : decode (mcode mX12_readLine) 120 = .ok (.iconst 0, 1) := by decide +kernel
theorem dX12_readLine_121 : decode (mcode mX12_readLine) 121 = .ok (.invokevirtual 179, 3) := by decide +kernel
theorem dX12_readLine_124 : decode (mcode mX12_readLine) 124 = .ok (.aload_n 0, 1) := by decide +kernel
theorem dX12_readLine_125 : decode (mcode mX12_readLine) 125 = .ok (.getfield 38, 3) := by decide +kernel
theorem dX12_readLine_128 : decode (mcode mX12_readLine) 128 = .ok (.iload_n 1, 1) := by decide +kernel
theorem dX12_readLine_129 : decode (mcode mX12_readLine) 129 = .ok (.aload_n 0, 1) := by decide +kernel
theorem dX12_readLine_130 : decode (mcode mX12_readLine) 130 = .ok (.iconst 0, 1) := by decide +kernel
theorem dX12_readLine_131 : decode (mcode mX12_readLine) 131 = .ok (.iconst 3, 1) := by decide +kernel
theorem dX12_readLine_132 : decode (mcode mX12_readLine) 132 = .ok (.ldc 144, 2) := by decide +kernel
theorem dX12_readLine_134 : decode (mcode mX12_readLine) 134 = .ok (.invokevirtual 189, 3) := by decide +kernel
theorem dX12_readLine_137 : decode (mcode mX12_readLine) 137 = .ok (.iastore, 1) := by decide +kernel
theorem dX12_readLine_138 : decode (mcode mX12_readLine) 138 = .ok (.aload_n 0, 1) := by decide +kernel
theorem dX12_readLine_139 : decode (mcode mX12_readLine) 139 = .ok (.getfield 41, 3) := by decide +kernel
theorem dX12_readLine_142 : decode (mcode mX12_readLine) 142 = .ok (.iload_n 1, 1) := by decide +kernel
theorem dX12_readLine_143 : decode (mcode mX12_readLine) 143 = .ok (.aload_n 0, 1) := by decide +kernel
theorem dX12_readLine_144 : decode (mcode mX12_readLine) 144 = .ok (.iconst 1, 1) := by decide +kernel
theorem dX12_readLine_145 : decode (mcode mX12_readLine) 145 = .ok (.bipush 99, 2) := by decide +kernel
theorem dX12_readLine_147 : decode (mcode mX12_readLine) 147 = .ok (.ldc 144, 2) := by decide +kernel
theorem dX12_readLine_149 : decode (mcode mX12_readLine) 149 = .ok (.invokevirtual 189, 3) := by decide +kernel
theorem dX12_readLine_152 : decode (mcode mX12_readLine) 152 = .ok (.iastore, 1) := by decide +kernel
theorem dX12_readLine_153 : decode (mcode mX12_readLine) 153 = .ok (.aload_n 0, 1) := by decide +kernel
theorem dX12_readLine_154 : decode (mcode mX12_readLine) 154 = .ok (.getfield 166, 3) := by decide +kernel
theorem dX12_readLine_157 : decode (mcode mX12_readLine) 157 = .ok (.ifCond .ne 121, 3) := by decide +kernel
theorem dX12_readLine_160 : decode (mcode mX12_readLine) 160 = .ok (.aload_n 0, 1) := by decide +kernel
theorem dX12_readLine_161 : decode (mcode mX12_readLine) 161 = .ok (.getfield 154, 3) := by decide +kernel
theorem dX12_readLine_164 : decode (mcode mX12_readLine) 164 = .ok (.iconst 2, 1) := by decide +kernel
theorem dX12_readLine_165 : decode (mcode mX12_readLine) 165 = .ok (.if_icmp .ne 22, 3) := by decide +kernel
theorem dX12_readLine_168 : decode (mcode mX12_readLine) 168 = .ok (.aload_n 0, 1) := by decide +kernel
theorem dX12_readLine_169 : decode (mcode mX12_readLine) 169 = .ok (.getfield 163, 3) := by decide +kernel
theorem dX12_readLine_172 : decode (mcode mX12_readLine) 172 = .ok (.aload_n 0, 1) := by decide +kernel
theorem dX12_readLine_173 : decode (mcode mX12_readLine) 173 = .ok (.getfield 151, 3) := by decide +kernel
theorem dX12_readLine_176 : decode (mcode mX12_readLine) 176 = .ok (.isub, 1) := by decide +kernel
theorem dX12_readLine_177 : decode (mcode mX12_readLine) 177 = .ok (.bipush 8, 2) := by decide +kernel
theorem dX12_readLine_179 : decode (mcode mX12_readLine) 179 = .ok (.if_icmp .le 8, 3) := by decide +kernel
theorem dX12_readLine_182 : decode (mcode mX12_readLine) 182 = .ok (.aload_n 0, 1) := by decide +kernel
theorem dX12_readLine_183 : decode (mcode mX12_readLine) 183 = .ok (.iconst 2, 1) := by decide +kernel
theorem dX12_readLine_184 : decode (mcode mX12_readLine) 184 = .ok (.invokevirtual 172, 3) := by decide +kernel
theorem dX12_readLine_187 : decode (mcode mX12_readLine) 187 = .ok (.aload_n 0, 1) := by decide +kernel
theorem dX12_readLine_188 : decode (mcode mX12_readLine) 188 = .ok (.getfield 47, 3) := by decide +kernel
theorem dX12_readLine_191 : decode (mcode mX12_readLine) 191 = .ok (.iload_n 1, 1) := by decide +kernel
theorem dX12_readLine_192 : decode (mcode mX12_readLine) 192 = .ok (.aload_n 0, 1) := by decide +kernel
theorem dX12_readLine_193 : decode (mcode mX12_readLine) 193 = .ok (.getfield 163, 3) := by decide +kernel
theorem dX12_readLine_196 : decode (mcode mX12_readLine) 196 = .ok (.aload_n 0, 1) := by decide +kernel
theorem dX12_readLine_197 : decode (mcode mX12_readLine) 197 = .ok (.getfield 151, 3) := by decide +kernel
theorem dX12_readLine_200 : decode (mcode mX12_readLine) 200 = .ok (.isub, 1) := by decide +kernel
theorem dX12_readLine_201 : decode (mcode mX12_readLine) 201 = .ok (.iastore, 1) := by decide +kernel
theorem dX12_readLine_202 : decode (mcode mX12_readLine) 202 = .ok (.aload_n 0, 1) := by decide +kernel
theorem dX12_readLine_203 : decode (mcode mX12_readLine) 203 = .ok (.getfield 151, 3) := by decide +kernel
theorem dX12_readLine_206 : decode (mcode mX12_readLine) 206 = .ok (.istore_n 2, 1) := by decide +kernel
theorem dX12_readLine_207 : decode (mcode mX12_readLine) 207 = .ok (.iload_n 2, 1) := by decide +kernel
theorem dX12_readLine_208 : decode (mcode mX12_readLine) 208 = .ok (.aload_n 0, 1) := by decide +kernel
theorem dX12_readLine_209 : decode (mcode mX12_readLine) 209 = .ok (.getfield 163, 3) := by decide +kernel
theorem dX12_readLine_212 : decode (mcode mX12_readLine) 212 = .ok (.if_icmp .ge 49, 3) := by decide +kernel
theorem dX12_readLine_215 : decode (mcode mX12_readLine) 215 = .ok (.aload_n 0, 1) := by decide +kernel
theorem dX12_readLine_216 : decode (mcode mX12_readLine) 216 = .ok (.getfield 154, 3) := by decide +kernel
theorem dX12_readLine_219 : decode (mcode mX12_readLine) 219 = .ok (.iconst 2, 1) := by decide +kernel
theorem dX12_readLine_220 : decode (mcode mX12_readLine) 220 = .ok (.if_icmp .ne 41, 3) := by decide +kernel
theorem dX12_readLine_223 : decode (mcode mX12_readLine) 223 = .ok (.aload_n 0, 1) := by decide +kernel
theorem dX12_readLine_224 : decode (mcode mX12_readLine) 224 = .ok (.getfield 166, 3) := by decide +kernel
theorem dX12_readLine_227 : decode (mcode mX12_readLine) 227 = .ok (.ifCond .ne 34, 3) := by decide +kernel
theorem dX12_readLine_230 : decode (mcode mX12_readLine) 230 = .ok (.aload_n 0, 1) := by decide +kernel
theorem dX12_readLine_231 : decode (mcode mX12_readLine) 231 = .ok (.getfield 50, 3) := by decide +kernel
theorem dX12_readLine_234 : decode (mcode mX12_readLine) 234 = .ok (.bipush 8, 2) := by decide +kernel
theorem dX12_readLine_236 : decode (mcode mX12_readLine) 236 = .ok (.iload_n 1, 1) := by decide +kernel
theorem dX12_readLine_237 : decode (mcode mX12_readLine) 237 = .ok (.imul, 1) := by decide +kernel
theorem dX12_readLine_238 : decode (mcode mX12_readLine) 238 = .ok (.iload_n 2, 1) := by decide +kernel
theorem dX12_readLine_239 : decode (mcode mX12_readLine) 239 = .ok (.iadd, 1) := by decide +kernel
theorem dX12_readLine_240 : decode (mcode mX12_readLine) 240 = .ok (.aload_n 0, 1) := by decide +kernel
theorem dX12_readLine_241 : decode (mcode mX12_readLine) 241 = .ok (.getfield 151, 3) := by decide +kernel
theorem dX12_readLine_244 : decode (mcode mX12_readLine) 244 = .ok (.isub, 1) := by decide +kernel
theorem dX12_readLine_245 : decode (mcode mX12_readLine) 245 = .ok (.aload_n 0, 1) := by decide +kernel
theorem dX12_readLine_246 : decode (mcode mX12_readLine) 246 = .ok (.getfield 77, 3) := by decide +kernel
theorem dX12_readLine_249 : decode (mcode mX12_readLine) 249 = .ok (.iload_n 2, 1) := by decide +kernel
theorem dX12_readLine_250 : decode (mcode mX12_readLine) 250 = .ok (.iaload, 1) := by decide +kernel
theorem dX12_readLine_251 : decode (mcode mX12_readLine) 251 = .ok (.bipush 97, 2) := by decide +kernel
theorem dX12_readLine_253 : decode (mcode mX12_readLine) 253 = .ok (.isub, 1) := by decide +kernel
theorem dX12_readLine_254 : decode (mcode mX12_readLine) 254 = .ok (.iastore, 1) := by decide +kernel
theorem dX12_readLine_255 : decode (mcode mX12_readLine) 255 = .ok (.iinc 2 1, 3) := by decide +kernel
theorem dX12_readLine_258 : decode (mcode mX12_readLine) 258 = .ok (.goto (-51), 3) := by decide +kernel
theorem dX12_readLine_261 : decode (mcode mX12_readLine) 261 = .ok (.aload_n 0, 1) := by decide +kernel
theorem dX12_readLine_262 : decode (mcode mX12_readLine) 262 = .ok (.aload_n 0, 1) := by decide +kernel
theorem dX12_readLine_263 : decode (mcode mX12_readLine) 263 = .ok (.getfield 154, 3) := by decide +kernel
theorem dX12_readLine_266 : decode (mcode mX12_readLine) 266 = .ok (.iconst 2, 1) := by decide +kernel
theorem dX12_readLine_267 : decode (mcode mX12_readLine) 267 = .ok (.if_icmp .ne 7, 3) := by decide +kernel
theorem dX12_readLine_270 : decode (mcode mX12_readLine) 270 = .ok (.iconst 1, 1) := by decide +kernel
theorem dX12_readLine_271 : decode (mcode mX12_readLine) 271 = .ok (.goto 4, 3) := by decide +kernel
theorem dX12_readLine_274 : decode (mcode mX12_readLine) 274 = .ok (.iconst 0, 1) := by decide +kernel
theorem dX12_readLine_275 : decode (mcode mX12_readLine) 275 = .ok (.invokevirtual 179, 3) := by decide +kernel
theorem dX12_readLine_278 : decode (mcode mX12_readLine) 278 = .ok (.aload_n 0, 1) := by decide +kernel
theorem dX12_readLine_279 : decode (mcode mX12_readLine) 279 = .ok (.getfield 44, 3) := by decide +kernel
theorem dX12_readLine_282 : decode (mcode mX12_readLine) 282 = .ok (.iload_n 1, 1) := by decide +kernel
theorem dX12_readLine_283 : decode (mcode mX12_readLine) 283 = .ok (.ldc 144, 2) := by decide +kernel
theorem dX12_readLine_285 : decode (mcode mX12_readLine) 285 = .ok (.iastore, 1) := by decide +kernel
theorem dX12_readLine_286 : decode (mcode mX12_readLine) 286 = .ok (.aload_n 0, 1) := by decide +kernel
theorem dX12_readLine_287 : decode (mcode mX12_readLine) 287 = .ok (.getfield 166, 3) := by decide +kernel
theorem dX12_readLine_290 : decode (mcode mX12_readLine) 290 = .ok (.ifCond .ne 33, 3) := by decide +kernel
theorem dX12_readLine_293 : decode (mcode mX12_readLine) 293 = .ok (.aload_n 0, 1) := by decide +kernel
theorem dX12_readLine_294 : decode (mcode mX12_readLine) 294 = .ok (.invokevirtual 193, 3) := by decide +kernel
theorem dX12_readLine_297 : decode (mcode mX12_readLine) 297 = .ok (.ldc2_w 207, 3) := by decide +kernel
theorem dX12_readLine_300 : decode (mcode mX12_readLine) 300 = .ok (.lcmp, 1) := by decide +kernel
theorem dX12_readLine_301 : decode (mcode mX12_readLine) 301 = .ok (.ifCond .ne 22, 3) := by decide +kernel
theorem dX12_readLine_304 : decode (mcode mX12_readLine) 304 = .ok (.aload_n 0, 1) := by decide +kernel
theorem dX12_readLine_305 : decode (mcode mX12_readLine) 305 = .ok (.invokevirtual 176, 3) := by decide +kernel
theorem dX12_readLine_308 : decode (mcode mX12_readLine) 308 = .ok (.aload_n 0, 1) := by decide +kernel
theorem dX12_readLine_309 : decode (mcode mX12_readLine) 309 = .ok (.getfield 44, 3) := by decide +kernel
theorem dX12_readLine_312 : decode (mcode mX12_readLine) 312 = .ok (.iload_n 1, 1) := by decide +kernel
theorem dX12_readLine_313 : decode (mcode mX12_readLine) 313 = .ok (.aload_n 0, 1) := by decide +kernel
theorem dX12_readLine_314 : decode (mcode mX12_readLine) 314 = .ok (.iconst 0, 1) := by decide +kernel
theorem dX12_readLine_315 : decode (mcode mX12_readLine) 315 = .ok (.bipush 120, 2) := by decide +kernel
theorem dX12_readLine_317 : decode (mcode mX12_readLine) 317 = .ok (.ldc 144, 2) := by decide +kernel
theorem dX12_readLine_319 : decode (mcode mX12_readLine) 319 = .ok (.invokevirtual 189, 3) := by decide +kernel
theorem dX12_readLine_322 : decode (mcode mX12_readLine) 322 = .ok (.iastore, 1) := by decide +kernel
theorem dX12_readLine_323 : decode (mcode mX12_readLine) 323 = .ok (.aload_n 0, 1) := by decide +kernel
theorem dX12_readLine_324 : decode (mcode mX12_readLine) 324 = .ok (.dup, 1) := by decide +kernel
theorem dX12_readLine_325 : decode (mcode mX12_readLine) 325 = .ok (.getfield 183, 3) := by decide +kernel
theorem dX12_readLine_328 : decode (mcode mX12_readLine) 328 = .ok (.iconst 1, 1) := by decide +kernel
theorem dX12_readLine_329 : decode (mcode mX12_readLine) 329 = .ok (.iadd, 1) := by decide +kernel
theorem dX12_readLine_330 : decode (mcode mX12_readLine) 330 = .ok (.putfield 183, 3) := by decide +kernel
theorem dX12_readLine_333 : decode (mcode mX12_readLine) 333 = .ok (.return_, 1) := by decide +kernel
theorem dX12_joined_0 : decode (mcode mX12_joined) 0 = .ok (.aload_n 0, 1) := by decide +kernel
theorem dX12_joined_1 : decode (mcode mX12_joined) 1 = .ok (.iconst 0, 1) := by decide +kernel
theorem dX12_joined_2 : decode (mcode mX12_joined) 2 = .ok (.putfield 108, 3) := by decide +kernel
theorem dX12_joined_5 : decode (mcode mX12_joined) 5 = .ok (.iload_n 1, 1) := by decide +kernel
theorem dX12_joined_6 : decode (mcode mX12_joined) 6 = .ok (.i2l, 1) := by decide +kernel
theorem dX12_joined_7 : decode (mcode mX12_joined) 7 = .ok (.lconst 0, 1) := by decide +kernel
theorem dX12_joined_8 : decode (mcode mX12_joined) 8 = .ok (.ldc2_w 126, 3) := by decide +kernel
theorem dX12_joined_11 : decode (mcode mX12_joined) 11 = .ok (.invokestatic 118, 3) := by decide +kernel
theorem dX12_joined_14 : decode (mcode mX12_joined) 14 = .ok (.ifCond .ne 7, 3) := by decide +kernel
theorem dX12_joined_17 : decode (mcode mX12_joined) 17 = .ok (.ldc2_w 308, 3) := by decide +kernel
theorem dX12_joined_20 : decode (mcode mX12_joined) 20 = .ok (.lreturn, 1) := by decide +kernel
theorem dX12_joined_21 : decode (mcode mX12_joined) 21 = .ok (.aload_n 0, 1) := by decide +kernel
theorem dX12_joined_22 : decode (mcode mX12_joined) 22 = .ok (.iconst 0, 1) := by decide +kernel
theorem dX12_joined_23 : decode (mcode mX12_joined) 23 = .ok (.iconst 0, 1) := by decide +kernel
theorem dX12_joined_24 : decode (mcode mX12_joined) 24 = .ok (.invokevirtual 310, 3) := by decide +kernel
theorem dX12_joined_27 : decode (mcode mX12_joined) 27 = .ok (.iload_n 1, 1) := by decide +kernel
theorem dX12_joined_28 : decode (mcode mX12_joined) 28 = .ok (.iconst 2, 1) := by decide +kernel
theorem dX12_joined_29 : decode (mcode mX12_joined) 29 = .ok (.if_icmp .ge 30, 3) := by decide +kernel
theorem dX12_joined_32 : decode (mcode mX12_joined) 32 = .ok (.iload_n 1, 1) := by decide +kernel
theorem dX12_joined_33 : decode (mcode mX12_joined) 33 = .ok (.ifCond .ne 16, 3) := by decide +kernel
theorem dX12_joined_36 : decode (mcode mX12_joined) 36 = .ok (.aload_n 0, 1) := by decide +kernel
theorem dX12_joined_37 : decode (mcode mX12_joined) 37 = .ok (.getfield 89, 3) := by decide +kernel
theorem dX12_joined_40 : decode (mcode mX12_joined) 40 = .ok (.aload_n 0, 1) := by decide +kernel
theorem dX12_joined_41 : decode (mcode mX12_joined) 41 = .ok (.invokevirtual 304, 3) := by decide +kernel
theorem dX12_joined_44 : decode (mcode mX12_joined) 44 = .ok (.iaload, 1) := by decide +kernel
theorem dX12_joined_45 : decode (mcode mX12_joined) 45 = .ok (.i2l, 1) := by decide +kernel
theorem dX12_joined_46 : decode (mcode mX12_joined) 46 = .ok (.goto 12, 3) := by decide +kernel
theorem dX12_joined_49 : decode (mcode mX12_joined) 49 = .ok (.aload_n 0, 1) := by decide +kernel
theorem dX12_joined_50 : decode (mcode mX12_joined) 50 = .ok (.getfield 92, 3) := by decide +kernel
theorem dX12_joined_53 : decode (mcode mX12_joined) 53 = .ok (.aload_n 0, 1) := by decide +kernel
theorem dX12_joined_54 : decode (mcode mX12_joined) 54 = .ok (.invokevirtual 304, 3) := by decide +kernel
theorem dX12_joined_57 : decode (mcode mX12_joined) 57 = .ok (.laload, 1) := by decide +kernel
theorem dX12_joined_58 : decode (mcode mX12_joined) 58 = .ok (.lreturn, 1) := by decide +kernel
theorem dX12_joined_59 : decode (mcode mX12_joined) 59 = .ok (.iconst 0, 1) := by decide +kernel
theorem dX12_joined_60 : decode (mcode mX12_joined) 60 = .ok (.istore_n 2, 1) := by decide +kernel
theorem dX12_joined_61 : decode (mcode mX12_joined) 61 = .ok (.iconst 0, 1) := by decide +kernel
theorem dX12_joined_62 : decode (mcode mX12_joined) 62 = .ok (.istore_n 3, 1) := by decide +kernel
theorem dX12_joined_63 : decode (mcode mX12_joined) 63 = .ok (.iload_n 3, 1) := by decide +kernel
theorem dX12_joined_64 : decode (mcode mX12_joined) 64 = .ok (.aload_n 0, 1) := by decide +kernel
theorem dX12_joined_65 : decode (mcode mX12_joined) 65 = .ok (.getfield 227, 3) := by decide +kernel
theorem dX12_joined_68 : decode (mcode mX12_joined) 68 = .ok (.if_icmp .ge 32, 3) := by decide +kernel
theorem dX12_joined_71 : decode (mcode mX12_joined) 71 = .ok (.aload_n 0, 1) := by decide +kernel
theorem dX12_joined_72 : decode (mcode mX12_joined) 72 = .ok (.iload_n 3, 1) := by decide +kernel
theorem dX12_joined_73 : decode (mcode mX12_joined) 73 = .ok (.invokevirtual 314, 3) := by decide +kernel
theorem dX12_joined_76 : decode (mcode mX12_joined) 76 = .ok (.invokestatic 317, 3) := by decide +kernel
theorem dX12_joined_79 : decode (mcode mX12_joined) 79 = .ok (.istore 4, 2) := by decide +kernel
theorem dX12_joined_81 : decode (mcode mX12_joined) 81 = .ok (.iload 4, 2) := by decide +kernel
theorem dX12_joined_83 : decode (mcode mX12_joined) 83 = .ok (.iload_n 2, 1) := by decide +kernel
theorem dX12_joined_84 : decode (mcode mX12_joined) 84 = .ok (.if_icmp .le 8, 3) := by decide +kernel
theorem dX12_joined_87 : decode (mcode mX12_joined) 87 = .ok (.iload 4, 2) := by decide +kernel
theorem dX12_joined_89 : decode (mcode mX12_joined) 89 = .ok (.goto 4, 3) := by decide +kernel
theorem dX12_joined_92 : decode (mcode mX12_joined) 92 = .ok (.iload_n 2, 1) := by decide +kernel
theorem dX12_joined_93 : decode (mcode mX12_joined) 93 = .ok (.istore_n 2, 1) := by decide +kernel
theorem dX12_joined_94 : decode (mcode mX12_joined) 94 = .ok (.iinc 3 1, 3) := by decide +kernel
theorem dX12_joined_97 : decode (mcode mX12_joined) 97 = .ok (.goto (-34), 3) := by decide +kernel
theorem dX12_joined_100 : decode (mcode mX12_joined) 100 = .ok (.iload_n 2, 1) := by decide +kernel
theorem dX12_joined_101 : decode (mcode mX12_joined) 101 = .ok (.i2l, 1) := by decide +kernel
theorem dX12_joined_102 : decode (mcode mX12_joined) 102 = .ok (.lreturn, 1) := by decide +kernel
theorem dX12_person_0 : decode (mcode mX12_person) 0 = .ok (.aload_n 0, 1) := by decide +kernel
theorem dX12_person_1 : decode (mcode mX12_person) 1 = .ok (.iconst 0, 1) := by decide +kernel
theorem dX12_person_2 : decode (mcode mX12_person) 2 = .ok (.putfield 108, 3) := by decide +kernel
theorem dX12_person_5 : decode (mcode mX12_person) 5 = .ok (.aload_n 0, 1) := by decide +kernel
theorem dX12_person_6 : decode (mcode mX12_person) 6 = .ok (.iload_n 1, 1) := by decide +kernel
theorem dX12_person_7 : decode (mcode mX12_person) 7 = .ok (.invokevirtual 255, 3) := by decide +kernel
theorem dX12_person_10 : decode (mcode mX12_person) 10 = .ok (.ifCond .ne 6, 3) := by decide +kernel
theorem dX12_person_13 : decode (mcode mX12_person) 13 = .ok (.ldc 128, 2) := by decide +kernel
theorem dX12_person_15 : decode (mcode mX12_person) 15 = .ok (.ireturn, 1) := by decide +kernel
theorem dX12_person_16 : decode (mcode mX12_person) 16 = .ok (.aload_n 0, 1) := by decide +kernel
theorem dX12_person_17 : decode (mcode mX12_person) 17 = .ok (.iconst 0, 1) := by decide +kernel
theorem dX12_person_18 : decode (mcode mX12_person) 18 = .ok (.iconst 0, 1) := by decide +kernel
theorem dX12_person_19 : decode (mcode mX12_person) 19 = .ok (.invokevirtual 310, 3) := by decide +kernel
theorem dX12_person_22 : decode (mcode mX12_person) 22 = .ok (.aload_n 0, 1) := by decide +kernel
theorem dX12_person_23 : decode (mcode mX12_person) 23 = .ok (.iload_n 1, 1) := by decide +kernel
theorem dX12_person_24 : decode (mcode mX12_person) 24 = .ok (.invokevirtual 314, 3) := by decide +kernel
theorem dX12_person_27 : decode (mcode mX12_person) 27 = .ok (.ireturn, 1) := by decide +kernel
theorem dX12_readPart_0 : decode (mcode mX12_readPart) 0 = .ok (.lload_n 1, 1) := by decide +kernel
theorem dX12_readPart_1 : decode (mcode mX12_readPart) 1 = .ok (.ldc2_w 209, 3) := by decide +kernel
theorem dX12_readPart_4 : decode (mcode mX12_readPart) 4 = .ok (.lcmp, 1) := by decide +kernel
theorem dX12_readPart_5 : decode (mcode mX12_readPart) 5 = .ok (.ifCond .ne 99, 3) := by decide +kernel
theorem dX12_readPart_8 : decode (mcode mX12_readPart) 8 = .ok (.aload_n 0, 1) := by decide +kernel
theorem dX12_readPart_9 : decode (mcode mX12_readPart) 9 = .ok (.getfield 19, 3) := by decide +kernel
theorem dX12_readPart_12 : decode (mcode mX12_readPart) 12 = .ok (.aload_n 0, 1) := by decide +kernel
theorem dX12_readPart_13 : decode (mcode mX12_readPart) 13 = .ok (.getfield 186, 3) := by decide +kernel
theorem dX12_readPart_16 : decode (mcode mX12_readPart) 16 = .ok (.aload_n 0, 1) := by decide +kernel
theorem dX12_readPart_17 : decode (mcode mX12_readPart) 17 = .ok (.iconst 1, 1) := by decide +kernel
theorem dX12_readPart_18 : decode (mcode mX12_readPart) 18 = .ok (.sipush 9998, 3) := by decide +kernel
theorem dX12_readPart_21 : decode (mcode mX12_readPart) 21 = .ok (.ldc 144, 2) := by decide +kernel
theorem dX12_readPart_23 : decode (mcode mX12_readPart) 23 = .ok (.invokevirtual 189, 3) := by decide +kernel
theorem dX12_readPart_26 : decode (mcode mX12_readPart) 26 = .ok (.iastore, 1) := by decide +kernel
theorem dX12_readPart_27 : decode (mcode mX12_readPart) 27 = .ok (.aload_n 0, 1) := by decide +kernel
theorem dX12_readPart_28 : decode (mcode mX12_readPart) 28 = .ok (.getfield 22, 3) := by decide +kernel
theorem dX12_readPart_31 : decode (mcode mX12_readPart) 31 = .ok (.aload_n 0, 1) := by decide +kernel
theorem dX12_readPart_32 : decode (mcode mX12_readPart) 32 = .ok (.getfield 186, 3) := by decide +kernel
theorem dX12_readPart_35 : decode (mcode mX12_readPart) 35 = .ok (.aload_n 0, 1) := by decide +kernel
theorem dX12_readPart_36 : decode (mcode mX12_readPart) 36 = .ok (.iconst 0, 1) := by decide +kernel
theorem dX12_readPart_37 : decode (mcode mX12_readPart) 37 = .ok (.aload_n 0, 1) := by decide +kernel
theorem dX12_readPart_38 : decode (mcode mX12_readPart) 38 = .ok (.getfield 19, 3) := by decide +kernel
theorem dX12_readPart_41 : decode (mcode mX12_readPart) 41 = .ok (.aload_n 0, 1) := by decide +kernel
theorem dX12_readPart_42 : decode (mcode mX12_readPart) 42 = .ok (.getfield 186, 3) := by decide +kernel
theorem dX12_readPart_45 : decode (mcode mX12_readPart) 45 = .ok (.iaload, 1) := by decide +kernel
theorem dX12_readPart_46 : decode (mcode mX12_readPart) 46 = .ok (.bipush 9, 2) := by decide +kernel
theorem dX12_readPart_48 : decode (mcode mX12_readPart) 48 = .ok (.if_icmp .le 8, 3) := by decide +kernel
theorem dX12_readPart_51 : decode (mcode mX12_readPart) 51 = .ok (.bipush 9, 2) := by decide +kernel
theorem dX12_readPart_53 : decode (mcode mX12_readPart) 53 = .ok (.goto 14, 3) := by decide +kernel
theorem dX12_readPart_56 : decode (mcode mX12_readPart) 56 = .ok (.aload_n 0, 1) := by decide +kernel
theorem dX12_readPart_57 : decode (mcode mX12_readPart) 57 = .ok (.getfield 19, 3) := by decide +kernel
theorem dX12_readPart_60 : decode (mcode mX12_readPart) 60 = .ok (.aload_n 0, 1) := by decide +kernel
theorem dX12_readPart_61 : decode (mcode mX12_readPart) 61 = .ok (.getfield 186, 3) := by decide +kernel
theorem dX12_readPart_64 : decode (mcode mX12_readPart) 64 = .ok (.iaload, 1) := by decide +kernel
theorem dX12_readPart_65 : decode (mcode mX12_readPart) 65 = .ok (.iconst 1, 1) := by decide +kernel
theorem dX12_readPart_66 : decode (mcode mX12_readPart) 66 = .ok (.isub, 1) := by decide +kernel
theorem dX12_readPart_67 : decode (mcode mX12_readPart) 67 = .ok (.ldc 144, 2) := by decide +kernel
theorem dX12_readPart_69 : decode (mcode mX12_readPart) 69 = .ok (.invokevirtual 189, 3) := by decide +kernel
theorem dX12_readPart_72 : decode (mcode mX12_readPart) 72 = .ok (.iastore, 1) := by decide +kernel
theorem dX12_readPart_73 : decode (mcode mX12_readPart) 73 = .ok (.aload_n 0, 1) := by decide +kernel
theorem dX12_readPart_74 : decode (mcode mX12_readPart) 74 = .ok (.getfield 25, 3) := by decide +kernel
theorem dX12_readPart_77 : decode (mcode mX12_readPart) 77 = .ok (.aload_n 0, 1) := by decide +kernel
theorem dX12_readPart_78 : decode (mcode mX12_readPart) 78 = .ok (.getfield 186, 3) := by decide +kernel
theorem dX12_readPart_81 : decode (mcode mX12_readPart) 81 = .ok (.aload_n 0, 1) := by decide +kernel
theorem dX12_readPart_82 : decode (mcode mX12_readPart) 82 = .ok (.iconst 1, 1) := by decide +kernel
theorem dX12_readPart_83 : decode (mcode mX12_readPart) 83 = .ok (.bipush 99, 2) := by decide +kernel
theorem dX12_readPart_85 : decode (mcode mX12_readPart) 85 = .ok (.ldc 144, 2) := by decide +kernel
theorem dX12_readPart_87 : decode (mcode mX12_readPart) 87 = .ok (.invokevirtual 189, 3) := by decide +kernel
theorem dX12_readPart_90 : decode (mcode mX12_readPart) 90 = .ok (.iastore, 1) := by decide +kernel
theorem dX12_readPart_91 : decode (mcode mX12_readPart) 91 = .ok (.aload_n 0, 1) := by decide +kernel
theorem dX12_readPart_92 : decode (mcode mX12_readPart) 92 = .ok (.dup, 1) := by decide +kernel
theorem dX12_readPart_93 : decode (mcode mX12_readPart) 93 = .ok (.getfield 186, 3) := by decide +kernel
theorem dX12_readPart_96 : decode (mcode mX12_readPart) 96 = .ok (.iconst 1, 1) := by decide +kernel
theorem dX12_readPart_97 : decode (mcode mX12_readPart) 97 = .ok (.iadd, 1) := by decide +kernel
theorem dX12_readPart_98 : decode (mcode mX12_readPart) 98 = .ok (.putfield 186, 3) := by decide +kernel
theorem dX12_readPart_101 : decode (mcode mX12_readPart) 101 = .ok (.goto 211, 3) := by decide +kernel
theorem dX12_readPart_104 : decode (mcode mX12_readPart) 104 = .ok (.lload_n 1, 1) := by decide +kernel
theorem dX12_readPart_105 : decode (mcode mX12_readPart) 105 = .ok (.ldc2_w 211, 3) := by decide +kernel
theorem dX12_readPart_108 : decode (mcode mX12_readPart) 108 = .ok (.lcmp, 1) := by decide +kernel
theorem dX12_readPart_109 : decode (mcode mX12_readPart) 109 = .ok (.ifCond .ne 10, 3) := by decide +kernel
theorem dX12_readPart_112 : decode (mcode mX12_readPart) 112 = .ok (.aload_n 0, 1) := by decide +kernel
theorem dX12_readPart_113 : decode (mcode mX12_readPart) 113 = .ok (.invokevirtual 213, 3) := by decide +kernel
theorem dX12_readPart_116 : decode (mcode mX12_readPart) 116 = .ok (.goto 196, 3) := by decide +kernel
theorem dX12_readPart_119 : decode (mcode mX12_readPart) 119 = .ok (.lload_n 1, 1) := by decide +kernel
theorem dX12_readPart_120 : decode (mcode mX12_readPart) 120 = .ok (.ldc2_w 216, 3) := by decide +kernel
theorem dX12_readPart_123 : decode (mcode mX12_readPart) 123 = .ok (.lcmp, 1) := by decide +kernel
theorem dX12_readPart_124 : decode (mcode mX12_readPart) 124 = .ok (.ifCond .ne 95, 3) := by decide +kernel
theorem dX12_readPart_127 : decode (mcode mX12_readPart) 127 = .ok (.aload_n 0, 1) := by decide +kernel
theorem dX12_readPart_128 : decode (mcode mX12_readPart) 128 = .ok (.getfield 53, 3) := by decide +kernel
theorem dX12_readPart_131 : decode (mcode mX12_readPart) 131 = .ok (.aload_n 0, 1) := by decide +kernel
theorem dX12_readPart_132 : decode (mcode mX12_readPart) 132 = .ok (.getfield 218, 3) := by decide +kernel
theorem dX12_readPart_135 : decode (mcode mX12_readPart) 135 = .ok (.aload_n 0, 1) := by decide +kernel
theorem dX12_readPart_136 : decode (mcode mX12_readPart) 136 = .ok (.iconst 1, 1) := by decide +kernel
theorem dX12_readPart_137 : decode (mcode mX12_readPart) 137 = .ok (.sipush 9998, 3) := by decide +kernel
theorem dX12_readPart_140 : decode (mcode mX12_readPart) 140 = .ok (.ldc 144, 2) := by decide +kernel
theorem dX12_readPart_142 : decode (mcode mX12_readPart) 142 = .ok (.invokevirtual 189, 3) := by decide +kernel
theorem dX12_readPart_145 : decode (mcode mX12_readPart) 145 = .ok (.iastore, 1) := by decide +kernel
theorem dX12_readPart_146 : decode (mcode mX12_readPart) 146 = .ok (.aload_n 0, 1) := by decide +kernel
theorem dX12_readPart_147 : decode (mcode mX12_readPart) 147 = .ok (.getfield 56, 3) := by decide +kernel
theorem dX12_readPart_150 : decode (mcode mX12_readPart) 150 = .ok (.aload_n 0, 1) := by decide +kernel
theorem dX12_readPart_151 : decode (mcode mX12_readPart) 151 = .ok (.getfield 218, 3) := by decide +kernel
theorem dX12_readPart_154 : decode (mcode mX12_readPart) 154 = .ok (.aload_n 0, 1) := by decide +kernel
theorem dX12_readPart_155 : decode (mcode mX12_readPart) 155 = .ok (.iconst 0, 1) := by decide +kernel
theorem dX12_readPart_156 : decode (mcode mX12_readPart) 156 = .ok (.iconst 3, 1) := by decide +kernel
theorem dX12_readPart_157 : decode (mcode mX12_readPart) 157 = .ok (.ldc 144, 2) := by decide +kernel
theorem dX12_readPart_159 : decode (mcode mX12_readPart) 159 = .ok (.invokevirtual 189, 3) := by decide +kernel
theorem dX12_readPart_162 : decode (mcode mX12_readPart) 162 = .ok (.iastore, 1) := by decide +kernel
theorem dX12_readPart_163 : decode (mcode mX12_readPart) 163 = .ok (.aload_n 0, 1) := by decide +kernel
theorem dX12_readPart_164 : decode (mcode mX12_readPart) 164 = .ok (.getfield 59, 3) := by decide +kernel
theorem dX12_readPart_167 : decode (mcode mX12_readPart) 167 = .ok (.aload_n 0, 1) := by decide +kernel
theorem dX12_readPart_168 : decode (mcode mX12_readPart) 168 = .ok (.getfield 218, 3) := by decide +kernel
theorem dX12_readPart_171 : decode (mcode mX12_readPart) 171 = .ok (.aload_n 0, 1) := by decide +kernel
theorem dX12_readPart_172 : decode (mcode mX12_readPart) 172 = .ok (.iconst 1, 1) := by decide +kernel
theorem dX12_readPart_173 : decode (mcode mX12_readPart) 173 = .ok (.bipush 99, 2) := by decide +kernel
theorem dX12_readPart_175 : decode (mcode mX12_readPart) 175 = .ok (.ldc 144, 2) := by decide +kernel
theorem dX12_readPart_177 : decode (mcode mX12_readPart) 177 = .ok (.invokevirtual 189, 3) := by decide +kernel
theorem dX12_readPart_180 : decode (mcode mX12_readPart) 180 = .ok (.iastore, 1) := by decide +kernel
theorem dX12_readPart_181 : decode (mcode mX12_readPart) 181 = .ok (.aload_n 0, 1) := by decide +kernel
theorem dX12_readPart_182 : decode (mcode mX12_readPart) 182 = .ok (.getfield 62, 3) := by decide +kernel
theorem dX12_readPart_185 : decode (mcode mX12_readPart) 185 = .ok (.aload_n 0, 1) := by decide +kernel
theorem dX12_readPart_186 : decode (mcode mX12_readPart) 186 = .ok (.getfield 218, 3) := by decide +kernel
theorem dX12_readPart_189 : decode (mcode mX12_readPart) 189 = .ok (.aload_n 0, 1) := by decide +kernel
theorem dX12_readPart_190 : decode (mcode mX12_readPart) 190 = .ok (.iconst 1, 1) := by decide +kernel
theorem dX12_readPart_191 : decode (mcode mX12_readPart) 191 = .ok (.bipush 99, 2) := by decide +kernel
theorem dX12_readPart_193 : decode (mcode mX12_readPart) 193 = .ok (.aload_n 0, 1) := by decide +kernel
theorem dX12_readPart_194 : decode (mcode mX12_readPart) 194 = .ok (.getfield 59, 3) := by decide +kernel
theorem dX12_readPart_197 : decode (mcode mX12_readPart) 197 = .ok (.aload_n 0, 1) := by decide +kernel
theorem dX12_readPart_198 : decode (mcode mX12_readPart) 198 = .ok (.getfield 218, 3) := by decide +kernel
theorem dX12_readPart_201 : decode (mcode mX12_readPart) 201 = .ok (.iaload, 1) := by decide +kernel
theorem dX12_readPart_202 : decode (mcode mX12_readPart) 202 = .ok (.invokevirtual 189, 3) := by decide +kernel
theorem dX12_readPart_205 : decode (mcode mX12_readPart) 205 = .ok (.iastore, 1) := by decide +kernel
theorem dX12_readPart_206 : decode (mcode mX12_readPart) 206 = .ok (.aload_n 0, 1) := by decide +kernel
theorem dX12_readPart_207 : decode (mcode mX12_readPart) 207 = .ok (.dup, 1) := by decide +kernel
theorem dX12_readPart_208 : decode (mcode mX12_readPart) 208 = .ok (.getfield 218, 3) := by decide +kernel
theorem dX12_readPart_211 : decode (mcode mX12_readPart) 211 = .ok (.iconst 1, 1) := by decide +kernel
theorem dX12_readPart_212 : decode (mcode mX12_readPart) 212 = .ok (.iadd, 1) := by decide +kernel
theorem dX12_readPart_213 : decode (mcode mX12_readPart) 213 = .ok (.putfield 218, 3) := by decide +kernel
theorem dX12_readPart_216 : decode (mcode mX12_readPart) 216 = .ok (.goto 96, 3) := by decide +kernel
theorem dX12_readPart_219 : decode (mcode mX12_readPart) 219 = .ok (.aload_n 0, 1) := by decide +kernel
theorem dX12_readPart_220 : decode (mcode mX12_readPart) 220 = .ok (.getfield 65, 3) := by decide +kernel
theorem dX12_readPart_223 : decode (mcode mX12_readPart) 223 = .ok (.aload_n 0, 1) := by decide +kernel
theorem dX12_readPart_224 : decode (mcode mX12_readPart) 224 = .ok (.getfield 221, 3) := by decide +kernel
theorem dX12_readPart_227 : decode (mcode mX12_readPart) 227 = .ok (.aload_n 0, 1) := by decide +kernel
theorem dX12_readPart_228 : decode (mcode mX12_readPart) 228 = .ok (.iconst 0, 1) := by decide +kernel
theorem dX12_readPart_229 : decode (mcode mX12_readPart) 229 = .ok (.iconst 3, 1) := by decide +kernel
theorem dX12_readPart_230 : decode (mcode mX12_readPart) 230 = .ok (.ldc 144, 2) := by decide +kernel
theorem dX12_readPart_232 : decode (mcode mX12_readPart) 232 = .ok (.invokevirtual 189, 3) := by decide +kernel
theorem dX12_readPart_235 : decode (mcode mX12_readPart) 235 = .ok (.iastore, 1) := by decide +kernel
theorem dX12_readPart_236 : decode (mcode mX12_readPart) 236 = .ok (.aload_n 0, 1) := by decide +kernel
theorem dX12_readPart_237 : decode (mcode mX12_readPart) 237 = .ok (.getfield 68, 3) := by decide +kernel
theorem dX12_readPart_240 : decode (mcode mX12_readPart) 240 = .ok (.aload_n 0, 1) := by decide +kernel
theorem dX12_readPart_241 : decode (mcode mX12_readPart) 241 = .ok (.getfield 221, 3) := by decide +kernel
theorem dX12_readPart_244 : decode (mcode mX12_readPart) 244 = .ok (.aload_n 0, 1) := by decide +kernel
theorem dX12_readPart_245 : decode (mcode mX12_readPart) 245 = .ok (.iconst 1, 1) := by decide +kernel
theorem dX12_readPart_246 : decode (mcode mX12_readPart) 246 = .ok (.bipush 99, 2) := by decide +kernel
theorem dX12_readPart_248 : decode (mcode mX12_readPart) 248 = .ok (.ldc 144, 2) := by decide +kernel
theorem dX12_readPart_250 : decode (mcode mX12_readPart) 250 = .ok (.invokevirtual 189, 3) := by decide +kernel
theorem dX12_readPart_253 : decode (mcode mX12_readPart) 253 = .ok (.iastore, 1) := by decide +kernel
theorem dX12_readPart_254 : decode (mcode mX12_readPart) 254 = .ok (.aload_n 0, 1) := by decide +kernel
theorem dX12_readPart_255 : decode (mcode mX12_readPart) 255 = .ok (.getfield 71, 3) := by decide +kernel
theorem dX12_readPart_258 : decode (mcode mX12_readPart) 258 = .ok (.aload_n 0, 1) := by decide +kernel
theorem dX12_readPart_259 : decode (mcode mX12_readPart) 259 = .ok (.getfield 221, 3) := by decide +kernel
theorem dX12_readPart_262 : decode (mcode mX12_readPart) 262 = .ok (.aload_n 0, 1) := by decide +kernel
theorem dX12_readPart_263 : decode (mcode mX12_readPart) 263 = .ok (.iconst 1, 1) := by decide +kernel
theorem dX12_readPart_264 : decode (mcode mX12_readPart) 264 = .ok (.sipush 9998, 3) := by decide +kernel
theorem dX12_readPart_267 : decode (mcode mX12_readPart) 267 = .ok (.ldc 144, 2) := by decide +kernel
theorem dX12_readPart_269 : decode (mcode mX12_readPart) 269 = .ok (.invokevirtual 189, 3) := by decide +kernel
theorem dX12_readPart_272 : decode (mcode mX12_readPart) 272 = .ok (.iastore, 1) := by decide +kernel
theorem dX12_readPart_273 : decode (mcode mX12_readPart) 273 = .ok (.aload_n 0, 1) := by decide +kernel
theorem dX12_readPart_274 : decode (mcode mX12_readPart) 274 = .ok (.getfield 74, 3) := by decide +kernel
theorem dX12_readPart_277 : decode (mcode mX12_readPart) 277 = .ok (.aload_n 0, 1) := by decide +kernel
theorem dX12_readPart_278 : decode (mcode mX12_readPart) 278 = .ok (.getfield 221, 3) := by decide +kernel
theorem dX12_readPart_281 : decode (mcode mX12_readPart) 281 = .ok (.aload_n 0, 1) := by decide +kernel
theorem dX12_readPart_282 : decode (mcode mX12_readPart) 282 = .ok (.aload_n 0, 1) := by decide +kernel
theorem dX12_readPart_283 : decode (mcode mX12_readPart) 283 = .ok (.getfield 71, 3) := by decide +kernel
theorem dX12_readPart_286 : decode (mcode mX12_readPart) 286 = .ok (.aload_n 0, 1) := by decide +kernel
theorem dX12_readPart_287 : decode (mcode mX12_readPart) 287 = .ok (.getfield 221, 3) := by decide +kernel
theorem dX12_readPart_290 : decode (mcode mX12_readPart) 290 = .ok (.iaload, 1) := by decide +kernel
theorem dX12_readPart_291 : decode (mcode mX12_readPart) 291 = .ok (.iconst 1, 1) := by decide +kernel
theorem dX12_readPart_292 : decode (mcode mX12_readPart) 292 = .ok (.iadd, 1) := by decide +kernel
theorem dX12_readPart_293 : decode (mcode mX12_readPart) 293 = .ok (.sipush 9999, 3) := by decide +kernel
theorem dX12_readPart_296 : decode (mcode mX12_readPart) 296 = .ok (.ldc 144, 2) := by decide +kernel
theorem dX12_readPart_298 : decode (mcode mX12_readPart) 298 = .ok (.invokevirtual 189, 3) := by decide +kernel
theorem dX12_readPart_301 : decode (mcode mX12_readPart) 301 = .ok (.iastore, 1) := by decide +kernel
theorem dX12_readPart_302 : decode (mcode mX12_readPart) 302 = .ok (.aload_n 0, 1) := by decide +kernel
theorem dX12_readPart_303 : decode (mcode mX12_readPart) 303 = .ok (.dup, 1) := by decide +kernel
theorem dX12_readPart_304 : decode (mcode mX12_readPart) 304 = .ok (.getfield 221, 3) := by decide +kernel
theorem dX12_readPart_307 : decode (mcode mX12_readPart) 307 = .ok (.iconst 1, 1) := by decide +kernel
theorem dX12_readPart_308 : decode (mcode mX12_readPart) 308 = .ok (.iadd, 1) := by decide +kernel
theorem dX12_readPart_309 : decode (mcode mX12_readPart) 309 = .ok (.putfield 221, 3) := by decide +kernel
theorem dX12_readPart_312 : decode (mcode mX12_readPart) 312 = .ok (.return_, 1) := by decide +kernel
theorem dX12_stay_0 : decode (mcode mX12_stay) 0 = .ok (.aload_n 0, 1) := by decide +kernel
theorem dX12_stay_1 : decode (mcode mX12_stay) 1 = .ok (.iconst 0, 1) := by decide +kernel
theorem dX12_stay_2 : decode (mcode mX12_stay) 2 = .ok (.putfield 108, 3) := by decide +kernel
theorem dX12_stay_5 : decode (mcode mX12_stay) 5 = .ok (.aload_n 0, 1) := by decide +kernel
theorem dX12_stay_6 : decode (mcode mX12_stay) 6 = .ok (.iload_n 1, 1) := by decide +kernel
theorem dX12_stay_7 : decode (mcode mX12_stay) 7 = .ok (.invokevirtual 255, 3) := by decide +kernel
theorem dX12_stay_10 : decode (mcode mX12_stay) 10 = .ok (.ifCond .eq 15, 3) := by decide +kernel
theorem dX12_stay_13 : decode (mcode mX12_stay) 13 = .ok (.iload_n 2, 1) := by decide +kernel
theorem dX12_stay_14 : decode (mcode mX12_stay) 14 = .ok (.i2l, 1) := by decide +kernel
theorem dX12_stay_15 : decode (mcode mX12_stay) 15 = .ok (.lconst 0, 1) := by decide +kernel
theorem dX12_stay_16 : decode (mcode mX12_stay) 16 = .ok (.ldc2_w 261, 3) := by decide +kernel
theorem dX12_stay_19 : decode (mcode mX12_stay) 19 = .ok (.invokestatic 118, 3) := by decide +kernel
theorem dX12_stay_22 : decode (mcode mX12_stay) 22 = .ok (.ifCond .ne 6, 3) := by decide +kernel
theorem dX12_stay_25 : decode (mcode mX12_stay) 25 = .ok (.ldc 128, 2) := by decide +kernel
theorem dX12_stay_27 : decode (mcode mX12_stay) 27 = .ok (.ireturn, 1) := by decide +kernel
theorem dX12_stay_28 : decode (mcode mX12_stay) 28 = .ok (.aload_n 0, 1) := by decide +kernel
theorem dX12_stay_29 : decode (mcode mX12_stay) 29 = .ok (.iconst 0, 1) := by decide +kernel
theorem dX12_stay_30 : decode (mcode mX12_stay) 30 = .ok (.iconst 0, 1) := by decide +kernel
theorem dX12_stay_31 : decode (mcode mX12_stay) 31 = .ok (.invokevirtual 310, 3) := by decide +kernel
theorem dX12_stay_34 : decode (mcode mX12_stay) 34 = .ok (.aload_n 0, 1) := by decide +kernel
theorem dX12_stay_35 : decode (mcode mX12_stay) 35 = .ok (.iload_n 1, 1) := by decide +kernel
theorem dX12_stay_36 : decode (mcode mX12_stay) 36 = .ok (.invokevirtual 314, 3) := by decide +kernel
theorem dX12_stay_39 : decode (mcode mX12_stay) 39 = .ok (.istore_n 3, 1) := by decide +kernel
theorem dX12_stay_40 : decode (mcode mX12_stay) 40 = .ok (.ldc 144, 2) := by decide +kernel
theorem dX12_stay_42 : decode (mcode mX12_stay) 42 = .ok (.istore 4, 2) := by decide +kernel
theorem dX12_stay_44 : decode (mcode mX12_stay) 44 = .ok (.ldc 144, 2) := by decide +kernel
theorem dX12_stay_46 : decode (mcode mX12_stay) 46 = .ok (.istore 5, 2) := by decide +kernel
theorem dX12_stay_48 : decode (mcode mX12_stay) 48 = .ok (.iconst 0, 1) := by decide +kernel
theorem dX12_stay_49 : decode (mcode mX12_stay) 49 = .ok (.istore 6, 2) := by decide +kernel
theorem dX12_stay_51 : decode (mcode mX12_stay) 51 = .ok (.iload 6, 2) := by decide +kernel
theorem dX12_stay_53 : decode (mcode mX12_stay) 53 = .ok (.aload_n 0, 1) := by decide +kernel
theorem dX12_stay_54 : decode (mcode mX12_stay) 54 = .ok (.getfield 227, 3) := by decide +kernel
theorem dX12_stay_57 : decode (mcode mX12_stay) 57 = .ok (.if_icmp .ge 94, 3) := by decide +kernel
theorem dX12_stay_60 : decode (mcode mX12_stay) 60 = .ok (.iload_n 3, 1) := by decide +kernel
theorem dX12_stay_61 : decode (mcode mX12_stay) 61 = .ok (.iload 6, 2) := by decide +kernel
theorem dX12_stay_63 : decode (mcode mX12_stay) 63 = .ok (.ishr, 1) := by decide +kernel
theorem dX12_stay_64 : decode (mcode mX12_stay) 64 = .ok (.iconst 1, 1) := by decide +kernel
theorem dX12_stay_65 : decode (mcode mX12_stay) 65 = .ok (.iand, 1) := by decide +kernel
theorem dX12_stay_66 : decode (mcode mX12_stay) 66 = .ok (.iconst 1, 1) := by decide +kernel
theorem dX12_stay_67 : decode (mcode mX12_stay) 67 = .ok (.if_icmp .ne 78, 3) := by decide +kernel
theorem dX12_stay_70 : decode (mcode mX12_stay) 70 = .ok (.aload_n 0, 1) := by decide +kernel
theorem dX12_stay_71 : decode (mcode mX12_stay) 71 = .ok (.getfield 35, 3) := by decide +kernel
theorem dX12_stay_74 : decode (mcode mX12_stay) 74 = .ok (.iload 6, 2) := by decide +kernel
theorem dX12_stay_76 : decode (mcode mX12_stay) 76 = .ok (.iaload, 1) := by decide +kernel
theorem dX12_stay_77 : decode (mcode mX12_stay) 77 = .ok (.iconst 4, 1) := by decide +kernel
theorem dX12_stay_78 : decode (mcode mX12_stay) 78 = .ok (.if_icmp .eq 67, 3) := by decide +kernel
theorem dX12_stay_81 : decode (mcode mX12_stay) 81 = .ok (.aload_n 0, 1) := by decide +kernel
theorem dX12_stay_82 : decode (mcode mX12_stay) 82 = .ok (.iload 6, 2) := by decide +kernel
theorem dX12_stay_84 : decode (mcode mX12_stay) 84 = .ok (.iload_n 1, 1) := by decide +kernel
theorem dX12_stay_85 : decode (mcode mX12_stay) 85 = .ok (.invokevirtual 295, 3) := by decide +kernel
theorem dX12_stay_88 : decode (mcode mX12_stay) 88 = .ok (.ifCond .eq 57, 3) := by decide +kernel
theorem dX12_stay_91 : decode (mcode mX12_stay) 91 = .ok (.aload_n 0, 1) := by decide +kernel
theorem dX12_stay_92 : decode (mcode mX12_stay) 92 = .ok (.iload 6, 2) := by decide +kernel
theorem dX12_stay_94 : decode (mcode mX12_stay) 94 = .ok (.invokevirtual 246, 3) := by decide +kernel
theorem dX12_stay_97 : decode (mcode mX12_stay) 97 = .ok (.istore 7, 2) := by decide +kernel
theorem dX12_stay_99 : decode (mcode mX12_stay) 99 = .ok (.iload 4, 2) := by decide +kernel
theorem dX12_stay_101 : decode (mcode mX12_stay) 101 = .ok (.ldc 144, 2) := by decide +kernel
theorem dX12_stay_103 : decode (mcode mX12_stay) 103 = .ok (.if_icmp .eq 10, 3) := by decide +kernel
theorem dX12_stay_106 : decode (mcode mX12_stay) 106 = .ok (.iload 7, 2) := by decide +kernel
theorem dX12_stay_108 : decode (mcode mX12_stay) 108 = .ok (.iload 4, 2) := by decide +kernel
theorem dX12_stay_110 : decode (mcode mX12_stay) 110 = .ok (.if_icmp .ge 8, 3) := by decide +kernel
theorem dX12_stay_113 : decode (mcode mX12_stay) 113 = .ok (.iload 7, 2) := by decide +kernel
theorem dX12_stay_115 : decode (mcode mX12_stay) 115 = .ok (.goto 5, 3) := by decide +kernel
theorem dX12_stay_118 : decode (mcode mX12_stay) 118 = .ok (.iload 4, 2) := by decide +kernel
theorem dX12_stay_120 : decode (mcode mX12_stay) 120 = .ok (.istore 4, 2) := by decide +kernel
theorem dX12_stay_122 : decode (mcode mX12_stay) 122 = .ok (.iload 5, 2) := by decide +kernel
theorem dX12_stay_124 : decode (mcode mX12_stay) 124 = .ok (.ldc 144, 2) := by decide +kernel
theorem dX12_stay_126 : decode (mcode mX12_stay) 126 = .ok (.if_icmp .eq 10, 3) := by decide +kernel
theorem dX12_stay_129 : decode (mcode mX12_stay) 129 = .ok (.iload 7, 2) := by decide +kernel
theorem dX12_stay_131 : decode (mcode mX12_stay) 131 = .ok (.iload 5, 2) := by decide +kernel
theorem dX12_stay_133 : decode (mcode mX12_stay) 133 = .ok (.if_icmp .le 8, 3) := by decide +kernel
theorem dX12_stay_136 : decode (mcode mX12_stay) 136 = .ok (.iload 7, 2) := by decide +kernel
theorem dX12_stay_138 : decode (mcode mX12_stay) 138 = .ok (.goto 5, 3) := by decide +kernel
theorem dX12_stay_141 : decode (mcode mX12_stay) 141 = .ok (.iload 5, 2) := by decide +kernel
theorem dX12_stay_143 : decode (mcode mX12_stay) 143 = .ok (.istore 5, 2) := by decide +kernel
theorem dX12_stay_145 : decode (mcode mX12_stay) 145 = .ok (.iinc 6 1, 3) := by decide +kernel
theorem dX12_stay_148 : decode (mcode mX12_stay) 148 = .ok (.goto (-97), 3) := by decide +kernel
theorem dX12_stay_151 : decode (mcode mX12_stay) 151 = .ok (.iload 4, 2) := by decide +kernel
theorem dX12_stay_153 : decode (mcode mX12_stay) 153 = .ok (.ldc 144, 2) := by decide +kernel
theorem dX12_stay_155 : decode (mcode mX12_stay) 155 = .ok (.if_icmp .ne 6, 3) := by decide +kernel
theorem dX12_stay_158 : decode (mcode mX12_stay) 158 = .ok (.ldc 144, 2) := by decide +kernel
theorem dX12_stay_160 : decode (mcode mX12_stay) 160 = .ok (.ireturn, 1) := by decide +kernel
theorem dX12_stay_161 : decode (mcode mX12_stay) 161 = .ok (.iconst 0, 1) := by decide +kernel
theorem dX12_stay_162 : decode (mcode mX12_stay) 162 = .ok (.istore 6, 2) := by decide +kernel
theorem dX12_stay_164 : decode (mcode mX12_stay) 164 = .ok (.sipush 9999, 3) := by decide +kernel
theorem dX12_stay_167 : decode (mcode mX12_stay) 167 = .ok (.istore 7, 2) := by decide +kernel
theorem dX12_stay_169 : decode (mcode mX12_stay) 169 = .ok (.iconst 0, 1) := by decide +kernel
theorem dX12_stay_170 : decode (mcode mX12_stay) 170 = .ok (.istore 8, 2) := by decide +kernel
theorem dX12_stay_172 : decode (mcode mX12_stay) 172 = .ok (.iload 8, 2) := by decide +kernel
theorem dX12_stay_174 : decode (mcode mX12_stay) 174 = .ok (.aload_n 0, 1) := by decide +kernel
theorem dX12_stay_175 : decode (mcode mX12_stay) 175 = .ok (.getfield 224, 3) := by decide +kernel
theorem dX12_stay_178 : decode (mcode mX12_stay) 178 = .ok (.if_icmp .ge 72, 3) := by decide +kernel
theorem dX12_stay_181 : decode (mcode mX12_stay) 181 = .ok (.aload_n 0, 1) := by decide +kernel
theorem dX12_stay_182 : decode (mcode mX12_stay) 182 = .ok (.getfield 19, 3) := by decide +kernel
theorem dX12_stay_185 : decode (mcode mX12_stay) 185 = .ok (.iload 8, 2) := by decide +kernel
theorem dX12_stay_187 : decode (mcode mX12_stay) 187 = .ok (.iaload, 1) := by decide +kernel
theorem dX12_stay_188 : decode (mcode mX12_stay) 188 = .ok (.aload_n 0, 1) := by decide +kernel
theorem dX12_stay_189 : decode (mcode mX12_stay) 189 = .ok (.getfield 22, 3) := by decide +kernel
theorem dX12_stay_192 : decode (mcode mX12_stay) 192 = .ok (.iload 8, 2) := by decide +kernel
theorem dX12_stay_194 : decode (mcode mX12_stay) 194 = .ok (.iaload, 1) := by decide +kernel
theorem dX12_stay_195 : decode (mcode mX12_stay) 195 = .ok (.isub, 1) := by decide +kernel
theorem dX12_stay_196 : decode (mcode mX12_stay) 196 = .ok (.istore 9, 2) := by decide +kernel
theorem dX12_stay_198 : decode (mcode mX12_stay) 198 = .ok (.iload 9, 2) := by decide +kernel
theorem dX12_stay_200 : decode (mcode mX12_stay) 200 = .ok (.iload 4, 2) := by decide +kernel
theorem dX12_stay_202 : decode (mcode mX12_stay) 202 = .ok (.if_icmp .ge 15, 3) := by decide +kernel
theorem dX12_stay_205 : decode (mcode mX12_stay) 205 = .ok (.iload 9, 2) := by decide +kernel
theorem dX12_stay_207 : decode (mcode mX12_stay) 207 = .ok (.iload 6, 2) := by decide +kernel
theorem dX12_stay_209 : decode (mcode mX12_stay) 209 = .ok (.if_icmp .le 8, 3) := by decide +kernel
theorem dX12_stay_212 : decode (mcode mX12_stay) 212 = .ok (.iload 9, 2) := by decide +kernel
theorem dX12_stay_214 : decode (mcode mX12_stay) 214 = .ok (.goto 5, 3) := by decide +kernel
theorem dX12_stay_217 : decode (mcode mX12_stay) 217 = .ok (.iload 6, 2) := by decide +kernel
theorem dX12_stay_219 : decode (mcode mX12_stay) 219 = .ok (.istore 6, 2) := by decide +kernel
theorem dX12_stay_221 : decode (mcode mX12_stay) 221 = .ok (.iload 9, 2) := by decide +kernel
theorem dX12_stay_223 : decode (mcode mX12_stay) 223 = .ok (.iload 5, 2) := by decide +kernel
theorem dX12_stay_225 : decode (mcode mX12_stay) 225 = .ok (.if_icmp .le 15, 3) := by decide +kernel
theorem dX12_stay_228 : decode (mcode mX12_stay) 228 = .ok (.iload 9, 2) := by decide +kernel
theorem dX12_stay_230 : decode (mcode mX12_stay) 230 = .ok (.iload 7, 2) := by decide +kernel
theorem dX12_stay_232 : decode (mcode mX12_stay) 232 = .ok (.if_icmp .ge 8, 3) := by decide +kernel
theorem dX12_stay_235 : decode (mcode mX12_stay) 235 = .ok (.iload 9, 2) := by decide +kernel
theorem dX12_stay_237 : decode (mcode mX12_stay) 237 = .ok (.goto 5, 3) := by decide +kernel
theorem dX12_stay_240 : decode (mcode mX12_stay) 240 = .ok (.iload 7, 2) := by decide +kernel
theorem dX12_stay_242 : decode (mcode mX12_stay) 242 = .ok (.istore 7, 2) := by decide +kernel
theorem dX12_stay_244 : decode (mcode mX12_stay) 244 = .ok (.iinc 8 1, 3) := by decide +kernel
theorem dX12_stay_247 : decode (mcode mX12_stay) 247 = .ok (.goto (-75), 3) := by decide +kernel
theorem dX12_stay_250 : decode (mcode mX12_stay) 250 = .ok (.iload_n 2, 1) := by decide +kernel
theorem dX12_stay_251 : decode (mcode mX12_stay) 251 = .ok (.ifCond .ne 8, 3) := by decide +kernel
theorem dX12_stay_254 : decode (mcode mX12_stay) 254 = .ok (.iload 4, 2) := by decide +kernel
theorem dX12_stay_256 : decode (mcode mX12_stay) 256 = .ok (.goto 25, 3) := by decide +kernel
theorem dX12_stay_259 : decode (mcode mX12_stay) 259 = .ok (.iload_n 2, 1) := by decide +kernel
theorem dX12_stay_260 : decode (mcode mX12_stay) 260 = .ok (.iconst 1, 1) := by decide +kernel
theorem dX12_stay_261 : decode (mcode mX12_stay) 261 = .ok (.if_icmp .ne 8, 3) := by decide +kernel
theorem dX12_stay_264 : decode (mcode mX12_stay) 264 = .ok (.iload 5, 2) := by decide +kernel
theorem dX12_stay_266 : decode (mcode mX12_stay) 266 = .ok (.goto 15, 3) := by decide +kernel
theorem dX12_stay_269 : decode (mcode mX12_stay) 269 = .ok (.iload_n 2, 1) := by decide +kernel
theorem dX12_stay_270 : decode (mcode mX12_stay) 270 = .ok (.iconst 2, 1) := by decide +kernel
theorem dX12_stay_271 : decode (mcode mX12_stay) 271 = .ok (.if_icmp .ne 8, 3) := by decide +kernel
theorem dX12_stay_274 : decode (mcode mX12_stay) 274 = .ok (.iload 6, 2) := by decide +kernel
theorem dX12_stay_276 : decode (mcode mX12_stay) 276 = .ok (.goto 5, 3) := by decide +kernel
theorem dX12_stay_279 : decode (mcode mX12_stay) 279 = .ok (.iload 7, 2) := by decide +kernel
theorem dX12_stay_281 : decode (mcode mX12_stay) 281 = .ok (.ireturn, 1) := by decide +kernel
theorem dX12_sure_0 : decode (mcode mX12_sure) 0 = .ok (.aload_n 0, 1) := by decide +kernel
theorem dX12_sure_1 : decode (mcode mX12_sure) 1 = .ok (.iconst 0, 1) := by decide +kernel
theorem dX12_sure_2 : decode (mcode mX12_sure) 2 = .ok (.putfield 108, 3) := by decide +kernel
theorem dX12_sure_5 : decode (mcode mX12_sure) 5 = .ok (.aload_n 0, 1) := by decide +kernel
theorem dX12_sure_6 : decode (mcode mX12_sure) 6 = .ok (.iload_n 1, 1) := by decide +kernel
theorem dX12_sure_7 : decode (mcode mX12_sure) 7 = .ok (.invokevirtual 255, 3) := by decide +kernel
theorem dX12_sure_10 : decode (mcode mX12_sure) 10 = .ok (.ifCond .eq 11, 3) := by decide +kernel
theorem dX12_sure_13 : decode (mcode mX12_sure) 13 = .ok (.aload_n 0, 1) := by decide +kernel
theorem dX12_sure_14 : decode (mcode mX12_sure) 14 = .ok (.iload_n 2, 1) := by decide +kernel
theorem dX12_sure_15 : decode (mcode mX12_sure) 15 = .ok (.invokevirtual 255, 3) := by decide +kernel
theorem dX12_sure_18 : decode (mcode mX12_sure) 18 = .ok (.ifCond .ne 7, 3) := by decide +kernel
theorem dX12_sure_21 : decode (mcode mX12_sure) 21 = .ok (.ldc2_w 308, 3) := by decide +kernel
theorem dX12_sure_24 : decode (mcode mX12_sure) 24 = .ok (.lreturn, 1) := by decide +kernel
theorem dX12_sure_25 : decode (mcode mX12_sure) 25 = .ok (.aload_n 0, 1) := by decide +kernel
theorem dX12_sure_26 : decode (mcode mX12_sure) 26 = .ok (.iconst 0, 1) := by decide +kernel
theorem dX12_sure_27 : decode (mcode mX12_sure) 27 = .ok (.iconst 0, 1) := by decide +kernel
theorem dX12_sure_28 : decode (mcode mX12_sure) 28 = .ok (.invokevirtual 310, 3) := by decide +kernel
theorem dX12_sure_31 : decode (mcode mX12_sure) 31 = .ok (.aload_n 0, 1) := by decide +kernel
theorem dX12_sure_32 : decode (mcode mX12_sure) 32 = .ok (.getfield 89, 3) := by decide +kernel
theorem dX12_sure_35 : decode (mcode mX12_sure) 35 = .ok (.aload_n 0, 1) := by decide +kernel
theorem dX12_sure_36 : decode (mcode mX12_sure) 36 = .ok (.invokevirtual 304, 3) := by decide +kernel
theorem dX12_sure_39 : decode (mcode mX12_sure) 39 = .ok (.iaload, 1) := by decide +kernel
theorem dX12_sure_40 : decode (mcode mX12_sure) 40 = .ok (.istore_n 3, 1) := by decide +kernel
theorem dX12_sure_41 : decode (mcode mX12_sure) 41 = .ok (.iload_n 1, 1) := by decide +kernel
theorem dX12_sure_42 : decode (mcode mX12_sure) 42 = .ok (.iload_n 2, 1) := by decide +kernel
theorem dX12_sure_43 : decode (mcode mX12_sure) 43 = .ok (.if_icmp .ne 13, 3) := by decide +kernel
theorem dX12_sure_46 : decode (mcode mX12_sure) 46 = .ok (.aload_n 0, 1) := by decide +kernel
theorem dX12_sure_47 : decode (mcode mX12_sure) 47 = .ok (.getfield 92, 3) := by decide +kernel
theorem dX12_sure_50 : decode (mcode mX12_sure) 50 = .ok (.aload_n 0, 1) := by decide +kernel
theorem dX12_sure_51 : decode (mcode mX12_sure) 51 = .ok (.invokevirtual 304, 3) := by decide +kernel
theorem dX12_sure_54 : decode (mcode mX12_sure) 54 = .ok (.laload, 1) := by decide +kernel
theorem dX12_sure_55 : decode (mcode mX12_sure) 55 = .ok (.lreturn, 1) := by decide +kernel
theorem dX12_sure_56 : decode (mcode mX12_sure) 56 = .ok (.aload_n 0, 1) := by decide +kernel
theorem dX12_sure_57 : decode (mcode mX12_sure) 57 = .ok (.iload_n 1, 1) := by decide +kernel
theorem dX12_sure_58 : decode (mcode mX12_sure) 58 = .ok (.iload_n 2, 1) := by decide +kernel
theorem dX12_sure_59 : decode (mcode mX12_sure) 59 = .ok (.invokevirtual 310, 3) := by decide +kernel
theorem dX12_sure_62 : decode (mcode mX12_sure) 62 = .ok (.aload_n 0, 1) := by decide +kernel
theorem dX12_sure_63 : decode (mcode mX12_sure) 63 = .ok (.getfield 89, 3) := by decide +kernel
theorem dX12_sure_66 : decode (mcode mX12_sure) 66 = .ok (.aload_n 0, 1) := by decide +kernel
theorem dX12_sure_67 : decode (mcode mX12_sure) 67 = .ok (.invokevirtual 304, 3) := by decide +kernel
theorem dX12_sure_70 : decode (mcode mX12_sure) 70 = .ok (.iaload, 1) := by decide +kernel
theorem dX12_sure_71 : decode (mcode mX12_sure) 71 = .ok (.iload_n 3, 1) := by decide +kernel
theorem dX12_sure_72 : decode (mcode mX12_sure) 72 = .ok (.if_icmp .ne 15, 3) := by decide +kernel
theorem dX12_sure_75 : decode (mcode mX12_sure) 75 = .ok (.aload_n 0, 1) := by decide +kernel
theorem dX12_sure_76 : decode (mcode mX12_sure) 76 = .ok (.getfield 92, 3) := by decide +kernel
theorem dX12_sure_79 : decode (mcode mX12_sure) 79 = .ok (.aload_n 0, 1) := by decide +kernel
theorem dX12_sure_80 : decode (mcode mX12_sure) 80 = .ok (.invokevirtual 304, 3) := by decide +kernel
theorem dX12_sure_83 : decode (mcode mX12_sure) 83 = .ok (.laload, 1) := by decide +kernel
theorem dX12_sure_84 : decode (mcode mX12_sure) 84 = .ok (.goto 4, 3) := by decide +kernel
theorem dX12_sure_87 : decode (mcode mX12_sure) 87 = .ok (.lconst 0, 1) := by decide +kernel
theorem dX12_sure_88 : decode (mcode mX12_sure) 88 = .ok (.lreturn, 1) := by decide +kernel
theorem dX12_read_0 : decode (mcode mX12_read) 0 = .ok (.aload_n 0, 1) := by decide +kernel
theorem dX12_read_1 : decode (mcode mX12_read) 1 = .ok (.iconst 0, 1) := by decide +kernel
theorem dX12_read_2 : decode (mcode mX12_read) 2 = .ok (.putfield 108, 3) := by decide +kernel
theorem dX12_read_5 : decode (mcode mX12_read) 5 = .ok (.aload_n 0, 1) := by decide +kernel
theorem dX12_read_6 : decode (mcode mX12_read) 6 = .ok (.aload_n 0, 1) := by decide +kernel
theorem dX12_read_7 : decode (mcode mX12_read) 7 = .ok (.getfield 135, 3) := by decide +kernel
theorem dX12_read_10 : decode (mcode mX12_read) 10 = .ok (.putfield 141, 3) := by decide +kernel
theorem dX12_read_13 : decode (mcode mX12_read) 13 = .ok (.aload_n 0, 1) := by decide +kernel
theorem dX12_read_14 : decode (mcode mX12_read) 14 = .ok (.iconst 0, 1) := by decide +kernel
theorem dX12_read_15 : decode (mcode mX12_read) 15 = .ok (.putfield 135, 3) := by decide +kernel
theorem dX12_read_18 : decode (mcode mX12_read) 18 = .ok (.aload_n 0, 1) := by decide +kernel
theorem dX12_read_19 : decode (mcode mX12_read) 19 = .ok (.iconst 0, 1) := by decide +kernel
theorem dX12_read_20 : decode (mcode mX12_read) 20 = .ok (.putfield 145, 3) := by decide +kernel
theorem dX12_read_23 : decode (mcode mX12_read) 23 = .ok (.aload_n 0, 1) := by decide +kernel
theorem dX12_read_24 : decode (mcode mX12_read) 24 = .ok (.iconst 0, 1) := by decide +kernel
theorem dX12_read_25 : decode (mcode mX12_read) 25 = .ok (.putfield 166, 3) := by decide +kernel
theorem dX12_read_28 : decode (mcode mX12_read) 28 = .ok (.aload_n 0, 1) := by decide +kernel
theorem dX12_read_29 : decode (mcode mX12_read) 29 = .ok (.aload_n 0, 1) := by decide +kernel
theorem dX12_read_30 : decode (mcode mX12_read) 30 = .ok (.getfield 224, 3) := by decide +kernel
theorem dX12_read_33 : decode (mcode mX12_read) 33 = .ok (.putfield 186, 3) := by decide +kernel
theorem dX12_read_36 : decode (mcode mX12_read) 36 = .ok (.aload_n 0, 1) := by decide +kernel
theorem dX12_read_37 : decode (mcode mX12_read) 37 = .ok (.aload_n 0, 1) := by decide +kernel
theorem dX12_read_38 : decode (mcode mX12_read) 38 = .ok (.getfield 227, 3) := by decide +kernel
theorem dX12_read_41 : decode (mcode mX12_read) 41 = .ok (.putfield 183, 3) := by decide +kernel
theorem dX12_read_44 : decode (mcode mX12_read) 44 = .ok (.aload_n 0, 1) := by decide +kernel
theorem dX12_read_45 : decode (mcode mX12_read) 45 = .ok (.aload_n 0, 1) := by decide +kernel
theorem dX12_read_46 : decode (mcode mX12_read) 46 = .ok (.getfield 230, 3) := by decide +kernel
theorem dX12_read_49 : decode (mcode mX12_read) 49 = .ok (.putfield 218, 3) := by decide +kernel
theorem dX12_read_52 : decode (mcode mX12_read) 52 = .ok (.aload_n 0, 1) := by decide +kernel
theorem dX12_read_53 : decode (mcode mX12_read) 53 = .ok (.aload_n 0, 1) := by decide +kernel
theorem dX12_read_54 : decode (mcode mX12_read) 54 = .ok (.getfield 233, 3) := by decide +kernel
theorem dX12_read_57 : decode (mcode mX12_read) 57 = .ok (.putfield 221, 3) := by decide +kernel
theorem dX12_read_60 : decode (mcode mX12_read) 60 = .ok (.aload_n 0, 1) := by decide +kernel
theorem dX12_read_61 : decode (mcode mX12_read) 61 = .ok (.invokevirtual 176, 3) := by decide +kernel
theorem dX12_read_64 : decode (mcode mX12_read) 64 = .ok (.aload_n 0, 1) := by decide +kernel
theorem dX12_read_65 : decode (mcode mX12_read) 65 = .ok (.getfield 166, 3) := by decide +kernel
theorem dX12_read_68 : decode (mcode mX12_read) 68 = .ok (.ifCond .ne 169, 3) := by decide +kernel
theorem dX12_read_71 : decode (mcode mX12_read) 71 = .ok (.aload_n 0, 1) := by decide +kernel
theorem dX12_read_72 : decode (mcode mX12_read) 72 = .ok (.getfield 154, 3) := by decide +kernel
theorem dX12_read_75 : decode (mcode mX12_read) 75 = .ok (.iconst 1, 1) := by decide +kernel
theorem dX12_read_76 : decode (mcode mX12_read) 76 = .ok (.if_icmp .eq 161, 3) := by decide +kernel
theorem dX12_read_79 : decode (mcode mX12_read) 79 = .ok (.aload_n 0, 1) := by decide +kernel
theorem dX12_read_80 : decode (mcode mX12_read) 80 = .ok (.invokevirtual 193, 3) := by decide +kernel
theorem dX12_read_83 : decode (mcode mX12_read) 83 = .ok (.lstore_n 1, 1) := by decide +kernel
theorem dX12_read_84 : decode (mcode mX12_read) 84 = .ok (.lload_n 1, 1) := by decide +kernel
theorem dX12_read_85 : decode (mcode mX12_read) 85 = .ok (.ldc2_w 209, 3) := by decide +kernel
theorem dX12_read_88 : decode (mcode mX12_read) 88 = .ok (.lcmp, 1) := by decide +kernel
theorem dX12_read_89 : decode (mcode mX12_read) 89 = .ok (.ifCond .ne 12, 3) := by decide +kernel
theorem dX12_read_92 : decode (mcode mX12_read) 92 = .ok (.aload_n 0, 1) := by decide +kernel
theorem dX12_read_93 : decode (mcode mX12_read) 93 = .ok (.getfield 186, 3) := by decide +kernel
theorem dX12_read_96 : decode (mcode mX12_read) 96 = .ok (.bipush 10, 2) := by decide +kernel
theorem dX12_read_98 : decode (mcode mX12_read) 98 = .ok (.if_icmp .eq 54, 3) := by decide +kernel
theorem dX12_read_101 : decode (mcode mX12_read) 101 = .ok (.lload_n 1, 1) := by decide +kernel
theorem dX12_read_102 : decode (mcode mX12_read) 102 = .ok (.ldc2_w 211, 3) := by decide +kernel
theorem dX12_read_105 : decode (mcode mX12_read) 105 = .ok (.lcmp, 1) := by decide +kernel
theorem dX12_read_106 : decode (mcode mX12_read) 106 = .ok (.ifCond .ne 12, 3) := by decide +kernel
theorem dX12_read_109 : decode (mcode mX12_read) 109 = .ok (.aload_n 0, 1) := by decide +kernel
theorem dX12_read_110 : decode (mcode mX12_read) 110 = .ok (.getfield 183, 3) := by decide +kernel
theorem dX12_read_113 : decode (mcode mX12_read) 113 = .ok (.bipush 12, 2) := by decide +kernel
theorem dX12_read_115 : decode (mcode mX12_read) 115 = .ok (.if_icmp .eq 37, 3) := by decide +kernel
theorem dX12_read_118 : decode (mcode mX12_read) 118 = .ok (.lload_n 1, 1) := by decide +kernel
theorem dX12_read_119 : decode (mcode mX12_read) 119 = .ok (.ldc2_w 216, 3) := by decide +kernel
theorem dX12_read_122 : decode (mcode mX12_read) 122 = .ok (.lcmp, 1) := by decide +kernel
theorem dX12_read_123 : decode (mcode mX12_read) 123 = .ok (.ifCond .ne 12, 3) := by decide +kernel
theorem dX12_read_126 : decode (mcode mX12_read) 126 = .ok (.aload_n 0, 1) := by decide +kernel
theorem dX12_read_127 : decode (mcode mX12_read) 127 = .ok (.getfield 218, 3) := by decide +kernel
theorem dX12_read_130 : decode (mcode mX12_read) 130 = .ok (.bipush 20, 2) := by decide +kernel
theorem dX12_read_132 : decode (mcode mX12_read) 132 = .ok (.if_icmp .eq 20, 3) := by decide +kernel
theorem dX12_read_135 : decode (mcode mX12_read) 135 = .ok (.lload_n 1, 1) := by decide +kernel
theorem dX12_read_136 : decode (mcode mX12_read) 136 = .ok (.ldc2_w 236, 3) := by decide +kernel
theorem dX12_read_139 : decode (mcode mX12_read) 139 = .ok (.lcmp, 1) := by decide +kernel
theorem dX12_read_140 : decode (mcode mX12_read) 140 = .ok (.ifCond .ne 17, 3) := by decide +kernel
theorem dX12_read_143 : decode (mcode mX12_read) 143 = .ok (.aload_n 0, 1) := by decide +kernel
theorem dX12_read_144 : decode (mcode mX12_read) 144 = .ok (.getfield 221, 3) := by decide +kernel
theorem dX12_read_147 : decode (mcode mX12_read) 147 = .ok (.bipush 20, 2) := by decide +kernel
theorem dX12_read_149 : decode (mcode mX12_read) 149 = .ok (.if_icmp .ne 8, 3) := by decide +kernel
theorem dX12_read_152 : decode (mcode mX12_read) 152 = .ok (.aload_n 0, 1) := by decide +kernel
theorem dX12_read_153 : decode (mcode mX12_read) 153 = .ok (.iconst 3, 1) := by decide +kernel
theorem dX12_read_154 : decode (mcode mX12_read) 154 = .ok (.invokevirtual 172, 3) := by decide +kernel
theorem dX12_read_157 : decode (mcode mX12_read) 157 = .ok (.aload_n 0, 1) := by decide +kernel
theorem dX12_read_158 : decode (mcode mX12_read) 158 = .ok (.lload_n 1, 1) := by decide +kernel
theorem dX12_read_159 : decode (mcode mX12_read) 159 = .ok (.ldc2_w 209, 3) := by decide +kernel
theorem dX12_read_162 : decode (mcode mX12_read) 162 = .ok (.lcmp, 1) := by decide +kernel
theorem dX12_read_163 : decode (mcode mX12_read) 163 = .ok (.ifCond .eq 27, 3) := by decide +kernel
theorem dX12_read_166 : decode (mcode mX12_read) 166 = .ok (.lload_n 1, 1) := by decide +kernel
theorem dX12_read_167 : decode (mcode mX12_read) 167 = .ok (.ldc2_w 211, 3) := by decide +kernel
theorem dX12_read_170 : decode (mcode mX12_read) 170 = .ok (.lcmp, 1) := by decide +kernel
theorem dX12_read_171 : decode (mcode mX12_read) 171 = .ok (.ifCond .eq 19, 3) := by decide +kernel
theorem dX12_read_174 : decode (mcode mX12_read) 174 = .ok (.lload_n 1, 1) := by decide +kernel
theorem dX12_read_175 : decode (mcode mX12_read) 175 = .ok (.ldc2_w 216, 3) := by decide +kernel
theorem dX12_read_178 : decode (mcode mX12_read) 178 = .ok (.lcmp, 1) := by decide +kernel
theorem dX12_read_179 : decode (mcode mX12_read) 179 = .ok (.ifCond .eq 11, 3) := by decide +kernel
theorem dX12_read_182 : decode (mcode mX12_read) 182 = .ok (.lload_n 1, 1) := by decide +kernel
theorem dX12_read_183 : decode (mcode mX12_read) 183 = .ok (.ldc2_w 236, 3) := by decide +kernel
theorem dX12_read_186 : decode (mcode mX12_read) 186 = .ok (.lcmp, 1) := by decide +kernel
theorem dX12_read_187 : decode (mcode mX12_read) 187 = .ok (.ifCond .ne 7, 3) := by decide +kernel
theorem dX12_read_190 : decode (mcode mX12_read) 190 = .ok (.iconst 1, 1) := by decide +kernel
theorem dX12_read_191 : decode (mcode mX12_read) 191 = .ok (.goto 4, 3) := by decide +kernel
theorem dX12_read_194 : decode (mcode mX12_read) 194 = .ok (.iconst 0, 1) := by decide +kernel
theorem dX12_read_195 : decode (mcode mX12_read) 195 = .ok (.invokevirtual 179, 3) := by decide +kernel
theorem dX12_read_198 : decode (mcode mX12_read) 198 = .ok (.aload_n 0, 1) := by decide +kernel
theorem dX12_read_199 : decode (mcode mX12_read) 199 = .ok (.getfield 166, 3) := by decide +kernel
theorem dX12_read_202 : decode (mcode mX12_read) 202 = .ok (.ifCond .ne 8, 3) := by decide +kernel
theorem dX12_read_205 : decode (mcode mX12_read) 205 = .ok (.aload_n 0, 1) := by decide +kernel
theorem dX12_read_206 : decode (mcode mX12_read) 206 = .ok (.lload_n 1, 1) := by decide +kernel
theorem dX12_read_207 : decode (mcode mX12_read) 207 = .ok (.invokevirtual 238, 3) := by decide +kernel
theorem dX12_read_210 : decode (mcode mX12_read) 210 = .ok (.aload_n 0, 1) := by decide +kernel
theorem dX12_read_211 : decode (mcode mX12_read) 211 = .ok (.getfield 166, 3) := by decide +kernel
theorem dX12_read_214 : decode (mcode mX12_read) 214 = .ok (.ifCond .ne 20, 3) := by decide +kernel
theorem dX12_read_217 : decode (mcode mX12_read) 217 = .ok (.aload_n 0, 1) := by decide +kernel
theorem dX12_read_218 : decode (mcode mX12_read) 218 = .ok (.aload_n 0, 1) := by decide +kernel
theorem dX12_read_219 : decode (mcode mX12_read) 219 = .ok (.getfield 154, 3) := by decide +kernel
theorem dX12_read_222 : decode (mcode mX12_read) 222 = .ok (.iconst 4, 1) := by decide +kernel
theorem dX12_read_223 : decode (mcode mX12_read) 223 = .ok (.if_icmp .ne 7, 3) := by decide +kernel
theorem dX12_read_226 : decode (mcode mX12_read) 226 = .ok (.iconst 1, 1) := by decide +kernel
theorem dX12_read_227 : decode (mcode mX12_read) 227 = .ok (.goto 4, 3) := by decide +kernel
theorem dX12_read_230 : decode (mcode mX12_read) 230 = .ok (.iconst 0, 1) := by decide +kernel
theorem dX12_read_231 : decode (mcode mX12_read) 231 = .ok (.invokevirtual 179, 3) := by decide +kernel
theorem dX12_read_234 : decode (mcode mX12_read) 234 = .ok (.goto (-170), 3) := by decide +kernel
theorem dX12_read_237 : decode (mcode mX12_read) 237 = .ok (.aload_n 0, 1) := by decide +kernel
theorem dX12_read_238 : decode (mcode mX12_read) 238 = .ok (.getfield 166, 3) := by decide +kernel
theorem dX12_read_241 : decode (mcode mX12_read) 241 = .ok (.ifCond .le 19, 3) := by decide +kernel
theorem dX12_read_244 : decode (mcode mX12_read) 244 = .ok (.aload_n 0, 1) := by decide +kernel
theorem dX12_read_245 : decode (mcode mX12_read) 245 = .ok (.aload_n 0, 1) := by decide +kernel
theorem dX12_read_246 : decode (mcode mX12_read) 246 = .ok (.getfield 166, 3) := by decide +kernel
theorem dX12_read_249 : decode (mcode mX12_read) 249 = .ok (.putfield 242, 3) := by decide +kernel
theorem dX12_read_252 : decode (mcode mX12_read) 252 = .ok (.ldc 245, 2) := by decide +kernel
theorem dX12_read_254 : decode (mcode mX12_read) 254 = .ok (.aload_n 0, 1) := by decide +kernel
theorem dX12_read_255 : decode (mcode mX12_read) 255 = .ok (.getfield 169, 3) := by decide +kernel
theorem dX12_read_258 : decode (mcode mX12_read) 258 = .ok (.isub, 1) := by decide +kernel
theorem dX12_read_259 : decode (mcode mX12_read) 259 = .ok (.ireturn, 1) := by decide +kernel
theorem dX12_read_260 : decode (mcode mX12_read) 260 = .ok (.aload_n 0, 1) := by decide +kernel
theorem dX12_read_261 : decode (mcode mX12_read) 261 = .ok (.getfield 224, 3) := by decide +kernel
theorem dX12_read_264 : decode (mcode mX12_read) 264 = .ok (.istore_n 1, 1) := by decide +kernel
theorem dX12_read_265 : decode (mcode mX12_read) 265 = .ok (.iload_n 1, 1) := by decide +kernel
theorem dX12_read_266 : decode (mcode mX12_read) 266 = .ok (.aload_n 0, 1) := by decide +kernel
theorem dX12_read_267 : decode (mcode mX12_read) 267 = .ok (.getfield 186, 3) := by decide +kernel
theorem dX12_read_270 : decode (mcode mX12_read) 270 = .ok (.if_icmp .ge 16, 3) := by decide +kernel
theorem dX12_read_273 : decode (mcode mX12_read) 273 = .ok (.aload_n 0, 1) := by decide +kernel
theorem dX12_read_274 : decode (mcode mX12_read) 274 = .ok (.getfield 28, 3) := by decide +kernel
theorem dX12_read_277 : decode (mcode mX12_read) 277 = .ok (.iload_n 1, 1) := by decide +kernel
theorem dX12_read_278 : decode (mcode mX12_read) 278 = .ok (.iconst 0, 1) := by decide +kernel
theorem dX12_read_279 : decode (mcode mX12_read) 279 = .ok (.bastore, 1) := by decide +kernel
theorem dX12_read_280 : decode (mcode mX12_read) 280 = .ok (.iinc 1 1, 3) := by decide +kernel
theorem dX12_read_283 : decode (mcode mX12_read) 283 = .ok (.goto (-18), 3) := by decide +kernel
theorem dX12_read_286 : decode (mcode mX12_read) 286 = .ok (.aload_n 0, 1) := by decide +kernel
theorem dX12_read_287 : decode (mcode mX12_read) 287 = .ok (.aload_n 0, 1) := by decide +kernel
theorem dX12_read_288 : decode (mcode mX12_read) 288 = .ok (.getfield 186, 3) := by decide +kernel
theorem dX12_read_291 : decode (mcode mX12_read) 291 = .ok (.putfield 224, 3) := by decide +kernel
theorem dX12_read_294 : decode (mcode mX12_read) 294 = .ok (.aload_n 0, 1) := by decide +kernel
theorem dX12_read_295 : decode (mcode mX12_read) 295 = .ok (.aload_n 0, 1) := by decide +kernel
theorem dX12_read_296 : decode (mcode mX12_read) 296 = .ok (.getfield 183, 3) := by decide +kernel
theorem dX12_read_299 : decode (mcode mX12_read) 299 = .ok (.putfield 227, 3) := by decide +kernel
theorem dX12_read_302 : decode (mcode mX12_read) 302 = .ok (.aload_n 0, 1) := by decide +kernel
theorem dX12_read_303 : decode (mcode mX12_read) 303 = .ok (.aload_n 0, 1) := by decide +kernel
theorem dX12_read_304 : decode (mcode mX12_read) 304 = .ok (.getfield 218, 3) := by decide +kernel
theorem dX12_read_307 : decode (mcode mX12_read) 307 = .ok (.putfield 230, 3) := by decide +kernel
theorem dX12_read_310 : decode (mcode mX12_read) 310 = .ok (.aload_n 0, 1) := by decide +kernel
theorem dX12_read_311 : decode (mcode mX12_read) 311 = .ok (.aload_n 0, 1) := by decide +kernel
theorem dX12_read_312 : decode (mcode mX12_read) 312 = .ok (.getfield 221, 3) := by decide +kernel
theorem dX12_read_315 : decode (mcode mX12_read) 315 = .ok (.putfield 233, 3) := by decide +kernel
theorem dX12_read_318 : decode (mcode mX12_read) 318 = .ok (.aload_n 0, 1) := by decide +kernel
theorem dX12_read_319 : decode (mcode mX12_read) 319 = .ok (.getfield 227, 3) := by decide +kernel
theorem dX12_read_322 : decode (mcode mX12_read) 322 = .ok (.ireturn, 1) := by decide +kernel

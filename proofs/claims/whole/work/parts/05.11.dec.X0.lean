theorem dX0_begin_0 : decode (mcode mX0_begin) 0 = .ok (.aload_n 0, 1) := by decide +kernel
theorem dX0_begin_1 : decode (mcode mX0_begin) 1 = .ok (.getfield 78, 3) := by decide +kernel
theorem dX0_begin_4 : decode (mcode mX0_begin) 4 = .ok (.bipush 16, 2) := by decide +kernel
theorem dX0_begin_6 : decode (mcode mX0_begin) 6 = .ok (.if_icmp .ge 20, 3) := by decide +kernel
theorem dX0_begin_9 : decode (mcode mX0_begin) 9 = .ok (.aload_n 0, 1) := by decide +kernel
theorem dX0_begin_10 : decode (mcode mX0_begin) 10 = .ok (.getfield 11, 3) := by decide +kernel
theorem dX0_begin_13 : decode (mcode mX0_begin) 13 = .ok (.aload_n 0, 1) := by decide +kernel
theorem dX0_begin_14 : decode (mcode mX0_begin) 14 = .ok (.dup, 1) := by decide +kernel
theorem dX0_begin_15 : decode (mcode mX0_begin) 15 = .ok (.getfield 78, 3) := by decide +kernel
theorem dX0_begin_18 : decode (mcode mX0_begin) 18 = .ok (.dup_x1, 1) := by decide +kernel
theorem dX0_begin_19 : decode (mcode mX0_begin) 19 = .ok (.iconst 1, 1) := by decide +kernel
theorem dX0_begin_20 : decode (mcode mX0_begin) 20 = .ok (.iadd, 1) := by decide +kernel
theorem dX0_begin_21 : decode (mcode mX0_begin) 21 = .ok (.putfield 78, 3) := by decide +kernel
theorem dX0_begin_24 : decode (mcode mX0_begin) 24 = .ok (.iload_n 1, 1) := by decide +kernel
theorem dX0_begin_25 : decode (mcode mX0_begin) 25 = .ok (.iastore, 1) := by decide +kernel
theorem dX0_begin_26 : decode (mcode mX0_begin) 26 = .ok (.return_, 1) := by decide +kernel
theorem dX0_lentMark_0 : decode (mcode mX0_lentMark) 0 = .ok (.aload_n 0, 1) := by decide +kernel
theorem dX0_lentMark_1 : decode (mcode mX0_lentMark) 1 = .ok (.bipush 20, 2) := by decide +kernel
theorem dX0_lentMark_3 : decode (mcode mX0_lentMark) 3 = .ok (.invokevirtual 52, 3) := by decide +kernel
theorem dX0_lentMark_6 : decode (mcode mX0_lentMark) 6 = .ok (.aload_n 0, 1) := by decide +kernel
theorem dX0_lentMark_7 : decode (mcode mX0_lentMark) 7 = .ok (.getfield 15, 3) := by decide +kernel
theorem dX0_lentMark_10 : decode (mcode mX0_lentMark) 10 = .ok (.getfield 68, 3) := by decide +kernel
theorem dX0_lentMark_13 : decode (mcode mX0_lentMark) 13 = .ok (.iload_n 1, 1) := by decide +kernel
theorem dX0_lentMark_14 : decode (mcode mX0_lentMark) 14 = .ok (.iaload, 1) := by decide +kernel
theorem dX0_lentMark_15 : decode (mcode mX0_lentMark) 15 = .ok (.ireturn, 1) := by decide +kernel
theorem dX0_lentSize_0 : decode (mcode mX0_lentSize) 0 = .ok (.aload_n 0, 1) := by decide +kernel
theorem dX0_lentSize_1 : decode (mcode mX0_lentSize) 1 = .ok (.bipush 10, 2) := by decide +kernel
theorem dX0_lentSize_3 : decode (mcode mX0_lentSize) 3 = .ok (.invokevirtual 52, 3) := by decide +kernel
theorem dX0_lentSize_6 : decode (mcode mX0_lentSize) 6 = .ok (.aload_n 0, 1) := by decide +kernel
theorem dX0_lentSize_7 : decode (mcode mX0_lentSize) 7 = .ok (.getfield 15, 3) := by decide +kernel
theorem dX0_lentSize_10 : decode (mcode mX0_lentSize) 10 = .ok (.getfield 56, 3) := by decide +kernel
theorem dX0_lentSize_13 : decode (mcode mX0_lentSize) 13 = .ok (.getfield 60, 3) := by decide +kernel
theorem dX0_lentSize_16 : decode (mcode mX0_lentSize) 16 = .ok (.iload_n 1, 1) := by decide +kernel
theorem dX0_lentSize_17 : decode (mcode mX0_lentSize) 17 = .ok (.iaload, 1) := by decide +kernel
theorem dX0_lentSize_18 : decode (mcode mX0_lentSize) 18 = .ok (.ireturn, 1) := by decide +kernel
theorem dX0_homeMark_0 : decode (mcode mX0_homeMark) 0 = .ok (.aload_n 0, 1) := by decide +kernel
theorem dX0_homeMark_1 : decode (mcode mX0_homeMark) 1 = .ok (.bipush 21, 2) := by decide +kernel
theorem dX0_homeMark_3 : decode (mcode mX0_homeMark) 3 = .ok (.invokevirtual 52, 3) := by decide +kernel
theorem dX0_homeMark_6 : decode (mcode mX0_homeMark) 6 = .ok (.aload_n 0, 1) := by decide +kernel
theorem dX0_homeMark_7 : decode (mcode mX0_homeMark) 7 = .ok (.iload_n 1, 1) := by decide +kernel
theorem dX0_homeMark_8 : decode (mcode mX0_homeMark) 8 = .ok (.invokevirtual 49, 3) := by decide +kernel
theorem dX0_homeMark_11 : decode (mcode mX0_homeMark) 11 = .ok (.aload_n 0, 1) := by decide +kernel
theorem dX0_homeMark_12 : decode (mcode mX0_homeMark) 12 = .ok (.getfield 15, 3) := by decide +kernel
theorem dX0_homeMark_15 : decode (mcode mX0_homeMark) 15 = .ok (.getfield 71, 3) := by decide +kernel
theorem dX0_homeMark_18 : decode (mcode mX0_homeMark) 18 = .ok (.iload_n 1, 1) := by decide +kernel
theorem dX0_homeMark_19 : decode (mcode mX0_homeMark) 19 = .ok (.iaload, 1) := by decide +kernel
theorem dX0_homeMark_20 : decode (mcode mX0_homeMark) 20 = .ok (.iadd, 1) := by decide +kernel
theorem dX0_homeMark_21 : decode (mcode mX0_homeMark) 21 = .ok (.ireturn, 1) := by decide +kernel
theorem dX0_homeSize_0 : decode (mcode mX0_homeSize) 0 = .ok (.aload_n 0, 1) := by decide +kernel
theorem dX0_homeSize_1 : decode (mcode mX0_homeSize) 1 = .ok (.bipush 11, 2) := by decide +kernel
theorem dX0_homeSize_3 : decode (mcode mX0_homeSize) 3 = .ok (.invokevirtual 52, 3) := by decide +kernel
theorem dX0_homeSize_6 : decode (mcode mX0_homeSize) 6 = .ok (.aload_n 0, 1) := by decide +kernel
theorem dX0_homeSize_7 : decode (mcode mX0_homeSize) 7 = .ok (.iload_n 1, 1) := by decide +kernel
theorem dX0_homeSize_8 : decode (mcode mX0_homeSize) 8 = .ok (.invokevirtual 37, 3) := by decide +kernel
theorem dX0_homeSize_11 : decode (mcode mX0_homeSize) 11 = .ok (.aload_n 0, 1) := by decide +kernel
theorem dX0_homeSize_12 : decode (mcode mX0_homeSize) 12 = .ok (.getfield 15, 3) := by decide +kernel
theorem dX0_homeSize_15 : decode (mcode mX0_homeSize) 15 = .ok (.getfield 65, 3) := by decide +kernel
theorem dX0_homeSize_18 : decode (mcode mX0_homeSize) 18 = .ok (.iload_n 1, 1) := by decide +kernel
theorem dX0_homeSize_19 : decode (mcode mX0_homeSize) 19 = .ok (.iaload, 1) := by decide +kernel
theorem dX0_homeSize_20 : decode (mcode mX0_homeSize) 20 = .ok (.iadd, 1) := by decide +kernel
theorem dX0_homeSize_21 : decode (mcode mX0_homeSize) 21 = .ok (.ireturn, 1) := by decide +kernel
theorem dX0_staleSize_0 : decode (mcode mX0_staleSize) 0 = .ok (.aload_n 0, 1) := by decide +kernel
theorem dX0_staleSize_1 : decode (mcode mX0_staleSize) 1 = .ok (.bipush 14, 2) := by decide +kernel
theorem dX0_staleSize_3 : decode (mcode mX0_staleSize) 3 = .ok (.invokevirtual 52, 3) := by decide +kernel
theorem dX0_staleSize_6 : decode (mcode mX0_staleSize) 6 = .ok (.aload_n 0, 1) := by decide +kernel
theorem dX0_staleSize_7 : decode (mcode mX0_staleSize) 7 = .ok (.iload_n 1, 1) := by decide +kernel
theorem dX0_staleSize_8 : decode (mcode mX0_staleSize) 8 = .ok (.invokevirtual 37, 3) := by decide +kernel
theorem dX0_staleSize_11 : decode (mcode mX0_staleSize) 11 = .ok (.ineg, 1) := by decide +kernel
theorem dX0_staleSize_12 : decode (mcode mX0_staleSize) 12 = .ok (.ireturn, 1) := by decide +kernel
theorem dX0_tradeMark_0 : decode (mcode mX0_tradeMark) 0 = .ok (.aload_n 0, 1) := by decide +kernel
theorem dX0_tradeMark_1 : decode (mcode mX0_tradeMark) 1 = .ok (.bipush 23, 2) := by decide +kernel
theorem dX0_tradeMark_3 : decode (mcode mX0_tradeMark) 3 = .ok (.invokevirtual 52, 3) := by decide +kernel
theorem dX0_tradeMark_6 : decode (mcode mX0_tradeMark) 6 = .ok (.aload_n 0, 1) := by decide +kernel
theorem dX0_tradeMark_7 : decode (mcode mX0_tradeMark) 7 = .ok (.iload_n 1, 1) := by decide +kernel
theorem dX0_tradeMark_8 : decode (mcode mX0_tradeMark) 8 = .ok (.invokevirtual 49, 3) := by decide +kernel
theorem dX0_tradeMark_11 : decode (mcode mX0_tradeMark) 11 = .ok (.istore_n 2, 1) := by decide +kernel
theorem dX0_tradeMark_12 : decode (mcode mX0_tradeMark) 12 = .ok (.iload_n 2, 1) := by decide +kernel
theorem dX0_tradeMark_13 : decode (mcode mX0_tradeMark) 13 = .ok (.aload_n 0, 1) := by decide +kernel
theorem dX0_tradeMark_14 : decode (mcode mX0_tradeMark) 14 = .ok (.iload_n 1, 1) := by decide +kernel
theorem dX0_tradeMark_15 : decode (mcode mX0_tradeMark) 15 = .ok (.invokevirtual 37, 3) := by decide +kernel
theorem dX0_tradeMark_18 : decode (mcode mX0_tradeMark) 18 = .ok (.iadd, 1) := by decide +kernel
theorem dX0_tradeMark_19 : decode (mcode mX0_tradeMark) 19 = .ok (.ireturn, 1) := by decide +kernel
theorem dX0_countedMark_0 : decode (mcode mX0_countedMark) 0 = .ok (.aload_n 0, 1) := by decide +kernel
theorem dX0_countedMark_1 : decode (mcode mX0_countedMark) 1 = .ok (.bipush 22, 2) := by decide +kernel
theorem dX0_countedMark_3 : decode (mcode mX0_countedMark) 3 = .ok (.invokevirtual 52, 3) := by decide +kernel
theorem dX0_countedMark_6 : decode (mcode mX0_countedMark) 6 = .ok (.aload_n 0, 1) := by decide +kernel
theorem dX0_countedMark_7 : decode (mcode mX0_countedMark) 7 = .ok (.iload_n 1, 1) := by decide +kernel
theorem dX0_countedMark_8 : decode (mcode mX0_countedMark) 8 = .ok (.invokevirtual 40, 3) := by decide +kernel
theorem dX0_countedMark_11 : decode (mcode mX0_countedMark) 11 = .ok (.aload_n 0, 1) := by decide +kernel
theorem dX0_countedMark_12 : decode (mcode mX0_countedMark) 12 = .ok (.getfield 15, 3) := by decide +kernel
theorem dX0_countedMark_15 : decode (mcode mX0_countedMark) 15 = .ok (.getfield 74, 3) := by decide +kernel
theorem dX0_countedMark_18 : decode (mcode mX0_countedMark) 18 = .ok (.iload_n 1, 1) := by decide +kernel
theorem dX0_countedMark_19 : decode (mcode mX0_countedMark) 19 = .ok (.iaload, 1) := by decide +kernel
theorem dX0_countedMark_20 : decode (mcode mX0_countedMark) 20 = .ok (.ldc 77, 2) := by decide +kernel
theorem dX0_countedMark_22 : decode (mcode mX0_countedMark) 22 = .ok (.if_icmp .ne 7, 3) := by decide +kernel
theorem dX0_countedMark_25 : decode (mcode mX0_countedMark) 25 = .ok (.iconst 0, 1) := by decide +kernel
theorem dX0_countedMark_26 : decode (mcode mX0_countedMark) 26 = .ok (.goto 12, 3) := by decide +kernel
theorem dX0_countedMark_29 : decode (mcode mX0_countedMark) 29 = .ok (.aload_n 0, 1) := by decide +kernel
theorem dX0_countedMark_30 : decode (mcode mX0_countedMark) 30 = .ok (.getfield 15, 3) := by decide +kernel
theorem dX0_countedMark_33 : decode (mcode mX0_countedMark) 33 = .ok (.getfield 74, 3) := by decide +kernel
theorem dX0_countedMark_36 : decode (mcode mX0_countedMark) 36 = .ok (.iload_n 1, 1) := by decide +kernel
theorem dX0_countedMark_37 : decode (mcode mX0_countedMark) 37 = .ok (.iaload, 1) := by decide +kernel
theorem dX0_countedMark_38 : decode (mcode mX0_countedMark) 38 = .ok (.iadd, 1) := by decide +kernel
theorem dX0_countedMark_39 : decode (mcode mX0_countedMark) 39 = .ok (.ireturn, 1) := by decide +kernel
theorem dX0_ratedSize_0 : decode (mcode mX0_ratedSize) 0 = .ok (.aload_n 0, 1) := by decide +kernel
theorem dX0_ratedSize_1 : decode (mcode mX0_ratedSize) 1 = .ok (.bipush 12, 2) := by decide +kernel
theorem dX0_ratedSize_3 : decode (mcode mX0_ratedSize) 3 = .ok (.invokevirtual 52, 3) := by decide +kernel
theorem dX0_ratedSize_6 : decode (mcode mX0_ratedSize) 6 = .ok (.iconst 2, 1) := by decide +kernel
theorem dX0_ratedSize_7 : decode (mcode mX0_ratedSize) 7 = .ok (.aload_n 0, 1) := by decide +kernel
theorem dX0_ratedSize_8 : decode (mcode mX0_ratedSize) 8 = .ok (.iload_n 1, 1) := by decide +kernel
theorem dX0_ratedSize_9 : decode (mcode mX0_ratedSize) 9 = .ok (.invokevirtual 24, 3) := by decide +kernel
theorem dX0_ratedSize_12 : decode (mcode mX0_ratedSize) 12 = .ok (.imul, 1) := by decide +kernel
theorem dX0_ratedSize_13 : decode (mcode mX0_ratedSize) 13 = .ok (.ireturn, 1) := by decide +kernel
theorem dX0_countedSize_0 : decode (mcode mX0_countedSize) 0 = .ok (.aload_n 0, 1) := by decide +kernel
theorem dX0_countedSize_1 : decode (mcode mX0_countedSize) 1 = .ok (.bipush 13, 2) := by decide +kernel
theorem dX0_countedSize_3 : decode (mcode mX0_countedSize) 3 = .ok (.invokevirtual 52, 3) := by decide +kernel
theorem dX0_countedSize_6 : decode (mcode mX0_countedSize) 6 = .ok (.aload_n 0, 1) := by decide +kernel
theorem dX0_countedSize_7 : decode (mcode mX0_countedSize) 7 = .ok (.iload_n 1, 1) := by decide +kernel
theorem dX0_countedSize_8 : decode (mcode mX0_countedSize) 8 = .ok (.invokevirtual 24, 3) := by decide +kernel
theorem dX0_countedSize_11 : decode (mcode mX0_countedSize) 11 = .ok (.istore_n 2, 1) := by decide +kernel
theorem dX0_countedSize_12 : decode (mcode mX0_countedSize) 12 = .ok (.iload_n 2, 1) := by decide +kernel
theorem dX0_countedSize_13 : decode (mcode mX0_countedSize) 13 = .ok (.aload_n 0, 1) := by decide +kernel
theorem dX0_countedSize_14 : decode (mcode mX0_countedSize) 14 = .ok (.iload_n 1, 1) := by decide +kernel
theorem dX0_countedSize_15 : decode (mcode mX0_countedSize) 15 = .ok (.invokevirtual 43, 3) := by decide +kernel
theorem dX0_countedSize_18 : decode (mcode mX0_countedSize) 18 = .ok (.iadd, 1) := by decide +kernel
theorem dX0_countedSize_19 : decode (mcode mX0_countedSize) 19 = .ok (.ireturn, 1) := by decide +kernel
theorem dX0_markOf_0 : decode (mcode mX0_markOf) 0 = .ok (.aload_n 0, 1) := by decide +kernel
theorem dX0_markOf_1 : decode (mcode mX0_markOf) 1 = .ok (.getfield 15, 3) := by decide +kernel
theorem dX0_markOf_4 : decode (mcode mX0_markOf) 4 = .ok (.getfield 19, 3) := by decide +kernel
theorem dX0_markOf_7 : decode (mcode mX0_markOf) 7 = .ok (.iload_n 1, 1) := by decide +kernel
theorem dX0_markOf_8 : decode (mcode mX0_markOf) 8 = .ok (.iaload, 1) := by decide +kernel
theorem dX0_markOf_9 : decode (mcode mX0_markOf) 9 = .ok (.tableswitch 55 0 3 #[31, 37, 43, 49], 31) := by decide +kernel
theorem dX0_markOf_40 : decode (mcode mX0_markOf) 40 = .ok (.aload_n 0, 1) := by decide +kernel
theorem dX0_markOf_41 : decode (mcode mX0_markOf) 41 = .ok (.iload_n 1, 1) := by decide +kernel
theorem dX0_markOf_42 : decode (mcode mX0_markOf) 42 = .ok (.invokevirtual 40, 3) := by decide +kernel
theorem dX0_markOf_45 : decode (mcode mX0_markOf) 45 = .ok (.ireturn, 1) := by decide +kernel
theorem dX0_markOf_46 : decode (mcode mX0_markOf) 46 = .ok (.aload_n 0, 1) := by decide +kernel
theorem dX0_markOf_47 : decode (mcode mX0_markOf) 47 = .ok (.iload_n 1, 1) := by decide +kernel
theorem dX0_markOf_48 : decode (mcode mX0_markOf) 48 = .ok (.invokevirtual 40, 3) := by decide +kernel
theorem dX0_markOf_51 : decode (mcode mX0_markOf) 51 = .ok (.ireturn, 1) := by decide +kernel
theorem dX0_markOf_52 : decode (mcode mX0_markOf) 52 = .ok (.aload_n 0, 1) := by decide +kernel
theorem dX0_markOf_53 : decode (mcode mX0_markOf) 53 = .ok (.iload_n 1, 1) := by decide +kernel
theorem dX0_markOf_54 : decode (mcode mX0_markOf) 54 = .ok (.invokevirtual 43, 3) := by decide +kernel
theorem dX0_markOf_57 : decode (mcode mX0_markOf) 57 = .ok (.ireturn, 1) := by decide +kernel
theorem dX0_markOf_58 : decode (mcode mX0_markOf) 58 = .ok (.aload_n 0, 1) := by decide +kernel
theorem dX0_markOf_59 : decode (mcode mX0_markOf) 59 = .ok (.iload_n 1, 1) := by decide +kernel
theorem dX0_markOf_60 : decode (mcode mX0_markOf) 60 = .ok (.invokevirtual 46, 3) := by decide +kernel
theorem dX0_markOf_63 : decode (mcode mX0_markOf) 63 = .ok (.ireturn, 1) := by decide +kernel
theorem dX0_markOf_64 : decode (mcode mX0_markOf) 64 = .ok (.aload_n 0, 1) := by decide +kernel
theorem dX0_markOf_65 : decode (mcode mX0_markOf) 65 = .ok (.iload_n 1, 1) := by decide +kernel
theorem dX0_markOf_66 : decode (mcode mX0_markOf) 66 = .ok (.invokevirtual 49, 3) := by decide +kernel
theorem dX0_markOf_69 : decode (mcode mX0_markOf) 69 = .ok (.ireturn, 1) := by decide +kernel
theorem dX0_sizeOf_0 : decode (mcode mX0_sizeOf) 0 = .ok (.aload_n 0, 1) := by decide +kernel
theorem dX0_sizeOf_1 : decode (mcode mX0_sizeOf) 1 = .ok (.getfield 15, 3) := by decide +kernel
theorem dX0_sizeOf_4 : decode (mcode mX0_sizeOf) 4 = .ok (.getfield 19, 3) := by decide +kernel
theorem dX0_sizeOf_7 : decode (mcode mX0_sizeOf) 7 = .ok (.iload_n 1, 1) := by decide +kernel
theorem dX0_sizeOf_8 : decode (mcode mX0_sizeOf) 8 = .ok (.iaload, 1) := by decide +kernel
theorem dX0_sizeOf_9 : decode (mcode mX0_sizeOf) 9 = .ok (.tableswitch 59 0 4 #[35, 41, 47, 59, 53], 35) := by decide +kernel
theorem dX0_sizeOf_44 : decode (mcode mX0_sizeOf) 44 = .ok (.aload_n 0, 1) := by decide +kernel
theorem dX0_sizeOf_45 : decode (mcode mX0_sizeOf) 45 = .ok (.iload_n 1, 1) := by decide +kernel
theorem dX0_sizeOf_46 : decode (mcode mX0_sizeOf) 46 = .ok (.invokevirtual 24, 3) := by decide +kernel
theorem dX0_sizeOf_49 : decode (mcode mX0_sizeOf) 49 = .ok (.ireturn, 1) := by decide +kernel
theorem dX0_sizeOf_50 : decode (mcode mX0_sizeOf) 50 = .ok (.aload_n 0, 1) := by decide +kernel
theorem dX0_sizeOf_51 : decode (mcode mX0_sizeOf) 51 = .ok (.iload_n 1, 1) := by decide +kernel
theorem dX0_sizeOf_52 : decode (mcode mX0_sizeOf) 52 = .ok (.invokevirtual 28, 3) := by decide +kernel
theorem dX0_sizeOf_55 : decode (mcode mX0_sizeOf) 55 = .ok (.ireturn, 1) := by decide +kernel
theorem dX0_sizeOf_56 : decode (mcode mX0_sizeOf) 56 = .ok (.aload_n 0, 1) := by decide +kernel
theorem dX0_sizeOf_57 : decode (mcode mX0_sizeOf) 57 = .ok (.iload_n 1, 1) := by decide +kernel
theorem dX0_sizeOf_58 : decode (mcode mX0_sizeOf) 58 = .ok (.invokevirtual 31, 3) := by decide +kernel
theorem dX0_sizeOf_61 : decode (mcode mX0_sizeOf) 61 = .ok (.ireturn, 1) := by decide +kernel
theorem dX0_sizeOf_62 : decode (mcode mX0_sizeOf) 62 = .ok (.aload_n 0, 1) := by decide +kernel
theorem dX0_sizeOf_63 : decode (mcode mX0_sizeOf) 63 = .ok (.iload_n 1, 1) := by decide +kernel
theorem dX0_sizeOf_64 : decode (mcode mX0_sizeOf) 64 = .ok (.invokevirtual 34, 3) := by decide +kernel
theorem dX0_sizeOf_67 : decode (mcode mX0_sizeOf) 67 = .ok (.ireturn, 1) := by decide +kernel
theorem dX0_sizeOf_68 : decode (mcode mX0_sizeOf) 68 = .ok (.aload_n 0, 1) := by decide +kernel
theorem dX0_sizeOf_69 : decode (mcode mX0_sizeOf) 69 = .ok (.iload_n 1, 1) := by decide +kernel
theorem dX0_sizeOf_70 : decode (mcode mX0_sizeOf) 70 = .ok (.invokevirtual 37, 3) := by decide +kernel
theorem dX0_sizeOf_73 : decode (mcode mX0_sizeOf) 73 = .ok (.ireturn, 1) := by decide +kernel

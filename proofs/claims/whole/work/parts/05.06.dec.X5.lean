theorem dX5_areLike_0 : decode (mcode mX5_areLike) 0 = .ok (.aload_n 0, 1) := by decide +kernel
theorem dX5_areLike_1 : decode (mcode mX5_areLike) 1 = .ok (.getfield 18, 3) := by decide +kernel
theorem dX5_areLike_4 : decode (mcode mX5_areLike) 4 = .ok (.iload_n 1, 1) := by decide +kernel
theorem dX5_areLike_5 : decode (mcode mX5_areLike) 5 = .ok (.iaload, 1) := by decide +kernel
theorem dX5_areLike_6 : decode (mcode mX5_areLike) 6 = .ok (.iload_n 2, 1) := by decide +kernel
theorem dX5_areLike_7 : decode (mcode mX5_areLike) 7 = .ok (.ishr, 1) := by decide +kernel
theorem dX5_areLike_8 : decode (mcode mX5_areLike) 8 = .ok (.iconst 1, 1) := by decide +kernel
theorem dX5_areLike_9 : decode (mcode mX5_areLike) 9 = .ok (.iand, 1) := by decide +kernel
theorem dX5_areLike_10 : decode (mcode mX5_areLike) 10 = .ok (.iconst 1, 1) := by decide +kernel
theorem dX5_areLike_11 : decode (mcode mX5_areLike) 11 = .ok (.if_icmp .ne 7, 3) := by decide +kernel
theorem dX5_areLike_14 : decode (mcode mX5_areLike) 14 = .ok (.iconst 1, 1) := by decide +kernel
theorem dX5_areLike_15 : decode (mcode mX5_areLike) 15 = .ok (.goto 4, 3) := by decide +kernel
theorem dX5_areLike_18 : decode (mcode mX5_areLike) 18 = .ok (.iconst 0, 1) := by decide +kernel
theorem dX5_areLike_19 : decode (mcode mX5_areLike) 19 = .ok (.ireturn, 1) := by decide +kernel
theorem dX5_letter_0 : decode (mcode mX5_letter) 0 = .ok (.aload_n 0, 1) := by decide +kernel
theorem dX5_letter_1 : decode (mcode mX5_letter) 1 = .ok (.getfield 9, 3) := by decide +kernel
theorem dX5_letter_4 : decode (mcode mX5_letter) 4 = .ok (.iload_n 1, 1) := by decide +kernel
theorem dX5_letter_5 : decode (mcode mX5_letter) 5 = .ok (.bipush 8, 2) := by decide +kernel
theorem dX5_letter_7 : decode (mcode mX5_letter) 7 = .ok (.imul, 1) := by decide +kernel
theorem dX5_letter_8 : decode (mcode mX5_letter) 8 = .ok (.iload_n 2, 1) := by decide +kernel
theorem dX5_letter_9 : decode (mcode mX5_letter) 9 = .ok (.iadd, 1) := by decide +kernel
theorem dX5_letter_10 : decode (mcode mX5_letter) 10 = .ok (.iaload, 1) := by decide +kernel
theorem dX5_letter_11 : decode (mcode mX5_letter) 11 = .ok (.ireturn, 1) := by decide +kernel
theorem dX5_hand_0 : decode (mcode mX5_hand) 0 = .ok (.iconst 0, 1) := by decide +kernel
theorem dX5_hand_1 : decode (mcode mX5_hand) 1 = .ok (.istore_n 3, 1) := by decide +kernel
theorem dX5_hand_2 : decode (mcode mX5_hand) 2 = .ok (.iload_n 3, 1) := by decide +kernel
theorem dX5_hand_3 : decode (mcode mX5_hand) 3 = .ok (.aload_n 0, 1) := by decide +kernel
theorem dX5_hand_4 : decode (mcode mX5_hand) 4 = .ok (.getfield 21, 3) := by decide +kernel
theorem dX5_hand_7 : decode (mcode mX5_hand) 7 = .ok (.iload_n 2, 1) := by decide +kernel
theorem dX5_hand_8 : decode (mcode mX5_hand) 8 = .ok (.iaload, 1) := by decide +kernel
theorem dX5_hand_9 : decode (mcode mX5_hand) 9 = .ok (.if_icmp .gt 16, 3) := by decide +kernel
theorem dX5_hand_12 : decode (mcode mX5_hand) 12 = .ok (.aload_n 0, 1) := by decide +kernel
theorem dX5_hand_13 : decode (mcode mX5_hand) 13 = .ok (.getfield 15, 3) := by decide +kernel
theorem dX5_hand_16 : decode (mcode mX5_hand) 16 = .ok (.iload_n 3, 1) := by decide +kernel
theorem dX5_hand_17 : decode (mcode mX5_hand) 17 = .ok (.iload_n 3, 1) := by decide +kernel
theorem dX5_hand_18 : decode (mcode mX5_hand) 18 = .ok (.iastore, 1) := by decide +kernel
theorem dX5_hand_19 : decode (mcode mX5_hand) 19 = .ok (.iinc 3 1, 3) := by decide +kernel
theorem dX5_hand_22 : decode (mcode mX5_hand) 22 = .ok (.goto (-20), 3) := by decide +kernel
theorem dX5_hand_25 : decode (mcode mX5_hand) 25 = .ok (.iconst 1, 1) := by decide +kernel
theorem dX5_hand_26 : decode (mcode mX5_hand) 26 = .ok (.istore_n 3, 1) := by decide +kernel
theorem dX5_hand_27 : decode (mcode mX5_hand) 27 = .ok (.iload_n 3, 1) := by decide +kernel
theorem dX5_hand_28 : decode (mcode mX5_hand) 28 = .ok (.aload_n 0, 1) := by decide +kernel
theorem dX5_hand_29 : decode (mcode mX5_hand) 29 = .ok (.getfield 21, 3) := by decide +kernel
theorem dX5_hand_32 : decode (mcode mX5_hand) 32 = .ok (.iload_n 1, 1) := by decide +kernel
theorem dX5_hand_33 : decode (mcode mX5_hand) 33 = .ok (.iaload, 1) := by decide +kernel
theorem dX5_hand_34 : decode (mcode mX5_hand) 34 = .ok (.if_icmp .gt 116, 3) := by decide +kernel
theorem dX5_hand_37 : decode (mcode mX5_hand) 37 = .ok (.aload_n 0, 1) := by decide +kernel
theorem dX5_hand_38 : decode (mcode mX5_hand) 38 = .ok (.getfield 15, 3) := by decide +kernel
theorem dX5_hand_41 : decode (mcode mX5_hand) 41 = .ok (.iconst 0, 1) := by decide +kernel
theorem dX5_hand_42 : decode (mcode mX5_hand) 42 = .ok (.iaload, 1) := by decide +kernel
theorem dX5_hand_43 : decode (mcode mX5_hand) 43 = .ok (.istore 4, 2) := by decide +kernel
theorem dX5_hand_45 : decode (mcode mX5_hand) 45 = .ok (.aload_n 0, 1) := by decide +kernel
theorem dX5_hand_46 : decode (mcode mX5_hand) 46 = .ok (.getfield 15, 3) := by decide +kernel
theorem dX5_hand_49 : decode (mcode mX5_hand) 49 = .ok (.iconst 0, 1) := by decide +kernel
theorem dX5_hand_50 : decode (mcode mX5_hand) 50 = .ok (.iload_n 3, 1) := by decide +kernel
theorem dX5_hand_51 : decode (mcode mX5_hand) 51 = .ok (.iastore, 1) := by decide +kernel
theorem dX5_hand_52 : decode (mcode mX5_hand) 52 = .ok (.iconst 1, 1) := by decide +kernel
theorem dX5_hand_53 : decode (mcode mX5_hand) 53 = .ok (.istore 5, 2) := by decide +kernel
theorem dX5_hand_55 : decode (mcode mX5_hand) 55 = .ok (.iload 5, 2) := by decide +kernel
theorem dX5_hand_57 : decode (mcode mX5_hand) 57 = .ok (.aload_n 0, 1) := by decide +kernel
theorem dX5_hand_58 : decode (mcode mX5_hand) 58 = .ok (.getfield 21, 3) := by decide +kernel
theorem dX5_hand_61 : decode (mcode mX5_hand) 61 = .ok (.iload_n 2, 1) := by decide +kernel
theorem dX5_hand_62 : decode (mcode mX5_hand) 62 = .ok (.iaload, 1) := by decide +kernel
theorem dX5_hand_63 : decode (mcode mX5_hand) 63 = .ok (.if_icmp .gt 81, 3) := by decide +kernel
theorem dX5_hand_66 : decode (mcode mX5_hand) 66 = .ok (.aload_n 0, 1) := by decide +kernel
theorem dX5_hand_67 : decode (mcode mX5_hand) 67 = .ok (.getfield 15, 3) := by decide +kernel
theorem dX5_hand_70 : decode (mcode mX5_hand) 70 = .ok (.iload 5, 2) := by decide +kernel
theorem dX5_hand_72 : decode (mcode mX5_hand) 72 = .ok (.iaload, 1) := by decide +kernel
theorem dX5_hand_73 : decode (mcode mX5_hand) 73 = .ok (.istore 6, 2) := by decide +kernel
theorem dX5_hand_75 : decode (mcode mX5_hand) 75 = .ok (.aload_n 0, 1) := by decide +kernel
theorem dX5_hand_76 : decode (mcode mX5_hand) 76 = .ok (.iload_n 1, 1) := by decide +kernel
theorem dX5_hand_77 : decode (mcode mX5_hand) 77 = .ok (.iload_n 3, 1) := by decide +kernel
theorem dX5_hand_78 : decode (mcode mX5_hand) 78 = .ok (.iconst 1, 1) := by decide +kernel
theorem dX5_hand_79 : decode (mcode mX5_hand) 79 = .ok (.isub, 1) := by decide +kernel
theorem dX5_hand_80 : decode (mcode mX5_hand) 80 = .ok (.invokevirtual 48, 3) := by decide +kernel
theorem dX5_hand_83 : decode (mcode mX5_hand) 83 = .ok (.aload_n 0, 1) := by decide +kernel
theorem dX5_hand_84 : decode (mcode mX5_hand) 84 = .ok (.iload_n 2, 1) := by decide +kernel
theorem dX5_hand_85 : decode (mcode mX5_hand) 85 = .ok (.iload 5, 2) := by decide +kernel
theorem dX5_hand_87 : decode (mcode mX5_hand) 87 = .ok (.iconst 1, 1) := by decide +kernel
theorem dX5_hand_88 : decode (mcode mX5_hand) 88 = .ok (.isub, 1) := by decide +kernel
theorem dX5_hand_89 : decode (mcode mX5_hand) 89 = .ok (.invokevirtual 48, 3) := by decide +kernel
theorem dX5_hand_92 : decode (mcode mX5_hand) 92 = .ok (.if_icmp .ne 8, 3) := by decide +kernel
theorem dX5_hand_95 : decode (mcode mX5_hand) 95 = .ok (.iload 4, 2) := by decide +kernel
theorem dX5_hand_97 : decode (mcode mX5_hand) 97 = .ok (.goto 7, 3) := by decide +kernel
theorem dX5_hand_100 : decode (mcode mX5_hand) 100 = .ok (.iload 4, 2) := by decide +kernel
theorem dX5_hand_102 : decode (mcode mX5_hand) 102 = .ok (.iconst 1, 1) := by decide +kernel
theorem dX5_hand_103 : decode (mcode mX5_hand) 103 = .ok (.iadd, 1) := by decide +kernel
theorem dX5_hand_104 : decode (mcode mX5_hand) 104 = .ok (.istore 7, 2) := by decide +kernel
theorem dX5_hand_106 : decode (mcode mX5_hand) 106 = .ok (.aload_n 0, 1) := by decide +kernel
theorem dX5_hand_107 : decode (mcode mX5_hand) 107 = .ok (.getfield 15, 3) := by decide +kernel
theorem dX5_hand_110 : decode (mcode mX5_hand) 110 = .ok (.iload 5, 2) := by decide +kernel
theorem dX5_hand_112 : decode (mcode mX5_hand) 112 = .ok (.iload 7, 2) := by decide +kernel
theorem dX5_hand_114 : decode (mcode mX5_hand) 114 = .ok (.iload 6, 2) := by decide +kernel
theorem dX5_hand_116 : decode (mcode mX5_hand) 116 = .ok (.aload_n 0, 1) := by decide +kernel
theorem dX5_hand_117 : decode (mcode mX5_hand) 117 = .ok (.getfield 15, 3) := by decide +kernel
theorem dX5_hand_120 : decode (mcode mX5_hand) 120 = .ok (.iload 5, 2) := by decide +kernel
theorem dX5_hand_122 : decode (mcode mX5_hand) 122 = .ok (.iconst 1, 1) := by decide +kernel
theorem dX5_hand_123 : decode (mcode mX5_hand) 123 = .ok (.isub, 1) := by decide +kernel
theorem dX5_hand_124 : decode (mcode mX5_hand) 124 = .ok (.iaload, 1) := by decide +kernel
theorem dX5_hand_125 : decode (mcode mX5_hand) 125 = .ok (.invokestatic 32, 3) := by decide +kernel
theorem dX5_hand_128 : decode (mcode mX5_hand) 128 = .ok (.iconst 1, 1) := by decide +kernel
theorem dX5_hand_129 : decode (mcode mX5_hand) 129 = .ok (.iadd, 1) := by decide +kernel
theorem dX5_hand_130 : decode (mcode mX5_hand) 130 = .ok (.invokestatic 32, 3) := by decide +kernel
theorem dX5_hand_133 : decode (mcode mX5_hand) 133 = .ok (.iastore, 1) := by decide +kernel
theorem dX5_hand_134 : decode (mcode mX5_hand) 134 = .ok (.iload 6, 2) := by decide +kernel
theorem dX5_hand_136 : decode (mcode mX5_hand) 136 = .ok (.istore 4, 2) := by decide +kernel
theorem dX5_hand_138 : decode (mcode mX5_hand) 138 = .ok (.iinc 5 1, 3) := by decide +kernel
theorem dX5_hand_141 : decode (mcode mX5_hand) 141 = .ok (.goto (-86), 3) := by decide +kernel
theorem dX5_hand_144 : decode (mcode mX5_hand) 144 = .ok (.iinc 3 1, 3) := by decide +kernel
theorem dX5_hand_147 : decode (mcode mX5_hand) 147 = .ok (.goto (-120), 3) := by decide +kernel
theorem dX5_hand_150 : decode (mcode mX5_hand) 150 = .ok (.aload_n 0, 1) := by decide +kernel
theorem dX5_hand_151 : decode (mcode mX5_hand) 151 = .ok (.getfield 15, 3) := by decide +kernel
theorem dX5_hand_154 : decode (mcode mX5_hand) 154 = .ok (.aload_n 0, 1) := by decide +kernel
theorem dX5_hand_155 : decode (mcode mX5_hand) 155 = .ok (.getfield 21, 3) := by decide +kernel
theorem dX5_hand_158 : decode (mcode mX5_hand) 158 = .ok (.iload_n 2, 1) := by decide +kernel
theorem dX5_hand_159 : decode (mcode mX5_hand) 159 = .ok (.iaload, 1) := by decide +kernel
theorem dX5_hand_160 : decode (mcode mX5_hand) 160 = .ok (.iaload, 1) := by decide +kernel
theorem dX5_hand_161 : decode (mcode mX5_hand) 161 = .ok (.ireturn, 1) := by decide +kernel
theorem dX5_tell_0 : decode (mcode mX5_tell) 0 = .ok (.iload_n 1, 1) := by decide +kernel
theorem dX5_tell_1 : decode (mcode mX5_tell) 1 = .ok (.ifCond .lt 9, 3) := by decide +kernel
theorem dX5_tell_4 : decode (mcode mX5_tell) 4 = .ok (.iload_n 1, 1) := by decide +kernel
theorem dX5_tell_5 : decode (mcode mX5_tell) 5 = .ok (.bipush 12, 2) := by decide +kernel
theorem dX5_tell_7 : decode (mcode mX5_tell) 7 = .ok (.if_icmp .lt 4, 3) := by decide +kernel
theorem dX5_tell_10 : decode (mcode mX5_tell) 10 = .ok (.return_, 1) := by decide +kernel
theorem dX5_tell_11 : decode (mcode mX5_tell) 11 = .ok (.aload_n 0, 1) := by decide +kernel
theorem dX5_tell_12 : decode (mcode mX5_tell) 12 = .ok (.getfield 21, 3) := by decide +kernel
theorem dX5_tell_15 : decode (mcode mX5_tell) 15 = .ok (.iload_n 1, 1) := by decide +kernel
theorem dX5_tell_16 : decode (mcode mX5_tell) 16 = .ok (.aload_n 2, 1) := by decide +kernel
theorem dX5_tell_17 : decode (mcode mX5_tell) 17 = .ok (.invokevirtual 27, 3) := by decide +kernel
theorem dX5_tell_20 : decode (mcode mX5_tell) 20 = .ok (.bipush 8, 2) := by decide +kernel
theorem dX5_tell_22 : decode (mcode mX5_tell) 22 = .ok (.invokestatic 32, 3) := by decide +kernel
theorem dX5_tell_25 : decode (mcode mX5_tell) 25 = .ok (.iastore, 1) := by decide +kernel
theorem dX5_tell_26 : decode (mcode mX5_tell) 26 = .ok (.iconst 0, 1) := by decide +kernel
theorem dX5_tell_27 : decode (mcode mX5_tell) 27 = .ok (.istore_n 3, 1) := by decide +kernel
theorem dX5_tell_28 : decode (mcode mX5_tell) 28 = .ok (.iload_n 3, 1) := by decide +kernel
theorem dX5_tell_29 : decode (mcode mX5_tell) 29 = .ok (.aload_n 0, 1) := by decide +kernel
theorem dX5_tell_30 : decode (mcode mX5_tell) 30 = .ok (.getfield 21, 3) := by decide +kernel
theorem dX5_tell_33 : decode (mcode mX5_tell) 33 = .ok (.iload_n 1, 1) := by decide +kernel
theorem dX5_tell_34 : decode (mcode mX5_tell) 34 = .ok (.iaload, 1) := by decide +kernel
theorem dX5_tell_35 : decode (mcode mX5_tell) 35 = .ok (.if_icmp .ge 25, 3) := by decide +kernel
theorem dX5_tell_38 : decode (mcode mX5_tell) 38 = .ok (.aload_n 0, 1) := by decide +kernel
theorem dX5_tell_39 : decode (mcode mX5_tell) 39 = .ok (.getfield 9, 3) := by decide +kernel
theorem dX5_tell_42 : decode (mcode mX5_tell) 42 = .ok (.iload_n 1, 1) := by decide +kernel
theorem dX5_tell_43 : decode (mcode mX5_tell) 43 = .ok (.bipush 8, 2) := by decide +kernel
theorem dX5_tell_45 : decode (mcode mX5_tell) 45 = .ok (.imul, 1) := by decide +kernel
theorem dX5_tell_46 : decode (mcode mX5_tell) 46 = .ok (.iload_n 3, 1) := by decide +kernel
theorem dX5_tell_47 : decode (mcode mX5_tell) 47 = .ok (.iadd, 1) := by decide +kernel
theorem dX5_tell_48 : decode (mcode mX5_tell) 48 = .ok (.aload_n 2, 1) := by decide +kernel
theorem dX5_tell_49 : decode (mcode mX5_tell) 49 = .ok (.iload_n 3, 1) := by decide +kernel
theorem dX5_tell_50 : decode (mcode mX5_tell) 50 = .ok (.invokevirtual 38, 3) := by decide +kernel
theorem dX5_tell_53 : decode (mcode mX5_tell) 53 = .ok (.iastore, 1) := by decide +kernel
theorem dX5_tell_54 : decode (mcode mX5_tell) 54 = .ok (.iinc 3 1, 3) := by decide +kernel
theorem dX5_tell_57 : decode (mcode mX5_tell) 57 = .ok (.goto (-29), 3) := by decide +kernel
theorem dX5_tell_60 : decode (mcode mX5_tell) 60 = .ok (.return_, 1) := by decide +kernel
theorem dX5_earOf_0 : decode (mcode mX5_earOf) 0 = .ok (.aload_n 0, 1) := by decide +kernel
theorem dX5_earOf_1 : decode (mcode mX5_earOf) 1 = .ok (.iload_n 1, 1) := by decide +kernel
theorem dX5_earOf_2 : decode (mcode mX5_earOf) 2 = .ok (.iconst 0, 1) := by decide +kernel
theorem dX5_earOf_3 : decode (mcode mX5_earOf) 3 = .ok (.invokevirtual 48, 3) := by decide +kernel
theorem dX5_earOf_6 : decode (mcode mX5_earOf) 6 = .ok (.istore_n 2, 1) := by decide +kernel
theorem dX5_earOf_7 : decode (mcode mX5_earOf) 7 = .ok (.iconst 0, 1) := by decide +kernel
theorem dX5_earOf_8 : decode (mcode mX5_earOf) 8 = .ok (.istore_n 3, 1) := by decide +kernel
theorem dX5_earOf_9 : decode (mcode mX5_earOf) 9 = .ok (.iconst 0, 1) := by decide +kernel
theorem dX5_earOf_10 : decode (mcode mX5_earOf) 10 = .ok (.istore 4, 2) := by decide +kernel
theorem dX5_earOf_12 : decode (mcode mX5_earOf) 12 = .ok (.iconst 1, 1) := by decide +kernel
theorem dX5_earOf_13 : decode (mcode mX5_earOf) 13 = .ok (.istore 5, 2) := by decide +kernel
theorem dX5_earOf_15 : decode (mcode mX5_earOf) 15 = .ok (.iload 5, 2) := by decide +kernel
theorem dX5_earOf_17 : decode (mcode mX5_earOf) 17 = .ok (.aload_n 0, 1) := by decide +kernel
theorem dX5_earOf_18 : decode (mcode mX5_earOf) 18 = .ok (.getfield 21, 3) := by decide +kernel
theorem dX5_earOf_21 : decode (mcode mX5_earOf) 21 = .ok (.iload_n 1, 1) := by decide +kernel
theorem dX5_earOf_22 : decode (mcode mX5_earOf) 22 = .ok (.iaload, 1) := by decide +kernel
theorem dX5_earOf_23 : decode (mcode mX5_earOf) 23 = .ok (.if_icmp .ge 56, 3) := by decide +kernel
theorem dX5_earOf_26 : decode (mcode mX5_earOf) 26 = .ok (.iload_n 3, 1) := by decide +kernel
theorem dX5_earOf_27 : decode (mcode mX5_earOf) 27 = .ok (.iconst 3, 1) := by decide +kernel
theorem dX5_earOf_28 : decode (mcode mX5_earOf) 28 = .ok (.if_icmp .ge 51, 3) := by decide +kernel
theorem dX5_earOf_31 : decode (mcode mX5_earOf) 31 = .ok (.aload_n 0, 1) := by decide +kernel
theorem dX5_earOf_32 : decode (mcode mX5_earOf) 32 = .ok (.iload_n 1, 1) := by decide +kernel
theorem dX5_earOf_33 : decode (mcode mX5_earOf) 33 = .ok (.iload 5, 2) := by decide +kernel
theorem dX5_earOf_35 : decode (mcode mX5_earOf) 35 = .ok (.invokevirtual 48, 3) := by decide +kernel
theorem dX5_earOf_38 : decode (mcode mX5_earOf) 38 = .ok (.invokestatic 50, 3) := by decide +kernel
theorem dX5_earOf_41 : decode (mcode mX5_earOf) 41 = .ok (.istore 6, 2) := by decide +kernel
theorem dX5_earOf_43 : decode (mcode mX5_earOf) 43 = .ok (.iload 6, 2) := by decide +kernel
theorem dX5_earOf_45 : decode (mcode mX5_earOf) 45 = .ok (.ifCond .eq 28, 3) := by decide +kernel
theorem dX5_earOf_48 : decode (mcode mX5_earOf) 48 = .ok (.iload 6, 2) := by decide +kernel
theorem dX5_earOf_50 : decode (mcode mX5_earOf) 50 = .ok (.iload 4, 2) := by decide +kernel
theorem dX5_earOf_52 : decode (mcode mX5_earOf) 52 = .ok (.if_icmp .ne 6, 3) := by decide +kernel
theorem dX5_earOf_55 : decode (mcode mX5_earOf) 55 = .ok (.goto 18, 3) := by decide +kernel
theorem dX5_earOf_58 : decode (mcode mX5_earOf) 58 = .ok (.bipush 10, 2) := by decide +kernel
theorem dX5_earOf_60 : decode (mcode mX5_earOf) 60 = .ok (.iload_n 2, 1) := by decide +kernel
theorem dX5_earOf_61 : decode (mcode mX5_earOf) 61 = .ok (.imul, 1) := by decide +kernel
theorem dX5_earOf_62 : decode (mcode mX5_earOf) 62 = .ok (.iload 6, 2) := by decide +kernel
theorem dX5_earOf_64 : decode (mcode mX5_earOf) 64 = .ok (.iadd, 1) := by decide +kernel
theorem dX5_earOf_65 : decode (mcode mX5_earOf) 65 = .ok (.istore_n 2, 1) := by decide +kernel
theorem dX5_earOf_66 : decode (mcode mX5_earOf) 66 = .ok (.iload 6, 2) := by decide +kernel
theorem dX5_earOf_68 : decode (mcode mX5_earOf) 68 = .ok (.istore 4, 2) := by decide +kernel
theorem dX5_earOf_70 : decode (mcode mX5_earOf) 70 = .ok (.iinc 3 1, 3) := by decide +kernel
theorem dX5_earOf_73 : decode (mcode mX5_earOf) 73 = .ok (.iinc 5 1, 3) := by decide +kernel
theorem dX5_earOf_76 : decode (mcode mX5_earOf) 76 = .ok (.goto (-61), 3) := by decide +kernel
theorem dX5_earOf_79 : decode (mcode mX5_earOf) 79 = .ok (.iload_n 3, 1) := by decide +kernel
theorem dX5_earOf_80 : decode (mcode mX5_earOf) 80 = .ok (.iconst 3, 1) := by decide +kernel
theorem dX5_earOf_81 : decode (mcode mX5_earOf) 81 = .ok (.if_icmp .ge 14, 3) := by decide +kernel
theorem dX5_earOf_84 : decode (mcode mX5_earOf) 84 = .ok (.bipush 10, 2) := by decide +kernel
theorem dX5_earOf_86 : decode (mcode mX5_earOf) 86 = .ok (.iload_n 2, 1) := by decide +kernel
theorem dX5_earOf_87 : decode (mcode mX5_earOf) 87 = .ok (.imul, 1) := by decide +kernel
theorem dX5_earOf_88 : decode (mcode mX5_earOf) 88 = .ok (.istore_n 2, 1) := by decide +kernel
theorem dX5_earOf_89 : decode (mcode mX5_earOf) 89 = .ok (.iinc 3 1, 3) := by decide +kernel
theorem dX5_earOf_92 : decode (mcode mX5_earOf) 92 = .ok (.goto (-13), 3) := by decide +kernel
theorem dX5_earOf_95 : decode (mcode mX5_earOf) 95 = .ok (.iload_n 2, 1) := by decide +kernel
theorem dX5_earOf_96 : decode (mcode mX5_earOf) 96 = .ok (.ireturn, 1) := by decide +kernel
theorem dX5_compare_0 : decode (mcode mX5_compare) 0 = .ok (.aload_n 0, 1) := by decide +kernel
theorem dX5_compare_1 : decode (mcode mX5_compare) 1 = .ok (.getfield 24, 3) := by decide +kernel
theorem dX5_compare_4 : decode (mcode mX5_compare) 4 = .ok (.iload_n 1, 1) := by decide +kernel
theorem dX5_compare_5 : decode (mcode mX5_compare) 5 = .ok (.aload_n 0, 1) := by decide +kernel
theorem dX5_compare_6 : decode (mcode mX5_compare) 6 = .ok (.iload_n 1, 1) := by decide +kernel
theorem dX5_compare_7 : decode (mcode mX5_compare) 7 = .ok (.invokevirtual 42, 3) := by decide +kernel
theorem dX5_compare_10 : decode (mcode mX5_compare) 10 = .ok (.iastore, 1) := by decide +kernel
theorem dX5_compare_11 : decode (mcode mX5_compare) 11 = .ok (.aload_n 0, 1) := by decide +kernel
theorem dX5_compare_12 : decode (mcode mX5_compare) 12 = .ok (.getfield 18, 3) := by decide +kernel
theorem dX5_compare_15 : decode (mcode mX5_compare) 15 = .ok (.iload_n 1, 1) := by decide +kernel
theorem dX5_compare_16 : decode (mcode mX5_compare) 16 = .ok (.iconst 1, 1) := by decide +kernel
theorem dX5_compare_17 : decode (mcode mX5_compare) 17 = .ok (.iload_n 1, 1) := by decide +kernel
theorem dX5_compare_18 : decode (mcode mX5_compare) 18 = .ok (.ishl, 1) := by decide +kernel
theorem dX5_compare_19 : decode (mcode mX5_compare) 19 = .ok (.iastore, 1) := by decide +kernel
theorem dX5_compare_20 : decode (mcode mX5_compare) 20 = .ok (.iconst 0, 1) := by decide +kernel
theorem dX5_compare_21 : decode (mcode mX5_compare) 21 = .ok (.istore_n 2, 1) := by decide +kernel
theorem dX5_compare_22 : decode (mcode mX5_compare) 22 = .ok (.iload_n 2, 1) := by decide +kernel
theorem dX5_compare_23 : decode (mcode mX5_compare) 23 = .ok (.iload_n 1, 1) := by decide +kernel
theorem dX5_compare_24 : decode (mcode mX5_compare) 24 = .ok (.if_icmp .ge 58, 3) := by decide +kernel
theorem dX5_compare_27 : decode (mcode mX5_compare) 27 = .ok (.aload_n 0, 1) := by decide +kernel
theorem dX5_compare_28 : decode (mcode mX5_compare) 28 = .ok (.getfield 24, 3) := by decide +kernel
theorem dX5_compare_31 : decode (mcode mX5_compare) 31 = .ok (.iload_n 2, 1) := by decide +kernel
theorem dX5_compare_32 : decode (mcode mX5_compare) 32 = .ok (.iaload, 1) := by decide +kernel
theorem dX5_compare_33 : decode (mcode mX5_compare) 33 = .ok (.aload_n 0, 1) := by decide +kernel
theorem dX5_compare_34 : decode (mcode mX5_compare) 34 = .ok (.getfield 24, 3) := by decide +kernel
theorem dX5_compare_37 : decode (mcode mX5_compare) 37 = .ok (.iload_n 1, 1) := by decide +kernel
theorem dX5_compare_38 : decode (mcode mX5_compare) 38 = .ok (.iaload, 1) := by decide +kernel
theorem dX5_compare_39 : decode (mcode mX5_compare) 39 = .ok (.if_icmp .eq 13, 3) := by decide +kernel
theorem dX5_compare_42 : decode (mcode mX5_compare) 42 = .ok (.aload_n 0, 1) := by decide +kernel
theorem dX5_compare_43 : decode (mcode mX5_compare) 43 = .ok (.iload_n 2, 1) := by decide +kernel
theorem dX5_compare_44 : decode (mcode mX5_compare) 44 = .ok (.iload_n 1, 1) := by decide +kernel
theorem dX5_compare_45 : decode (mcode mX5_compare) 45 = .ok (.invokevirtual 45, 3) := by decide +kernel
theorem dX5_compare_48 : decode (mcode mX5_compare) 48 = .ok (.iconst 1, 1) := by decide +kernel
theorem dX5_compare_49 : decode (mcode mX5_compare) 49 = .ok (.if_icmp .gt 27, 3) := by decide +kernel
theorem dX5_compare_52 : decode (mcode mX5_compare) 52 = .ok (.aload_n 0, 1) := by decide +kernel
theorem dX5_compare_53 : decode (mcode mX5_compare) 53 = .ok (.getfield 18, 3) := by decide +kernel
theorem dX5_compare_56 : decode (mcode mX5_compare) 56 = .ok (.iload_n 2, 1) := by decide +kernel
theorem dX5_compare_57 : decode (mcode mX5_compare) 57 = .ok (.dup2, 1) := by decide +kernel
theorem dX5_compare_58 : decode (mcode mX5_compare) 58 = .ok (.iaload, 1) := by decide +kernel
theorem dX5_compare_59 : decode (mcode mX5_compare) 59 = .ok (.iconst 1, 1) := by decide +kernel
theorem dX5_compare_60 : decode (mcode mX5_compare) 60 = .ok (.iload_n 1, 1) := by decide +kernel
theorem dX5_compare_61 : decode (mcode mX5_compare) 61 = .ok (.ishl, 1) := by decide +kernel
theorem dX5_compare_62 : decode (mcode mX5_compare) 62 = .ok (.ior, 1) := by decide +kernel
theorem dX5_compare_63 : decode (mcode mX5_compare) 63 = .ok (.iastore, 1) := by decide +kernel
theorem dX5_compare_64 : decode (mcode mX5_compare) 64 = .ok (.aload_n 0, 1) := by decide +kernel
theorem dX5_compare_65 : decode (mcode mX5_compare) 65 = .ok (.getfield 18, 3) := by decide +kernel
theorem dX5_compare_68 : decode (mcode mX5_compare) 68 = .ok (.iload_n 1, 1) := by decide +kernel
theorem dX5_compare_69 : decode (mcode mX5_compare) 69 = .ok (.dup2, 1) := by decide +kernel
theorem dX5_compare_70 : decode (mcode mX5_compare) 70 = .ok (.iaload, 1) := by decide +kernel
theorem dX5_compare_71 : decode (mcode mX5_compare) 71 = .ok (.iconst 1, 1) := by decide +kernel
theorem dX5_compare_72 : decode (mcode mX5_compare) 72 = .ok (.iload_n 2, 1) := by decide +kernel
theorem dX5_compare_73 : decode (mcode mX5_compare) 73 = .ok (.ishl, 1) := by decide +kernel
theorem dX5_compare_74 : decode (mcode mX5_compare) 74 = .ok (.ior, 1) := by decide +kernel
theorem dX5_compare_75 : decode (mcode mX5_compare) 75 = .ok (.iastore, 1) := by decide +kernel
theorem dX5_compare_76 : decode (mcode mX5_compare) 76 = .ok (.iinc 2 1, 3) := by decide +kernel
theorem dX5_compare_79 : decode (mcode mX5_compare) 79 = .ok (.goto (-57), 3) := by decide +kernel
theorem dX5_compare_82 : decode (mcode mX5_compare) 82 = .ok (.return_, 1) := by decide +kernel
theorem dX5_codeOf_0 : decode (mcode mX5_codeOf) 0 = .ok (.iload_n 0, 1) := by decide +kernel
theorem dX5_codeOf_1 : decode (mcode mX5_codeOf) 1 = .ok (.ifCond .lt 11, 3) := by decide +kernel
theorem dX5_codeOf_4 : decode (mcode mX5_codeOf) 4 = .ok (.iload_n 0, 1) := by decide +kernel
theorem dX5_codeOf_5 : decode (mcode mX5_codeOf) 5 = .ok (.getstatic 53, 3) := by decide +kernel
theorem dX5_codeOf_8 : decode (mcode mX5_codeOf) 8 = .ok (.arraylength, 1) := by decide +kernel
theorem dX5_codeOf_9 : decode (mcode mX5_codeOf) 9 = .ok (.if_icmp .lt 7, 3) := by decide +kernel
theorem dX5_codeOf_12 : decode (mcode mX5_codeOf) 12 = .ok (.iconst 0, 1) := by decide +kernel
theorem dX5_codeOf_13 : decode (mcode mX5_codeOf) 13 = .ok (.goto 8, 3) := by decide +kernel
theorem dX5_codeOf_16 : decode (mcode mX5_codeOf) 16 = .ok (.getstatic 53, 3) := by decide +kernel
theorem dX5_codeOf_19 : decode (mcode mX5_codeOf) 19 = .ok (.iload_n 0, 1) := by decide +kernel
theorem dX5_codeOf_20 : decode (mcode mX5_codeOf) 20 = .ok (.iaload, 1) := by decide +kernel
theorem dX5_codeOf_21 : decode (mcode mX5_codeOf) 21 = .ok (.ireturn, 1) := by decide +kernel

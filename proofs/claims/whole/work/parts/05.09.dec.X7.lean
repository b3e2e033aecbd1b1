theorem dX7_all_0 : decode (mcode mX7_all) 0 = .ok (.iconst 1, 1) := by decide +kernel
theorem dX7_all_1 : decode (mcode mX7_all) 1 = .ok (.aload_n 0, 1) := by decide +kernel
theorem dX7_all_2 : decode (mcode mX7_all) 2 = .ok (.getfield 29, 3) := by decide +kernel
theorem dX7_all_5 : decode (mcode mX7_all) 5 = .ok (.getfield 40, 3) := by decide +kernel
theorem dX7_all_8 : decode (mcode mX7_all) 8 = .ok (.ishl, 1) := by decide +kernel
theorem dX7_all_9 : decode (mcode mX7_all) 9 = .ok (.iconst 1, 1) := by decide +kernel
theorem dX7_all_10 : decode (mcode mX7_all) 10 = .ok (.isub, 1) := by decide +kernel
theorem dX7_all_11 : decode (mcode mX7_all) 11 = .ok (.ireturn, 1) := by decide +kernel
theorem dX7_friendsOf_0 : decode (mcode mX7_friendsOf) 0 = .ok (.iload_n 1, 1) := by decide +kernel
theorem dX7_friendsOf_1 : decode (mcode mX7_friendsOf) 1 = .ok (.iconst 1, 1) := by decide +kernel
theorem dX7_friendsOf_2 : decode (mcode mX7_friendsOf) 2 = .ok (.isub, 1) := by decide +kernel
theorem dX7_friendsOf_3 : decode (mcode mX7_friendsOf) 3 = .ok (.invokestatic 46, 3) := by decide +kernel
theorem dX7_friendsOf_6 : decode (mcode mX7_friendsOf) 6 = .ok (.istore_n 2, 1) := by decide +kernel
theorem dX7_friendsOf_7 : decode (mcode mX7_friendsOf) 7 = .ok (.iload_n 2, 1) := by decide +kernel
theorem dX7_friendsOf_8 : decode (mcode mX7_friendsOf) 8 = .ok (.bipush 12, 2) := by decide +kernel
theorem dX7_friendsOf_10 : decode (mcode mX7_friendsOf) 10 = .ok (.if_icmp .ge 12, 3) := by decide +kernel
theorem dX7_friendsOf_13 : decode (mcode mX7_friendsOf) 13 = .ok (.aload_n 0, 1) := by decide +kernel
theorem dX7_friendsOf_14 : decode (mcode mX7_friendsOf) 14 = .ok (.getfield 9, 3) := by decide +kernel
theorem dX7_friendsOf_17 : decode (mcode mX7_friendsOf) 17 = .ok (.iload_n 2, 1) := by decide +kernel
theorem dX7_friendsOf_18 : decode (mcode mX7_friendsOf) 18 = .ok (.iaload, 1) := by decide +kernel
theorem dX7_friendsOf_19 : decode (mcode mX7_friendsOf) 19 = .ok (.goto 4, 3) := by decide +kernel
theorem dX7_friendsOf_22 : decode (mcode mX7_friendsOf) 22 = .ok (.iconst 0, 1) := by decide +kernel
theorem dX7_friendsOf_23 : decode (mcode mX7_friendsOf) 23 = .ok (.ireturn, 1) := by decide +kernel
theorem dX7_isOne_0 : decode (mcode mX7_isOne) 0 = .ok (.iload_n 1, 1) := by decide +kernel
theorem dX7_isOne_1 : decode (mcode mX7_isOne) 1 = .ok (.iload_n 1, 1) := by decide +kernel
theorem dX7_isOne_2 : decode (mcode mX7_isOne) 2 = .ok (.ineg, 1) := by decide +kernel
theorem dX7_isOne_3 : decode (mcode mX7_isOne) 3 = .ok (.iand, 1) := by decide +kernel
theorem dX7_isOne_4 : decode (mcode mX7_isOne) 4 = .ok (.istore_n 2, 1) := by decide +kernel
theorem dX7_isOne_5 : decode (mcode mX7_isOne) 5 = .ok (.iload_n 1, 1) := by decide +kernel
theorem dX7_isOne_6 : decode (mcode mX7_isOne) 6 = .ok (.iload_n 2, 1) := by decide +kernel
theorem dX7_isOne_7 : decode (mcode mX7_isOne) 7 = .ok (.iconst (-1), 1) := by decide +kernel
theorem dX7_isOne_8 : decode (mcode mX7_isOne) 8 = .ok (.ixor, 1) := by decide +kernel
theorem dX7_isOne_9 : decode (mcode mX7_isOne) 9 = .ok (.iand, 1) := by decide +kernel
theorem dX7_isOne_10 : decode (mcode mX7_isOne) 10 = .ok (.istore_n 3, 1) := by decide +kernel
theorem dX7_isOne_11 : decode (mcode mX7_isOne) 11 = .ok (.iload_n 3, 1) := by decide +kernel
theorem dX7_isOne_12 : decode (mcode mX7_isOne) 12 = .ok (.aload_n 0, 1) := by decide +kernel
theorem dX7_isOne_13 : decode (mcode mX7_isOne) 13 = .ok (.iload_n 2, 1) := by decide +kernel
theorem dX7_isOne_14 : decode (mcode mX7_isOne) 14 = .ok (.invokevirtual 79, 3) := by decide +kernel
theorem dX7_isOne_17 : decode (mcode mX7_isOne) 17 = .ok (.iconst (-1), 1) := by decide +kernel
theorem dX7_isOne_18 : decode (mcode mX7_isOne) 18 = .ok (.ixor, 1) := by decide +kernel
theorem dX7_isOne_19 : decode (mcode mX7_isOne) 19 = .ok (.iand, 1) := by decide +kernel
theorem dX7_isOne_20 : decode (mcode mX7_isOne) 20 = .ok (.ifCond .ne 17, 3) := by decide +kernel
theorem dX7_isOne_23 : decode (mcode mX7_isOne) 23 = .ok (.aload_n 0, 1) := by decide +kernel
theorem dX7_isOne_24 : decode (mcode mX7_isOne) 24 = .ok (.getfield 18, 3) := by decide +kernel
theorem dX7_isOne_27 : decode (mcode mX7_isOne) 27 = .ok (.iload_n 3, 1) := by decide +kernel
theorem dX7_isOne_28 : decode (mcode mX7_isOne) 28 = .ok (.baload, 1) := by decide +kernel
theorem dX7_isOne_29 : decode (mcode mX7_isOne) 29 = .ok (.iconst 1, 1) := by decide +kernel
theorem dX7_isOne_30 : decode (mcode mX7_isOne) 30 = .ok (.if_icmp .gt 7, 3) := by decide +kernel
theorem dX7_isOne_33 : decode (mcode mX7_isOne) 33 = .ok (.iconst 1, 1) := by decide +kernel
theorem dX7_isOne_34 : decode (mcode mX7_isOne) 34 = .ok (.goto 4, 3) := by decide +kernel
theorem dX7_isOne_37 : decode (mcode mX7_isOne) 37 = .ok (.iconst 0, 1) := by decide +kernel
theorem dX7_isOne_38 : decode (mcode mX7_isOne) 38 = .ok (.ireturn, 1) := by decide +kernel
theorem dX7_partSet_0 : decode (mcode mX7_partSet) 0 = .ok (.iload_n 1, 1) := by decide +kernel
theorem dX7_partSet_1 : decode (mcode mX7_partSet) 1 = .ok (.iload_n 1, 1) := by decide +kernel
theorem dX7_partSet_2 : decode (mcode mX7_partSet) 2 = .ok (.ineg, 1) := by decide +kernel
theorem dX7_partSet_3 : decode (mcode mX7_partSet) 3 = .ok (.iand, 1) := by decide +kernel
theorem dX7_partSet_4 : decode (mcode mX7_partSet) 4 = .ok (.istore_n 2, 1) := by decide +kernel
theorem dX7_partSet_5 : decode (mcode mX7_partSet) 5 = .ok (.iload_n 1, 1) := by decide +kernel
theorem dX7_partSet_6 : decode (mcode mX7_partSet) 6 = .ok (.iload_n 2, 1) := by decide +kernel
theorem dX7_partSet_7 : decode (mcode mX7_partSet) 7 = .ok (.iconst (-1), 1) := by decide +kernel
theorem dX7_partSet_8 : decode (mcode mX7_partSet) 8 = .ok (.ixor, 1) := by decide +kernel
theorem dX7_partSet_9 : decode (mcode mX7_partSet) 9 = .ok (.iand, 1) := by decide +kernel
theorem dX7_partSet_10 : decode (mcode mX7_partSet) 10 = .ok (.istore_n 3, 1) := by decide +kernel
theorem dX7_partSet_11 : decode (mcode mX7_partSet) 11 = .ok (.iload_n 3, 1) := by decide +kernel
theorem dX7_partSet_12 : decode (mcode mX7_partSet) 12 = .ok (.aload_n 0, 1) := by decide +kernel
theorem dX7_partSet_13 : decode (mcode mX7_partSet) 13 = .ok (.iload_n 2, 1) := by decide +kernel
theorem dX7_partSet_14 : decode (mcode mX7_partSet) 14 = .ok (.invokevirtual 79, 3) := by decide +kernel
theorem dX7_partSet_17 : decode (mcode mX7_partSet) 17 = .ok (.iand, 1) := by decide +kernel
theorem dX7_partSet_18 : decode (mcode mX7_partSet) 18 = .ok (.istore 4, 2) := by decide +kernel
theorem dX7_partSet_20 : decode (mcode mX7_partSet) 20 = .ok (.iload 4, 2) := by decide +kernel
theorem dX7_partSet_22 : decode (mcode mX7_partSet) 22 = .ok (.iload_n 3, 1) := by decide +kernel
theorem dX7_partSet_23 : decode (mcode mX7_partSet) 23 = .ok (.if_icmp .ne 17, 3) := by decide +kernel
theorem dX7_partSet_26 : decode (mcode mX7_partSet) 26 = .ok (.aload_n 0, 1) := by decide +kernel
theorem dX7_partSet_27 : decode (mcode mX7_partSet) 27 = .ok (.getfield 18, 3) := by decide +kernel
theorem dX7_partSet_30 : decode (mcode mX7_partSet) 30 = .ok (.iload_n 3, 1) := by decide +kernel
theorem dX7_partSet_31 : decode (mcode mX7_partSet) 31 = .ok (.baload, 1) := by decide +kernel
theorem dX7_partSet_32 : decode (mcode mX7_partSet) 32 = .ok (.iconst 1, 1) := by decide +kernel
theorem dX7_partSet_33 : decode (mcode mX7_partSet) 33 = .ok (.if_icmp .gt 7, 3) := by decide +kernel
theorem dX7_partSet_36 : decode (mcode mX7_partSet) 36 = .ok (.iconst 1, 1) := by decide +kernel
theorem dX7_partSet_37 : decode (mcode mX7_partSet) 37 = .ok (.goto 4, 3) := by decide +kernel
theorem dX7_partSet_40 : decode (mcode mX7_partSet) 40 = .ok (.iconst 0, 1) := by decide +kernel
theorem dX7_partSet_41 : decode (mcode mX7_partSet) 41 = .ok (.istore 5, 2) := by decide +kernel
theorem dX7_partSet_43 : decode (mcode mX7_partSet) 43 = .ok (.iload 5, 2) := by decide +kernel
theorem dX7_partSet_45 : decode (mcode mX7_partSet) 45 = .ok (.ifCond .eq 7, 3) := by decide +kernel
theorem dX7_partSet_48 : decode (mcode mX7_partSet) 48 = .ok (.iconst 1, 1) := by decide +kernel
theorem dX7_partSet_49 : decode (mcode mX7_partSet) 49 = .ok (.goto 11, 3) := by decide +kernel
theorem dX7_partSet_52 : decode (mcode mX7_partSet) 52 = .ok (.aload_n 0, 1) := by decide +kernel
theorem dX7_partSet_53 : decode (mcode mX7_partSet) 53 = .ok (.getfield 18, 3) := by decide +kernel
theorem dX7_partSet_56 : decode (mcode mX7_partSet) 56 = .ok (.iload_n 3, 1) := by decide +kernel
theorem dX7_partSet_57 : decode (mcode mX7_partSet) 57 = .ok (.baload, 1) := by decide +kernel
theorem dX7_partSet_58 : decode (mcode mX7_partSet) 58 = .ok (.iconst 1, 1) := by decide +kernel
theorem dX7_partSet_59 : decode (mcode mX7_partSet) 59 = .ok (.iadd, 1) := by decide +kernel
theorem dX7_partSet_60 : decode (mcode mX7_partSet) 60 = .ok (.istore 6, 2) := by decide +kernel
theorem dX7_partSet_62 : decode (mcode mX7_partSet) 62 = .ok (.iload 5, 2) := by decide +kernel
theorem dX7_partSet_64 : decode (mcode mX7_partSet) 64 = .ok (.ifCond .eq 7, 3) := by decide +kernel
theorem dX7_partSet_67 : decode (mcode mX7_partSet) 67 = .ok (.iconst 1, 1) := by decide +kernel
theorem dX7_partSet_68 : decode (mcode mX7_partSet) 68 = .ok (.goto 9, 3) := by decide +kernel
theorem dX7_partSet_71 : decode (mcode mX7_partSet) 71 = .ok (.aload_n 0, 1) := by decide +kernel
theorem dX7_partSet_72 : decode (mcode mX7_partSet) 72 = .ok (.getfield 22, 3) := by decide +kernel
theorem dX7_partSet_75 : decode (mcode mX7_partSet) 75 = .ok (.iload_n 3, 1) := by decide +kernel
theorem dX7_partSet_76 : decode (mcode mX7_partSet) 76 = .ok (.iaload, 1) := by decide +kernel
theorem dX7_partSet_77 : decode (mcode mX7_partSet) 77 = .ok (.istore 7, 2) := by decide +kernel
theorem dX7_partSet_79 : decode (mcode mX7_partSet) 79 = .ok (.iload 5, 2) := by decide +kernel
theorem dX7_partSet_81 : decode (mcode mX7_partSet) 81 = .ok (.ifCond .eq 7, 3) := by decide +kernel
theorem dX7_partSet_84 : decode (mcode mX7_partSet) 84 = .ok (.iconst 0, 1) := by decide +kernel
theorem dX7_partSet_85 : decode (mcode mX7_partSet) 85 = .ok (.goto 5, 3) := by decide +kernel
theorem dX7_partSet_88 : decode (mcode mX7_partSet) 88 = .ok (.iload 4, 2) := by decide +kernel
theorem dX7_partSet_90 : decode (mcode mX7_partSet) 90 = .ok (.istore 8, 2) := by decide +kernel
theorem dX7_partSet_92 : decode (mcode mX7_partSet) 92 = .ok (.iload 8, 2) := by decide +kernel
theorem dX7_partSet_94 : decode (mcode mX7_partSet) 94 = .ok (.ifCond .le 91, 3) := by decide +kernel
theorem dX7_partSet_97 : decode (mcode mX7_partSet) 97 = .ok (.aload_n 0, 1) := by decide +kernel
theorem dX7_partSet_98 : decode (mcode mX7_partSet) 98 = .ok (.getfield 18, 3) := by decide +kernel
theorem dX7_partSet_101 : decode (mcode mX7_partSet) 101 = .ok (.iload 8, 2) := by decide +kernel
theorem dX7_partSet_103 : decode (mcode mX7_partSet) 103 = .ok (.baload, 1) := by decide +kernel
theorem dX7_partSet_104 : decode (mcode mX7_partSet) 104 = .ok (.iconst 1, 1) := by decide +kernel
theorem dX7_partSet_105 : decode (mcode mX7_partSet) 105 = .ok (.if_icmp .le 6, 3) := by decide +kernel
theorem dX7_partSet_108 : decode (mcode mX7_partSet) 108 = .ok (.goto 65, 3) := by decide +kernel
theorem dX7_partSet_111 : decode (mcode mX7_partSet) 111 = .ok (.iload_n 3, 1) := by decide +kernel
theorem dX7_partSet_112 : decode (mcode mX7_partSet) 112 = .ok (.iload 8, 2) := by decide +kernel
theorem dX7_partSet_114 : decode (mcode mX7_partSet) 114 = .ok (.iconst (-1), 1) := by decide +kernel
theorem dX7_partSet_115 : decode (mcode mX7_partSet) 115 = .ok (.ixor, 1) := by decide +kernel
theorem dX7_partSet_116 : decode (mcode mX7_partSet) 116 = .ok (.iand, 1) := by decide +kernel
theorem dX7_partSet_117 : decode (mcode mX7_partSet) 117 = .ok (.istore 9, 2) := by decide +kernel
theorem dX7_partSet_119 : decode (mcode mX7_partSet) 119 = .ok (.aload_n 0, 1) := by decide +kernel
theorem dX7_partSet_120 : decode (mcode mX7_partSet) 120 = .ok (.getfield 18, 3) := by decide +kernel
theorem dX7_partSet_123 : decode (mcode mX7_partSet) 123 = .ok (.iload 9, 2) := by decide +kernel
theorem dX7_partSet_125 : decode (mcode mX7_partSet) 125 = .ok (.baload, 1) := by decide +kernel
theorem dX7_partSet_126 : decode (mcode mX7_partSet) 126 = .ok (.iconst 1, 1) := by decide +kernel
theorem dX7_partSet_127 : decode (mcode mX7_partSet) 127 = .ok (.iadd, 1) := by decide +kernel
theorem dX7_partSet_128 : decode (mcode mX7_partSet) 128 = .ok (.iload 6, 2) := by decide +kernel
theorem dX7_partSet_130 : decode (mcode mX7_partSet) 130 = .ok (.if_icmp .ge 17, 3) := by decide +kernel
theorem dX7_partSet_133 : decode (mcode mX7_partSet) 133 = .ok (.aload_n 0, 1) := by decide +kernel
theorem dX7_partSet_134 : decode (mcode mX7_partSet) 134 = .ok (.getfield 18, 3) := by decide +kernel
theorem dX7_partSet_137 : decode (mcode mX7_partSet) 137 = .ok (.iload 9, 2) := by decide +kernel
theorem dX7_partSet_139 : decode (mcode mX7_partSet) 139 = .ok (.baload, 1) := by decide +kernel
theorem dX7_partSet_140 : decode (mcode mX7_partSet) 140 = .ok (.iconst 1, 1) := by decide +kernel
theorem dX7_partSet_141 : decode (mcode mX7_partSet) 141 = .ok (.iadd, 1) := by decide +kernel
theorem dX7_partSet_142 : decode (mcode mX7_partSet) 142 = .ok (.istore 6, 2) := by decide +kernel
theorem dX7_partSet_144 : decode (mcode mX7_partSet) 144 = .ok (.iconst 0, 1) := by decide +kernel
theorem dX7_partSet_145 : decode (mcode mX7_partSet) 145 = .ok (.istore 7, 2) := by decide +kernel
theorem dX7_partSet_147 : decode (mcode mX7_partSet) 147 = .ok (.aload_n 0, 1) := by decide +kernel
theorem dX7_partSet_148 : decode (mcode mX7_partSet) 148 = .ok (.getfield 18, 3) := by decide +kernel
theorem dX7_partSet_151 : decode (mcode mX7_partSet) 151 = .ok (.iload 9, 2) := by decide +kernel
theorem dX7_partSet_153 : decode (mcode mX7_partSet) 153 = .ok (.baload, 1) := by decide +kernel
theorem dX7_partSet_154 : decode (mcode mX7_partSet) 154 = .ok (.iconst 1, 1) := by decide +kernel
theorem dX7_partSet_155 : decode (mcode mX7_partSet) 155 = .ok (.iadd, 1) := by decide +kernel
theorem dX7_partSet_156 : decode (mcode mX7_partSet) 156 = .ok (.iload 6, 2) := by decide +kernel
theorem dX7_partSet_158 : decode (mcode mX7_partSet) 158 = .ok (.if_icmp .ne 15, 3) := by decide +kernel
theorem dX7_partSet_161 : decode (mcode mX7_partSet) 161 = .ok (.iload 7, 2) := by decide +kernel
theorem dX7_partSet_163 : decode (mcode mX7_partSet) 163 = .ok (.aload_n 0, 1) := by decide +kernel
theorem dX7_partSet_164 : decode (mcode mX7_partSet) 164 = .ok (.getfield 22, 3) := by decide +kernel
theorem dX7_partSet_167 : decode (mcode mX7_partSet) 167 = .ok (.iload 9, 2) := by decide +kernel
theorem dX7_partSet_169 : decode (mcode mX7_partSet) 169 = .ok (.iaload, 1) := by decide +kernel
theorem dX7_partSet_170 : decode (mcode mX7_partSet) 170 = .ok (.iadd, 1) := by decide +kernel
theorem dX7_partSet_171 : decode (mcode mX7_partSet) 171 = .ok (.istore 7, 2) := by decide +kernel
theorem dX7_partSet_173 : decode (mcode mX7_partSet) 173 = .ok (.iload 8, 2) := by decide +kernel
theorem dX7_partSet_175 : decode (mcode mX7_partSet) 175 = .ok (.iconst 1, 1) := by decide +kernel
theorem dX7_partSet_176 : decode (mcode mX7_partSet) 176 = .ok (.isub, 1) := by decide +kernel
theorem dX7_partSet_177 : decode (mcode mX7_partSet) 177 = .ok (.iload 4, 2) := by decide +kernel
theorem dX7_partSet_179 : decode (mcode mX7_partSet) 179 = .ok (.iand, 1) := by decide +kernel
theorem dX7_partSet_180 : decode (mcode mX7_partSet) 180 = .ok (.istore 8, 2) := by decide +kernel
theorem dX7_partSet_182 : decode (mcode mX7_partSet) 182 = .ok (.goto (-90), 3) := by decide +kernel
theorem dX7_partSet_185 : decode (mcode mX7_partSet) 185 = .ok (.aload_n 0, 1) := by decide +kernel
theorem dX7_partSet_186 : decode (mcode mX7_partSet) 186 = .ok (.getfield 18, 3) := by decide +kernel
theorem dX7_partSet_189 : decode (mcode mX7_partSet) 189 = .ok (.iload_n 1, 1) := by decide +kernel
theorem dX7_partSet_190 : decode (mcode mX7_partSet) 190 = .ok (.iload 6, 2) := by decide +kernel
theorem dX7_partSet_192 : decode (mcode mX7_partSet) 192 = .ok (.i2b, 1) := by decide +kernel
theorem dX7_partSet_193 : decode (mcode mX7_partSet) 193 = .ok (.bastore, 1) := by decide +kernel
theorem dX7_partSet_194 : decode (mcode mX7_partSet) 194 = .ok (.aload_n 0, 1) := by decide +kernel
theorem dX7_partSet_195 : decode (mcode mX7_partSet) 195 = .ok (.getfield 22, 3) := by decide +kernel
theorem dX7_partSet_198 : decode (mcode mX7_partSet) 198 = .ok (.iload_n 1, 1) := by decide +kernel
theorem dX7_partSet_199 : decode (mcode mX7_partSet) 199 = .ok (.iload 7, 2) := by decide +kernel
theorem dX7_partSet_201 : decode (mcode mX7_partSet) 201 = .ok (.iastore, 1) := by decide +kernel
theorem dX7_partSet_202 : decode (mcode mX7_partSet) 202 = .ok (.return_, 1) := by decide +kernel
theorem dX7_findWhoMayBeOne_0 : decode (mcode mX7_findWhoMayBeOne) 0 = .ok (.iconst 0, 1) := by decide +kernel
theorem dX7_findWhoMayBeOne_1 : decode (mcode mX7_findWhoMayBeOne) 1 = .ok (.istore_n 1, 1) := by decide +kernel
theorem dX7_findWhoMayBeOne_2 : decode (mcode mX7_findWhoMayBeOne) 2 = .ok (.iload_n 1, 1) := by decide +kernel
theorem dX7_findWhoMayBeOne_3 : decode (mcode mX7_findWhoMayBeOne) 3 = .ok (.aload_n 0, 1) := by decide +kernel
theorem dX7_findWhoMayBeOne_4 : decode (mcode mX7_findWhoMayBeOne) 4 = .ok (.getfield 29, 3) := by decide +kernel
theorem dX7_findWhoMayBeOne_7 : decode (mcode mX7_findWhoMayBeOne) 7 = .ok (.getfield 40, 3) := by decide +kernel
theorem dX7_findWhoMayBeOne_10 : decode (mcode mX7_findWhoMayBeOne) 10 = .ok (.if_icmp .ge 59, 3) := by decide +kernel
theorem dX7_findWhoMayBeOne_13 : decode (mcode mX7_findWhoMayBeOne) 13 = .ok (.aload_n 0, 1) := by decide +kernel
theorem dX7_findWhoMayBeOne_14 : decode (mcode mX7_findWhoMayBeOne) 14 = .ok (.getfield 9, 3) := by decide +kernel
theorem dX7_findWhoMayBeOne_17 : decode (mcode mX7_findWhoMayBeOne) 17 = .ok (.iload_n 1, 1) := by decide +kernel
theorem dX7_findWhoMayBeOne_18 : decode (mcode mX7_findWhoMayBeOne) 18 = .ok (.iconst 0, 1) := by decide +kernel
theorem dX7_findWhoMayBeOne_19 : decode (mcode mX7_findWhoMayBeOne) 19 = .ok (.iastore, 1) := by decide +kernel
theorem dX7_findWhoMayBeOne_20 : decode (mcode mX7_findWhoMayBeOne) 20 = .ok (.iconst 0, 1) := by decide +kernel
theorem dX7_findWhoMayBeOne_21 : decode (mcode mX7_findWhoMayBeOne) 21 = .ok (.istore_n 2, 1) := by decide +kernel
theorem dX7_findWhoMayBeOne_22 : decode (mcode mX7_findWhoMayBeOne) 22 = .ok (.iload_n 2, 1) := by decide +kernel
theorem dX7_findWhoMayBeOne_23 : decode (mcode mX7_findWhoMayBeOne) 23 = .ok (.aload_n 0, 1) := by decide +kernel
theorem dX7_findWhoMayBeOne_24 : decode (mcode mX7_findWhoMayBeOne) 24 = .ok (.getfield 29, 3) := by decide +kernel
theorem dX7_findWhoMayBeOne_27 : decode (mcode mX7_findWhoMayBeOne) 27 = .ok (.getfield 40, 3) := by decide +kernel
theorem dX7_findWhoMayBeOne_30 : decode (mcode mX7_findWhoMayBeOne) 30 = .ok (.if_icmp .ge 33, 3) := by decide +kernel
theorem dX7_findWhoMayBeOne_33 : decode (mcode mX7_findWhoMayBeOne) 33 = .ok (.aload_n 0, 1) := by decide +kernel
theorem dX7_findWhoMayBeOne_34 : decode (mcode mX7_findWhoMayBeOne) 34 = .ok (.getfield 29, 3) := by decide +kernel
theorem dX7_findWhoMayBeOne_37 : decode (mcode mX7_findWhoMayBeOne) 37 = .ok (.iload_n 1, 1) := by decide +kernel
theorem dX7_findWhoMayBeOne_38 : decode (mcode mX7_findWhoMayBeOne) 38 = .ok (.iload_n 2, 1) := by decide +kernel
theorem dX7_findWhoMayBeOne_39 : decode (mcode mX7_findWhoMayBeOne) 39 = .ok (.invokevirtual 75, 3) := by decide +kernel
theorem dX7_findWhoMayBeOne_42 : decode (mcode mX7_findWhoMayBeOne) 42 = .ok (.ifCond .eq 15, 3) := by decide +kernel
theorem dX7_findWhoMayBeOne_45 : decode (mcode mX7_findWhoMayBeOne) 45 = .ok (.aload_n 0, 1) := by decide +kernel
theorem dX7_findWhoMayBeOne_46 : decode (mcode mX7_findWhoMayBeOne) 46 = .ok (.getfield 9, 3) := by decide +kernel
theorem dX7_findWhoMayBeOne_49 : decode (mcode mX7_findWhoMayBeOne) 49 = .ok (.iload_n 1, 1) := by decide +kernel
theorem dX7_findWhoMayBeOne_50 : decode (mcode mX7_findWhoMayBeOne) 50 = .ok (.dup2, 1) := by decide +kernel
theorem dX7_findWhoMayBeOne_51 : decode (mcode mX7_findWhoMayBeOne) 51 = .ok (.iaload, 1) := by decide +kernel
theorem dX7_findWhoMayBeOne_52 : decode (mcode mX7_findWhoMayBeOne) 52 = .ok (.iconst 1, 1) := by decide +kernel
theorem dX7_findWhoMayBeOne_53 : decode (mcode mX7_findWhoMayBeOne) 53 = .ok (.iload_n 2, 1) := by decide +kernel
theorem dX7_findWhoMayBeOne_54 : decode (mcode mX7_findWhoMayBeOne) 54 = .ok (.ishl, 1) := by decide +kernel
theorem dX7_findWhoMayBeOne_55 : decode (mcode mX7_findWhoMayBeOne) 55 = .ok (.ior, 1) := by decide +kernel
theorem dX7_findWhoMayBeOne_56 : decode (mcode mX7_findWhoMayBeOne) 56 = .ok (.iastore, 1) := by decide +kernel
theorem dX7_findWhoMayBeOne_57 : decode (mcode mX7_findWhoMayBeOne) 57 = .ok (.iinc 2 1, 3) := by decide +kernel
theorem dX7_findWhoMayBeOne_60 : decode (mcode mX7_findWhoMayBeOne) 60 = .ok (.goto (-38), 3) := by decide +kernel
theorem dX7_findWhoMayBeOne_63 : decode (mcode mX7_findWhoMayBeOne) 63 = .ok (.iinc 1 1, 3) := by decide +kernel
theorem dX7_findWhoMayBeOne_66 : decode (mcode mX7_findWhoMayBeOne) 66 = .ok (.goto (-64), 3) := by decide +kernel
theorem dX7_findWhoMayBeOne_69 : decode (mcode mX7_findWhoMayBeOne) 69 = .ok (.return_, 1) := by decide +kernel
theorem dX7_leastPerson_0 : decode (mcode mX7_leastPerson) 0 = .ok (.iload_n 1, 1) := by decide +kernel
theorem dX7_leastPerson_1 : decode (mcode mX7_leastPerson) 1 = .ok (.iload_n 1, 1) := by decide +kernel
theorem dX7_leastPerson_2 : decode (mcode mX7_leastPerson) 2 = .ok (.ineg, 1) := by decide +kernel
theorem dX7_leastPerson_3 : decode (mcode mX7_leastPerson) 3 = .ok (.iand, 1) := by decide +kernel
theorem dX7_leastPerson_4 : decode (mcode mX7_leastPerson) 4 = .ok (.istore_n 2, 1) := by decide +kernel
theorem dX7_leastPerson_5 : decode (mcode mX7_leastPerson) 5 = .ok (.iload_n 2, 1) := by decide +kernel
theorem dX7_leastPerson_6 : decode (mcode mX7_leastPerson) 6 = .ok (.istore_n 3, 1) := by decide +kernel
theorem dX7_leastPerson_7 : decode (mcode mX7_leastPerson) 7 = .ok (.iload_n 3, 1) := by decide +kernel
theorem dX7_leastPerson_8 : decode (mcode mX7_leastPerson) 8 = .ok (.iload_n 1, 1) := by decide +kernel
theorem dX7_leastPerson_9 : decode (mcode mX7_leastPerson) 9 = .ok (.if_icmp .ge 57, 3) := by decide +kernel
theorem dX7_leastPerson_12 : decode (mcode mX7_leastPerson) 12 = .ok (.iload_n 3, 1) := by decide +kernel
theorem dX7_leastPerson_13 : decode (mcode mX7_leastPerson) 13 = .ok (.iload_n 2, 1) := by decide +kernel
theorem dX7_leastPerson_14 : decode (mcode mX7_leastPerson) 14 = .ok (.iand, 1) := by decide +kernel
theorem dX7_leastPerson_15 : decode (mcode mX7_leastPerson) 15 = .ok (.ifCond .eq 45, 3) := by decide +kernel
theorem dX7_leastPerson_18 : decode (mcode mX7_leastPerson) 18 = .ok (.iload_n 3, 1) := by decide +kernel
theorem dX7_leastPerson_19 : decode (mcode mX7_leastPerson) 19 = .ok (.iload_n 1, 1) := by decide +kernel
theorem dX7_leastPerson_20 : decode (mcode mX7_leastPerson) 20 = .ok (.iconst (-1), 1) := by decide +kernel
theorem dX7_leastPerson_21 : decode (mcode mX7_leastPerson) 21 = .ok (.ixor, 1) := by decide +kernel
theorem dX7_leastPerson_22 : decode (mcode mX7_leastPerson) 22 = .ok (.iand, 1) := by decide +kernel
theorem dX7_leastPerson_23 : decode (mcode mX7_leastPerson) 23 = .ok (.ifCond .eq 6, 3) := by decide +kernel
theorem dX7_leastPerson_26 : decode (mcode mX7_leastPerson) 26 = .ok (.goto 34, 3) := by decide +kernel
theorem dX7_leastPerson_29 : decode (mcode mX7_leastPerson) 29 = .ok (.aload_n 0, 1) := by decide +kernel
theorem dX7_leastPerson_30 : decode (mcode mX7_leastPerson) 30 = .ok (.getfield 18, 3) := by decide +kernel
theorem dX7_leastPerson_33 : decode (mcode mX7_leastPerson) 33 = .ok (.iload_n 1, 1) := by decide +kernel
theorem dX7_leastPerson_34 : decode (mcode mX7_leastPerson) 34 = .ok (.iload_n 3, 1) := by decide +kernel
theorem dX7_leastPerson_35 : decode (mcode mX7_leastPerson) 35 = .ok (.iconst (-1), 1) := by decide +kernel
theorem dX7_leastPerson_36 : decode (mcode mX7_leastPerson) 36 = .ok (.ixor, 1) := by decide +kernel
theorem dX7_leastPerson_37 : decode (mcode mX7_leastPerson) 37 = .ok (.iand, 1) := by decide +kernel
theorem dX7_leastPerson_38 : decode (mcode mX7_leastPerson) 38 = .ok (.baload, 1) := by decide +kernel
theorem dX7_leastPerson_39 : decode (mcode mX7_leastPerson) 39 = .ok (.iconst 1, 1) := by decide +kernel
theorem dX7_leastPerson_40 : decode (mcode mX7_leastPerson) 40 = .ok (.iadd, 1) := by decide +kernel
theorem dX7_leastPerson_41 : decode (mcode mX7_leastPerson) 41 = .ok (.aload_n 0, 1) := by decide +kernel
theorem dX7_leastPerson_42 : decode (mcode mX7_leastPerson) 42 = .ok (.getfield 18, 3) := by decide +kernel
theorem dX7_leastPerson_45 : decode (mcode mX7_leastPerson) 45 = .ok (.iload_n 1, 1) := by decide +kernel
theorem dX7_leastPerson_46 : decode (mcode mX7_leastPerson) 46 = .ok (.baload, 1) := by decide +kernel
theorem dX7_leastPerson_47 : decode (mcode mX7_leastPerson) 47 = .ok (.if_icmp .ne 13, 3) := by decide +kernel
theorem dX7_leastPerson_50 : decode (mcode mX7_leastPerson) 50 = .ok (.aload_n 0, 1) := by decide +kernel
theorem dX7_leastPerson_51 : decode (mcode mX7_leastPerson) 51 = .ok (.iload_n 3, 1) := by decide +kernel
theorem dX7_leastPerson_52 : decode (mcode mX7_leastPerson) 52 = .ok (.invokevirtual 61, 3) := by decide +kernel
theorem dX7_leastPerson_55 : decode (mcode mX7_leastPerson) 55 = .ok (.ifCond .eq 5, 3) := by decide +kernel
theorem dX7_leastPerson_58 : decode (mcode mX7_leastPerson) 58 = .ok (.iload_n 3, 1) := by decide +kernel
theorem dX7_leastPerson_59 : decode (mcode mX7_leastPerson) 59 = .ok (.ireturn, 1) := by decide +kernel
theorem dX7_leastPerson_60 : decode (mcode mX7_leastPerson) 60 = .ok (.iinc 3 1, 3) := by decide +kernel
theorem dX7_leastPerson_63 : decode (mcode mX7_leastPerson) 63 = .ok (.goto (-56), 3) := by decide +kernel
theorem dX7_leastPerson_66 : decode (mcode mX7_leastPerson) 66 = .ok (.iload_n 1, 1) := by decide +kernel
theorem dX7_leastPerson_67 : decode (mcode mX7_leastPerson) 67 = .ok (.ireturn, 1) := by decide +kernel
theorem dX7_rivalsWith_0 : decode (mcode mX7_rivalsWith) 0 = .ok (.aload_n 0, 1) := by decide +kernel
theorem dX7_rivalsWith_1 : decode (mcode mX7_rivalsWith) 1 = .ok (.iload_n 1, 1) := by decide +kernel
theorem dX7_rivalsWith_2 : decode (mcode mX7_rivalsWith) 2 = .ok (.invokevirtual 61, 3) := by decide +kernel
theorem dX7_rivalsWith_5 : decode (mcode mX7_rivalsWith) 5 = .ok (.ifCond .ne 5, 3) := by decide +kernel
theorem dX7_rivalsWith_8 : decode (mcode mX7_rivalsWith) 8 = .ok (.iconst 0, 1) := by decide +kernel
theorem dX7_rivalsWith_9 : decode (mcode mX7_rivalsWith) 9 = .ok (.ireturn, 1) := by decide +kernel
theorem dX7_rivalsWith_10 : decode (mcode mX7_rivalsWith) 10 = .ok (.aload_n 0, 1) := by decide +kernel
theorem dX7_rivalsWith_11 : decode (mcode mX7_rivalsWith) 11 = .ok (.invokevirtual 36, 3) := by decide +kernel
theorem dX7_rivalsWith_14 : decode (mcode mX7_rivalsWith) 14 = .ok (.iload_n 1, 1) := by decide +kernel
theorem dX7_rivalsWith_15 : decode (mcode mX7_rivalsWith) 15 = .ok (.iconst (-1), 1) := by decide +kernel
theorem dX7_rivalsWith_16 : decode (mcode mX7_rivalsWith) 16 = .ok (.ixor, 1) := by decide +kernel
theorem dX7_rivalsWith_17 : decode (mcode mX7_rivalsWith) 17 = .ok (.iand, 1) := by decide +kernel
theorem dX7_rivalsWith_18 : decode (mcode mX7_rivalsWith) 18 = .ok (.istore_n 2, 1) := by decide +kernel
theorem dX7_rivalsWith_19 : decode (mcode mX7_rivalsWith) 19 = .ok (.iload_n 2, 1) := by decide +kernel
theorem dX7_rivalsWith_20 : decode (mcode mX7_rivalsWith) 20 = .ok (.ifCond .eq 17, 3) := by decide +kernel
theorem dX7_rivalsWith_23 : decode (mcode mX7_rivalsWith) 23 = .ok (.aload_n 0, 1) := by decide +kernel
theorem dX7_rivalsWith_24 : decode (mcode mX7_rivalsWith) 24 = .ok (.getfield 18, 3) := by decide +kernel
theorem dX7_rivalsWith_27 : decode (mcode mX7_rivalsWith) 27 = .ok (.iload_n 2, 1) := by decide +kernel
theorem dX7_rivalsWith_28 : decode (mcode mX7_rivalsWith) 28 = .ok (.baload, 1) := by decide +kernel
theorem dX7_rivalsWith_29 : decode (mcode mX7_rivalsWith) 29 = .ok (.ifCond .ne 8, 3) := by decide +kernel
theorem dX7_rivalsWith_32 : decode (mcode mX7_rivalsWith) 32 = .ok (.aload_n 0, 1) := by decide +kernel
theorem dX7_rivalsWith_33 : decode (mcode mX7_rivalsWith) 33 = .ok (.iload_n 2, 1) := by decide +kernel
theorem dX7_rivalsWith_34 : decode (mcode mX7_rivalsWith) 34 = .ok (.invokevirtual 65, 3) := by decide +kernel
theorem dX7_rivalsWith_37 : decode (mcode mX7_rivalsWith) 37 = .ok (.aload_n 0, 1) := by decide +kernel
theorem dX7_rivalsWith_38 : decode (mcode mX7_rivalsWith) 38 = .ok (.getfield 18, 3) := by decide +kernel
theorem dX7_rivalsWith_41 : decode (mcode mX7_rivalsWith) 41 = .ok (.iload_n 2, 1) := by decide +kernel
theorem dX7_rivalsWith_42 : decode (mcode mX7_rivalsWith) 42 = .ok (.baload, 1) := by decide +kernel
theorem dX7_rivalsWith_43 : decode (mcode mX7_rivalsWith) 43 = .ok (.iconst 1, 1) := by decide +kernel
theorem dX7_rivalsWith_44 : decode (mcode mX7_rivalsWith) 44 = .ok (.iadd, 1) := by decide +kernel
theorem dX7_rivalsWith_45 : decode (mcode mX7_rivalsWith) 45 = .ok (.aload_n 0, 1) := by decide +kernel
theorem dX7_rivalsWith_46 : decode (mcode mX7_rivalsWith) 46 = .ok (.getfield 18, 3) := by decide +kernel
theorem dX7_rivalsWith_49 : decode (mcode mX7_rivalsWith) 49 = .ok (.aload_n 0, 1) := by decide +kernel
theorem dX7_rivalsWith_50 : decode (mcode mX7_rivalsWith) 50 = .ok (.invokevirtual 36, 3) := by decide +kernel
theorem dX7_rivalsWith_53 : decode (mcode mX7_rivalsWith) 53 = .ok (.baload, 1) := by decide +kernel
theorem dX7_rivalsWith_54 : decode (mcode mX7_rivalsWith) 54 = .ok (.if_icmp .ne 12, 3) := by decide +kernel
theorem dX7_rivalsWith_57 : decode (mcode mX7_rivalsWith) 57 = .ok (.aload_n 0, 1) := by decide +kernel
theorem dX7_rivalsWith_58 : decode (mcode mX7_rivalsWith) 58 = .ok (.getfield 22, 3) := by decide +kernel
theorem dX7_rivalsWith_61 : decode (mcode mX7_rivalsWith) 61 = .ok (.iload_n 2, 1) := by decide +kernel
theorem dX7_rivalsWith_62 : decode (mcode mX7_rivalsWith) 62 = .ok (.iaload, 1) := by decide +kernel
theorem dX7_rivalsWith_63 : decode (mcode mX7_rivalsWith) 63 = .ok (.goto 4, 3) := by decide +kernel
theorem dX7_rivalsWith_66 : decode (mcode mX7_rivalsWith) 66 = .ok (.iconst 0, 1) := by decide +kernel
theorem dX7_rivalsWith_67 : decode (mcode mX7_rivalsWith) 67 = .ok (.ireturn, 1) := by decide +kernel
theorem dX7_pickFirst_0 : decode (mcode mX7_pickFirst) 0 = .ok (.aload_n 0, 1) := by decide +kernel
theorem dX7_pickFirst_1 : decode (mcode mX7_pickFirst) 1 = .ok (.invokevirtual 36, 3) := by decide +kernel
theorem dX7_pickFirst_4 : decode (mcode mX7_pickFirst) 4 = .ok (.istore_n 1, 1) := by decide +kernel
theorem dX7_pickFirst_5 : decode (mcode mX7_pickFirst) 5 = .ok (.iconst 0, 1) := by decide +kernel
theorem dX7_pickFirst_6 : decode (mcode mX7_pickFirst) 6 = .ok (.istore_n 2, 1) := by decide +kernel
theorem dX7_pickFirst_7 : decode (mcode mX7_pickFirst) 7 = .ok (.iload_n 2, 1) := by decide +kernel
theorem dX7_pickFirst_8 : decode (mcode mX7_pickFirst) 8 = .ok (.bipush 12, 2) := by decide +kernel
theorem dX7_pickFirst_10 : decode (mcode mX7_pickFirst) 10 = .ok (.if_icmp .ge 64, 3) := by decide +kernel
theorem dX7_pickFirst_13 : decode (mcode mX7_pickFirst) 13 = .ok (.iload_n 1, 1) := by decide +kernel
theorem dX7_pickFirst_14 : decode (mcode mX7_pickFirst) 14 = .ok (.ifCond .eq 60, 3) := by decide +kernel
theorem dX7_pickFirst_17 : decode (mcode mX7_pickFirst) 17 = .ok (.aload_n 0, 1) := by decide +kernel
theorem dX7_pickFirst_18 : decode (mcode mX7_pickFirst) 18 = .ok (.iload_n 1, 1) := by decide +kernel
theorem dX7_pickFirst_19 : decode (mcode mX7_pickFirst) 19 = .ok (.invokevirtual 82, 3) := by decide +kernel
theorem dX7_pickFirst_22 : decode (mcode mX7_pickFirst) 22 = .ok (.istore_n 3, 1) := by decide +kernel
theorem dX7_pickFirst_23 : decode (mcode mX7_pickFirst) 23 = .ok (.iconst 0, 1) := by decide +kernel
theorem dX7_pickFirst_24 : decode (mcode mX7_pickFirst) 24 = .ok (.istore 4, 2) := by decide +kernel
theorem dX7_pickFirst_26 : decode (mcode mX7_pickFirst) 26 = .ok (.iload 4, 2) := by decide +kernel
theorem dX7_pickFirst_28 : decode (mcode mX7_pickFirst) 28 = .ok (.aload_n 0, 1) := by decide +kernel
theorem dX7_pickFirst_29 : decode (mcode mX7_pickFirst) 29 = .ok (.getfield 29, 3) := by decide +kernel
theorem dX7_pickFirst_32 : decode (mcode mX7_pickFirst) 32 = .ok (.getfield 40, 3) := by decide +kernel
theorem dX7_pickFirst_35 : decode (mcode mX7_pickFirst) 35 = .ok (.if_icmp .ge 27, 3) := by decide +kernel
theorem dX7_pickFirst_38 : decode (mcode mX7_pickFirst) 38 = .ok (.iload_n 3, 1) := by decide +kernel
theorem dX7_pickFirst_39 : decode (mcode mX7_pickFirst) 39 = .ok (.iload 4, 2) := by decide +kernel
theorem dX7_pickFirst_41 : decode (mcode mX7_pickFirst) 41 = .ok (.ishr, 1) := by decide +kernel
theorem dX7_pickFirst_42 : decode (mcode mX7_pickFirst) 42 = .ok (.iconst 1, 1) := by decide +kernel
theorem dX7_pickFirst_43 : decode (mcode mX7_pickFirst) 43 = .ok (.iand, 1) := by decide +kernel
theorem dX7_pickFirst_44 : decode (mcode mX7_pickFirst) 44 = .ok (.iconst 1, 1) := by decide +kernel
theorem dX7_pickFirst_45 : decode (mcode mX7_pickFirst) 45 = .ok (.if_icmp .ne 11, 3) := by decide +kernel
theorem dX7_pickFirst_48 : decode (mcode mX7_pickFirst) 48 = .ok (.aload_n 0, 1) := by decide +kernel
theorem dX7_pickFirst_49 : decode (mcode mX7_pickFirst) 49 = .ok (.getfield 15, 3) := by decide +kernel
theorem dX7_pickFirst_52 : decode (mcode mX7_pickFirst) 52 = .ok (.iload 4, 2) := by decide +kernel
theorem dX7_pickFirst_54 : decode (mcode mX7_pickFirst) 54 = .ok (.iload_n 3, 1) := by decide +kernel
theorem dX7_pickFirst_55 : decode (mcode mX7_pickFirst) 55 = .ok (.iastore, 1) := by decide +kernel
theorem dX7_pickFirst_56 : decode (mcode mX7_pickFirst) 56 = .ok (.iinc 4 1, 3) := by decide +kernel
theorem dX7_pickFirst_59 : decode (mcode mX7_pickFirst) 59 = .ok (.goto (-33), 3) := by decide +kernel
theorem dX7_pickFirst_62 : decode (mcode mX7_pickFirst) 62 = .ok (.iload_n 1, 1) := by decide +kernel
theorem dX7_pickFirst_63 : decode (mcode mX7_pickFirst) 63 = .ok (.iload_n 3, 1) := by decide +kernel
theorem dX7_pickFirst_64 : decode (mcode mX7_pickFirst) 64 = .ok (.iconst (-1), 1) := by decide +kernel
theorem dX7_pickFirst_65 : decode (mcode mX7_pickFirst) 65 = .ok (.ixor, 1) := by decide +kernel
theorem dX7_pickFirst_66 : decode (mcode mX7_pickFirst) 66 = .ok (.iand, 1) := by decide +kernel
theorem dX7_pickFirst_67 : decode (mcode mX7_pickFirst) 67 = .ok (.istore_n 1, 1) := by decide +kernel
theorem dX7_pickFirst_68 : decode (mcode mX7_pickFirst) 68 = .ok (.iinc 2 1, 3) := by decide +kernel
theorem dX7_pickFirst_71 : decode (mcode mX7_pickFirst) 71 = .ok (.goto (-64), 3) := by decide +kernel
theorem dX7_pickFirst_74 : decode (mcode mX7_pickFirst) 74 = .ok (.return_, 1) := by decide +kernel
theorem dX7_renew_0 : decode (mcode mX7_renew) 0 = .ok (.aload_n 0, 1) := by decide +kernel
theorem dX7_renew_1 : decode (mcode mX7_renew) 1 = .ok (.getfield 25, 3) := by decide +kernel
theorem dX7_renew_4 : decode (mcode mX7_renew) 4 = .ok (.ifCond .ne 4, 3) := by decide +kernel
theorem dX7_renew_7 : decode (mcode mX7_renew) 7 = .ok (.return_, 1) := by decide +kernel
theorem dX7_renew_8 : decode (mcode mX7_renew) 8 = .ok (.aload_n 0, 1) := by decide +kernel
theorem dX7_renew_9 : decode (mcode mX7_renew) 9 = .ok (.iconst 0, 1) := by decide +kernel
theorem dX7_renew_10 : decode (mcode mX7_renew) 10 = .ok (.putfield 25, 3) := by decide +kernel
theorem dX7_renew_13 : decode (mcode mX7_renew) 13 = .ok (.aload_n 0, 1) := by decide +kernel
theorem dX7_renew_14 : decode (mcode mX7_renew) 14 = .ok (.invokevirtual 69, 3) := by decide +kernel
theorem dX7_renew_17 : decode (mcode mX7_renew) 17 = .ok (.aload_n 0, 1) := by decide +kernel
theorem dX7_renew_18 : decode (mcode mX7_renew) 18 = .ok (.getfield 18, 3) := by decide +kernel
theorem dX7_renew_21 : decode (mcode mX7_renew) 21 = .ok (.iconst 0, 1) := by decide +kernel
theorem dX7_renew_22 : decode (mcode mX7_renew) 22 = .ok (.iconst 0, 1) := by decide +kernel
theorem dX7_renew_23 : decode (mcode mX7_renew) 23 = .ok (.bastore, 1) := by decide +kernel
theorem dX7_renew_24 : decode (mcode mX7_renew) 24 = .ok (.aload_n 0, 1) := by decide +kernel
theorem dX7_renew_25 : decode (mcode mX7_renew) 25 = .ok (.getfield 22, 3) := by decide +kernel
theorem dX7_renew_28 : decode (mcode mX7_renew) 28 = .ok (.iconst 0, 1) := by decide +kernel
theorem dX7_renew_29 : decode (mcode mX7_renew) 29 = .ok (.iconst 1, 1) := by decide +kernel
theorem dX7_renew_30 : decode (mcode mX7_renew) 30 = .ok (.iastore, 1) := by decide +kernel
theorem dX7_renew_31 : decode (mcode mX7_renew) 31 = .ok (.aload_n 0, 1) := by decide +kernel
theorem dX7_renew_32 : decode (mcode mX7_renew) 32 = .ok (.invokevirtual 36, 3) := by decide +kernel
theorem dX7_renew_35 : decode (mcode mX7_renew) 35 = .ok (.istore_n 1, 1) := by decide +kernel
theorem dX7_renew_36 : decode (mcode mX7_renew) 36 = .ok (.iconst 1, 1) := by decide +kernel
theorem dX7_renew_37 : decode (mcode mX7_renew) 37 = .ok (.istore_n 2, 1) := by decide +kernel
theorem dX7_renew_38 : decode (mcode mX7_renew) 38 = .ok (.iload_n 2, 1) := by decide +kernel
theorem dX7_renew_39 : decode (mcode mX7_renew) 39 = .ok (.iload_n 1, 1) := by decide +kernel
theorem dX7_renew_40 : decode (mcode mX7_renew) 40 = .ok (.if_icmp .ge 27, 3) := by decide +kernel
theorem dX7_renew_43 : decode (mcode mX7_renew) 43 = .ok (.aload_n 0, 1) := by decide +kernel
theorem dX7_renew_44 : decode (mcode mX7_renew) 44 = .ok (.getfield 18, 3) := by decide +kernel
theorem dX7_renew_47 : decode (mcode mX7_renew) 47 = .ok (.iload_n 2, 1) := by decide +kernel
theorem dX7_renew_48 : decode (mcode mX7_renew) 48 = .ok (.iconst 0, 1) := by decide +kernel
theorem dX7_renew_49 : decode (mcode mX7_renew) 49 = .ok (.bastore, 1) := by decide +kernel
theorem dX7_renew_50 : decode (mcode mX7_renew) 50 = .ok (.iload_n 2, 1) := by decide +kernel
theorem dX7_renew_51 : decode (mcode mX7_renew) 51 = .ok (.iconst 1, 1) := by decide +kernel
theorem dX7_renew_52 : decode (mcode mX7_renew) 52 = .ok (.iand, 1) := by decide +kernel
theorem dX7_renew_53 : decode (mcode mX7_renew) 53 = .ok (.ifCond .ne 8, 3) := by decide +kernel
theorem dX7_renew_56 : decode (mcode mX7_renew) 56 = .ok (.aload_n 0, 1) := by decide +kernel
theorem dX7_renew_57 : decode (mcode mX7_renew) 57 = .ok (.iload_n 2, 1) := by decide +kernel
theorem dX7_renew_58 : decode (mcode mX7_renew) 58 = .ok (.invokevirtual 65, 3) := by decide +kernel
theorem dX7_renew_61 : decode (mcode mX7_renew) 61 = .ok (.iinc 2 1, 3) := by decide +kernel
theorem dX7_renew_64 : decode (mcode mX7_renew) 64 = .ok (.goto (-26), 3) := by decide +kernel
theorem dX7_renew_67 : decode (mcode mX7_renew) 67 = .ok (.iload_n 1, 1) := by decide +kernel
theorem dX7_renew_68 : decode (mcode mX7_renew) 68 = .ok (.ifCond .le 8, 3) := by decide +kernel
theorem dX7_renew_71 : decode (mcode mX7_renew) 71 = .ok (.aload_n 0, 1) := by decide +kernel
theorem dX7_renew_72 : decode (mcode mX7_renew) 72 = .ok (.iload_n 1, 1) := by decide +kernel
theorem dX7_renew_73 : decode (mcode mX7_renew) 73 = .ok (.invokevirtual 65, 3) := by decide +kernel
theorem dX7_renew_76 : decode (mcode mX7_renew) 76 = .ok (.aload_n 0, 1) := by decide +kernel
theorem dX7_renew_77 : decode (mcode mX7_renew) 77 = .ok (.invokevirtual 72, 3) := by decide +kernel
theorem dX7_renew_80 : decode (mcode mX7_renew) 80 = .ok (.return_, 1) := by decide +kernel
theorem dX7_countFewest_0 : decode (mcode mX7_countFewest) 0 = .ok (.aload_n 0, 1) := by decide +kernel
theorem dX7_countFewest_1 : decode (mcode mX7_countFewest) 1 = .ok (.invokevirtual 33, 3) := by decide +kernel
theorem dX7_countFewest_4 : decode (mcode mX7_countFewest) 4 = .ok (.aload_n 0, 1) := by decide +kernel
theorem dX7_countFewest_5 : decode (mcode mX7_countFewest) 5 = .ok (.getfield 18, 3) := by decide +kernel
theorem dX7_countFewest_8 : decode (mcode mX7_countFewest) 8 = .ok (.aload_n 0, 1) := by decide +kernel
theorem dX7_countFewest_9 : decode (mcode mX7_countFewest) 9 = .ok (.invokevirtual 36, 3) := by decide +kernel
theorem dX7_countFewest_12 : decode (mcode mX7_countFewest) 12 = .ok (.baload, 1) := by decide +kernel
theorem dX7_countFewest_13 : decode (mcode mX7_countFewest) 13 = .ok (.ireturn, 1) := by decide +kernel
theorem dX7_countRivals_0 : decode (mcode mX7_countRivals) 0 = .ok (.aload_n 0, 1) := by decide +kernel
theorem dX7_countRivals_1 : decode (mcode mX7_countRivals) 1 = .ok (.invokevirtual 33, 3) := by decide +kernel
theorem dX7_countRivals_4 : decode (mcode mX7_countRivals) 4 = .ok (.aload_n 0, 1) := by decide +kernel
theorem dX7_countRivals_5 : decode (mcode mX7_countRivals) 5 = .ok (.getfield 22, 3) := by decide +kernel
theorem dX7_countRivals_8 : decode (mcode mX7_countRivals) 8 = .ok (.aload_n 0, 1) := by decide +kernel
theorem dX7_countRivals_9 : decode (mcode mX7_countRivals) 9 = .ok (.invokevirtual 36, 3) := by decide +kernel
theorem dX7_countRivals_12 : decode (mcode mX7_countRivals) 12 = .ok (.iaload, 1) := by decide +kernel
theorem dX7_countRivals_13 : decode (mcode mX7_countRivals) 13 = .ok (.ireturn, 1) := by decide +kernel
theorem dX7_linesOfGreatest_0 : decode (mcode mX7_linesOfGreatest) 0 = .ok (.aload_n 0, 1) := by decide +kernel
theorem dX7_linesOfGreatest_1 : decode (mcode mX7_linesOfGreatest) 1 = .ok (.invokevirtual 33, 3) := by decide +kernel
theorem dX7_linesOfGreatest_4 : decode (mcode mX7_linesOfGreatest) 4 = .ok (.iconst 0, 1) := by decide +kernel
theorem dX7_linesOfGreatest_5 : decode (mcode mX7_linesOfGreatest) 5 = .ok (.istore_n 1, 1) := by decide +kernel
theorem dX7_linesOfGreatest_6 : decode (mcode mX7_linesOfGreatest) 6 = .ok (.iconst 0, 1) := by decide +kernel
theorem dX7_linesOfGreatest_7 : decode (mcode mX7_linesOfGreatest) 7 = .ok (.istore_n 2, 1) := by decide +kernel
theorem dX7_linesOfGreatest_8 : decode (mcode mX7_linesOfGreatest) 8 = .ok (.iload_n 2, 1) := by decide +kernel
theorem dX7_linesOfGreatest_9 : decode (mcode mX7_linesOfGreatest) 9 = .ok (.aload_n 0, 1) := by decide +kernel
theorem dX7_linesOfGreatest_10 : decode (mcode mX7_linesOfGreatest) 10 = .ok (.getfield 29, 3) := by decide +kernel
theorem dX7_linesOfGreatest_13 : decode (mcode mX7_linesOfGreatest) 13 = .ok (.getfield 40, 3) := by decide +kernel
theorem dX7_linesOfGreatest_16 : decode (mcode mX7_linesOfGreatest) 16 = .ok (.if_icmp .ge 23, 3) := by decide +kernel
theorem dX7_linesOfGreatest_19 : decode (mcode mX7_linesOfGreatest) 19 = .ok (.iload_n 1, 1) := by decide +kernel
theorem dX7_linesOfGreatest_20 : decode (mcode mX7_linesOfGreatest) 20 = .ok (.aload_n 0, 1) := by decide +kernel
theorem dX7_linesOfGreatest_21 : decode (mcode mX7_linesOfGreatest) 21 = .ok (.getfield 15, 3) := by decide +kernel
theorem dX7_linesOfGreatest_24 : decode (mcode mX7_linesOfGreatest) 24 = .ok (.iload_n 2, 1) := by decide +kernel
theorem dX7_linesOfGreatest_25 : decode (mcode mX7_linesOfGreatest) 25 = .ok (.iaload, 1) := by decide +kernel
theorem dX7_linesOfGreatest_26 : decode (mcode mX7_linesOfGreatest) 26 = .ok (.invokestatic 46, 3) := by decide +kernel
theorem dX7_linesOfGreatest_29 : decode (mcode mX7_linesOfGreatest) 29 = .ok (.invokestatic 52, 3) := by decide +kernel
theorem dX7_linesOfGreatest_32 : decode (mcode mX7_linesOfGreatest) 32 = .ok (.istore_n 1, 1) := by decide +kernel
theorem dX7_linesOfGreatest_33 : decode (mcode mX7_linesOfGreatest) 33 = .ok (.iinc 2 1, 3) := by decide +kernel
theorem dX7_linesOfGreatest_36 : decode (mcode mX7_linesOfGreatest) 36 = .ok (.goto (-28), 3) := by decide +kernel
theorem dX7_linesOfGreatest_39 : decode (mcode mX7_linesOfGreatest) 39 = .ok (.iload_n 1, 1) := by decide +kernel
theorem dX7_linesOfGreatest_40 : decode (mcode mX7_linesOfGreatest) 40 = .ok (.ireturn, 1) := by decide +kernel
theorem dX7_personOf_0 : decode (mcode mX7_personOf) 0 = .ok (.aload_n 0, 1) := by decide +kernel
theorem dX7_personOf_1 : decode (mcode mX7_personOf) 1 = .ok (.invokevirtual 33, 3) := by decide +kernel
theorem dX7_personOf_4 : decode (mcode mX7_personOf) 4 = .ok (.aload_n 0, 1) := by decide +kernel
theorem dX7_personOf_5 : decode (mcode mX7_personOf) 5 = .ok (.getfield 15, 3) := by decide +kernel
theorem dX7_personOf_8 : decode (mcode mX7_personOf) 8 = .ok (.iload_n 1, 1) := by decide +kernel
theorem dX7_personOf_9 : decode (mcode mX7_personOf) 9 = .ok (.iaload, 1) := by decide +kernel
theorem dX7_personOf_10 : decode (mcode mX7_personOf) 10 = .ok (.ireturn, 1) := by decide +kernel
theorem dX7_rivalsWithBoth_0 : decode (mcode mX7_rivalsWithBoth) 0 = .ok (.aload_n 0, 1) := by decide +kernel
theorem dX7_rivalsWithBoth_1 : decode (mcode mX7_rivalsWithBoth) 1 = .ok (.invokevirtual 33, 3) := by decide +kernel
theorem dX7_rivalsWithBoth_4 : decode (mcode mX7_rivalsWithBoth) 4 = .ok (.iload_n 1, 1) := by decide +kernel
theorem dX7_rivalsWithBoth_5 : decode (mcode mX7_rivalsWithBoth) 5 = .ok (.iload_n 2, 1) := by decide +kernel
theorem dX7_rivalsWithBoth_6 : decode (mcode mX7_rivalsWithBoth) 6 = .ok (.if_icmp .ne 13, 3) := by decide +kernel
theorem dX7_rivalsWithBoth_9 : decode (mcode mX7_rivalsWithBoth) 9 = .ok (.aload_n 0, 1) := by decide +kernel
theorem dX7_rivalsWithBoth_10 : decode (mcode mX7_rivalsWithBoth) 10 = .ok (.getfield 22, 3) := by decide +kernel
theorem dX7_rivalsWithBoth_13 : decode (mcode mX7_rivalsWithBoth) 13 = .ok (.aload_n 0, 1) := by decide +kernel
theorem dX7_rivalsWithBoth_14 : decode (mcode mX7_rivalsWithBoth) 14 = .ok (.invokevirtual 36, 3) := by decide +kernel
theorem dX7_rivalsWithBoth_17 : decode (mcode mX7_rivalsWithBoth) 17 = .ok (.iaload, 1) := by decide +kernel
theorem dX7_rivalsWithBoth_18 : decode (mcode mX7_rivalsWithBoth) 18 = .ok (.ireturn, 1) := by decide +kernel
theorem dX7_rivalsWithBoth_19 : decode (mcode mX7_rivalsWithBoth) 19 = .ok (.iconst 1, 1) := by decide +kernel
theorem dX7_rivalsWithBoth_20 : decode (mcode mX7_rivalsWithBoth) 20 = .ok (.iload_n 1, 1) := by decide +kernel
theorem dX7_rivalsWithBoth_21 : decode (mcode mX7_rivalsWithBoth) 21 = .ok (.ishl, 1) := by decide +kernel
theorem dX7_rivalsWithBoth_22 : decode (mcode mX7_rivalsWithBoth) 22 = .ok (.iconst 1, 1) := by decide +kernel
theorem dX7_rivalsWithBoth_23 : decode (mcode mX7_rivalsWithBoth) 23 = .ok (.iload_n 2, 1) := by decide +kernel
theorem dX7_rivalsWithBoth_24 : decode (mcode mX7_rivalsWithBoth) 24 = .ok (.ishl, 1) := by decide +kernel
theorem dX7_rivalsWithBoth_25 : decode (mcode mX7_rivalsWithBoth) 25 = .ok (.ior, 1) := by decide +kernel
theorem dX7_rivalsWithBoth_26 : decode (mcode mX7_rivalsWithBoth) 26 = .ok (.istore_n 3, 1) := by decide +kernel
theorem dX7_rivalsWithBoth_27 : decode (mcode mX7_rivalsWithBoth) 27 = .ok (.aload_n 0, 1) := by decide +kernel
theorem dX7_rivalsWithBoth_28 : decode (mcode mX7_rivalsWithBoth) 28 = .ok (.getfield 9, 3) := by decide +kernel
theorem dX7_rivalsWithBoth_31 : decode (mcode mX7_rivalsWithBoth) 31 = .ok (.iload_n 1, 1) := by decide +kernel
theorem dX7_rivalsWithBoth_32 : decode (mcode mX7_rivalsWithBoth) 32 = .ok (.iaload, 1) := by decide +kernel
theorem dX7_rivalsWithBoth_33 : decode (mcode mX7_rivalsWithBoth) 33 = .ok (.aload_n 0, 1) := by decide +kernel
theorem dX7_rivalsWithBoth_34 : decode (mcode mX7_rivalsWithBoth) 34 = .ok (.getfield 9, 3) := by decide +kernel
theorem dX7_rivalsWithBoth_37 : decode (mcode mX7_rivalsWithBoth) 37 = .ok (.iload_n 2, 1) := by decide +kernel
theorem dX7_rivalsWithBoth_38 : decode (mcode mX7_rivalsWithBoth) 38 = .ok (.iaload, 1) := by decide +kernel
theorem dX7_rivalsWithBoth_39 : decode (mcode mX7_rivalsWithBoth) 39 = .ok (.iand, 1) := by decide +kernel
theorem dX7_rivalsWithBoth_40 : decode (mcode mX7_rivalsWithBoth) 40 = .ok (.iload_n 3, 1) := by decide +kernel
theorem dX7_rivalsWithBoth_41 : decode (mcode mX7_rivalsWithBoth) 41 = .ok (.iconst (-1), 1) := by decide +kernel
theorem dX7_rivalsWithBoth_42 : decode (mcode mX7_rivalsWithBoth) 42 = .ok (.ixor, 1) := by decide +kernel
theorem dX7_rivalsWithBoth_43 : decode (mcode mX7_rivalsWithBoth) 43 = .ok (.iand, 1) := by decide +kernel
theorem dX7_rivalsWithBoth_44 : decode (mcode mX7_rivalsWithBoth) 44 = .ok (.istore 4, 2) := by decide +kernel
theorem dX7_rivalsWithBoth_46 : decode (mcode mX7_rivalsWithBoth) 46 = .ok (.aload_n 0, 1) := by decide +kernel
theorem dX7_rivalsWithBoth_47 : decode (mcode mX7_rivalsWithBoth) 47 = .ok (.iload_n 3, 1) := by decide +kernel
theorem dX7_rivalsWithBoth_48 : decode (mcode mX7_rivalsWithBoth) 48 = .ok (.invokevirtual 58, 3) := by decide +kernel
theorem dX7_rivalsWithBoth_51 : decode (mcode mX7_rivalsWithBoth) 51 = .ok (.istore 5, 2) := by decide +kernel
theorem dX7_rivalsWithBoth_53 : decode (mcode mX7_rivalsWithBoth) 53 = .ok (.iload 4, 2) := by decide +kernel
theorem dX7_rivalsWithBoth_55 : decode (mcode mX7_rivalsWithBoth) 55 = .ok (.istore 6, 2) := by decide +kernel
theorem dX7_rivalsWithBoth_57 : decode (mcode mX7_rivalsWithBoth) 57 = .ok (.iload 6, 2) := by decide +kernel
theorem dX7_rivalsWithBoth_59 : decode (mcode mX7_rivalsWithBoth) 59 = .ok (.ifCond .le 28, 3) := by decide +kernel
theorem dX7_rivalsWithBoth_62 : decode (mcode mX7_rivalsWithBoth) 62 = .ok (.iload 5, 2) := by decide +kernel
theorem dX7_rivalsWithBoth_64 : decode (mcode mX7_rivalsWithBoth) 64 = .ok (.aload_n 0, 1) := by decide +kernel
theorem dX7_rivalsWithBoth_65 : decode (mcode mX7_rivalsWithBoth) 65 = .ok (.iload_n 3, 1) := by decide +kernel
theorem dX7_rivalsWithBoth_66 : decode (mcode mX7_rivalsWithBoth) 66 = .ok (.iload 6, 2) := by decide +kernel
theorem dX7_rivalsWithBoth_68 : decode (mcode mX7_rivalsWithBoth) 68 = .ok (.ior, 1) := by decide +kernel
theorem dX7_rivalsWithBoth_69 : decode (mcode mX7_rivalsWithBoth) 69 = .ok (.invokevirtual 58, 3) := by decide +kernel
theorem dX7_rivalsWithBoth_72 : decode (mcode mX7_rivalsWithBoth) 72 = .ok (.iadd, 1) := by decide +kernel
theorem dX7_rivalsWithBoth_73 : decode (mcode mX7_rivalsWithBoth) 73 = .ok (.istore 5, 2) := by decide +kernel
theorem dX7_rivalsWithBoth_75 : decode (mcode mX7_rivalsWithBoth) 75 = .ok (.iload 6, 2) := by decide +kernel
theorem dX7_rivalsWithBoth_77 : decode (mcode mX7_rivalsWithBoth) 77 = .ok (.iconst 1, 1) := by decide +kernel
theorem dX7_rivalsWithBoth_78 : decode (mcode mX7_rivalsWithBoth) 78 = .ok (.isub, 1) := by decide +kernel
theorem dX7_rivalsWithBoth_79 : decode (mcode mX7_rivalsWithBoth) 79 = .ok (.iload 4, 2) := by decide +kernel
theorem dX7_rivalsWithBoth_81 : decode (mcode mX7_rivalsWithBoth) 81 = .ok (.iand, 1) := by decide +kernel
theorem dX7_rivalsWithBoth_82 : decode (mcode mX7_rivalsWithBoth) 82 = .ok (.istore 6, 2) := by decide +kernel
theorem dX7_rivalsWithBoth_84 : decode (mcode mX7_rivalsWithBoth) 84 = .ok (.goto (-27), 3) := by decide +kernel
theorem dX7_rivalsWithBoth_87 : decode (mcode mX7_rivalsWithBoth) 87 = .ok (.iload 5, 2) := by decide +kernel
theorem dX7_rivalsWithBoth_89 : decode (mcode mX7_rivalsWithBoth) 89 = .ok (.ireturn, 1) := by decide +kernel

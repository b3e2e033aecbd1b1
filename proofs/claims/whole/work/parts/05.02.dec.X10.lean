theorem dX10_add_0 : decode (mcode mX10_add) 0 = .ok (.aload_n 0, 1) := by decide +kernel
theorem dX10_add_1 : decode (mcode mX10_add) 1 = .ok (.getfield 15, 3) := by decide +kernel
theorem dX10_add_4 : decode (mcode mX10_add) 4 = .ok (.sipush 600, 3) := by decide +kernel
theorem dX10_add_7 : decode (mcode mX10_add) 7 = .ok (.if_icmp .ge 20, 3) := by decide +kernel
theorem dX10_add_10 : decode (mcode mX10_add) 10 = .ok (.aload_n 0, 1) := by decide +kernel
theorem dX10_add_11 : decode (mcode mX10_add) 11 = .ok (.getfield 9, 3) := by decide +kernel
theorem dX10_add_14 : decode (mcode mX10_add) 14 = .ok (.aload_n 0, 1) := by decide +kernel
theorem dX10_add_15 : decode (mcode mX10_add) 15 = .ok (.dup, 1) := by decide +kernel
theorem dX10_add_16 : decode (mcode mX10_add) 16 = .ok (.getfield 15, 3) := by decide +kernel
theorem dX10_add_19 : decode (mcode mX10_add) 19 = .ok (.dup_x1, 1) := by decide +kernel
theorem dX10_add_20 : decode (mcode mX10_add) 20 = .ok (.iconst 1, 1) := by decide +kernel
theorem dX10_add_21 : decode (mcode mX10_add) 21 = .ok (.iadd, 1) := by decide +kernel
theorem dX10_add_22 : decode (mcode mX10_add) 22 = .ok (.putfield 15, 3) := by decide +kernel
theorem dX10_add_25 : decode (mcode mX10_add) 25 = .ok (.iload_n 1, 1) := by decide +kernel
theorem dX10_add_26 : decode (mcode mX10_add) 26 = .ok (.bastore, 1) := by decide +kernel
theorem dX10_add_27 : decode (mcode mX10_add) 27 = .ok (.return_, 1) := by decide +kernel
theorem dX10_isFigure_0 : decode (mcode mX10_isFigure) 0 = .ok (.iload_n 0, 1) := by decide +kernel
theorem dX10_isFigure_1 : decode (mcode mX10_isFigure) 1 = .ok (.bipush 48, 2) := by decide +kernel
theorem dX10_isFigure_3 : decode (mcode mX10_isFigure) 3 = .ok (.if_icmp .lt 13, 3) := by decide +kernel
theorem dX10_isFigure_6 : decode (mcode mX10_isFigure) 6 = .ok (.iload_n 0, 1) := by decide +kernel
theorem dX10_isFigure_7 : decode (mcode mX10_isFigure) 7 = .ok (.bipush 57, 2) := by decide +kernel
theorem dX10_isFigure_9 : decode (mcode mX10_isFigure) 9 = .ok (.if_icmp .gt 7, 3) := by decide +kernel
theorem dX10_isFigure_12 : decode (mcode mX10_isFigure) 12 = .ok (.iconst 1, 1) := by decide +kernel
theorem dX10_isFigure_13 : decode (mcode mX10_isFigure) 13 = .ok (.goto 4, 3) := by decide +kernel
theorem dX10_isFigure_16 : decode (mcode mX10_isFigure) 16 = .ok (.iconst 0, 1) := by decide +kernel
theorem dX10_isFigure_17 : decode (mcode mX10_isFigure) 17 = .ok (.ireturn, 1) := by decide +kernel
theorem dX10_isLetter_0 : decode (mcode mX10_isLetter) 0 = .ok (.iload_n 0, 1) := by decide +kernel
theorem dX10_isLetter_1 : decode (mcode mX10_isLetter) 1 = .ok (.bipush 97, 2) := by decide +kernel
theorem dX10_isLetter_3 : decode (mcode mX10_isLetter) 3 = .ok (.if_icmp .lt 13, 3) := by decide +kernel
theorem dX10_isLetter_6 : decode (mcode mX10_isLetter) 6 = .ok (.iload_n 0, 1) := by decide +kernel
theorem dX10_isLetter_7 : decode (mcode mX10_isLetter) 7 = .ok (.bipush 122, 2) := by decide +kernel
theorem dX10_isLetter_9 : decode (mcode mX10_isLetter) 9 = .ok (.if_icmp .gt 7, 3) := by decide +kernel
theorem dX10_isLetter_12 : decode (mcode mX10_isLetter) 12 = .ok (.iconst 1, 1) := by decide +kernel
theorem dX10_isLetter_13 : decode (mcode mX10_isLetter) 13 = .ok (.goto 4, 3) := by decide +kernel
theorem dX10_isLetter_16 : decode (mcode mX10_isLetter) 16 = .ok (.iconst 0, 1) := by decide +kernel
theorem dX10_isLetter_17 : decode (mcode mX10_isLetter) 17 = .ok (.ireturn, 1) := by decide +kernel
theorem dX10_letter_0 : decode (mcode mX10_letter) 0 = .ok (.aload_n 0, 1) := by decide +kernel
theorem dX10_letter_1 : decode (mcode mX10_letter) 1 = .ok (.getfield 25, 3) := by decide +kernel
theorem dX10_letter_4 : decode (mcode mX10_letter) 4 = .ok (.iload_n 1, 1) := by decide +kernel
theorem dX10_letter_5 : decode (mcode mX10_letter) 5 = .ok (.iadd, 1) := by decide +kernel
theorem dX10_letter_6 : decode (mcode mX10_letter) 6 = .ok (.istore_n 2, 1) := by decide +kernel
theorem dX10_letter_7 : decode (mcode mX10_letter) 7 = .ok (.iload_n 2, 1) := by decide +kernel
theorem dX10_letter_8 : decode (mcode mX10_letter) 8 = .ok (.ifCond .lt 11, 3) := by decide +kernel
theorem dX10_letter_11 : decode (mcode mX10_letter) 11 = .ok (.iload_n 2, 1) := by decide +kernel
theorem dX10_letter_12 : decode (mcode mX10_letter) 12 = .ok (.aload_n 0, 1) := by decide +kernel
theorem dX10_letter_13 : decode (mcode mX10_letter) 13 = .ok (.getfield 15, 3) := by decide +kernel
theorem dX10_letter_16 : decode (mcode mX10_letter) 16 = .ok (.if_icmp .lt 7, 3) := by decide +kernel
theorem dX10_letter_19 : decode (mcode mX10_letter) 19 = .ok (.iconst 0, 1) := by decide +kernel
theorem dX10_letter_20 : decode (mcode mX10_letter) 20 = .ok (.goto 12, 3) := by decide +kernel
theorem dX10_letter_23 : decode (mcode mX10_letter) 23 = .ok (.aload_n 0, 1) := by decide +kernel
theorem dX10_letter_24 : decode (mcode mX10_letter) 24 = .ok (.getfield 9, 3) := by decide +kernel
theorem dX10_letter_27 : decode (mcode mX10_letter) 27 = .ok (.iload_n 2, 1) := by decide +kernel
theorem dX10_letter_28 : decode (mcode mX10_letter) 28 = .ok (.baload, 1) := by decide +kernel
theorem dX10_letter_29 : decode (mcode mX10_letter) 29 = .ok (.bipush 97, 2) := by decide +kernel
theorem dX10_letter_31 : decode (mcode mX10_letter) 31 = .ok (.isub, 1) := by decide +kernel
theorem dX10_letter_32 : decode (mcode mX10_letter) 32 = .ok (.ireturn, 1) := by decide +kernel
theorem dX10_letters_0 : decode (mcode mX10_letters) 0 = .ok (.aload_n 0, 1) := by decide +kernel
theorem dX10_letters_1 : decode (mcode mX10_letters) 1 = .ok (.getfield 19, 3) := by decide +kernel
theorem dX10_letters_4 : decode (mcode mX10_letters) 4 = .ok (.aload_n 0, 1) := by decide +kernel
theorem dX10_letters_5 : decode (mcode mX10_letters) 5 = .ok (.getfield 25, 3) := by decide +kernel
theorem dX10_letters_8 : decode (mcode mX10_letters) 8 = .ok (.isub, 1) := by decide +kernel
theorem dX10_letters_9 : decode (mcode mX10_letters) 9 = .ok (.ireturn, 1) := by decide +kernel
theorem dX10_number_0 : decode (mcode mX10_number) 0 = .ok (.iconst 0, 1) := by decide +kernel
theorem dX10_number_1 : decode (mcode mX10_number) 1 = .ok (.istore_n 1, 1) := by decide +kernel
theorem dX10_number_2 : decode (mcode mX10_number) 2 = .ok (.aload_n 0, 1) := by decide +kernel
theorem dX10_number_3 : decode (mcode mX10_number) 3 = .ok (.getfield 25, 3) := by decide +kernel
theorem dX10_number_6 : decode (mcode mX10_number) 6 = .ok (.istore_n 2, 1) := by decide +kernel
theorem dX10_number_7 : decode (mcode mX10_number) 7 = .ok (.iload_n 2, 1) := by decide +kernel
theorem dX10_number_8 : decode (mcode mX10_number) 8 = .ok (.aload_n 0, 1) := by decide +kernel
theorem dX10_number_9 : decode (mcode mX10_number) 9 = .ok (.getfield 19, 3) := by decide +kernel
theorem dX10_number_12 : decode (mcode mX10_number) 12 = .ok (.if_icmp .ge 32, 3) := by decide +kernel
theorem dX10_number_15 : decode (mcode mX10_number) 15 = .ok (.iload_n 2, 1) := by decide +kernel
theorem dX10_number_16 : decode (mcode mX10_number) 16 = .ok (.aload_n 0, 1) := by decide +kernel
theorem dX10_number_17 : decode (mcode mX10_number) 17 = .ok (.getfield 15, 3) := by decide +kernel
theorem dX10_number_20 : decode (mcode mX10_number) 20 = .ok (.if_icmp .ge 24, 3) := by decide +kernel
theorem dX10_number_23 : decode (mcode mX10_number) 23 = .ok (.bipush 10, 2) := by decide +kernel
theorem dX10_number_25 : decode (mcode mX10_number) 25 = .ok (.iload_n 1, 1) := by decide +kernel
theorem dX10_number_26 : decode (mcode mX10_number) 26 = .ok (.imul, 1) := by decide +kernel
theorem dX10_number_27 : decode (mcode mX10_number) 27 = .ok (.aload_n 0, 1) := by decide +kernel
theorem dX10_number_28 : decode (mcode mX10_number) 28 = .ok (.getfield 9, 3) := by decide +kernel
theorem dX10_number_31 : decode (mcode mX10_number) 31 = .ok (.iload_n 2, 1) := by decide +kernel
theorem dX10_number_32 : decode (mcode mX10_number) 32 = .ok (.baload, 1) := by decide +kernel
theorem dX10_number_33 : decode (mcode mX10_number) 33 = .ok (.iadd, 1) := by decide +kernel
theorem dX10_number_34 : decode (mcode mX10_number) 34 = .ok (.bipush 48, 2) := by decide +kernel
theorem dX10_number_36 : decode (mcode mX10_number) 36 = .ok (.isub, 1) := by decide +kernel
theorem dX10_number_37 : decode (mcode mX10_number) 37 = .ok (.istore_n 1, 1) := by decide +kernel
theorem dX10_number_38 : decode (mcode mX10_number) 38 = .ok (.iinc 2 1, 3) := by decide +kernel
theorem dX10_number_41 : decode (mcode mX10_number) 41 = .ok (.goto (-34), 3) := by decide +kernel
theorem dX10_number_44 : decode (mcode mX10_number) 44 = .ok (.iload_n 1, 1) := by decide +kernel
theorem dX10_number_45 : decode (mcode mX10_number) 45 = .ok (.ireturn, 1) := by decide +kernel
theorem dX10_step_0 : decode (mcode mX10_step) 0 = .ok (.aload_n 0, 1) := by decide +kernel
theorem dX10_step_1 : decode (mcode mX10_step) 1 = .ok (.aload_n 0, 1) := by decide +kernel
theorem dX10_step_2 : decode (mcode mX10_step) 2 = .ok (.getfield 19, 3) := by decide +kernel
theorem dX10_step_5 : decode (mcode mX10_step) 5 = .ok (.putfield 25, 3) := by decide +kernel
theorem dX10_step_8 : decode (mcode mX10_step) 8 = .ok (.aload_n 0, 1) := by decide +kernel
theorem dX10_step_9 : decode (mcode mX10_step) 9 = .ok (.getfield 25, 3) := by decide +kernel
theorem dX10_step_12 : decode (mcode mX10_step) 12 = .ok (.aload_n 0, 1) := by decide +kernel
theorem dX10_step_13 : decode (mcode mX10_step) 13 = .ok (.getfield 15, 3) := by decide +kernel
theorem dX10_step_16 : decode (mcode mX10_step) 16 = .ok (.if_icmp .ge 44, 3) := by decide +kernel
theorem dX10_step_19 : decode (mcode mX10_step) 19 = .ok (.aload_n 0, 1) := by decide +kernel
theorem dX10_step_20 : decode (mcode mX10_step) 20 = .ok (.getfield 9, 3) := by decide +kernel
theorem dX10_step_23 : decode (mcode mX10_step) 23 = .ok (.aload_n 0, 1) := by decide +kernel
theorem dX10_step_24 : decode (mcode mX10_step) 24 = .ok (.getfield 25, 3) := by decide +kernel
theorem dX10_step_27 : decode (mcode mX10_step) 27 = .ok (.baload, 1) := by decide +kernel
theorem dX10_step_28 : decode (mcode mX10_step) 28 = .ok (.bipush 32, 2) := by decide +kernel
theorem dX10_step_30 : decode (mcode mX10_step) 30 = .ok (.if_icmp .eq 17, 3) := by decide +kernel
theorem dX10_step_33 : decode (mcode mX10_step) 33 = .ok (.aload_n 0, 1) := by decide +kernel
theorem dX10_step_34 : decode (mcode mX10_step) 34 = .ok (.getfield 9, 3) := by decide +kernel
theorem dX10_step_37 : decode (mcode mX10_step) 37 = .ok (.aload_n 0, 1) := by decide +kernel
theorem dX10_step_38 : decode (mcode mX10_step) 38 = .ok (.getfield 25, 3) := by decide +kernel
theorem dX10_step_41 : decode (mcode mX10_step) 41 = .ok (.baload, 1) := by decide +kernel
theorem dX10_step_42 : decode (mcode mX10_step) 42 = .ok (.bipush 10, 2) := by decide +kernel
theorem dX10_step_44 : decode (mcode mX10_step) 44 = .ok (.if_icmp .ne 16, 3) := by decide +kernel
theorem dX10_step_47 : decode (mcode mX10_step) 47 = .ok (.aload_n 0, 1) := by decide +kernel
theorem dX10_step_48 : decode (mcode mX10_step) 48 = .ok (.dup, 1) := by decide +kernel
theorem dX10_step_49 : decode (mcode mX10_step) 49 = .ok (.getfield 25, 3) := by decide +kernel
theorem dX10_step_52 : decode (mcode mX10_step) 52 = .ok (.iconst 1, 1) := by decide +kernel
theorem dX10_step_53 : decode (mcode mX10_step) 53 = .ok (.iadd, 1) := by decide +kernel
theorem dX10_step_54 : decode (mcode mX10_step) 54 = .ok (.putfield 25, 3) := by decide +kernel
theorem dX10_step_57 : decode (mcode mX10_step) 57 = .ok (.goto (-49), 3) := by decide +kernel
theorem dX10_step_60 : decode (mcode mX10_step) 60 = .ok (.aload_n 0, 1) := by decide +kernel
theorem dX10_step_61 : decode (mcode mX10_step) 61 = .ok (.aload_n 0, 1) := by decide +kernel
theorem dX10_step_62 : decode (mcode mX10_step) 62 = .ok (.getfield 25, 3) := by decide +kernel
theorem dX10_step_65 : decode (mcode mX10_step) 65 = .ok (.putfield 19, 3) := by decide +kernel
theorem dX10_step_68 : decode (mcode mX10_step) 68 = .ok (.aload_n 0, 1) := by decide +kernel
theorem dX10_step_69 : decode (mcode mX10_step) 69 = .ok (.getfield 25, 3) := by decide +kernel
theorem dX10_step_72 : decode (mcode mX10_step) 72 = .ok (.aload_n 0, 1) := by decide +kernel
theorem dX10_step_73 : decode (mcode mX10_step) 73 = .ok (.getfield 15, 3) := by decide +kernel
theorem dX10_step_76 : decode (mcode mX10_step) 76 = .ok (.if_icmp .lt 11, 3) := by decide +kernel
theorem dX10_step_79 : decode (mcode mX10_step) 79 = .ok (.aload_n 0, 1) := by decide +kernel
theorem dX10_step_80 : decode (mcode mX10_step) 80 = .ok (.iconst 0, 1) := by decide +kernel
theorem dX10_step_81 : decode (mcode mX10_step) 81 = .ok (.putfield 28, 3) := by decide +kernel
theorem dX10_step_84 : decode (mcode mX10_step) 84 = .ok (.goto 174, 3) := by decide +kernel
theorem dX10_step_87 : decode (mcode mX10_step) 87 = .ok (.aload_n 0, 1) := by decide +kernel
theorem dX10_step_88 : decode (mcode mX10_step) 88 = .ok (.getfield 9, 3) := by decide +kernel
theorem dX10_step_91 : decode (mcode mX10_step) 91 = .ok (.aload_n 0, 1) := by decide +kernel
theorem dX10_step_92 : decode (mcode mX10_step) 92 = .ok (.getfield 25, 3) := by decide +kernel
theorem dX10_step_95 : decode (mcode mX10_step) 95 = .ok (.baload, 1) := by decide +kernel
theorem dX10_step_96 : decode (mcode mX10_step) 96 = .ok (.invokestatic 31, 3) := by decide +kernel
theorem dX10_step_99 : decode (mcode mX10_step) 99 = .ok (.ifCond .eq 47, 3) := by decide +kernel
theorem dX10_step_102 : decode (mcode mX10_step) 102 = .ok (.aload_n 0, 1) := by decide +kernel
theorem dX10_step_103 : decode (mcode mX10_step) 103 = .ok (.iconst 1, 1) := by decide +kernel
theorem dX10_step_104 : decode (mcode mX10_step) 104 = .ok (.putfield 28, 3) := by decide +kernel
theorem dX10_step_107 : decode (mcode mX10_step) 107 = .ok (.aload_n 0, 1) := by decide +kernel
theorem dX10_step_108 : decode (mcode mX10_step) 108 = .ok (.getfield 19, 3) := by decide +kernel
theorem dX10_step_111 : decode (mcode mX10_step) 111 = .ok (.aload_n 0, 1) := by decide +kernel
theorem dX10_step_112 : decode (mcode mX10_step) 112 = .ok (.getfield 15, 3) := by decide +kernel
theorem dX10_step_115 : decode (mcode mX10_step) 115 = .ok (.if_icmp .ge 143, 3) := by decide +kernel
theorem dX10_step_118 : decode (mcode mX10_step) 118 = .ok (.aload_n 0, 1) := by decide +kernel
theorem dX10_step_119 : decode (mcode mX10_step) 119 = .ok (.getfield 9, 3) := by decide +kernel
theorem dX10_step_122 : decode (mcode mX10_step) 122 = .ok (.aload_n 0, 1) := by decide +kernel
theorem dX10_step_123 : decode (mcode mX10_step) 123 = .ok (.getfield 19, 3) := by decide +kernel
theorem dX10_step_126 : decode (mcode mX10_step) 126 = .ok (.baload, 1) := by decide +kernel
theorem dX10_step_127 : decode (mcode mX10_step) 127 = .ok (.invokestatic 31, 3) := by decide +kernel
theorem dX10_step_130 : decode (mcode mX10_step) 130 = .ok (.ifCond .eq 128, 3) := by decide +kernel
theorem dX10_step_133 : decode (mcode mX10_step) 133 = .ok (.aload_n 0, 1) := by decide +kernel
theorem dX10_step_134 : decode (mcode mX10_step) 134 = .ok (.dup, 1) := by decide +kernel
theorem dX10_step_135 : decode (mcode mX10_step) 135 = .ok (.getfield 19, 3) := by decide +kernel
theorem dX10_step_138 : decode (mcode mX10_step) 138 = .ok (.iconst 1, 1) := by decide +kernel
theorem dX10_step_139 : decode (mcode mX10_step) 139 = .ok (.iadd, 1) := by decide +kernel
theorem dX10_step_140 : decode (mcode mX10_step) 140 = .ok (.putfield 19, 3) := by decide +kernel
theorem dX10_step_143 : decode (mcode mX10_step) 143 = .ok (.goto (-36), 3) := by decide +kernel
theorem dX10_step_146 : decode (mcode mX10_step) 146 = .ok (.aload_n 0, 1) := by decide +kernel
theorem dX10_step_147 : decode (mcode mX10_step) 147 = .ok (.getfield 9, 3) := by decide +kernel
theorem dX10_step_150 : decode (mcode mX10_step) 150 = .ok (.aload_n 0, 1) := by decide +kernel
theorem dX10_step_151 : decode (mcode mX10_step) 151 = .ok (.getfield 25, 3) := by decide +kernel
theorem dX10_step_154 : decode (mcode mX10_step) 154 = .ok (.baload, 1) := by decide +kernel
theorem dX10_step_155 : decode (mcode mX10_step) 155 = .ok (.invokestatic 35, 3) := by decide +kernel
theorem dX10_step_158 : decode (mcode mX10_step) 158 = .ok (.ifCond .eq 67, 3) := by decide +kernel
theorem dX10_step_161 : decode (mcode mX10_step) 161 = .ok (.aload_n 0, 1) := by decide +kernel
theorem dX10_step_162 : decode (mcode mX10_step) 162 = .ok (.getfield 19, 3) := by decide +kernel
theorem dX10_step_165 : decode (mcode mX10_step) 165 = .ok (.aload_n 0, 1) := by decide +kernel
theorem dX10_step_166 : decode (mcode mX10_step) 166 = .ok (.getfield 15, 3) := by decide +kernel
theorem dX10_step_169 : decode (mcode mX10_step) 169 = .ok (.if_icmp .ge 31, 3) := by decide +kernel
theorem dX10_step_172 : decode (mcode mX10_step) 172 = .ok (.aload_n 0, 1) := by decide +kernel
theorem dX10_step_173 : decode (mcode mX10_step) 173 = .ok (.getfield 9, 3) := by decide +kernel
theorem dX10_step_176 : decode (mcode mX10_step) 176 = .ok (.aload_n 0, 1) := by decide +kernel
theorem dX10_step_177 : decode (mcode mX10_step) 177 = .ok (.getfield 19, 3) := by decide +kernel
theorem dX10_step_180 : decode (mcode mX10_step) 180 = .ok (.baload, 1) := by decide +kernel
theorem dX10_step_181 : decode (mcode mX10_step) 181 = .ok (.invokestatic 35, 3) := by decide +kernel
theorem dX10_step_184 : decode (mcode mX10_step) 184 = .ok (.ifCond .eq 16, 3) := by decide +kernel
theorem dX10_step_187 : decode (mcode mX10_step) 187 = .ok (.aload_n 0, 1) := by decide +kernel
theorem dX10_step_188 : decode (mcode mX10_step) 188 = .ok (.dup, 1) := by decide +kernel
theorem dX10_step_189 : decode (mcode mX10_step) 189 = .ok (.getfield 19, 3) := by decide +kernel
theorem dX10_step_192 : decode (mcode mX10_step) 192 = .ok (.iconst 1, 1) := by decide +kernel
theorem dX10_step_193 : decode (mcode mX10_step) 193 = .ok (.iadd, 1) := by decide +kernel
theorem dX10_step_194 : decode (mcode mX10_step) 194 = .ok (.putfield 19, 3) := by decide +kernel
theorem dX10_step_197 : decode (mcode mX10_step) 197 = .ok (.goto (-36), 3) := by decide +kernel
theorem dX10_step_200 : decode (mcode mX10_step) 200 = .ok (.aload_n 0, 1) := by decide +kernel
theorem dX10_step_201 : decode (mcode mX10_step) 201 = .ok (.aload_n 0, 1) := by decide +kernel
theorem dX10_step_202 : decode (mcode mX10_step) 202 = .ok (.getfield 19, 3) := by decide +kernel
theorem dX10_step_205 : decode (mcode mX10_step) 205 = .ok (.aload_n 0, 1) := by decide +kernel
theorem dX10_step_206 : decode (mcode mX10_step) 206 = .ok (.getfield 25, 3) := by decide +kernel
theorem dX10_step_209 : decode (mcode mX10_step) 209 = .ok (.isub, 1) := by decide +kernel
theorem dX10_step_210 : decode (mcode mX10_step) 210 = .ok (.iconst 4, 1) := by decide +kernel
theorem dX10_step_211 : decode (mcode mX10_step) 211 = .ok (.if_icmp .gt 7, 3) := by decide +kernel
theorem dX10_step_214 : decode (mcode mX10_step) 214 = .ok (.iconst 2, 1) := by decide +kernel
theorem dX10_step_215 : decode (mcode mX10_step) 215 = .ok (.goto 4, 3) := by decide +kernel
theorem dX10_step_218 : decode (mcode mX10_step) 218 = .ok (.iconst 4, 1) := by decide +kernel
theorem dX10_step_219 : decode (mcode mX10_step) 219 = .ok (.putfield 28, 3) := by decide +kernel
theorem dX10_step_222 : decode (mcode mX10_step) 222 = .ok (.goto 36, 3) := by decide +kernel
theorem dX10_step_225 : decode (mcode mX10_step) 225 = .ok (.aload_n 0, 1) := by decide +kernel
theorem dX10_step_226 : decode (mcode mX10_step) 226 = .ok (.aload_n 0, 1) := by decide +kernel
theorem dX10_step_227 : decode (mcode mX10_step) 227 = .ok (.getfield 9, 3) := by decide +kernel
theorem dX10_step_230 : decode (mcode mX10_step) 230 = .ok (.aload_n 0, 1) := by decide +kernel
theorem dX10_step_231 : decode (mcode mX10_step) 231 = .ok (.getfield 25, 3) := by decide +kernel
theorem dX10_step_234 : decode (mcode mX10_step) 234 = .ok (.baload, 1) := by decide +kernel
theorem dX10_step_235 : decode (mcode mX10_step) 235 = .ok (.bipush 59, 2) := by decide +kernel
theorem dX10_step_237 : decode (mcode mX10_step) 237 = .ok (.if_icmp .ne 7, 3) := by decide +kernel
theorem dX10_step_240 : decode (mcode mX10_step) 240 = .ok (.iconst 3, 1) := by decide +kernel
theorem dX10_step_241 : decode (mcode mX10_step) 241 = .ok (.goto 4, 3) := by decide +kernel
theorem dX10_step_244 : decode (mcode mX10_step) 244 = .ok (.iconst 4, 1) := by decide +kernel
theorem dX10_step_245 : decode (mcode mX10_step) 245 = .ok (.putfield 28, 3) := by decide +kernel
theorem dX10_step_248 : decode (mcode mX10_step) 248 = .ok (.aload_n 0, 1) := by decide +kernel
theorem dX10_step_249 : decode (mcode mX10_step) 249 = .ok (.aload_n 0, 1) := by decide +kernel
theorem dX10_step_250 : decode (mcode mX10_step) 250 = .ok (.getfield 25, 3) := by decide +kernel
theorem dX10_step_253 : decode (mcode mX10_step) 253 = .ok (.iconst 1, 1) := by decide +kernel
theorem dX10_step_254 : decode (mcode mX10_step) 254 = .ok (.iadd, 1) := by decide +kernel
theorem dX10_step_255 : decode (mcode mX10_step) 255 = .ok (.putfield 19, 3) := by decide +kernel
theorem dX10_step_258 : decode (mcode mX10_step) 258 = .ok (.return_, 1) := by decide +kernel
theorem dX10_rewind_0 : decode (mcode mX10_rewind) 0 = .ok (.aload_n 0, 1) := by decide +kernel
theorem dX10_rewind_1 : decode (mcode mX10_rewind) 1 = .ok (.iconst 0, 1) := by decide +kernel
theorem dX10_rewind_2 : decode (mcode mX10_rewind) 2 = .ok (.putfield 19, 3) := by decide +kernel
theorem dX10_rewind_5 : decode (mcode mX10_rewind) 5 = .ok (.aload_n 0, 1) := by decide +kernel
theorem dX10_rewind_6 : decode (mcode mX10_rewind) 6 = .ok (.invokevirtual 22, 3) := by decide +kernel
theorem dX10_rewind_9 : decode (mcode mX10_rewind) 9 = .ok (.return_, 1) := by decide +kernel
theorem dX10_isWord_0 : decode (mcode mX10_isWord) 0 = .ok (.aload_n 0, 1) := by decide +kernel
theorem dX10_isWord_1 : decode (mcode mX10_isWord) 1 = .ok (.getfield 28, 3) := by decide +kernel
theorem dX10_isWord_4 : decode (mcode mX10_isWord) 4 = .ok (.iconst 1, 1) := by decide +kernel
theorem dX10_isWord_5 : decode (mcode mX10_isWord) 5 = .ok (.if_icmp .ne 14, 3) := by decide +kernel
theorem dX10_isWord_8 : decode (mcode mX10_isWord) 8 = .ok (.aload_n 0, 1) := by decide +kernel
theorem dX10_isWord_9 : decode (mcode mX10_isWord) 9 = .ok (.invokevirtual 38, 3) := by decide +kernel
theorem dX10_isWord_12 : decode (mcode mX10_isWord) 12 = .ok (.aload_n 1, 1) := by decide +kernel
theorem dX10_isWord_13 : decode (mcode mX10_isWord) 13 = .ok (.invokevirtual 42, 3) := by decide +kernel
theorem dX10_isWord_16 : decode (mcode mX10_isWord) 16 = .ok (.if_icmp .eq 5, 3) := by decide +kernel
theorem dX10_isWord_19 : decode (mcode mX10_isWord) 19 = .ok (.iconst 0, 1) := by decide +kernel
theorem dX10_isWord_20 : decode (mcode mX10_isWord) 20 = .ok (.ireturn, 1) := by decide +kernel
theorem dX10_isWord_21 : decode (mcode mX10_isWord) 21 = .ok (.iconst 0, 1) := by decide +kernel
theorem dX10_isWord_22 : decode (mcode mX10_isWord) 22 = .ok (.istore_n 2, 1) := by decide +kernel
theorem dX10_isWord_23 : decode (mcode mX10_isWord) 23 = .ok (.iload_n 2, 1) := by decide +kernel
theorem dX10_isWord_24 : decode (mcode mX10_isWord) 24 = .ok (.aload_n 1, 1) := by decide +kernel
theorem dX10_isWord_25 : decode (mcode mX10_isWord) 25 = .ok (.invokevirtual 42, 3) := by decide +kernel
theorem dX10_isWord_28 : decode (mcode mX10_isWord) 28 = .ok (.if_icmp .ge 27, 3) := by decide +kernel
theorem dX10_isWord_31 : decode (mcode mX10_isWord) 31 = .ok (.aload_n 0, 1) := by decide +kernel
theorem dX10_isWord_32 : decode (mcode mX10_isWord) 32 = .ok (.iload_n 2, 1) := by decide +kernel
theorem dX10_isWord_33 : decode (mcode mX10_isWord) 33 = .ok (.invokevirtual 46, 3) := by decide +kernel
theorem dX10_isWord_36 : decode (mcode mX10_isWord) 36 = .ok (.aload_n 1, 1) := by decide +kernel
theorem dX10_isWord_37 : decode (mcode mX10_isWord) 37 = .ok (.iload_n 2, 1) := by decide +kernel
theorem dX10_isWord_38 : decode (mcode mX10_isWord) 38 = .ok (.invokevirtual 50, 3) := by decide +kernel
theorem dX10_isWord_41 : decode (mcode mX10_isWord) 41 = .ok (.bipush 97, 2) := by decide +kernel
theorem dX10_isWord_43 : decode (mcode mX10_isWord) 43 = .ok (.isub, 1) := by decide +kernel
theorem dX10_isWord_44 : decode (mcode mX10_isWord) 44 = .ok (.if_icmp .eq 5, 3) := by decide +kernel
theorem dX10_isWord_47 : decode (mcode mX10_isWord) 47 = .ok (.iconst 0, 1) := by decide +kernel
theorem dX10_isWord_48 : decode (mcode mX10_isWord) 48 = .ok (.ireturn, 1) := by decide +kernel
theorem dX10_isWord_49 : decode (mcode mX10_isWord) 49 = .ok (.iinc 2 1, 3) := by decide +kernel
theorem dX10_isWord_52 : decode (mcode mX10_isWord) 52 = .ok (.goto (-29), 3) := by decide +kernel
theorem dX10_isWord_55 : decode (mcode mX10_isWord) 55 = .ok (.iconst 1, 1) := by decide +kernel
theorem dX10_isWord_56 : decode (mcode mX10_isWord) 56 = .ok (.ireturn, 1) := by decide +kernel

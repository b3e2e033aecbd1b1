theorem dX7_addPartings_0 : decode (mcode mX7_addPartings) 0 = .ok (.aload_n 0, 1) := by decide +kernel
theorem dX7_addPartings_1 : decode (mcode mX7_addPartings) 1 = .ok (.getfield 18, 3) := by decide +kernel
theorem dX7_addPartings_4 : decode (mcode mX7_addPartings) 4 = .ok (.iload_n 2, 1) := by decide +kernel
theorem dX7_addPartings_5 : decode (mcode mX7_addPartings) 5 = .ok (.baload, 1) := by decide +kernel
theorem dX7_addPartings_6 : decode (mcode mX7_addPartings) 6 = .ok (.iconst 1, 1) := by decide +kernel
theorem dX7_addPartings_7 : decode (mcode mX7_addPartings) 7 = .ok (.if_icmp .eq 4, 3) := by decide +kernel
theorem dX7_addPartings_10 : decode (mcode mX7_addPartings) 10 = .ok (.return_, 1) := by decide +kernel
theorem dX7_addPartings_11 : decode (mcode mX7_addPartings) 11 = .ok (.iload_n 1, 1) := by decide +kernel
theorem dX7_addPartings_12 : decode (mcode mX7_addPartings) 12 = .ok (.iload_n 2, 1) := by decide +kernel
theorem dX7_addPartings_13 : decode (mcode mX7_addPartings) 13 = .ok (.iconst (-1), 1) := by decide +kernel
theorem dX7_addPartings_14 : decode (mcode mX7_addPartings) 14 = .ok (.ixor, 1) := by decide +kernel
theorem dX7_addPartings_15 : decode (mcode mX7_addPartings) 15 = .ok (.iand, 1) := by decide +kernel
theorem dX7_addPartings_16 : decode (mcode mX7_addPartings) 16 = .ok (.istore_n 3, 1) := by decide +kernel
theorem dX7_addPartings_17 : decode (mcode mX7_addPartings) 17 = .ok (.aload_n 0, 1) := by decide +kernel
theorem dX7_addPartings_18 : decode (mcode mX7_addPartings) 18 = .ok (.getfield 18, 3) := by decide +kernel
theorem dX7_addPartings_21 : decode (mcode mX7_addPartings) 21 = .ok (.iload_n 3, 1) := by decide +kernel
theorem dX7_addPartings_22 : decode (mcode mX7_addPartings) 22 = .ok (.baload, 1) := by decide +kernel
theorem dX7_addPartings_23 : decode (mcode mX7_addPartings) 23 = .ok (.iconst 1, 1) := by decide +kernel
theorem dX7_addPartings_24 : decode (mcode mX7_addPartings) 24 = .ok (.iadd, 1) := by decide +kernel
theorem dX7_addPartings_25 : decode (mcode mX7_addPartings) 25 = .ok (.istore 4, 2) := by decide +kernel
theorem dX7_addPartings_27 : decode (mcode mX7_addPartings) 27 = .ok (.iload 4, 2) := by decide +kernel
theorem dX7_addPartings_29 : decode (mcode mX7_addPartings) 29 = .ok (.aload_n 0, 1) := by decide +kernel
theorem dX7_addPartings_30 : decode (mcode mX7_addPartings) 30 = .ok (.getfield 18, 3) := by decide +kernel
theorem dX7_addPartings_33 : decode (mcode mX7_addPartings) 33 = .ok (.iload_n 1, 1) := by decide +kernel
theorem dX7_addPartings_34 : decode (mcode mX7_addPartings) 34 = .ok (.baload, 1) := by decide +kernel
theorem dX7_addPartings_35 : decode (mcode mX7_addPartings) 35 = .ok (.if_icmp .ge 19, 3) := by decide +kernel
theorem dX7_addPartings_38 : decode (mcode mX7_addPartings) 38 = .ok (.aload_n 0, 1) := by decide +kernel
theorem dX7_addPartings_39 : decode (mcode mX7_addPartings) 39 = .ok (.getfield 18, 3) := by decide +kernel
theorem dX7_addPartings_42 : decode (mcode mX7_addPartings) 42 = .ok (.iload_n 1, 1) := by decide +kernel
theorem dX7_addPartings_43 : decode (mcode mX7_addPartings) 43 = .ok (.iload 4, 2) := by decide +kernel
theorem dX7_addPartings_45 : decode (mcode mX7_addPartings) 45 = .ok (.i2b, 1) := by decide +kernel
theorem dX7_addPartings_46 : decode (mcode mX7_addPartings) 46 = .ok (.bastore, 1) := by decide +kernel
theorem dX7_addPartings_47 : decode (mcode mX7_addPartings) 47 = .ok (.aload_n 0, 1) := by decide +kernel
theorem dX7_addPartings_48 : decode (mcode mX7_addPartings) 48 = .ok (.getfield 22, 3) := by decide +kernel
theorem dX7_addPartings_51 : decode (mcode mX7_addPartings) 51 = .ok (.iload_n 1, 1) := by decide +kernel
theorem dX7_addPartings_52 : decode (mcode mX7_addPartings) 52 = .ok (.iconst 0, 1) := by decide +kernel
theorem dX7_addPartings_53 : decode (mcode mX7_addPartings) 53 = .ok (.iastore, 1) := by decide +kernel
theorem dX7_addPartings_54 : decode (mcode mX7_addPartings) 54 = .ok (.iload 4, 2) := by decide +kernel
theorem dX7_addPartings_56 : decode (mcode mX7_addPartings) 56 = .ok (.aload_n 0, 1) := by decide +kernel
theorem dX7_addPartings_57 : decode (mcode mX7_addPartings) 57 = .ok (.getfield 18, 3) := by decide +kernel
theorem dX7_addPartings_60 : decode (mcode mX7_addPartings) 60 = .ok (.iload_n 1, 1) := by decide +kernel
theorem dX7_addPartings_61 : decode (mcode mX7_addPartings) 61 = .ok (.baload, 1) := by decide +kernel
theorem dX7_addPartings_62 : decode (mcode mX7_addPartings) 62 = .ok (.if_icmp .ne 18, 3) := by decide +kernel
theorem dX7_addPartings_65 : decode (mcode mX7_addPartings) 65 = .ok (.aload_n 0, 1) := by decide +kernel
theorem dX7_addPartings_66 : decode (mcode mX7_addPartings) 66 = .ok (.getfield 22, 3) := by decide +kernel
theorem dX7_addPartings_69 : decode (mcode mX7_addPartings) 69 = .ok (.iload_n 1, 1) := by decide +kernel
theorem dX7_addPartings_70 : decode (mcode mX7_addPartings) 70 = .ok (.dup2, 1) := by decide +kernel
theorem dX7_addPartings_71 : decode (mcode mX7_addPartings) 71 = .ok (.iaload, 1) := by decide +kernel
theorem dX7_addPartings_72 : decode (mcode mX7_addPartings) 72 = .ok (.aload_n 0, 1) := by decide +kernel
theorem dX7_addPartings_73 : decode (mcode mX7_addPartings) 73 = .ok (.getfield 22, 3) := by decide +kernel
theorem dX7_addPartings_76 : decode (mcode mX7_addPartings) 76 = .ok (.iload_n 3, 1) := by decide +kernel
theorem dX7_addPartings_77 : decode (mcode mX7_addPartings) 77 = .ok (.iaload, 1) := by decide +kernel
theorem dX7_addPartings_78 : decode (mcode mX7_addPartings) 78 = .ok (.iadd, 1) := by decide +kernel
theorem dX7_addPartings_79 : decode (mcode mX7_addPartings) 79 = .ok (.iastore, 1) := by decide +kernel
theorem dX7_addPartings_80 : decode (mcode mX7_addPartings) 80 = .ok (.return_, 1) := by decide +kernel
theorem dX7_all_0 : decode (mcode mX7_all) 0 = .ok (.iconst 1, 1) := by decide +kernel
theorem dX7_all_1 : decode (mcode mX7_all) 1 = .ok (.aload_n 0, 1) := by decide +kernel
theorem dX7_all_2 : decode (mcode mX7_all) 2 = .ok (.getfield 29, 3) := by decide +kernel
theorem dX7_all_5 : decode (mcode mX7_all) 5 = .ok (.getfield 40, 3) := by decide +kernel
theorem dX7_all_8 : decode (mcode mX7_all) 8 = .ok (.ishl, 1) := by decide +kernel
theorem dX7_all_9 : decode (mcode mX7_all) 9 = .ok (.iconst 1, 1) := by decide +kernel
theorem dX7_all_10 : decode (mcode mX7_all) 10 = .ok (.isub, 1) := by decide +kernel
theorem dX7_all_11 : decode (mcode mX7_all) 11 = .ok (.ireturn, 1) := by decide +kernel
theorem dX7_leastPerson_0 : decode (mcode mX7_leastPerson) 0 = .ok (.iload_n 1, 1) := by decide +kernel
theorem dX7_leastPerson_1 : decode (mcode mX7_leastPerson) 1 = .ok (.iload_n 1, 1) := by decide +kernel
theorem dX7_leastPerson_2 : decode (mcode mX7_leastPerson) 2 = .ok (.ineg, 1) := by decide +kernel
theorem dX7_leastPerson_3 : decode (mcode mX7_leastPerson) 3 = .ok (.iand, 1) := by decide +kernel
theorem dX7_leastPerson_4 : decode (mcode mX7_leastPerson) 4 = .ok (.istore_n 2, 1) := by decide +kernel
theorem dX7_leastPerson_5 : decode (mcode mX7_leastPerson) 5 = .ok (.iload_n 2, 1) := by decide +kernel
theorem dX7_leastPerson_6 : decode (mcode mX7_leastPerson) 6 = .ok (.istore_n 3, 1) := by decide +kernel
theorem dX7_leastPerson_7 : decode (mcode mX7_leastPerson) 7 = .ok (.iload_n 3, 1) := by decide +kernel
theorem dX7_leastPerson_8 : decode (mcode mX7_leastPerson) 8 = .ok (.iload_n 1, 1) := by decide +kernel
theorem dX7_leastPerson_9 : decode (mcode mX7_leastPerson) 9 = .ok (.if_icmp .ge 68, 3) := by decide +kernel
theorem dX7_leastPerson_12 : decode (mcode mX7_leastPerson) 12 = .ok (.iload_n 3, 1) := by decide +kernel
theorem dX7_leastPerson_13 : decode (mcode mX7_leastPerson) 13 = .ok (.iload_n 2, 1) := by decide +kernel
theorem dX7_leastPerson_14 : decode (mcode mX7_leastPerson) 14 = .ok (.iand, 1) := by decide +kernel
theorem dX7_leastPerson_15 : decode (mcode mX7_leastPerson) 15 = .ok (.ifCond .eq 15, 3) := by decide +kernel
theorem dX7_leastPerson_18 : decode (mcode mX7_leastPerson) 18 = .ok (.iload_n 3, 1) := by decide +kernel
theorem dX7_leastPerson_19 : decode (mcode mX7_leastPerson) 19 = .ok (.iload_n 1, 1) := by decide +kernel
theorem dX7_leastPerson_20 : decode (mcode mX7_leastPerson) 20 = .ok (.iconst (-1), 1) := by decide +kernel
theorem dX7_leastPerson_21 : decode (mcode mX7_leastPerson) 21 = .ok (.ixor, 1) := by decide +kernel
theorem dX7_leastPerson_22 : decode (mcode mX7_leastPerson) 22 = .ok (.iand, 1) := by decide +kernel
theorem dX7_leastPerson_23 : decode (mcode mX7_leastPerson) 23 = .ok (.ifCond .ne 7, 3) := by decide +kernel
theorem dX7_leastPerson_26 : decode (mcode mX7_leastPerson) 26 = .ok (.iconst 1, 1) := by decide +kernel
theorem dX7_leastPerson_27 : decode (mcode mX7_leastPerson) 27 = .ok (.goto 4, 3) := by decide +kernel
theorem dX7_leastPerson_30 : decode (mcode mX7_leastPerson) 30 = .ok (.iconst 0, 1) := by decide +kernel
theorem dX7_leastPerson_31 : decode (mcode mX7_leastPerson) 31 = .ok (.istore 4, 2) := by decide +kernel
theorem dX7_leastPerson_33 : decode (mcode mX7_leastPerson) 33 = .ok (.iload 4, 2) := by decide +kernel
theorem dX7_leastPerson_35 : decode (mcode mX7_leastPerson) 35 = .ok (.ifCond .eq 36, 3) := by decide +kernel
theorem dX7_leastPerson_38 : decode (mcode mX7_leastPerson) 38 = .ok (.aload_n 0, 1) := by decide +kernel
theorem dX7_leastPerson_39 : decode (mcode mX7_leastPerson) 39 = .ok (.getfield 18, 3) := by decide +kernel
theorem dX7_leastPerson_42 : decode (mcode mX7_leastPerson) 42 = .ok (.iload_n 3, 1) := by decide +kernel
theorem dX7_leastPerson_43 : decode (mcode mX7_leastPerson) 43 = .ok (.baload, 1) := by decide +kernel
theorem dX7_leastPerson_44 : decode (mcode mX7_leastPerson) 44 = .ok (.iconst 1, 1) := by decide +kernel
theorem dX7_leastPerson_45 : decode (mcode mX7_leastPerson) 45 = .ok (.if_icmp .ne 26, 3) := by decide +kernel
theorem dX7_leastPerson_48 : decode (mcode mX7_leastPerson) 48 = .ok (.aload_n 0, 1) := by decide +kernel
theorem dX7_leastPerson_49 : decode (mcode mX7_leastPerson) 49 = .ok (.getfield 18, 3) := by decide +kernel
theorem dX7_leastPerson_52 : decode (mcode mX7_leastPerson) 52 = .ok (.iload_n 1, 1) := by decide +kernel
theorem dX7_leastPerson_53 : decode (mcode mX7_leastPerson) 53 = .ok (.iload_n 3, 1) := by decide +kernel
theorem dX7_leastPerson_54 : decode (mcode mX7_leastPerson) 54 = .ok (.iconst (-1), 1) := by decide +kernel
theorem dX7_leastPerson_55 : decode (mcode mX7_leastPerson) 55 = .ok (.ixor, 1) := by decide +kernel
theorem dX7_leastPerson_56 : decode (mcode mX7_leastPerson) 56 = .ok (.iand, 1) := by decide +kernel
theorem dX7_leastPerson_57 : decode (mcode mX7_leastPerson) 57 = .ok (.baload, 1) := by decide +kernel
theorem dX7_leastPerson_58 : decode (mcode mX7_leastPerson) 58 = .ok (.iconst 1, 1) := by decide +kernel
theorem dX7_leastPerson_59 : decode (mcode mX7_leastPerson) 59 = .ok (.iadd, 1) := by decide +kernel
theorem dX7_leastPerson_60 : decode (mcode mX7_leastPerson) 60 = .ok (.aload_n 0, 1) := by decide +kernel
theorem dX7_leastPerson_61 : decode (mcode mX7_leastPerson) 61 = .ok (.getfield 18, 3) := by decide +kernel
theorem dX7_leastPerson_64 : decode (mcode mX7_leastPerson) 64 = .ok (.iload_n 1, 1) := by decide +kernel
theorem dX7_leastPerson_65 : decode (mcode mX7_leastPerson) 65 = .ok (.baload, 1) := by decide +kernel
theorem dX7_leastPerson_66 : decode (mcode mX7_leastPerson) 66 = .ok (.if_icmp .ne 5, 3) := by decide +kernel
theorem dX7_leastPerson_69 : decode (mcode mX7_leastPerson) 69 = .ok (.iload_n 3, 1) := by decide +kernel
theorem dX7_leastPerson_70 : decode (mcode mX7_leastPerson) 70 = .ok (.ireturn, 1) := by decide +kernel
theorem dX7_leastPerson_71 : decode (mcode mX7_leastPerson) 71 = .ok (.iinc 3 1, 3) := by decide +kernel
theorem dX7_leastPerson_74 : decode (mcode mX7_leastPerson) 74 = .ok (.goto (-67), 3) := by decide +kernel
theorem dX7_leastPerson_77 : decode (mcode mX7_leastPerson) 77 = .ok (.iload_n 1, 1) := by decide +kernel
theorem dX7_leastPerson_78 : decode (mcode mX7_leastPerson) 78 = .ok (.ireturn, 1) := by decide +kernel
theorem dX7_partSet_0 : decode (mcode mX7_partSet) 0 = .ok (.iload_n 1, 1) := by decide +kernel
theorem dX7_partSet_1 : decode (mcode mX7_partSet) 1 = .ok (.iload_n 1, 1) := by decide +kernel
theorem dX7_partSet_2 : decode (mcode mX7_partSet) 2 = .ok (.ineg, 1) := by decide +kernel
theorem dX7_partSet_3 : decode (mcode mX7_partSet) 3 = .ok (.iand, 1) := by decide +kernel
theorem dX7_partSet_4 : decode (mcode mX7_partSet) 4 = .ok (.istore_n 2, 1) := by decide +kernel
theorem dX7_partSet_5 : decode (mcode mX7_partSet) 5 = .ok (.iload_n 1, 1) := by decide +kernel
theorem dX7_partSet_6 : decode (mcode mX7_partSet) 6 = .ok (.iload_n 2, 1) := by decide +kernel
theorem dX7_partSet_7 : decode (mcode mX7_partSet) 7 = .ok (.iconst (-1), 1) := by decide +kernel
theorem dX7_partSet_8 : decode (mcode mX7_partSet) 8 = .ok (.ixor, 1) := by decide +kernel
theorem dX7_partSet_9 : decode (mcode mX7_partSet) 9 = .ok (.iand, 1) := by decide +kernel
theorem dX7_partSet_10 : decode (mcode mX7_partSet) 10 = .ok (.istore_n 3, 1) := by decide +kernel
theorem dX7_partSet_11 : decode (mcode mX7_partSet) 11 = .ok (.iload_n 3, 1) := by decide +kernel
theorem dX7_partSet_12 : decode (mcode mX7_partSet) 12 = .ok (.aload_n 0, 1) := by decide +kernel
theorem dX7_partSet_13 : decode (mcode mX7_partSet) 13 = .ok (.getfield 9, 3) := by decide +kernel
theorem dX7_partSet_16 : decode (mcode mX7_partSet) 16 = .ok (.iload_n 2, 1) := by decide +kernel
theorem dX7_partSet_17 : decode (mcode mX7_partSet) 17 = .ok (.iconst 1, 1) := by decide +kernel
theorem dX7_partSet_18 : decode (mcode mX7_partSet) 18 = .ok (.isub, 1) := by decide +kernel
theorem dX7_partSet_19 : decode (mcode mX7_partSet) 19 = .ok (.invokestatic 46, 3) := by decide +kernel
theorem dX7_partSet_22 : decode (mcode mX7_partSet) 22 = .ok (.iaload, 1) := by decide +kernel
theorem dX7_partSet_23 : decode (mcode mX7_partSet) 23 = .ok (.iand, 1) := by decide +kernel
theorem dX7_partSet_24 : decode (mcode mX7_partSet) 24 = .ok (.istore 4, 2) := by decide +kernel
theorem dX7_partSet_26 : decode (mcode mX7_partSet) 26 = .ok (.iload 4, 2) := by decide +kernel
theorem dX7_partSet_28 : decode (mcode mX7_partSet) 28 = .ok (.iload_n 3, 1) := by decide +kernel
theorem dX7_partSet_29 : decode (mcode mX7_partSet) 29 = .ok (.if_icmp .ne 28, 3) := by decide +kernel
theorem dX7_partSet_32 : decode (mcode mX7_partSet) 32 = .ok (.aload_n 0, 1) := by decide +kernel
theorem dX7_partSet_33 : decode (mcode mX7_partSet) 33 = .ok (.getfield 18, 3) := by decide +kernel
theorem dX7_partSet_36 : decode (mcode mX7_partSet) 36 = .ok (.iload_n 3, 1) := by decide +kernel
theorem dX7_partSet_37 : decode (mcode mX7_partSet) 37 = .ok (.baload, 1) := by decide +kernel
theorem dX7_partSet_38 : decode (mcode mX7_partSet) 38 = .ok (.iconst 1, 1) := by decide +kernel
theorem dX7_partSet_39 : decode (mcode mX7_partSet) 39 = .ok (.if_icmp .gt 18, 3) := by decide +kernel
theorem dX7_partSet_42 : decode (mcode mX7_partSet) 42 = .ok (.aload_n 0, 1) := by decide +kernel
theorem dX7_partSet_43 : decode (mcode mX7_partSet) 43 = .ok (.getfield 18, 3) := by decide +kernel
theorem dX7_partSet_46 : decode (mcode mX7_partSet) 46 = .ok (.iload_n 1, 1) := by decide +kernel
theorem dX7_partSet_47 : decode (mcode mX7_partSet) 47 = .ok (.iconst 1, 1) := by decide +kernel
theorem dX7_partSet_48 : decode (mcode mX7_partSet) 48 = .ok (.bastore, 1) := by decide +kernel
theorem dX7_partSet_49 : decode (mcode mX7_partSet) 49 = .ok (.aload_n 0, 1) := by decide +kernel
theorem dX7_partSet_50 : decode (mcode mX7_partSet) 50 = .ok (.getfield 22, 3) := by decide +kernel
theorem dX7_partSet_53 : decode (mcode mX7_partSet) 53 = .ok (.iload_n 1, 1) := by decide +kernel
theorem dX7_partSet_54 : decode (mcode mX7_partSet) 54 = .ok (.iconst 1, 1) := by decide +kernel
theorem dX7_partSet_55 : decode (mcode mX7_partSet) 55 = .ok (.iastore, 1) := by decide +kernel
theorem dX7_partSet_56 : decode (mcode mX7_partSet) 56 = .ok (.return_, 1) := by decide +kernel
theorem dX7_partSet_57 : decode (mcode mX7_partSet) 57 = .ok (.aload_n 0, 1) := by decide +kernel
theorem dX7_partSet_58 : decode (mcode mX7_partSet) 58 = .ok (.getfield 18, 3) := by decide +kernel
theorem dX7_partSet_61 : decode (mcode mX7_partSet) 61 = .ok (.iload_n 1, 1) := by decide +kernel
theorem dX7_partSet_62 : decode (mcode mX7_partSet) 62 = .ok (.bipush 13, 2) := by decide +kernel
theorem dX7_partSet_64 : decode (mcode mX7_partSet) 64 = .ok (.bastore, 1) := by decide +kernel
theorem dX7_partSet_65 : decode (mcode mX7_partSet) 65 = .ok (.aload_n 0, 1) := by decide +kernel
theorem dX7_partSet_66 : decode (mcode mX7_partSet) 66 = .ok (.iload_n 1, 1) := by decide +kernel
theorem dX7_partSet_67 : decode (mcode mX7_partSet) 67 = .ok (.iload_n 2, 1) := by decide +kernel
theorem dX7_partSet_68 : decode (mcode mX7_partSet) 68 = .ok (.invokevirtual 75, 3) := by decide +kernel
theorem dX7_partSet_71 : decode (mcode mX7_partSet) 71 = .ok (.iload 4, 2) := by decide +kernel
theorem dX7_partSet_73 : decode (mcode mX7_partSet) 73 = .ok (.istore 5, 2) := by decide +kernel
theorem dX7_partSet_75 : decode (mcode mX7_partSet) 75 = .ok (.iload 5, 2) := by decide +kernel
theorem dX7_partSet_77 : decode (mcode mX7_partSet) 77 = .ok (.ifCond .le 24, 3) := by decide +kernel
theorem dX7_partSet_80 : decode (mcode mX7_partSet) 80 = .ok (.aload_n 0, 1) := by decide +kernel
theorem dX7_partSet_81 : decode (mcode mX7_partSet) 81 = .ok (.iload_n 1, 1) := by decide +kernel
theorem dX7_partSet_82 : decode (mcode mX7_partSet) 82 = .ok (.iload_n 2, 1) := by decide +kernel
theorem dX7_partSet_83 : decode (mcode mX7_partSet) 83 = .ok (.iload 5, 2) := by decide +kernel
theorem dX7_partSet_85 : decode (mcode mX7_partSet) 85 = .ok (.ior, 1) := by decide +kernel
theorem dX7_partSet_86 : decode (mcode mX7_partSet) 86 = .ok (.invokevirtual 75, 3) := by decide +kernel
theorem dX7_partSet_89 : decode (mcode mX7_partSet) 89 = .ok (.iload 5, 2) := by decide +kernel
theorem dX7_partSet_91 : decode (mcode mX7_partSet) 91 = .ok (.iconst 1, 1) := by decide +kernel
theorem dX7_partSet_92 : decode (mcode mX7_partSet) 92 = .ok (.isub, 1) := by decide +kernel
theorem dX7_partSet_93 : decode (mcode mX7_partSet) 93 = .ok (.iload 4, 2) := by decide +kernel
theorem dX7_partSet_95 : decode (mcode mX7_partSet) 95 = .ok (.iand, 1) := by decide +kernel
theorem dX7_partSet_96 : decode (mcode mX7_partSet) 96 = .ok (.istore 5, 2) := by decide +kernel
theorem dX7_partSet_98 : decode (mcode mX7_partSet) 98 = .ok (.goto (-23), 3) := by decide +kernel
theorem dX7_partSet_101 : decode (mcode mX7_partSet) 101 = .ok (.return_, 1) := by decide +kernel
theorem dX7_pickFirst_0 : decode (mcode mX7_pickFirst) 0 = .ok (.aload_n 0, 1) := by decide +kernel
theorem dX7_pickFirst_1 : decode (mcode mX7_pickFirst) 1 = .ok (.invokevirtual 36, 3) := by decide +kernel
theorem dX7_pickFirst_4 : decode (mcode mX7_pickFirst) 4 = .ok (.istore_n 1, 1) := by decide +kernel
theorem dX7_pickFirst_5 : decode (mcode mX7_pickFirst) 5 = .ok (.iconst 0, 1) := by decide +kernel
theorem dX7_pickFirst_6 : decode (mcode mX7_pickFirst) 6 = .ok (.istore_n 2, 1) := by decide +kernel
theorem dX7_pickFirst_7 : decode (mcode mX7_pickFirst) 7 = .ok (.iload_n 2, 1) := by decide +kernel
theorem dX7_pickFirst_8 : decode (mcode mX7_pickFirst) 8 = .ok (.bipush 12, 2) := by decide +kernel
theorem dX7_pickFirst_10 : decode (mcode mX7_pickFirst) 10 = .ok (.if_icmp .ge 64, 3) := by decide +kernel
theorem dX7_pickFirst_13 : decode (mcode mX7_pickFirst) 13 = .ok (.iload_n 1, 1) := by decide +kernel
theorem dX7_pickFirst_14 : decode (mcode mX7_pickFirst) 14 = .ok (.ifCond .eq 60, 3) := by decide +kernel
theorem dX7_pickFirst_17 : decode (mcode mX7_pickFirst) 17 = .ok (.aload_n 0, 1) := by decide +kernel
theorem dX7_pickFirst_18 : decode (mcode mX7_pickFirst) 18 = .ok (.iload_n 1, 1) := by decide +kernel
theorem dX7_pickFirst_19 : decode (mcode mX7_pickFirst) 19 = .ok (.invokevirtual 79, 3) := by decide +kernel
theorem dX7_pickFirst_22 : decode (mcode mX7_pickFirst) 22 = .ok (.istore_n 3, 1) := by decide +kernel
theorem dX7_pickFirst_23 : decode (mcode mX7_pickFirst) 23 = .ok (.iconst 0, 1) := by decide +kernel
theorem dX7_pickFirst_24 : decode (mcode mX7_pickFirst) 24 = .ok (.istore 4, 2) := by decide +kernel
theorem dX7_pickFirst_26 : decode (mcode mX7_pickFirst) 26 = .ok (.iload 4, 2) := by decide +kernel
theorem dX7_pickFirst_28 : decode (mcode mX7_pickFirst) 28 = .ok (.aload_n 0, 1) := by decide +kernel
theorem dX7_pickFirst_29 : decode (mcode mX7_pickFirst) 29 = .ok (.getfield 29, 3) := by decide +kernel
theorem dX7_pickFirst_32 : decode (mcode mX7_pickFirst) 32 = .ok (.getfield 40, 3) := by decide +kernel
theorem dX7_pickFirst_35 : decode (mcode mX7_pickFirst) 35 = .ok (.if_icmp .ge 27, 3) := by decide +kernel
theorem dX7_pickFirst_38 : decode (mcode mX7_pickFirst) 38 = .ok (.iload_n 3, 1) := by decide +kernel
theorem dX7_pickFirst_39 : decode (mcode mX7_pickFirst) 39 = .ok (.iload 4, 2) := by decide +kernel
theorem dX7_pickFirst_41 : decode (mcode mX7_pickFirst) 41 = .ok (.ishr, 1) := by decide +kernel
theorem dX7_pickFirst_42 : decode (mcode mX7_pickFirst) 42 = .ok (.iconst 1, 1) := by decide +kernel
theorem dX7_pickFirst_43 : decode (mcode mX7_pickFirst) 43 = .ok (.iand, 1) := by decide +kernel
theorem dX7_pickFirst_44 : decode (mcode mX7_pickFirst) 44 = .ok (.iconst 1, 1) := by decide +kernel
theorem dX7_pickFirst_45 : decode (mcode mX7_pickFirst) 45 = .ok (.if_icmp .ne 11, 3) := by decide +kernel
theorem dX7_pickFirst_48 : decode (mcode mX7_pickFirst) 48 = .ok (.aload_n 0, 1) := by decide +kernel
theorem dX7_pickFirst_49 : decode (mcode mX7_pickFirst) 49 = .ok (.getfield 15, 3) := by decide +kernel
theorem dX7_pickFirst_52 : decode (mcode mX7_pickFirst) 52 = .ok (.iload 4, 2) := by decide +kernel
theorem dX7_pickFirst_54 : decode (mcode mX7_pickFirst) 54 = .ok (.iload_n 3, 1) := by decide +kernel
theorem dX7_pickFirst_55 : decode (mcode mX7_pickFirst) 55 = .ok (.iastore, 1) := by decide +kernel
theorem dX7_pickFirst_56 : decode (mcode mX7_pickFirst) 56 = .ok (.iinc 4 1, 3) := by decide +kernel
theorem dX7_pickFirst_59 : decode (mcode mX7_pickFirst) 59 = .ok (.goto (-33), 3) := by decide +kernel
theorem dX7_pickFirst_62 : decode (mcode mX7_pickFirst) 62 = .ok (.iload_n 1, 1) := by decide +kernel
theorem dX7_pickFirst_63 : decode (mcode mX7_pickFirst) 63 = .ok (.iload_n 3, 1) := by decide +kernel
theorem dX7_pickFirst_64 : decode (mcode mX7_pickFirst) 64 = .ok (.iconst (-1), 1) := by decide +kernel
theorem dX7_pickFirst_65 : decode (mcode mX7_pickFirst) 65 = .ok (.ixor, 1) := by decide +kernel
theorem dX7_pickFirst_66 : decode (mcode mX7_pickFirst) 66 = .ok (.iand, 1) := by decide +kernel
theorem dX7_pickFirst_67 : decode (mcode mX7_pickFirst) 67 = .ok (.istore_n 1, 1) := by decide +kernel
theorem dX7_pickFirst_68 : decode (mcode mX7_pickFirst) 68 = .ok (.iinc 2 1, 3) := by decide +kernel
theorem dX7_pickFirst_71 : decode (mcode mX7_pickFirst) 71 = .ok (.goto (-64), 3) := by decide +kernel
theorem dX7_pickFirst_74 : decode (mcode mX7_pickFirst) 74 = .ok (.return_, 1) := by decide +kernel
theorem dX7_rivalsWith_0 : decode (mcode mX7_rivalsWith) 0 = .ok (.aload_n 0, 1) := by decide +kernel
theorem dX7_rivalsWith_1 : decode (mcode mX7_rivalsWith) 1 = .ok (.invokevirtual 36, 3) := by decide +kernel
theorem dX7_rivalsWith_4 : decode (mcode mX7_rivalsWith) 4 = .ok (.iload_n 1, 1) := by decide +kernel
theorem dX7_rivalsWith_5 : decode (mcode mX7_rivalsWith) 5 = .ok (.iconst (-1), 1) := by decide +kernel
theorem dX7_rivalsWith_6 : decode (mcode mX7_rivalsWith) 6 = .ok (.ixor, 1) := by decide +kernel
theorem dX7_rivalsWith_7 : decode (mcode mX7_rivalsWith) 7 = .ok (.iand, 1) := by decide +kernel
theorem dX7_rivalsWith_8 : decode (mcode mX7_rivalsWith) 8 = .ok (.istore_n 2, 1) := by decide +kernel
theorem dX7_rivalsWith_9 : decode (mcode mX7_rivalsWith) 9 = .ok (.aload_n 0, 1) := by decide +kernel
theorem dX7_rivalsWith_10 : decode (mcode mX7_rivalsWith) 10 = .ok (.getfield 18, 3) := by decide +kernel
theorem dX7_rivalsWith_13 : decode (mcode mX7_rivalsWith) 13 = .ok (.iload_n 1, 1) := by decide +kernel
theorem dX7_rivalsWith_14 : decode (mcode mX7_rivalsWith) 14 = .ok (.baload, 1) := by decide +kernel
theorem dX7_rivalsWith_15 : decode (mcode mX7_rivalsWith) 15 = .ok (.iconst 1, 1) := by decide +kernel
theorem dX7_rivalsWith_16 : decode (mcode mX7_rivalsWith) 16 = .ok (.if_icmp .ne 32, 3) := by decide +kernel
theorem dX7_rivalsWith_19 : decode (mcode mX7_rivalsWith) 19 = .ok (.aload_n 0, 1) := by decide +kernel
theorem dX7_rivalsWith_20 : decode (mcode mX7_rivalsWith) 20 = .ok (.getfield 18, 3) := by decide +kernel
theorem dX7_rivalsWith_23 : decode (mcode mX7_rivalsWith) 23 = .ok (.iload_n 2, 1) := by decide +kernel
theorem dX7_rivalsWith_24 : decode (mcode mX7_rivalsWith) 24 = .ok (.baload, 1) := by decide +kernel
theorem dX7_rivalsWith_25 : decode (mcode mX7_rivalsWith) 25 = .ok (.iconst 1, 1) := by decide +kernel
theorem dX7_rivalsWith_26 : decode (mcode mX7_rivalsWith) 26 = .ok (.iadd, 1) := by decide +kernel
theorem dX7_rivalsWith_27 : decode (mcode mX7_rivalsWith) 27 = .ok (.aload_n 0, 1) := by decide +kernel
theorem dX7_rivalsWith_28 : decode (mcode mX7_rivalsWith) 28 = .ok (.getfield 18, 3) := by decide +kernel
theorem dX7_rivalsWith_31 : decode (mcode mX7_rivalsWith) 31 = .ok (.aload_n 0, 1) := by decide +kernel
theorem dX7_rivalsWith_32 : decode (mcode mX7_rivalsWith) 32 = .ok (.invokevirtual 36, 3) := by decide +kernel
theorem dX7_rivalsWith_35 : decode (mcode mX7_rivalsWith) 35 = .ok (.baload, 1) := by decide +kernel
theorem dX7_rivalsWith_36 : decode (mcode mX7_rivalsWith) 36 = .ok (.if_icmp .ne 12, 3) := by decide +kernel
theorem dX7_rivalsWith_39 : decode (mcode mX7_rivalsWith) 39 = .ok (.aload_n 0, 1) := by decide +kernel
theorem dX7_rivalsWith_40 : decode (mcode mX7_rivalsWith) 40 = .ok (.getfield 22, 3) := by decide +kernel
theorem dX7_rivalsWith_43 : decode (mcode mX7_rivalsWith) 43 = .ok (.iload_n 2, 1) := by decide +kernel
theorem dX7_rivalsWith_44 : decode (mcode mX7_rivalsWith) 44 = .ok (.iaload, 1) := by decide +kernel
theorem dX7_rivalsWith_45 : decode (mcode mX7_rivalsWith) 45 = .ok (.goto 4, 3) := by decide +kernel
theorem dX7_rivalsWith_48 : decode (mcode mX7_rivalsWith) 48 = .ok (.iconst 0, 1) := by decide +kernel
theorem dX7_rivalsWith_49 : decode (mcode mX7_rivalsWith) 49 = .ok (.ireturn, 1) := by decide +kernel
theorem dX7_findWhoMayBeOne_0 : decode (mcode mX7_findWhoMayBeOne) 0 = .ok (.iconst 0, 1) := by decide +kernel
theorem dX7_findWhoMayBeOne_1 : decode (mcode mX7_findWhoMayBeOne) 1 = .ok (.istore_n 1, 1) := by decide +kernel
theorem dX7_findWhoMayBeOne_2 : decode (mcode mX7_findWhoMayBeOne) 2 = .ok (.iload_n 1, 1) := by decide +kernel
theorem dX7_findWhoMayBeOne_3 : decode (mcode mX7_findWhoMayBeOne) 3 = .ok (.aload_n 0, 1) := by decide +kernel
theorem dX7_findWhoMayBeOne_4 : decode (mcode mX7_findWhoMayBeOne) 4 = .ok (.getfield 29, 3) := by decide +kernel
theorem dX7_findWhoMayBeOne_7 : decode (mcode mX7_findWhoMayBeOne) 7 = .ok (.getfield 40, 3) := by decide +kernel
theorem dX7_findWhoMayBeOne_10 : decode (mcode mX7_findWhoMayBeOne) 10 = .ok (.if_icmp .ge 59, 3) := by decide +kernel
theorem dX7_findWhoMayBeOne_13 : decode (mcode mX7_findWhoMayBeOne) 13 = .ok (.aload_n 0, 1) := by decide +kernel
theorem dX7_findWhoMayBeOne_14 : decode (mcode mX7_findWhoMayBeOne) 14 = .ok (.getfield 9, 3) := by decide +kernel
theorem dX7_findWhoMayBeOne_17 : decode (mcode mX7_findWhoMayBeOne) 17 = .ok (.iload_n 1, 1) := by decide +kernel
theorem dX7_findWhoMayBeOne_18 : decode (mcode mX7_findWhoMayBeOne) 18 = .ok (.iconst 0, 1) := by decide +kernel
theorem dX7_findWhoMayBeOne_19 : decode (mcode mX7_findWhoMayBeOne) 19 = .ok (.iastore, 1) := by decide +kernel
theorem dX7_findWhoMayBeOne_20 : decode (mcode mX7_findWhoMayBeOne) 20 = .ok (.iconst 0, 1) := by decide +kernel
theorem dX7_findWhoMayBeOne_21 : decode (mcode mX7_findWhoMayBeOne) 21 = .ok (.istore_n 2, 1) := by decide +kernel
theorem dX7_findWhoMayBeOne_22 : decode (mcode mX7_findWhoMayBeOne) 22 = .ok (.iload_n 2, 1) := by decide +kernel
theorem dX7_findWhoMayBeOne_23 : decode (mcode mX7_findWhoMayBeOne) 23 = .ok (.aload_n 0, 1) := by decide +kernel
theorem dX7_findWhoMayBeOne_24 : decode (mcode mX7_findWhoMayBeOne) 24 = .ok (.getfield 29, 3) := by decide +kernel
theorem dX7_findWhoMayBeOne_27 : decode (mcode mX7_findWhoMayBeOne) 27 = .ok (.getfield 40, 3) := by decide +kernel
theorem dX7_findWhoMayBeOne_30 : decode (mcode mX7_findWhoMayBeOne) 30 = .ok (.if_icmp .ge 33, 3) := by decide +kernel
theorem dX7_findWhoMayBeOne_33 : decode (mcode mX7_findWhoMayBeOne) 33 = .ok (.aload_n 0, 1) := by decide +kernel
theorem dX7_findWhoMayBeOne_34 : decode (mcode mX7_findWhoMayBeOne) 34 = .ok (.getfield 29, 3) := by decide +kernel
theorem dX7_findWhoMayBeOne_37 : decode (mcode mX7_findWhoMayBeOne) 37 = .ok (.iload_n 1, 1) := by decide +kernel
theorem dX7_findWhoMayBeOne_38 : decode (mcode mX7_findWhoMayBeOne) 38 = .ok (.iload_n 2, 1) := by decide +kernel
theorem dX7_findWhoMayBeOne_39 : decode (mcode mX7_findWhoMayBeOne) 39 = .ok (.invokevirtual 71, 3) := by decide +kernel
theorem dX7_findWhoMayBeOne_42 : decode (mcode mX7_findWhoMayBeOne) 42 = .ok (.ifCond .eq 15, 3) := by decide +kernel
theorem dX7_findWhoMayBeOne_45 : decode (mcode mX7_findWhoMayBeOne) 45 = .ok (.aload_n 0, 1) := by decide +kernel
theorem dX7_findWhoMayBeOne_46 : decode (mcode mX7_findWhoMayBeOne) 46 = .ok (.getfield 9, 3) := by decide +kernel
theorem dX7_findWhoMayBeOne_49 : decode (mcode mX7_findWhoMayBeOne) 49 = .ok (.iload_n 1, 1) := by decide +kernel
theorem dX7_findWhoMayBeOne_50 : decode (mcode mX7_findWhoMayBeOne) 50 = .ok (.dup2, 1) := by decide +kernel
theorem dX7_findWhoMayBeOne_51 : decode (mcode mX7_findWhoMayBeOne) 51 = .ok (.iaload, 1) := by decide +kernel
theorem dX7_findWhoMayBeOne_52 : decode (mcode mX7_findWhoMayBeOne) 52 = .ok (.iconst 1, 1) := by decide +kernel
theorem dX7_findWhoMayBeOne_53 : decode (mcode mX7_findWhoMayBeOne) 53 = .ok (.iload_n 2, 1) := by decide +kernel
theorem dX7_findWhoMayBeOne_54 : decode (mcode mX7_findWhoMayBeOne) 54 = .ok (.ishl, 1) := by decide +kernel
theorem dX7_findWhoMayBeOne_55 : decode (mcode mX7_findWhoMayBeOne) 55 = .ok (.ior, 1) := by decide +kernel
theorem dX7_findWhoMayBeOne_56 : decode (mcode mX7_findWhoMayBeOne) 56 = .ok (.iastore, 1) := by decide +kernel
theorem dX7_findWhoMayBeOne_57 : decode (mcode mX7_findWhoMayBeOne) 57 = .ok (.iinc 2 1, 3) := by decide +kernel
theorem dX7_findWhoMayBeOne_60 : decode (mcode mX7_findWhoMayBeOne) 60 = .ok (.goto (-38), 3) := by decide +kernel
theorem dX7_findWhoMayBeOne_63 : decode (mcode mX7_findWhoMayBeOne) 63 = .ok (.iinc 1 1, 3) := by decide +kernel
theorem dX7_findWhoMayBeOne_66 : decode (mcode mX7_findWhoMayBeOne) 66 = .ok (.goto (-64), 3) := by decide +kernel
theorem dX7_findWhoMayBeOne_69 : decode (mcode mX7_findWhoMayBeOne) 69 = .ok (.return_, 1) := by decide +kernel
theorem dX7_renew_0 : decode (mcode mX7_renew) 0 = .ok (.aload_n 0, 1) := by decide +kernel
theorem dX7_renew_1 : decode (mcode mX7_renew) 1 = .ok (.getfield 25, 3) := by decide +kernel
theorem dX7_renew_4 : decode (mcode mX7_renew) 4 = .ok (.ifCond .ne 4, 3) := by decide +kernel
theorem dX7_renew_7 : decode (mcode mX7_renew) 7 = .ok (.return_, 1) := by decide +kernel
theorem dX7_renew_8 : decode (mcode mX7_renew) 8 = .ok (.aload_n 0, 1) := by decide +kernel
theorem dX7_renew_9 : decode (mcode mX7_renew) 9 = .ok (.iconst 0, 1) := by decide +kernel
theorem dX7_renew_10 : decode (mcode mX7_renew) 10 = .ok (.putfield 25, 3) := by decide +kernel
theorem dX7_renew_13 : decode (mcode mX7_renew) 13 = .ok (.aload_n 0, 1) := by decide +kernel
theorem dX7_renew_14 : decode (mcode mX7_renew) 14 = .ok (.invokevirtual 61, 3) := by decide +kernel
theorem dX7_renew_17 : decode (mcode mX7_renew) 17 = .ok (.aload_n 0, 1) := by decide +kernel
theorem dX7_renew_18 : decode (mcode mX7_renew) 18 = .ok (.getfield 18, 3) := by decide +kernel
theorem dX7_renew_21 : decode (mcode mX7_renew) 21 = .ok (.iconst 0, 1) := by decide +kernel
theorem dX7_renew_22 : decode (mcode mX7_renew) 22 = .ok (.iconst 0, 1) := by decide +kernel
theorem dX7_renew_23 : decode (mcode mX7_renew) 23 = .ok (.bastore, 1) := by decide +kernel
theorem dX7_renew_24 : decode (mcode mX7_renew) 24 = .ok (.aload_n 0, 1) := by decide +kernel
theorem dX7_renew_25 : decode (mcode mX7_renew) 25 = .ok (.getfield 22, 3) := by decide +kernel
theorem dX7_renew_28 : decode (mcode mX7_renew) 28 = .ok (.iconst 0, 1) := by decide +kernel
theorem dX7_renew_29 : decode (mcode mX7_renew) 29 = .ok (.iconst 1, 1) := by decide +kernel
theorem dX7_renew_30 : decode (mcode mX7_renew) 30 = .ok (.iastore, 1) := by decide +kernel
theorem dX7_renew_31 : decode (mcode mX7_renew) 31 = .ok (.iconst 1, 1) := by decide +kernel
theorem dX7_renew_32 : decode (mcode mX7_renew) 32 = .ok (.istore_n 1, 1) := by decide +kernel
theorem dX7_renew_33 : decode (mcode mX7_renew) 33 = .ok (.iload_n 1, 1) := by decide +kernel
theorem dX7_renew_34 : decode (mcode mX7_renew) 34 = .ok (.aload_n 0, 1) := by decide +kernel
theorem dX7_renew_35 : decode (mcode mX7_renew) 35 = .ok (.invokevirtual 36, 3) := by decide +kernel
theorem dX7_renew_38 : decode (mcode mX7_renew) 38 = .ok (.if_icmp .gt 14, 3) := by decide +kernel
theorem dX7_renew_41 : decode (mcode mX7_renew) 41 = .ok (.aload_n 0, 1) := by decide +kernel
theorem dX7_renew_42 : decode (mcode mX7_renew) 42 = .ok (.iload_n 1, 1) := by decide +kernel
theorem dX7_renew_43 : decode (mcode mX7_renew) 43 = .ok (.invokevirtual 64, 3) := by decide +kernel
theorem dX7_renew_46 : decode (mcode mX7_renew) 46 = .ok (.iinc 1 1, 3) := by decide +kernel
theorem dX7_renew_49 : decode (mcode mX7_renew) 49 = .ok (.goto (-16), 3) := by decide +kernel
theorem dX7_renew_52 : decode (mcode mX7_renew) 52 = .ok (.aload_n 0, 1) := by decide +kernel
theorem dX7_renew_53 : decode (mcode mX7_renew) 53 = .ok (.invokevirtual 68, 3) := by decide +kernel
theorem dX7_renew_56 : decode (mcode mX7_renew) 56 = .ok (.return_, 1) := by decide +kernel
theorem dX7_countFewest_0 : decode (mcode mX7_countFewest) 0 = .ok (.aload_n 0, 1) := by decide +kernel
theorem dX7_countFewest_1 : decode (mcode mX7_countFewest) 1 = .ok (.invokevirtual 33, 3) := by decide +kernel
theorem dX7_countFewest_4 : decode (mcode mX7_countFewest) 4 = .ok (.aload_n 0, 1) := by decide +kernel
theorem dX7_countFewest_5 : decode (mcode mX7_countFewest) 5 = .ok (.getfield 18, 3) := by decide +kernel
theorem dX7_countFewest_8 : decode (mcode mX7_countFewest) 8 = .ok (.aload_n 0, 1) := by decide +kernel
theorem dX7_countFewest_9 : decode (mcode mX7_countFewest) 9 = .ok (.invokevirtual 36, 3) := by decide +kernel
theorem dX7_countFewest_12 : decode (mcode mX7_countFewest) 12 = .ok (.baload, 1) := by decide +kernel
theorem dX7_countFewest_13 : decode (mcode mX7_countFewest) 13 = .ok (.ireturn, 1) := by decide +kernel
theorem dX7_countRivals_0 : decode (mcode mX7_countRivals) 0 = .ok (.aload_n 0, 1) := by decide +kernel
theorem dX7_countRivals_1 : decode (mcode mX7_countRivals) 1 = .ok (.invokevirtual 33, 3) := by decide +kernel
theorem dX7_countRivals_4 : decode (mcode mX7_countRivals) 4 = .ok (.aload_n 0, 1) := by decide +kernel
theorem dX7_countRivals_5 : decode (mcode mX7_countRivals) 5 = .ok (.getfield 22, 3) := by decide +kernel
theorem dX7_countRivals_8 : decode (mcode mX7_countRivals) 8 = .ok (.aload_n 0, 1) := by decide +kernel
theorem dX7_countRivals_9 : decode (mcode mX7_countRivals) 9 = .ok (.invokevirtual 36, 3) := by decide +kernel
theorem dX7_countRivals_12 : decode (mcode mX7_countRivals) 12 = .ok (.iaload, 1) := by decide +kernel
theorem dX7_countRivals_13 : decode (mcode mX7_countRivals) 13 = .ok (.ireturn, 1) := by decide +kernel
theorem dX7_linesOfGreatest_0 : decode (mcode mX7_linesOfGreatest) 0 = .ok (.aload_n 0, 1) := by decide +kernel
theorem dX7_linesOfGreatest_1 : decode (mcode mX7_linesOfGreatest) 1 = .ok (.invokevirtual 33, 3) := by decide +kernel
theorem dX7_linesOfGreatest_4 : decode (mcode mX7_linesOfGreatest) 4 = .ok (.iconst 0, 1) := by decide +kernel
theorem dX7_linesOfGreatest_5 : decode (mcode mX7_linesOfGreatest) 5 = .ok (.istore_n 1, 1) := by decide +kernel
theorem dX7_linesOfGreatest_6 : decode (mcode mX7_linesOfGreatest) 6 = .ok (.iconst 0, 1) := by decide +kernel
theorem dX7_linesOfGreatest_7 : decode (mcode mX7_linesOfGreatest) 7 = .ok (.istore_n 2, 1) := by decide +kernel
theorem dX7_linesOfGreatest_8 : decode (mcode mX7_linesOfGreatest) 8 = .ok (.iload_n 2, 1) := by decide +kernel
theorem dX7_linesOfGreatest_9 : decode (mcode mX7_linesOfGreatest) 9 = .ok (.aload_n 0, 1) := by decide +kernel
theorem dX7_linesOfGreatest_10 : decode (mcode mX7_linesOfGreatest) 10 = .ok (.getfield 29, 3) := by decide +kernel
theorem dX7_linesOfGreatest_13 : decode (mcode mX7_linesOfGreatest) 13 = .ok (.getfield 40, 3) := by decide +kernel
theorem dX7_linesOfGreatest_16 : decode (mcode mX7_linesOfGreatest) 16 = .ok (.if_icmp .ge 23, 3) := by decide +kernel
theorem dX7_linesOfGreatest_19 : decode (mcode mX7_linesOfGreatest) 19 = .ok (.iload_n 1, 1) := by decide +kernel
theorem dX7_linesOfGreatest_20 : decode (mcode mX7_linesOfGreatest) 20 = .ok (.aload_n 0, 1) := by decide +kernel
theorem dX7_linesOfGreatest_21 : decode (mcode mX7_linesOfGreatest) 21 = .ok (.getfield 15, 3) := by decide +kernel
theorem dX7_linesOfGreatest_24 : decode (mcode mX7_linesOfGreatest) 24 = .ok (.iload_n 2, 1) := by decide +kernel
theorem dX7_linesOfGreatest_25 : decode (mcode mX7_linesOfGreatest) 25 = .ok (.iaload, 1) := by decide +kernel
theorem dX7_linesOfGreatest_26 : decode (mcode mX7_linesOfGreatest) 26 = .ok (.invokestatic 46, 3) := by decide +kernel
theorem dX7_linesOfGreatest_29 : decode (mcode mX7_linesOfGreatest) 29 = .ok (.invokestatic 52, 3) := by decide +kernel
theorem dX7_linesOfGreatest_32 : decode (mcode mX7_linesOfGreatest) 32 = .ok (.istore_n 1, 1) := by decide +kernel
theorem dX7_linesOfGreatest_33 : decode (mcode mX7_linesOfGreatest) 33 = .ok (.iinc 2 1, 3) := by decide +kernel
theorem dX7_linesOfGreatest_36 : decode (mcode mX7_linesOfGreatest) 36 = .ok (.goto (-28), 3) := by decide +kernel
theorem dX7_linesOfGreatest_39 : decode (mcode mX7_linesOfGreatest) 39 = .ok (.iload_n 1, 1) := by decide +kernel
theorem dX7_linesOfGreatest_40 : decode (mcode mX7_linesOfGreatest) 40 = .ok (.ireturn, 1) := by decide +kernel
theorem dX7_personOf_0 : decode (mcode mX7_personOf) 0 = .ok (.aload_n 0, 1) := by decide +kernel
theorem dX7_personOf_1 : decode (mcode mX7_personOf) 1 = .ok (.invokevirtual 33, 3) := by decide +kernel
theorem dX7_personOf_4 : decode (mcode mX7_personOf) 4 = .ok (.aload_n 0, 1) := by decide +kernel
theorem dX7_personOf_5 : decode (mcode mX7_personOf) 5 = .ok (.getfield 15, 3) := by decide +kernel
theorem dX7_personOf_8 : decode (mcode mX7_personOf) 8 = .ok (.iload_n 1, 1) := by decide +kernel
theorem dX7_personOf_9 : decode (mcode mX7_personOf) 9 = .ok (.iaload, 1) := by decide +kernel
theorem dX7_personOf_10 : decode (mcode mX7_personOf) 10 = .ok (.ireturn, 1) := by decide +kernel
theorem dX7_rivalsWithBoth_0 : decode (mcode mX7_rivalsWithBoth) 0 = .ok (.aload_n 0, 1) := by decide +kernel
theorem dX7_rivalsWithBoth_1 : decode (mcode mX7_rivalsWithBoth) 1 = .ok (.invokevirtual 33, 3) := by decide +kernel
theorem dX7_rivalsWithBoth_4 : decode (mcode mX7_rivalsWithBoth) 4 = .ok (.iload_n 1, 1) := by decide +kernel
theorem dX7_rivalsWithBoth_5 : decode (mcode mX7_rivalsWithBoth) 5 = .ok (.iload_n 2, 1) := by decide +kernel
theorem dX7_rivalsWithBoth_6 : decode (mcode mX7_rivalsWithBoth) 6 = .ok (.if_icmp .ne 13, 3) := by decide +kernel
theorem dX7_rivalsWithBoth_9 : decode (mcode mX7_rivalsWithBoth) 9 = .ok (.aload_n 0, 1) := by decide +kernel
theorem dX7_rivalsWithBoth_10 : decode (mcode mX7_rivalsWithBoth) 10 = .ok (.getfield 22, 3) := by decide +kernel
theorem dX7_rivalsWithBoth_13 : decode (mcode mX7_rivalsWithBoth) 13 = .ok (.aload_n 0, 1) := by decide +kernel
theorem dX7_rivalsWithBoth_14 : decode (mcode mX7_rivalsWithBoth) 14 = .ok (.invokevirtual 36, 3) := by decide +kernel
theorem dX7_rivalsWithBoth_17 : decode (mcode mX7_rivalsWithBoth) 17 = .ok (.iaload, 1) := by decide +kernel
theorem dX7_rivalsWithBoth_18 : decode (mcode mX7_rivalsWithBoth) 18 = .ok (.ireturn, 1) := by decide +kernel
theorem dX7_rivalsWithBoth_19 : decode (mcode mX7_rivalsWithBoth) 19 = .ok (.iconst 1, 1) := by decide +kernel
theorem dX7_rivalsWithBoth_20 : decode (mcode mX7_rivalsWithBoth) 20 = .ok (.iload_n 1, 1) := by decide +kernel
theorem dX7_rivalsWithBoth_21 : decode (mcode mX7_rivalsWithBoth) 21 = .ok (.ishl, 1) := by decide +kernel
theorem dX7_rivalsWithBoth_22 : decode (mcode mX7_rivalsWithBoth) 22 = .ok (.iconst 1, 1) := by decide +kernel
theorem dX7_rivalsWithBoth_23 : decode (mcode mX7_rivalsWithBoth) 23 = .ok (.iload_n 2, 1) := by decide +kernel
theorem dX7_rivalsWithBoth_24 : decode (mcode mX7_rivalsWithBoth) 24 = .ok (.ishl, 1) := by decide +kernel
theorem dX7_rivalsWithBoth_25 : decode (mcode mX7_rivalsWithBoth) 25 = .ok (.ior, 1) := by decide +kernel
theorem dX7_rivalsWithBoth_26 : decode (mcode mX7_rivalsWithBoth) 26 = .ok (.istore_n 3, 1) := by decide +kernel
theorem dX7_rivalsWithBoth_27 : decode (mcode mX7_rivalsWithBoth) 27 = .ok (.aload_n 0, 1) := by decide +kernel
theorem dX7_rivalsWithBoth_28 : decode (mcode mX7_rivalsWithBoth) 28 = .ok (.getfield 9, 3) := by decide +kernel
theorem dX7_rivalsWithBoth_31 : decode (mcode mX7_rivalsWithBoth) 31 = .ok (.iload_n 1, 1) := by decide +kernel
theorem dX7_rivalsWithBoth_32 : decode (mcode mX7_rivalsWithBoth) 32 = .ok (.iaload, 1) := by decide +kernel
theorem dX7_rivalsWithBoth_33 : decode (mcode mX7_rivalsWithBoth) 33 = .ok (.aload_n 0, 1) := by decide +kernel
theorem dX7_rivalsWithBoth_34 : decode (mcode mX7_rivalsWithBoth) 34 = .ok (.getfield 9, 3) := by decide +kernel
theorem dX7_rivalsWithBoth_37 : decode (mcode mX7_rivalsWithBoth) 37 = .ok (.iload_n 2, 1) := by decide +kernel
theorem dX7_rivalsWithBoth_38 : decode (mcode mX7_rivalsWithBoth) 38 = .ok (.iaload, 1) := by decide +kernel
theorem dX7_rivalsWithBoth_39 : decode (mcode mX7_rivalsWithBoth) 39 = .ok (.iand, 1) := by decide +kernel
theorem dX7_rivalsWithBoth_40 : decode (mcode mX7_rivalsWithBoth) 40 = .ok (.iload_n 3, 1) := by decide +kernel
theorem dX7_rivalsWithBoth_41 : decode (mcode mX7_rivalsWithBoth) 41 = .ok (.iconst (-1), 1) := by decide +kernel
theorem dX7_rivalsWithBoth_42 : decode (mcode mX7_rivalsWithBoth) 42 = .ok (.ixor, 1) := by decide +kernel
theorem dX7_rivalsWithBoth_43 : decode (mcode mX7_rivalsWithBoth) 43 = .ok (.iand, 1) := by decide +kernel
theorem dX7_rivalsWithBoth_44 : decode (mcode mX7_rivalsWithBoth) 44 = .ok (.istore 4, 2) := by decide +kernel
theorem dX7_rivalsWithBoth_46 : decode (mcode mX7_rivalsWithBoth) 46 = .ok (.aload_n 0, 1) := by decide +kernel
theorem dX7_rivalsWithBoth_47 : decode (mcode mX7_rivalsWithBoth) 47 = .ok (.iload_n 3, 1) := by decide +kernel
theorem dX7_rivalsWithBoth_48 : decode (mcode mX7_rivalsWithBoth) 48 = .ok (.invokevirtual 58, 3) := by decide +kernel
theorem dX7_rivalsWithBoth_51 : decode (mcode mX7_rivalsWithBoth) 51 = .ok (.istore 5, 2) := by decide +kernel
theorem dX7_rivalsWithBoth_53 : decode (mcode mX7_rivalsWithBoth) 53 = .ok (.iload 4, 2) := by decide +kernel
theorem dX7_rivalsWithBoth_55 : decode (mcode mX7_rivalsWithBoth) 55 = .ok (.istore 6, 2) := by decide +kernel
theorem dX7_rivalsWithBoth_57 : decode (mcode mX7_rivalsWithBoth) 57 = .ok (.iload 6, 2) := by decide +kernel
theorem dX7_rivalsWithBoth_59 : decode (mcode mX7_rivalsWithBoth) 59 = .ok (.ifCond .le 28, 3) := by decide +kernel
theorem dX7_rivalsWithBoth_62 : decode (mcode mX7_rivalsWithBoth) 62 = .ok (.iload 5, 2) := by decide +kernel
theorem dX7_rivalsWithBoth_64 : decode (mcode mX7_rivalsWithBoth) 64 = .ok (.aload_n 0, 1) := by decide +kernel
theorem dX7_rivalsWithBoth_65 : decode (mcode mX7_rivalsWithBoth) 65 = .ok (.iload_n 3, 1) := by decide +kernel
theorem dX7_rivalsWithBoth_66 : decode (mcode mX7_rivalsWithBoth) 66 = .ok (.iload 6, 2) := by decide +kernel
theorem dX7_rivalsWithBoth_68 : decode (mcode mX7_rivalsWithBoth) 68 = .ok (.ior, 1) := by decide +kernel
theorem dX7_rivalsWithBoth_69 : decode (mcode mX7_rivalsWithBoth) 69 = .ok (.invokevirtual 58, 3) := by decide +kernel
theorem dX7_rivalsWithBoth_72 : decode (mcode mX7_rivalsWithBoth) 72 = .ok (.iadd, 1) := by decide +kernel
theorem dX7_rivalsWithBoth_73 : decode (mcode mX7_rivalsWithBoth) 73 = .ok (.istore 5, 2) := by decide +kernel
theorem dX7_rivalsWithBoth_75 : decode (mcode mX7_rivalsWithBoth) 75 = .ok (.iload 6, 2) := by decide +kernel
theorem dX7_rivalsWithBoth_77 : decode (mcode mX7_rivalsWithBoth) 77 = .ok (.iconst 1, 1) := by decide +kernel
theorem dX7_rivalsWithBoth_78 : decode (mcode mX7_rivalsWithBoth) 78 = .ok (.isub, 1) := by decide +kernel
theorem dX7_rivalsWithBoth_79 : decode (mcode mX7_rivalsWithBoth) 79 = .ok (.iload 4, 2) := by decide +kernel
theorem dX7_rivalsWithBoth_81 : decode (mcode mX7_rivalsWithBoth) 81 = .ok (.iand, 1) := by decide +kernel
theorem dX7_rivalsWithBoth_82 : decode (mcode mX7_rivalsWithBoth) 82 = .ok (.istore 6, 2) := by decide +kernel
theorem dX7_rivalsWithBoth_84 : decode (mcode mX7_rivalsWithBoth) 84 = .ok (.goto (-27), 3) := by decide +kernel
theorem dX7_rivalsWithBoth_87 : decode (mcode mX7_rivalsWithBoth) 87 = .ok (.iload 5, 2) := by decide +kernel
theorem dX7_rivalsWithBoth_89 : decode (mcode mX7_rivalsWithBoth) 89 = .ok (.ireturn, 1) := by decide +kernel

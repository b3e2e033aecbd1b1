theorem dX4_kept_0 : decode (mcode mX4_kept) 0 = .ok (.aload_n 0, 1) := by decide +kernel
theorem dX4_kept_1 : decode (mcode mX4_kept) 1 = .ok (.getfield 20, 3) := by decide +kernel
theorem dX4_kept_4 : decode (mcode mX4_kept) 4 = .ok (.iconst 0, 1) := by decide +kernel
theorem dX4_kept_5 : decode (mcode mX4_kept) 5 = .ok (.aaload, 1) := by decide +kernel
theorem dX4_kept_6 : decode (mcode mX4_kept) 6 = .ok (.iconst 0, 1) := by decide +kernel
theorem dX4_kept_7 : decode (mcode mX4_kept) 7 = .ok (.iaload, 1) := by decide +kernel
theorem dX4_kept_8 : decode (mcode mX4_kept) 8 = .ok (.ireturn, 1) := by decide +kernel
theorem dX4_pick_0 : decode (mcode mX4_pick) 0 = .ok (.iconst 0, 1) := by decide +kernel
theorem dX4_pick_1 : decode (mcode mX4_pick) 1 = .ok (.istore 4, 2) := by decide +kernel
theorem dX4_pick_3 : decode (mcode mX4_pick) 3 = .ok (.iconst 0, 1) := by decide +kernel
theorem dX4_pick_4 : decode (mcode mX4_pick) 4 = .ok (.istore 5, 2) := by decide +kernel
theorem dX4_pick_6 : decode (mcode mX4_pick) 6 = .ok (.iload 5, 2) := by decide +kernel
theorem dX4_pick_8 : decode (mcode mX4_pick) 8 = .ok (.aload_n 0, 1) := by decide +kernel
theorem dX4_pick_9 : decode (mcode mX4_pick) 9 = .ok (.getfield 23, 3) := by decide +kernel
theorem dX4_pick_12 : decode (mcode mX4_pick) 12 = .ok (.getfield 42, 3) := by decide +kernel
theorem dX4_pick_15 : decode (mcode mX4_pick) 15 = .ok (.if_icmp .ge 101, 3) := by decide +kernel
theorem dX4_pick_18 : decode (mcode mX4_pick) 18 = .ok (.aload_n 0, 1) := by decide +kernel
theorem dX4_pick_19 : decode (mcode mX4_pick) 19 = .ok (.getfield 23, 3) := by decide +kernel
theorem dX4_pick_22 : decode (mcode mX4_pick) 22 = .ok (.getfield 47, 3) := by decide +kernel
theorem dX4_pick_25 : decode (mcode mX4_pick) 25 = .ok (.iload 5, 2) := by decide +kernel
theorem dX4_pick_27 : decode (mcode mX4_pick) 27 = .ok (.iaload, 1) := by decide +kernel
theorem dX4_pick_28 : decode (mcode mX4_pick) 28 = .ok (.iload_n 2, 1) := by decide +kernel
theorem dX4_pick_29 : decode (mcode mX4_pick) 29 = .ok (.if_icmp .ne 81, 3) := by decide +kernel
theorem dX4_pick_32 : decode (mcode mX4_pick) 32 = .ok (.aload_n 0, 1) := by decide +kernel
theorem dX4_pick_33 : decode (mcode mX4_pick) 33 = .ok (.getfield 23, 3) := by decide +kernel
theorem dX4_pick_36 : decode (mcode mX4_pick) 36 = .ok (.getfield 50, 3) := by decide +kernel
theorem dX4_pick_39 : decode (mcode mX4_pick) 39 = .ok (.iload 5, 2) := by decide +kernel
theorem dX4_pick_41 : decode (mcode mX4_pick) 41 = .ok (.iaload, 1) := by decide +kernel
theorem dX4_pick_42 : decode (mcode mX4_pick) 42 = .ok (.iload_n 3, 1) := by decide +kernel
theorem dX4_pick_43 : decode (mcode mX4_pick) 43 = .ok (.if_icmp .eq 6, 3) := by decide +kernel
theorem dX4_pick_46 : decode (mcode mX4_pick) 46 = .ok (.goto 64, 3) := by decide +kernel
theorem dX4_pick_49 : decode (mcode mX4_pick) 49 = .ok (.iload 4, 2) := by decide +kernel
theorem dX4_pick_51 : decode (mcode mX4_pick) 51 = .ok (.istore 6, 2) := by decide +kernel
theorem dX4_pick_53 : decode (mcode mX4_pick) 53 = .ok (.iload 6, 2) := by decide +kernel
theorem dX4_pick_55 : decode (mcode mX4_pick) 55 = .ok (.ifCond .le 46, 3) := by decide +kernel
theorem dX4_pick_58 : decode (mcode mX4_pick) 58 = .ok (.aload_n 0, 1) := by decide +kernel
theorem dX4_pick_59 : decode (mcode mX4_pick) 59 = .ok (.getfield 23, 3) := by decide +kernel
theorem dX4_pick_62 : decode (mcode mX4_pick) 62 = .ok (.getfield 53, 3) := by decide +kernel
theorem dX4_pick_65 : decode (mcode mX4_pick) 65 = .ok (.aload_n 1, 1) := by decide +kernel
theorem dX4_pick_66 : decode (mcode mX4_pick) 66 = .ok (.iload 6, 2) := by decide +kernel
theorem dX4_pick_68 : decode (mcode mX4_pick) 68 = .ok (.iconst 1, 1) := by decide +kernel
theorem dX4_pick_69 : decode (mcode mX4_pick) 69 = .ok (.isub, 1) := by decide +kernel
theorem dX4_pick_70 : decode (mcode mX4_pick) 70 = .ok (.iaload, 1) := by decide +kernel
theorem dX4_pick_71 : decode (mcode mX4_pick) 71 = .ok (.iaload, 1) := by decide +kernel
theorem dX4_pick_72 : decode (mcode mX4_pick) 72 = .ok (.aload_n 0, 1) := by decide +kernel
theorem dX4_pick_73 : decode (mcode mX4_pick) 73 = .ok (.getfield 23, 3) := by decide +kernel
theorem dX4_pick_76 : decode (mcode mX4_pick) 76 = .ok (.getfield 53, 3) := by decide +kernel
theorem dX4_pick_79 : decode (mcode mX4_pick) 79 = .ok (.iload 5, 2) := by decide +kernel
theorem dX4_pick_81 : decode (mcode mX4_pick) 81 = .ok (.iaload, 1) := by decide +kernel
theorem dX4_pick_82 : decode (mcode mX4_pick) 82 = .ok (.if_icmp .le 19, 3) := by decide +kernel
theorem dX4_pick_85 : decode (mcode mX4_pick) 85 = .ok (.aload_n 1, 1) := by decide +kernel
theorem dX4_pick_86 : decode (mcode mX4_pick) 86 = .ok (.iload 6, 2) := by decide +kernel
theorem dX4_pick_88 : decode (mcode mX4_pick) 88 = .ok (.aload_n 1, 1) := by decide +kernel
theorem dX4_pick_89 : decode (mcode mX4_pick) 89 = .ok (.iload 6, 2) := by decide +kernel
theorem dX4_pick_91 : decode (mcode mX4_pick) 91 = .ok (.iconst 1, 1) := by decide +kernel
theorem dX4_pick_92 : decode (mcode mX4_pick) 92 = .ok (.isub, 1) := by decide +kernel
theorem dX4_pick_93 : decode (mcode mX4_pick) 93 = .ok (.iaload, 1) := by decide +kernel
theorem dX4_pick_94 : decode (mcode mX4_pick) 94 = .ok (.iastore, 1) := by decide +kernel
theorem dX4_pick_95 : decode (mcode mX4_pick) 95 = .ok (.iinc 6 (-1), 3) := by decide +kernel
theorem dX4_pick_98 : decode (mcode mX4_pick) 98 = .ok (.goto (-45), 3) := by decide +kernel
theorem dX4_pick_101 : decode (mcode mX4_pick) 101 = .ok (.aload_n 1, 1) := by decide +kernel
theorem dX4_pick_102 : decode (mcode mX4_pick) 102 = .ok (.iload 6, 2) := by decide +kernel
theorem dX4_pick_104 : decode (mcode mX4_pick) 104 = .ok (.iload 5, 2) := by decide +kernel
theorem dX4_pick_106 : decode (mcode mX4_pick) 106 = .ok (.iastore, 1) := by decide +kernel
theorem dX4_pick_107 : decode (mcode mX4_pick) 107 = .ok (.iinc 4 1, 3) := by decide +kernel
theorem dX4_pick_110 : decode (mcode mX4_pick) 110 = .ok (.iinc 5 1, 3) := by decide +kernel
theorem dX4_pick_113 : decode (mcode mX4_pick) 113 = .ok (.goto (-107), 3) := by decide +kernel
theorem dX4_pick_116 : decode (mcode mX4_pick) 116 = .ok (.iload 4, 2) := by decide +kernel
theorem dX4_pick_118 : decode (mcode mX4_pick) 118 = .ok (.ireturn, 1) := by decide +kernel
theorem dX4_canPair_0 : decode (mcode mX4_canPair) 0 = .ok (.aload_n 0, 1) := by decide +kernel
theorem dX4_canPair_1 : decode (mcode mX4_canPair) 1 = .ok (.getfield 23, 3) := by decide +kernel
theorem dX4_canPair_4 : decode (mcode mX4_canPair) 4 = .ok (.getfield 65, 3) := by decide +kernel
theorem dX4_canPair_7 : decode (mcode mX4_canPair) 7 = .ok (.aload_n 0, 1) := by decide +kernel
theorem dX4_canPair_8 : decode (mcode mX4_canPair) 8 = .ok (.getfield 9, 3) := by decide +kernel
theorem dX4_canPair_11 : decode (mcode mX4_canPair) 11 = .ok (.iload_n 1, 1) := by decide +kernel
theorem dX4_canPair_12 : decode (mcode mX4_canPair) 12 = .ok (.iaload, 1) := by decide +kernel
theorem dX4_canPair_13 : decode (mcode mX4_canPair) 13 = .ok (.aload_n 0, 1) := by decide +kernel
theorem dX4_canPair_14 : decode (mcode mX4_canPair) 14 = .ok (.getfield 15, 3) := by decide +kernel
theorem dX4_canPair_17 : decode (mcode mX4_canPair) 17 = .ok (.iload_n 2, 1) := by decide +kernel
theorem dX4_canPair_18 : decode (mcode mX4_canPair) 18 = .ok (.iaload, 1) := by decide +kernel
theorem dX4_canPair_19 : decode (mcode mX4_canPair) 19 = .ok (.invokevirtual 69, 3) := by decide +kernel
theorem dX4_canPair_22 : decode (mcode mX4_canPair) 22 = .ok (.ireturn, 1) := by decide +kernel
theorem dX4_mostFrom_0 : decode (mcode mX4_mostFrom) 0 = .ok (.iload_n 1, 1) := by decide +kernel
theorem dX4_mostFrom_1 : decode (mcode mX4_mostFrom) 1 = .ok (.aload_n 0, 1) := by decide +kernel
theorem dX4_mostFrom_2 : decode (mcode mX4_mostFrom) 2 = .ok (.getfield 31, 3) := by decide +kernel
theorem dX4_mostFrom_5 : decode (mcode mX4_mostFrom) 5 = .ok (.if_icmp .eq 11, 3) := by decide +kernel
theorem dX4_mostFrom_8 : decode (mcode mX4_mostFrom) 8 = .ok (.iload_n 2, 1) := by decide +kernel
theorem dX4_mostFrom_9 : decode (mcode mX4_mostFrom) 9 = .ok (.aload_n 0, 1) := by decide +kernel
theorem dX4_mostFrom_10 : decode (mcode mX4_mostFrom) 10 = .ok (.getfield 35, 3) := by decide +kernel
theorem dX4_mostFrom_13 : decode (mcode mX4_mostFrom) 13 = .ok (.if_icmp .ne 5, 3) := by decide +kernel
theorem dX4_mostFrom_16 : decode (mcode mX4_mostFrom) 16 = .ok (.iconst 0, 1) := by decide +kernel
theorem dX4_mostFrom_17 : decode (mcode mX4_mostFrom) 17 = .ok (.ireturn, 1) := by decide +kernel
theorem dX4_mostFrom_18 : decode (mcode mX4_mostFrom) 18 = .ok (.aload_n 0, 1) := by decide +kernel
theorem dX4_mostFrom_19 : decode (mcode mX4_mostFrom) 19 = .ok (.getfield 20, 3) := by decide +kernel
theorem dX4_mostFrom_22 : decode (mcode mX4_mostFrom) 22 = .ok (.iload_n 1, 1) := by decide +kernel
theorem dX4_mostFrom_23 : decode (mcode mX4_mostFrom) 23 = .ok (.iconst 1, 1) := by decide +kernel
theorem dX4_mostFrom_24 : decode (mcode mX4_mostFrom) 24 = .ok (.iadd, 1) := by decide +kernel
theorem dX4_mostFrom_25 : decode (mcode mX4_mostFrom) 25 = .ok (.aaload, 1) := by decide +kernel
theorem dX4_mostFrom_26 : decode (mcode mX4_mostFrom) 26 = .ok (.iload_n 2, 1) := by decide +kernel
theorem dX4_mostFrom_27 : decode (mcode mX4_mostFrom) 27 = .ok (.iaload, 1) := by decide +kernel
theorem dX4_mostFrom_28 : decode (mcode mX4_mostFrom) 28 = .ok (.aload_n 0, 1) := by decide +kernel
theorem dX4_mostFrom_29 : decode (mcode mX4_mostFrom) 29 = .ok (.getfield 20, 3) := by decide +kernel
theorem dX4_mostFrom_32 : decode (mcode mX4_mostFrom) 32 = .ok (.iload_n 1, 1) := by decide +kernel
theorem dX4_mostFrom_33 : decode (mcode mX4_mostFrom) 33 = .ok (.aaload, 1) := by decide +kernel
theorem dX4_mostFrom_34 : decode (mcode mX4_mostFrom) 34 = .ok (.iload_n 2, 1) := by decide +kernel
theorem dX4_mostFrom_35 : decode (mcode mX4_mostFrom) 35 = .ok (.iconst 1, 1) := by decide +kernel
theorem dX4_mostFrom_36 : decode (mcode mX4_mostFrom) 36 = .ok (.iadd, 1) := by decide +kernel
theorem dX4_mostFrom_37 : decode (mcode mX4_mostFrom) 37 = .ok (.iaload, 1) := by decide +kernel
theorem dX4_mostFrom_38 : decode (mcode mX4_mostFrom) 38 = .ok (.invokestatic 56, 3) := by decide +kernel
theorem dX4_mostFrom_41 : decode (mcode mX4_mostFrom) 41 = .ok (.istore_n 3, 1) := by decide +kernel
theorem dX4_mostFrom_42 : decode (mcode mX4_mostFrom) 42 = .ok (.aload_n 0, 1) := by decide +kernel
theorem dX4_mostFrom_43 : decode (mcode mX4_mostFrom) 43 = .ok (.iload_n 1, 1) := by decide +kernel
theorem dX4_mostFrom_44 : decode (mcode mX4_mostFrom) 44 = .ok (.iload_n 2, 1) := by decide +kernel
theorem dX4_mostFrom_45 : decode (mcode mX4_mostFrom) 45 = .ok (.invokevirtual 61, 3) := by decide +kernel
theorem dX4_mostFrom_48 : decode (mcode mX4_mostFrom) 48 = .ok (.ifCond .eq 24, 3) := by decide +kernel
theorem dX4_mostFrom_51 : decode (mcode mX4_mostFrom) 51 = .ok (.iload_n 3, 1) := by decide +kernel
theorem dX4_mostFrom_52 : decode (mcode mX4_mostFrom) 52 = .ok (.aload_n 0, 1) := by decide +kernel
theorem dX4_mostFrom_53 : decode (mcode mX4_mostFrom) 53 = .ok (.getfield 20, 3) := by decide +kernel
theorem dX4_mostFrom_56 : decode (mcode mX4_mostFrom) 56 = .ok (.iload_n 1, 1) := by decide +kernel
theorem dX4_mostFrom_57 : decode (mcode mX4_mostFrom) 57 = .ok (.iconst 1, 1) := by decide +kernel
theorem dX4_mostFrom_58 : decode (mcode mX4_mostFrom) 58 = .ok (.iadd, 1) := by decide +kernel
theorem dX4_mostFrom_59 : decode (mcode mX4_mostFrom) 59 = .ok (.aaload, 1) := by decide +kernel
theorem dX4_mostFrom_60 : decode (mcode mX4_mostFrom) 60 = .ok (.iload_n 2, 1) := by decide +kernel
theorem dX4_mostFrom_61 : decode (mcode mX4_mostFrom) 61 = .ok (.iconst 1, 1) := by decide +kernel
theorem dX4_mostFrom_62 : decode (mcode mX4_mostFrom) 62 = .ok (.iadd, 1) := by decide +kernel
theorem dX4_mostFrom_63 : decode (mcode mX4_mostFrom) 63 = .ok (.iaload, 1) := by decide +kernel
theorem dX4_mostFrom_64 : decode (mcode mX4_mostFrom) 64 = .ok (.iconst 1, 1) := by decide +kernel
theorem dX4_mostFrom_65 : decode (mcode mX4_mostFrom) 65 = .ok (.iadd, 1) := by decide +kernel
theorem dX4_mostFrom_66 : decode (mcode mX4_mostFrom) 66 = .ok (.invokestatic 56, 3) := by decide +kernel
theorem dX4_mostFrom_69 : decode (mcode mX4_mostFrom) 69 = .ok (.goto 4, 3) := by decide +kernel
theorem dX4_mostFrom_72 : decode (mcode mX4_mostFrom) 72 = .ok (.iload_n 3, 1) := by decide +kernel
theorem dX4_mostFrom_73 : decode (mcode mX4_mostFrom) 73 = .ok (.ireturn, 1) := by decide +kernel
theorem dX4_stepToPair_0 : decode (mcode mX4_stepToPair) 0 = .ok (.iload_n 1, 1) := by decide +kernel
theorem dX4_stepToPair_1 : decode (mcode mX4_stepToPair) 1 = .ok (.istore_n 3, 1) := by decide +kernel
theorem dX4_stepToPair_2 : decode (mcode mX4_stepToPair) 2 = .ok (.iload_n 3, 1) := by decide +kernel
theorem dX4_stepToPair_3 : decode (mcode mX4_stepToPair) 3 = .ok (.aload_n 0, 1) := by decide +kernel
theorem dX4_stepToPair_4 : decode (mcode mX4_stepToPair) 4 = .ok (.getfield 31, 3) := by decide +kernel
theorem dX4_stepToPair_7 : decode (mcode mX4_stepToPair) 7 = .ok (.if_icmp .ge 75, 3) := by decide +kernel
theorem dX4_stepToPair_10 : decode (mcode mX4_stepToPair) 10 = .ok (.iload_n 2, 1) := by decide +kernel
theorem dX4_stepToPair_11 : decode (mcode mX4_stepToPair) 11 = .ok (.istore 4, 2) := by decide +kernel
theorem dX4_stepToPair_13 : decode (mcode mX4_stepToPair) 13 = .ok (.iload 4, 2) := by decide +kernel
theorem dX4_stepToPair_15 : decode (mcode mX4_stepToPair) 15 = .ok (.aload_n 0, 1) := by decide +kernel
theorem dX4_stepToPair_16 : decode (mcode mX4_stepToPair) 16 = .ok (.getfield 35, 3) := by decide +kernel
theorem dX4_stepToPair_19 : decode (mcode mX4_stepToPair) 19 = .ok (.if_icmp .ge 57, 3) := by decide +kernel
theorem dX4_stepToPair_22 : decode (mcode mX4_stepToPair) 22 = .ok (.aload_n 0, 1) := by decide +kernel
theorem dX4_stepToPair_23 : decode (mcode mX4_stepToPair) 23 = .ok (.iload_n 3, 1) := by decide +kernel
theorem dX4_stepToPair_24 : decode (mcode mX4_stepToPair) 24 = .ok (.iload 4, 2) := by decide +kernel
theorem dX4_stepToPair_26 : decode (mcode mX4_stepToPair) 26 = .ok (.invokevirtual 61, 3) := by decide +kernel
theorem dX4_stepToPair_29 : decode (mcode mX4_stepToPair) 29 = .ok (.ifCond .eq 41, 3) := by decide +kernel
theorem dX4_stepToPair_32 : decode (mcode mX4_stepToPair) 32 = .ok (.aload_n 0, 1) := by decide +kernel
theorem dX4_stepToPair_33 : decode (mcode mX4_stepToPair) 33 = .ok (.getfield 20, 3) := by decide +kernel
theorem dX4_stepToPair_36 : decode (mcode mX4_stepToPair) 36 = .ok (.iload_n 3, 1) := by decide +kernel
theorem dX4_stepToPair_37 : decode (mcode mX4_stepToPair) 37 = .ok (.iconst 1, 1) := by decide +kernel
theorem dX4_stepToPair_38 : decode (mcode mX4_stepToPair) 38 = .ok (.iadd, 1) := by decide +kernel
theorem dX4_stepToPair_39 : decode (mcode mX4_stepToPair) 39 = .ok (.aaload, 1) := by decide +kernel
theorem dX4_stepToPair_40 : decode (mcode mX4_stepToPair) 40 = .ok (.iload 4, 2) := by decide +kernel
theorem dX4_stepToPair_42 : decode (mcode mX4_stepToPair) 42 = .ok (.iconst 1, 1) := by decide +kernel
theorem dX4_stepToPair_43 : decode (mcode mX4_stepToPair) 43 = .ok (.iadd, 1) := by decide +kernel
theorem dX4_stepToPair_44 : decode (mcode mX4_stepToPair) 44 = .ok (.iaload, 1) := by decide +kernel
theorem dX4_stepToPair_45 : decode (mcode mX4_stepToPair) 45 = .ok (.iconst 1, 1) := by decide +kernel
theorem dX4_stepToPair_46 : decode (mcode mX4_stepToPair) 46 = .ok (.iadd, 1) := by decide +kernel
theorem dX4_stepToPair_47 : decode (mcode mX4_stepToPair) 47 = .ok (.aload_n 0, 1) := by decide +kernel
theorem dX4_stepToPair_48 : decode (mcode mX4_stepToPair) 48 = .ok (.getfield 20, 3) := by decide +kernel
theorem dX4_stepToPair_51 : decode (mcode mX4_stepToPair) 51 = .ok (.iload_n 1, 1) := by decide +kernel
theorem dX4_stepToPair_52 : decode (mcode mX4_stepToPair) 52 = .ok (.aaload, 1) := by decide +kernel
theorem dX4_stepToPair_53 : decode (mcode mX4_stepToPair) 53 = .ok (.iload_n 2, 1) := by decide +kernel
theorem dX4_stepToPair_54 : decode (mcode mX4_stepToPair) 54 = .ok (.iaload, 1) := by decide +kernel
theorem dX4_stepToPair_55 : decode (mcode mX4_stepToPair) 55 = .ok (.if_icmp .ne 15, 3) := by decide +kernel
theorem dX4_stepToPair_58 : decode (mcode mX4_stepToPair) 58 = .ok (.aload_n 0, 1) := by decide +kernel
theorem dX4_stepToPair_59 : decode (mcode mX4_stepToPair) 59 = .ok (.iload_n 3, 1) := by decide +kernel
theorem dX4_stepToPair_60 : decode (mcode mX4_stepToPair) 60 = .ok (.putfield 74, 3) := by decide +kernel
theorem dX4_stepToPair_63 : decode (mcode mX4_stepToPair) 63 = .ok (.aload_n 0, 1) := by decide +kernel
theorem dX4_stepToPair_64 : decode (mcode mX4_stepToPair) 64 = .ok (.iload 4, 2) := by decide +kernel
theorem dX4_stepToPair_66 : decode (mcode mX4_stepToPair) 66 = .ok (.putfield 77, 3) := by decide +kernel
theorem dX4_stepToPair_69 : decode (mcode mX4_stepToPair) 69 = .ok (.return_, 1) := by decide +kernel
theorem dX4_stepToPair_70 : decode (mcode mX4_stepToPair) 70 = .ok (.iinc 4 1, 3) := by decide +kernel
theorem dX4_stepToPair_73 : decode (mcode mX4_stepToPair) 73 = .ok (.goto (-60), 3) := by decide +kernel
theorem dX4_stepToPair_76 : decode (mcode mX4_stepToPair) 76 = .ok (.iinc 3 1, 3) := by decide +kernel
theorem dX4_stepToPair_79 : decode (mcode mX4_stepToPair) 79 = .ok (.goto (-77), 3) := by decide +kernel
theorem dX4_stepToPair_82 : decode (mcode mX4_stepToPair) 82 = .ok (.return_, 1) := by decide +kernel
theorem dX4_lineOfPair_0 : decode (mcode mX4_lineOfPair) 0 = .ok (.aload_n 0, 1) := by decide +kernel
theorem dX4_lineOfPair_1 : decode (mcode mX4_lineOfPair) 1 = .ok (.iconst (-1), 1) := by decide +kernel
theorem dX4_lineOfPair_2 : decode (mcode mX4_lineOfPair) 2 = .ok (.putfield 74, 3) := by decide +kernel
theorem dX4_lineOfPair_5 : decode (mcode mX4_lineOfPair) 5 = .ok (.aload_n 0, 1) := by decide +kernel
theorem dX4_lineOfPair_6 : decode (mcode mX4_lineOfPair) 6 = .ok (.iconst (-1), 1) := by decide +kernel
theorem dX4_lineOfPair_7 : decode (mcode mX4_lineOfPair) 7 = .ok (.putfield 77, 3) := by decide +kernel
theorem dX4_lineOfPair_10 : decode (mcode mX4_lineOfPair) 10 = .ok (.iconst 0, 1) := by decide +kernel
theorem dX4_lineOfPair_11 : decode (mcode mX4_lineOfPair) 11 = .ok (.istore_n 3, 1) := by decide +kernel
theorem dX4_lineOfPair_12 : decode (mcode mX4_lineOfPair) 12 = .ok (.iload_n 3, 1) := by decide +kernel
theorem dX4_lineOfPair_13 : decode (mcode mX4_lineOfPair) 13 = .ok (.iload_n 1, 1) := by decide +kernel
theorem dX4_lineOfPair_14 : decode (mcode mX4_lineOfPair) 14 = .ok (.if_icmp .gt 25, 3) := by decide +kernel
theorem dX4_lineOfPair_17 : decode (mcode mX4_lineOfPair) 17 = .ok (.aload_n 0, 1) := by decide +kernel
theorem dX4_lineOfPair_18 : decode (mcode mX4_lineOfPair) 18 = .ok (.aload_n 0, 1) := by decide +kernel
theorem dX4_lineOfPair_19 : decode (mcode mX4_lineOfPair) 19 = .ok (.getfield 74, 3) := by decide +kernel
theorem dX4_lineOfPair_22 : decode (mcode mX4_lineOfPair) 22 = .ok (.iconst 1, 1) := by decide +kernel
theorem dX4_lineOfPair_23 : decode (mcode mX4_lineOfPair) 23 = .ok (.iadd, 1) := by decide +kernel
theorem dX4_lineOfPair_24 : decode (mcode mX4_lineOfPair) 24 = .ok (.aload_n 0, 1) := by decide +kernel
theorem dX4_lineOfPair_25 : decode (mcode mX4_lineOfPair) 25 = .ok (.getfield 77, 3) := by decide +kernel
theorem dX4_lineOfPair_28 : decode (mcode mX4_lineOfPair) 28 = .ok (.iconst 1, 1) := by decide +kernel
theorem dX4_lineOfPair_29 : decode (mcode mX4_lineOfPair) 29 = .ok (.iadd, 1) := by decide +kernel
theorem dX4_lineOfPair_30 : decode (mcode mX4_lineOfPair) 30 = .ok (.invokevirtual 80, 3) := by decide +kernel
theorem dX4_lineOfPair_33 : decode (mcode mX4_lineOfPair) 33 = .ok (.iinc 3 1, 3) := by decide +kernel
theorem dX4_lineOfPair_36 : decode (mcode mX4_lineOfPair) 36 = .ok (.goto (-24), 3) := by decide +kernel
theorem dX4_lineOfPair_39 : decode (mcode mX4_lineOfPair) 39 = .ok (.aload_n 0, 1) := by decide +kernel
theorem dX4_lineOfPair_40 : decode (mcode mX4_lineOfPair) 40 = .ok (.getfield 74, 3) := by decide +kernel
theorem dX4_lineOfPair_43 : decode (mcode mX4_lineOfPair) 43 = .ok (.ifCond .lt 32, 3) := by decide +kernel
theorem dX4_lineOfPair_46 : decode (mcode mX4_lineOfPair) 46 = .ok (.aload_n 0, 1) := by decide +kernel
theorem dX4_lineOfPair_47 : decode (mcode mX4_lineOfPair) 47 = .ok (.getfield 74, 3) := by decide +kernel
theorem dX4_lineOfPair_50 : decode (mcode mX4_lineOfPair) 50 = .ok (.aload_n 0, 1) := by decide +kernel
theorem dX4_lineOfPair_51 : decode (mcode mX4_lineOfPair) 51 = .ok (.getfield 31, 3) := by decide +kernel
theorem dX4_lineOfPair_54 : decode (mcode mX4_lineOfPair) 54 = .ok (.if_icmp .ge 21, 3) := by decide +kernel
theorem dX4_lineOfPair_57 : decode (mcode mX4_lineOfPair) 57 = .ok (.aload_n 0, 1) := by decide +kernel
theorem dX4_lineOfPair_58 : decode (mcode mX4_lineOfPair) 58 = .ok (.getfield 77, 3) := by decide +kernel
theorem dX4_lineOfPair_61 : decode (mcode mX4_lineOfPair) 61 = .ok (.ifCond .lt 14, 3) := by decide +kernel
theorem dX4_lineOfPair_64 : decode (mcode mX4_lineOfPair) 64 = .ok (.aload_n 0, 1) := by decide +kernel
theorem dX4_lineOfPair_65 : decode (mcode mX4_lineOfPair) 65 = .ok (.getfield 77, 3) := by decide +kernel
theorem dX4_lineOfPair_68 : decode (mcode mX4_lineOfPair) 68 = .ok (.aload_n 0, 1) := by decide +kernel
theorem dX4_lineOfPair_69 : decode (mcode mX4_lineOfPair) 69 = .ok (.getfield 35, 3) := by decide +kernel
theorem dX4_lineOfPair_72 : decode (mcode mX4_lineOfPair) 72 = .ok (.if_icmp .lt 6, 3) := by decide +kernel
theorem dX4_lineOfPair_75 : decode (mcode mX4_lineOfPair) 75 = .ok (.ldc 84, 2) := by decide +kernel
theorem dX4_lineOfPair_77 : decode (mcode mX4_lineOfPair) 77 = .ok (.ireturn, 1) := by decide +kernel
theorem dX4_lineOfPair_78 : decode (mcode mX4_lineOfPair) 78 = .ok (.iload_n 2, 1) := by decide +kernel
theorem dX4_lineOfPair_79 : decode (mcode mX4_lineOfPair) 79 = .ok (.ifCond .eq 15, 3) := by decide +kernel
theorem dX4_lineOfPair_82 : decode (mcode mX4_lineOfPair) 82 = .ok (.aload_n 0, 1) := by decide +kernel
theorem dX4_lineOfPair_83 : decode (mcode mX4_lineOfPair) 83 = .ok (.getfield 9, 3) := by decide +kernel
theorem dX4_lineOfPair_86 : decode (mcode mX4_lineOfPair) 86 = .ok (.aload_n 0, 1) := by decide +kernel
theorem dX4_lineOfPair_87 : decode (mcode mX4_lineOfPair) 87 = .ok (.getfield 74, 3) := by decide +kernel
theorem dX4_lineOfPair_90 : decode (mcode mX4_lineOfPair) 90 = .ok (.iaload, 1) := by decide +kernel
theorem dX4_lineOfPair_91 : decode (mcode mX4_lineOfPair) 91 = .ok (.goto 12, 3) := by decide +kernel
theorem dX4_lineOfPair_94 : decode (mcode mX4_lineOfPair) 94 = .ok (.aload_n 0, 1) := by decide +kernel
theorem dX4_lineOfPair_95 : decode (mcode mX4_lineOfPair) 95 = .ok (.getfield 15, 3) := by decide +kernel
theorem dX4_lineOfPair_98 : decode (mcode mX4_lineOfPair) 98 = .ok (.aload_n 0, 1) := by decide +kernel
theorem dX4_lineOfPair_99 : decode (mcode mX4_lineOfPair) 99 = .ok (.getfield 77, 3) := by decide +kernel
theorem dX4_lineOfPair_102 : decode (mcode mX4_lineOfPair) 102 = .ok (.iaload, 1) := by decide +kernel
theorem dX4_lineOfPair_103 : decode (mcode mX4_lineOfPair) 103 = .ok (.ireturn, 1) := by decide +kernel
theorem dX4_lookAt_0 : decode (mcode mX4_lookAt) 0 = .ok (.aload_n 0, 1) := by decide +kernel
theorem dX4_lookAt_1 : decode (mcode mX4_lookAt) 1 = .ok (.aload_n 0, 1) := by decide +kernel
theorem dX4_lookAt_2 : decode (mcode mX4_lookAt) 2 = .ok (.aload_n 0, 1) := by decide +kernel
theorem dX4_lookAt_3 : decode (mcode mX4_lookAt) 3 = .ok (.getfield 9, 3) := by decide +kernel
theorem dX4_lookAt_6 : decode (mcode mX4_lookAt) 6 = .ok (.iload_n 1, 1) := by decide +kernel
theorem dX4_lookAt_7 : decode (mcode mX4_lookAt) 7 = .ok (.iload_n 2, 1) := by decide +kernel
theorem dX4_lookAt_8 : decode (mcode mX4_lookAt) 8 = .ok (.invokevirtual 27, 3) := by decide +kernel
theorem dX4_lookAt_11 : decode (mcode mX4_lookAt) 11 = .ok (.putfield 31, 3) := by decide +kernel
theorem dX4_lookAt_14 : decode (mcode mX4_lookAt) 14 = .ok (.aload_n 0, 1) := by decide +kernel
theorem dX4_lookAt_15 : decode (mcode mX4_lookAt) 15 = .ok (.aload_n 0, 1) := by decide +kernel
theorem dX4_lookAt_16 : decode (mcode mX4_lookAt) 16 = .ok (.aload_n 0, 1) := by decide +kernel
theorem dX4_lookAt_17 : decode (mcode mX4_lookAt) 17 = .ok (.getfield 15, 3) := by decide +kernel
theorem dX4_lookAt_20 : decode (mcode mX4_lookAt) 20 = .ok (.iload_n 1, 1) := by decide +kernel
theorem dX4_lookAt_21 : decode (mcode mX4_lookAt) 21 = .ok (.iload_n 3, 1) := by decide +kernel
theorem dX4_lookAt_22 : decode (mcode mX4_lookAt) 22 = .ok (.invokevirtual 27, 3) := by decide +kernel
theorem dX4_lookAt_25 : decode (mcode mX4_lookAt) 25 = .ok (.putfield 35, 3) := by decide +kernel
theorem dX4_lookAt_28 : decode (mcode mX4_lookAt) 28 = .ok (.aload_n 0, 1) := by decide +kernel
theorem dX4_lookAt_29 : decode (mcode mX4_lookAt) 29 = .ok (.getfield 31, 3) := by decide +kernel
theorem dX4_lookAt_32 : decode (mcode mX4_lookAt) 32 = .ok (.istore 4, 2) := by decide +kernel
theorem dX4_lookAt_34 : decode (mcode mX4_lookAt) 34 = .ok (.iload 4, 2) := by decide +kernel
theorem dX4_lookAt_36 : decode (mcode mX4_lookAt) 36 = .ok (.ifCond .lt 44, 3) := by decide +kernel
theorem dX4_lookAt_39 : decode (mcode mX4_lookAt) 39 = .ok (.aload_n 0, 1) := by decide +kernel
theorem dX4_lookAt_40 : decode (mcode mX4_lookAt) 40 = .ok (.getfield 35, 3) := by decide +kernel
theorem dX4_lookAt_43 : decode (mcode mX4_lookAt) 43 = .ok (.istore 5, 2) := by decide +kernel
theorem dX4_lookAt_45 : decode (mcode mX4_lookAt) 45 = .ok (.iload 5, 2) := by decide +kernel
theorem dX4_lookAt_47 : decode (mcode mX4_lookAt) 47 = .ok (.ifCond .lt 27, 3) := by decide +kernel
theorem dX4_lookAt_50 : decode (mcode mX4_lookAt) 50 = .ok (.aload_n 0, 1) := by decide +kernel
theorem dX4_lookAt_51 : decode (mcode mX4_lookAt) 51 = .ok (.getfield 20, 3) := by decide +kernel
theorem dX4_lookAt_54 : decode (mcode mX4_lookAt) 54 = .ok (.iload 4, 2) := by decide +kernel
theorem dX4_lookAt_56 : decode (mcode mX4_lookAt) 56 = .ok (.aaload, 1) := by decide +kernel
theorem dX4_lookAt_57 : decode (mcode mX4_lookAt) 57 = .ok (.iload 5, 2) := by decide +kernel
theorem dX4_lookAt_59 : decode (mcode mX4_lookAt) 59 = .ok (.aload_n 0, 1) := by decide +kernel
theorem dX4_lookAt_60 : decode (mcode mX4_lookAt) 60 = .ok (.iload 4, 2) := by decide +kernel
theorem dX4_lookAt_62 : decode (mcode mX4_lookAt) 62 = .ok (.iload 5, 2) := by decide +kernel
theorem dX4_lookAt_64 : decode (mcode mX4_lookAt) 64 = .ok (.invokevirtual 38, 3) := by decide +kernel
theorem dX4_lookAt_67 : decode (mcode mX4_lookAt) 67 = .ok (.iastore, 1) := by decide +kernel
theorem dX4_lookAt_68 : decode (mcode mX4_lookAt) 68 = .ok (.iinc 5 (-1), 3) := by decide +kernel
theorem dX4_lookAt_71 : decode (mcode mX4_lookAt) 71 = .ok (.goto (-26), 3) := by decide +kernel
theorem dX4_lookAt_74 : decode (mcode mX4_lookAt) 74 = .ok (.iinc 4 (-1), 3) := by decide +kernel
theorem dX4_lookAt_77 : decode (mcode mX4_lookAt) 77 = .ok (.goto (-43), 3) := by decide +kernel
theorem dX4_lookAt_80 : decode (mcode mX4_lookAt) 80 = .ok (.return_, 1) := by decide +kernel

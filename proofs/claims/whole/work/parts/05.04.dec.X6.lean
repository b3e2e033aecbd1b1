theorem dX6_numberToday_0 : decode (mcode mX6_numberToday) 0 = .ok (.iload_n 2, 1) := by decide +kernel
theorem dX6_numberToday_1 : decode (mcode mX6_numberToday) 1 = .ok (.istore 4, 2) := by decide +kernel
theorem dX6_numberToday_3 : decode (mcode mX6_numberToday) 3 = .ok (.iconst 0, 1) := by decide +kernel
theorem dX6_numberToday_4 : decode (mcode mX6_numberToday) 4 = .ok (.istore 5, 2) := by decide +kernel
theorem dX6_numberToday_6 : decode (mcode mX6_numberToday) 6 = .ok (.iload 5, 2) := by decide +kernel
theorem dX6_numberToday_8 : decode (mcode mX6_numberToday) 8 = .ok (.aload_n 0, 1) := by decide +kernel
theorem dX6_numberToday_9 : decode (mcode mX6_numberToday) 9 = .ok (.getfield 32, 3) := by decide +kernel
theorem dX6_numberToday_12 : decode (mcode mX6_numberToday) 12 = .ok (.if_icmp .ge 52, 3) := by decide +kernel
theorem dX6_numberToday_15 : decode (mcode mX6_numberToday) 15 = .ok (.aload_n 0, 1) := by decide +kernel
theorem dX6_numberToday_16 : decode (mcode mX6_numberToday) 16 = .ok (.getfield 9, 3) := by decide +kernel
theorem dX6_numberToday_19 : decode (mcode mX6_numberToday) 19 = .ok (.iload 5, 2) := by decide +kernel
theorem dX6_numberToday_21 : decode (mcode mX6_numberToday) 21 = .ok (.iaload, 1) := by decide +kernel
theorem dX6_numberToday_22 : decode (mcode mX6_numberToday) 22 = .ok (.iload_n 3, 1) := by decide +kernel
theorem dX6_numberToday_23 : decode (mcode mX6_numberToday) 23 = .ok (.if_icmp .le 35, 3) := by decide +kernel
theorem dX6_numberToday_26 : decode (mcode mX6_numberToday) 26 = .ok (.aload_n 0, 1) := by decide +kernel
theorem dX6_numberToday_27 : decode (mcode mX6_numberToday) 27 = .ok (.getfield 15, 3) := by decide +kernel
theorem dX6_numberToday_30 : decode (mcode mX6_numberToday) 30 = .ok (.iload 5, 2) := by decide +kernel
theorem dX6_numberToday_32 : decode (mcode mX6_numberToday) 32 = .ok (.iaload, 1) := by decide +kernel
theorem dX6_numberToday_33 : decode (mcode mX6_numberToday) 33 = .ok (.iload_n 1, 1) := by decide +kernel
theorem dX6_numberToday_34 : decode (mcode mX6_numberToday) 34 = .ok (.if_icmp .ne 24, 3) := by decide +kernel
theorem dX6_numberToday_37 : decode (mcode mX6_numberToday) 37 = .ok (.aload_n 0, 1) := by decide +kernel
theorem dX6_numberToday_38 : decode (mcode mX6_numberToday) 38 = .ok (.getfield 18, 3) := by decide +kernel
theorem dX6_numberToday_41 : decode (mcode mX6_numberToday) 41 = .ok (.iload 5, 2) := by decide +kernel
theorem dX6_numberToday_43 : decode (mcode mX6_numberToday) 43 = .ok (.iaload, 1) := by decide +kernel
theorem dX6_numberToday_44 : decode (mcode mX6_numberToday) 44 = .ok (.iload 4, 2) := by decide +kernel
theorem dX6_numberToday_46 : decode (mcode mX6_numberToday) 46 = .ok (.if_icmp .ne 12, 3) := by decide +kernel
theorem dX6_numberToday_49 : decode (mcode mX6_numberToday) 49 = .ok (.aload_n 0, 1) := by decide +kernel
theorem dX6_numberToday_50 : decode (mcode mX6_numberToday) 50 = .ok (.getfield 21, 3) := by decide +kernel
theorem dX6_numberToday_53 : decode (mcode mX6_numberToday) 53 = .ok (.iload 5, 2) := by decide +kernel
theorem dX6_numberToday_55 : decode (mcode mX6_numberToday) 55 = .ok (.iaload, 1) := by decide +kernel
theorem dX6_numberToday_56 : decode (mcode mX6_numberToday) 56 = .ok (.istore 4, 2) := by decide +kernel
theorem dX6_numberToday_58 : decode (mcode mX6_numberToday) 58 = .ok (.iinc 5 1, 3) := by decide +kernel
theorem dX6_numberToday_61 : decode (mcode mX6_numberToday) 61 = .ok (.goto (-55), 3) := by decide +kernel
theorem dX6_numberToday_64 : decode (mcode mX6_numberToday) 64 = .ok (.iload 4, 2) := by decide +kernel
theorem dX6_numberToday_66 : decode (mcode mX6_numberToday) 66 = .ok (.ireturn, 1) := by decide +kernel
theorem dX6_put_0 : decode (mcode mX6_put) 0 = .ok (.aload_n 0, 1) := by decide +kernel
theorem dX6_put_1 : decode (mcode mX6_put) 1 = .ok (.getfield 9, 3) := by decide +kernel
theorem dX6_put_4 : decode (mcode mX6_put) 4 = .ok (.iload_n 1, 1) := by decide +kernel
theorem dX6_put_5 : decode (mcode mX6_put) 5 = .ok (.iload_n 2, 1) := by decide +kernel
theorem dX6_put_6 : decode (mcode mX6_put) 6 = .ok (.iastore, 1) := by decide +kernel
theorem dX6_put_7 : decode (mcode mX6_put) 7 = .ok (.aload_n 0, 1) := by decide +kernel
theorem dX6_put_8 : decode (mcode mX6_put) 8 = .ok (.getfield 15, 3) := by decide +kernel
theorem dX6_put_11 : decode (mcode mX6_put) 11 = .ok (.iload_n 1, 1) := by decide +kernel
theorem dX6_put_12 : decode (mcode mX6_put) 12 = .ok (.iload_n 3, 1) := by decide +kernel
theorem dX6_put_13 : decode (mcode mX6_put) 13 = .ok (.iastore, 1) := by decide +kernel
theorem dX6_put_14 : decode (mcode mX6_put) 14 = .ok (.aload_n 0, 1) := by decide +kernel
theorem dX6_put_15 : decode (mcode mX6_put) 15 = .ok (.getfield 18, 3) := by decide +kernel
theorem dX6_put_18 : decode (mcode mX6_put) 18 = .ok (.iload_n 1, 1) := by decide +kernel
theorem dX6_put_19 : decode (mcode mX6_put) 19 = .ok (.iload 4, 2) := by decide +kernel
theorem dX6_put_21 : decode (mcode mX6_put) 21 = .ok (.iastore, 1) := by decide +kernel
theorem dX6_put_22 : decode (mcode mX6_put) 22 = .ok (.aload_n 0, 1) := by decide +kernel
theorem dX6_put_23 : decode (mcode mX6_put) 23 = .ok (.getfield 21, 3) := by decide +kernel
theorem dX6_put_26 : decode (mcode mX6_put) 26 = .ok (.iload_n 1, 1) := by decide +kernel
theorem dX6_put_27 : decode (mcode mX6_put) 27 = .ok (.iload 5, 2) := by decide +kernel
theorem dX6_put_29 : decode (mcode mX6_put) 29 = .ok (.iastore, 1) := by decide +kernel
theorem dX6_put_30 : decode (mcode mX6_put) 30 = .ok (.return_, 1) := by decide +kernel
theorem dX6_quarrelsWithEarlier_0 : decode (mcode mX6_quarrelsWithEarlier) 0 = .ok (.iconst 0, 1) := by decide +kernel
theorem dX6_quarrelsWithEarlier_1 : decode (mcode mX6_quarrelsWithEarlier) 1 = .ok (.istore_n 2, 1) := by decide +kernel
theorem dX6_quarrelsWithEarlier_2 : decode (mcode mX6_quarrelsWithEarlier) 2 = .ok (.iload_n 2, 1) := by decide +kernel
theorem dX6_quarrelsWithEarlier_3 : decode (mcode mX6_quarrelsWithEarlier) 3 = .ok (.iload_n 1, 1) := by decide +kernel
theorem dX6_quarrelsWithEarlier_4 : decode (mcode mX6_quarrelsWithEarlier) 4 = .ok (.if_icmp .ge 56, 3) := by decide +kernel
theorem dX6_quarrelsWithEarlier_7 : decode (mcode mX6_quarrelsWithEarlier) 7 = .ok (.aload_n 0, 1) := by decide +kernel
theorem dX6_quarrelsWithEarlier_8 : decode (mcode mX6_quarrelsWithEarlier) 8 = .ok (.getfield 9, 3) := by decide +kernel
theorem dX6_quarrelsWithEarlier_11 : decode (mcode mX6_quarrelsWithEarlier) 11 = .ok (.iload_n 2, 1) := by decide +kernel
theorem dX6_quarrelsWithEarlier_12 : decode (mcode mX6_quarrelsWithEarlier) 12 = .ok (.iaload, 1) := by decide +kernel
theorem dX6_quarrelsWithEarlier_13 : decode (mcode mX6_quarrelsWithEarlier) 13 = .ok (.aload_n 0, 1) := by decide +kernel
theorem dX6_quarrelsWithEarlier_14 : decode (mcode mX6_quarrelsWithEarlier) 14 = .ok (.getfield 9, 3) := by decide +kernel
theorem dX6_quarrelsWithEarlier_17 : decode (mcode mX6_quarrelsWithEarlier) 17 = .ok (.iload_n 1, 1) := by decide +kernel
theorem dX6_quarrelsWithEarlier_18 : decode (mcode mX6_quarrelsWithEarlier) 18 = .ok (.iaload, 1) := by decide +kernel
theorem dX6_quarrelsWithEarlier_19 : decode (mcode mX6_quarrelsWithEarlier) 19 = .ok (.if_icmp .ne 35, 3) := by decide +kernel
theorem dX6_quarrelsWithEarlier_22 : decode (mcode mX6_quarrelsWithEarlier) 22 = .ok (.aload_n 0, 1) := by decide +kernel
theorem dX6_quarrelsWithEarlier_23 : decode (mcode mX6_quarrelsWithEarlier) 23 = .ok (.getfield 15, 3) := by decide +kernel
theorem dX6_quarrelsWithEarlier_26 : decode (mcode mX6_quarrelsWithEarlier) 26 = .ok (.iload_n 2, 1) := by decide +kernel
theorem dX6_quarrelsWithEarlier_27 : decode (mcode mX6_quarrelsWithEarlier) 27 = .ok (.iaload, 1) := by decide +kernel
theorem dX6_quarrelsWithEarlier_28 : decode (mcode mX6_quarrelsWithEarlier) 28 = .ok (.aload_n 0, 1) := by decide +kernel
theorem dX6_quarrelsWithEarlier_29 : decode (mcode mX6_quarrelsWithEarlier) 29 = .ok (.getfield 15, 3) := by decide +kernel
theorem dX6_quarrelsWithEarlier_32 : decode (mcode mX6_quarrelsWithEarlier) 32 = .ok (.iload_n 1, 1) := by decide +kernel
theorem dX6_quarrelsWithEarlier_33 : decode (mcode mX6_quarrelsWithEarlier) 33 = .ok (.iaload, 1) := by decide +kernel
theorem dX6_quarrelsWithEarlier_34 : decode (mcode mX6_quarrelsWithEarlier) 34 = .ok (.if_icmp .ne 20, 3) := by decide +kernel
theorem dX6_quarrelsWithEarlier_37 : decode (mcode mX6_quarrelsWithEarlier) 37 = .ok (.aload_n 0, 1) := by decide +kernel
theorem dX6_quarrelsWithEarlier_38 : decode (mcode mX6_quarrelsWithEarlier) 38 = .ok (.getfield 18, 3) := by decide +kernel
theorem dX6_quarrelsWithEarlier_41 : decode (mcode mX6_quarrelsWithEarlier) 41 = .ok (.iload_n 2, 1) := by decide +kernel
theorem dX6_quarrelsWithEarlier_42 : decode (mcode mX6_quarrelsWithEarlier) 42 = .ok (.iaload, 1) := by decide +kernel
theorem dX6_quarrelsWithEarlier_43 : decode (mcode mX6_quarrelsWithEarlier) 43 = .ok (.aload_n 0, 1) := by decide +kernel
theorem dX6_quarrelsWithEarlier_44 : decode (mcode mX6_quarrelsWithEarlier) 44 = .ok (.getfield 18, 3) := by decide +kernel
theorem dX6_quarrelsWithEarlier_47 : decode (mcode mX6_quarrelsWithEarlier) 47 = .ok (.iload_n 1, 1) := by decide +kernel
theorem dX6_quarrelsWithEarlier_48 : decode (mcode mX6_quarrelsWithEarlier) 48 = .ok (.iaload, 1) := by decide +kernel
theorem dX6_quarrelsWithEarlier_49 : decode (mcode mX6_quarrelsWithEarlier) 49 = .ok (.if_icmp .ne 5, 3) := by decide +kernel
theorem dX6_quarrelsWithEarlier_52 : decode (mcode mX6_quarrelsWithEarlier) 52 = .ok (.iconst 1, 1) := by decide +kernel
theorem dX6_quarrelsWithEarlier_53 : decode (mcode mX6_quarrelsWithEarlier) 53 = .ok (.ireturn, 1) := by decide +kernel
theorem dX6_quarrelsWithEarlier_54 : decode (mcode mX6_quarrelsWithEarlier) 54 = .ok (.iinc 2 1, 3) := by decide +kernel
theorem dX6_quarrelsWithEarlier_57 : decode (mcode mX6_quarrelsWithEarlier) 57 = .ok (.goto (-55), 3) := by decide +kernel
theorem dX6_quarrelsWithEarlier_60 : decode (mcode mX6_quarrelsWithEarlier) 60 = .ok (.iconst 0, 1) := by decide +kernel
theorem dX6_quarrelsWithEarlier_61 : decode (mcode mX6_quarrelsWithEarlier) 61 = .ok (.ireturn, 1) := by decide +kernel
theorem dX6_countQuarrels_0 : decode (mcode mX6_countQuarrels) 0 = .ok (.iconst 0, 1) := by decide +kernel
theorem dX6_countQuarrels_1 : decode (mcode mX6_countQuarrels) 1 = .ok (.istore_n 1, 1) := by decide +kernel
theorem dX6_countQuarrels_2 : decode (mcode mX6_countQuarrels) 2 = .ok (.iconst 1, 1) := by decide +kernel
theorem dX6_countQuarrels_3 : decode (mcode mX6_countQuarrels) 3 = .ok (.istore_n 2, 1) := by decide +kernel
theorem dX6_countQuarrels_4 : decode (mcode mX6_countQuarrels) 4 = .ok (.iload_n 2, 1) := by decide +kernel
theorem dX6_countQuarrels_5 : decode (mcode mX6_countQuarrels) 5 = .ok (.aload_n 0, 1) := by decide +kernel
theorem dX6_countQuarrels_6 : decode (mcode mX6_countQuarrels) 6 = .ok (.getfield 32, 3) := by decide +kernel
theorem dX6_countQuarrels_9 : decode (mcode mX6_countQuarrels) 9 = .ok (.if_icmp .ge 20, 3) := by decide +kernel
theorem dX6_countQuarrels_12 : decode (mcode mX6_countQuarrels) 12 = .ok (.aload_n 0, 1) := by decide +kernel
theorem dX6_countQuarrels_13 : decode (mcode mX6_countQuarrels) 13 = .ok (.iload_n 2, 1) := by decide +kernel
theorem dX6_countQuarrels_14 : decode (mcode mX6_countQuarrels) 14 = .ok (.invokevirtual 39, 3) := by decide +kernel
theorem dX6_countQuarrels_17 : decode (mcode mX6_countQuarrels) 17 = .ok (.ifCond .eq 6, 3) := by decide +kernel
theorem dX6_countQuarrels_20 : decode (mcode mX6_countQuarrels) 20 = .ok (.iinc 1 1, 3) := by decide +kernel
theorem dX6_countQuarrels_23 : decode (mcode mX6_countQuarrels) 23 = .ok (.iinc 2 1, 3) := by decide +kernel
theorem dX6_countQuarrels_26 : decode (mcode mX6_countQuarrels) 26 = .ok (.goto (-22), 3) := by decide +kernel
theorem dX6_countQuarrels_29 : decode (mcode mX6_countQuarrels) 29 = .ok (.iload_n 1, 1) := by decide +kernel
theorem dX6_countQuarrels_30 : decode (mcode mX6_countQuarrels) 30 = .ok (.ireturn, 1) := by decide +kernel
theorem dX6_sortIn_0 : decode (mcode mX6_sortIn) 0 = .ok (.aload_n 0, 1) := by decide +kernel
theorem dX6_sortIn_1 : decode (mcode mX6_sortIn) 1 = .ok (.getfield 9, 3) := by decide +kernel
theorem dX6_sortIn_4 : decode (mcode mX6_sortIn) 4 = .ok (.iload_n 1, 1) := by decide +kernel
theorem dX6_sortIn_5 : decode (mcode mX6_sortIn) 5 = .ok (.iaload, 1) := by decide +kernel
theorem dX6_sortIn_6 : decode (mcode mX6_sortIn) 6 = .ok (.istore_n 2, 1) := by decide +kernel
theorem dX6_sortIn_7 : decode (mcode mX6_sortIn) 7 = .ok (.aload_n 0, 1) := by decide +kernel
theorem dX6_sortIn_8 : decode (mcode mX6_sortIn) 8 = .ok (.getfield 15, 3) := by decide +kernel
theorem dX6_sortIn_11 : decode (mcode mX6_sortIn) 11 = .ok (.iload_n 1, 1) := by decide +kernel
theorem dX6_sortIn_12 : decode (mcode mX6_sortIn) 12 = .ok (.iaload, 1) := by decide +kernel
theorem dX6_sortIn_13 : decode (mcode mX6_sortIn) 13 = .ok (.istore_n 3, 1) := by decide +kernel
theorem dX6_sortIn_14 : decode (mcode mX6_sortIn) 14 = .ok (.aload_n 0, 1) := by decide +kernel
theorem dX6_sortIn_15 : decode (mcode mX6_sortIn) 15 = .ok (.getfield 18, 3) := by decide +kernel
theorem dX6_sortIn_18 : decode (mcode mX6_sortIn) 18 = .ok (.iload_n 1, 1) := by decide +kernel
theorem dX6_sortIn_19 : decode (mcode mX6_sortIn) 19 = .ok (.iaload, 1) := by decide +kernel
theorem dX6_sortIn_20 : decode (mcode mX6_sortIn) 20 = .ok (.istore 4, 2) := by decide +kernel
theorem dX6_sortIn_22 : decode (mcode mX6_sortIn) 22 = .ok (.aload_n 0, 1) := by decide +kernel
theorem dX6_sortIn_23 : decode (mcode mX6_sortIn) 23 = .ok (.getfield 21, 3) := by decide +kernel
theorem dX6_sortIn_26 : decode (mcode mX6_sortIn) 26 = .ok (.iload_n 1, 1) := by decide +kernel
theorem dX6_sortIn_27 : decode (mcode mX6_sortIn) 27 = .ok (.iaload, 1) := by decide +kernel
theorem dX6_sortIn_28 : decode (mcode mX6_sortIn) 28 = .ok (.istore 5, 2) := by decide +kernel
theorem dX6_sortIn_30 : decode (mcode mX6_sortIn) 30 = .ok (.iload_n 1, 1) := by decide +kernel
theorem dX6_sortIn_31 : decode (mcode mX6_sortIn) 31 = .ok (.istore 6, 2) := by decide +kernel
theorem dX6_sortIn_33 : decode (mcode mX6_sortIn) 33 = .ok (.iload 6, 2) := by decide +kernel
theorem dX6_sortIn_35 : decode (mcode mX6_sortIn) 35 = .ok (.ifCond .le 64, 3) := by decide +kernel
theorem dX6_sortIn_38 : decode (mcode mX6_sortIn) 38 = .ok (.aload_n 0, 1) := by decide +kernel
theorem dX6_sortIn_39 : decode (mcode mX6_sortIn) 39 = .ok (.getfield 9, 3) := by decide +kernel
theorem dX6_sortIn_42 : decode (mcode mX6_sortIn) 42 = .ok (.iload 6, 2) := by decide +kernel
theorem dX6_sortIn_44 : decode (mcode mX6_sortIn) 44 = .ok (.iconst 1, 1) := by decide +kernel
theorem dX6_sortIn_45 : decode (mcode mX6_sortIn) 45 = .ok (.isub, 1) := by decide +kernel
theorem dX6_sortIn_46 : decode (mcode mX6_sortIn) 46 = .ok (.iaload, 1) := by decide +kernel
theorem dX6_sortIn_47 : decode (mcode mX6_sortIn) 47 = .ok (.iload_n 2, 1) := by decide +kernel
theorem dX6_sortIn_48 : decode (mcode mX6_sortIn) 48 = .ok (.if_icmp .le 51, 3) := by decide +kernel
theorem dX6_sortIn_51 : decode (mcode mX6_sortIn) 51 = .ok (.aload_n 0, 1) := by decide +kernel
theorem dX6_sortIn_52 : decode (mcode mX6_sortIn) 52 = .ok (.iload 6, 2) := by decide +kernel
theorem dX6_sortIn_54 : decode (mcode mX6_sortIn) 54 = .ok (.aload_n 0, 1) := by decide +kernel
theorem dX6_sortIn_55 : decode (mcode mX6_sortIn) 55 = .ok (.getfield 9, 3) := by decide +kernel
theorem dX6_sortIn_58 : decode (mcode mX6_sortIn) 58 = .ok (.iload 6, 2) := by decide +kernel
theorem dX6_sortIn_60 : decode (mcode mX6_sortIn) 60 = .ok (.iconst 1, 1) := by decide +kernel
theorem dX6_sortIn_61 : decode (mcode mX6_sortIn) 61 = .ok (.isub, 1) := by decide +kernel
theorem dX6_sortIn_62 : decode (mcode mX6_sortIn) 62 = .ok (.iaload, 1) := by decide +kernel
theorem dX6_sortIn_63 : decode (mcode mX6_sortIn) 63 = .ok (.aload_n 0, 1) := by decide +kernel
theorem dX6_sortIn_64 : decode (mcode mX6_sortIn) 64 = .ok (.getfield 15, 3) := by decide +kernel
theorem dX6_sortIn_67 : decode (mcode mX6_sortIn) 67 = .ok (.iload 6, 2) := by decide +kernel
theorem dX6_sortIn_69 : decode (mcode mX6_sortIn) 69 = .ok (.iconst 1, 1) := by decide +kernel
theorem dX6_sortIn_70 : decode (mcode mX6_sortIn) 70 = .ok (.isub, 1) := by decide +kernel
theorem dX6_sortIn_71 : decode (mcode mX6_sortIn) 71 = .ok (.iaload, 1) := by decide +kernel
theorem dX6_sortIn_72 : decode (mcode mX6_sortIn) 72 = .ok (.aload_n 0, 1) := by decide +kernel
theorem dX6_sortIn_73 : decode (mcode mX6_sortIn) 73 = .ok (.getfield 18, 3) := by decide +kernel
theorem dX6_sortIn_76 : decode (mcode mX6_sortIn) 76 = .ok (.iload 6, 2) := by decide +kernel
theorem dX6_sortIn_78 : decode (mcode mX6_sortIn) 78 = .ok (.iconst 1, 1) := by decide +kernel
theorem dX6_sortIn_79 : decode (mcode mX6_sortIn) 79 = .ok (.isub, 1) := by decide +kernel
theorem dX6_sortIn_80 : decode (mcode mX6_sortIn) 80 = .ok (.iaload, 1) := by decide +kernel
theorem dX6_sortIn_81 : decode (mcode mX6_sortIn) 81 = .ok (.aload_n 0, 1) := by decide +kernel
theorem dX6_sortIn_82 : decode (mcode mX6_sortIn) 82 = .ok (.getfield 21, 3) := by decide +kernel
theorem dX6_sortIn_85 : decode (mcode mX6_sortIn) 85 = .ok (.iload 6, 2) := by decide +kernel
theorem dX6_sortIn_87 : decode (mcode mX6_sortIn) 87 = .ok (.iconst 1, 1) := by decide +kernel
theorem dX6_sortIn_88 : decode (mcode mX6_sortIn) 88 = .ok (.isub, 1) := by decide +kernel
theorem dX6_sortIn_89 : decode (mcode mX6_sortIn) 89 = .ok (.iaload, 1) := by decide +kernel
theorem dX6_sortIn_90 : decode (mcode mX6_sortIn) 90 = .ok (.invokevirtual 28, 3) := by decide +kernel
theorem dX6_sortIn_93 : decode (mcode mX6_sortIn) 93 = .ok (.iinc 6 (-1), 3) := by decide +kernel
theorem dX6_sortIn_96 : decode (mcode mX6_sortIn) 96 = .ok (.goto (-63), 3) := by decide +kernel
theorem dX6_sortIn_99 : decode (mcode mX6_sortIn) 99 = .ok (.aload_n 0, 1) := by decide +kernel
theorem dX6_sortIn_100 : decode (mcode mX6_sortIn) 100 = .ok (.iload 6, 2) := by decide +kernel
theorem dX6_sortIn_102 : decode (mcode mX6_sortIn) 102 = .ok (.iload_n 2, 1) := by decide +kernel
theorem dX6_sortIn_103 : decode (mcode mX6_sortIn) 103 = .ok (.iload_n 3, 1) := by decide +kernel
theorem dX6_sortIn_104 : decode (mcode mX6_sortIn) 104 = .ok (.iload 4, 2) := by decide +kernel
theorem dX6_sortIn_106 : decode (mcode mX6_sortIn) 106 = .ok (.iload 5, 2) := by decide +kernel
theorem dX6_sortIn_108 : decode (mcode mX6_sortIn) 108 = .ok (.invokevirtual 28, 3) := by decide +kernel
theorem dX6_sortIn_111 : decode (mcode mX6_sortIn) 111 = .ok (.return_, 1) := by decide +kernel
theorem dX6_tell_0 : decode (mcode mX6_tell) 0 = .ok (.aload_n 0, 1) := by decide +kernel
theorem dX6_tell_1 : decode (mcode mX6_tell) 1 = .ok (.getfield 24, 3) := by decide +kernel
theorem dX6_tell_4 : decode (mcode mX6_tell) 4 = .ok (.bipush 20, 2) := by decide +kernel
theorem dX6_tell_6 : decode (mcode mX6_tell) 6 = .ok (.if_icmp .lt 4, 3) := by decide +kernel
theorem dX6_tell_9 : decode (mcode mX6_tell) 9 = .ok (.return_, 1) := by decide +kernel
theorem dX6_tell_10 : decode (mcode mX6_tell) 10 = .ok (.aload_n 0, 1) := by decide +kernel
theorem dX6_tell_11 : decode (mcode mX6_tell) 11 = .ok (.aload_n 0, 1) := by decide +kernel
theorem dX6_tell_12 : decode (mcode mX6_tell) 12 = .ok (.getfield 24, 3) := by decide +kernel
theorem dX6_tell_15 : decode (mcode mX6_tell) 15 = .ok (.iload_n 1, 1) := by decide +kernel
theorem dX6_tell_16 : decode (mcode mX6_tell) 16 = .ok (.iload_n 2, 1) := by decide +kernel
theorem dX6_tell_17 : decode (mcode mX6_tell) 17 = .ok (.iload_n 3, 1) := by decide +kernel
theorem dX6_tell_18 : decode (mcode mX6_tell) 18 = .ok (.iload 4, 2) := by decide +kernel
theorem dX6_tell_20 : decode (mcode mX6_tell) 20 = .ok (.invokevirtual 28, 3) := by decide +kernel
theorem dX6_tell_23 : decode (mcode mX6_tell) 23 = .ok (.aload_n 0, 1) := by decide +kernel
theorem dX6_tell_24 : decode (mcode mX6_tell) 24 = .ok (.dup, 1) := by decide +kernel
theorem dX6_tell_25 : decode (mcode mX6_tell) 25 = .ok (.getfield 24, 3) := by decide +kernel
theorem dX6_tell_28 : decode (mcode mX6_tell) 28 = .ok (.iconst 1, 1) := by decide +kernel
theorem dX6_tell_29 : decode (mcode mX6_tell) 29 = .ok (.iadd, 1) := by decide +kernel
theorem dX6_tell_30 : decode (mcode mX6_tell) 30 = .ok (.putfield 24, 3) := by decide +kernel
theorem dX6_tell_33 : decode (mcode mX6_tell) 33 = .ok (.return_, 1) := by decide +kernel
theorem dX6_keep_0 : decode (mcode mX6_keep) 0 = .ok (.aload_n 0, 1) := by decide +kernel
theorem dX6_keep_1 : decode (mcode mX6_keep) 1 = .ok (.getfield 32, 3) := by decide +kernel
theorem dX6_keep_4 : decode (mcode mX6_keep) 4 = .ok (.aload_n 0, 1) := by decide +kernel
theorem dX6_keep_5 : decode (mcode mX6_keep) 5 = .ok (.getfield 24, 3) := by decide +kernel
theorem dX6_keep_8 : decode (mcode mX6_keep) 8 = .ok (.if_icmp .ge 24, 3) := by decide +kernel
theorem dX6_keep_11 : decode (mcode mX6_keep) 11 = .ok (.aload_n 0, 1) := by decide +kernel
theorem dX6_keep_12 : decode (mcode mX6_keep) 12 = .ok (.aload_n 0, 1) := by decide +kernel
theorem dX6_keep_13 : decode (mcode mX6_keep) 13 = .ok (.getfield 32, 3) := by decide +kernel
theorem dX6_keep_16 : decode (mcode mX6_keep) 16 = .ok (.invokevirtual 35, 3) := by decide +kernel
theorem dX6_keep_19 : decode (mcode mX6_keep) 19 = .ok (.aload_n 0, 1) := by decide +kernel
theorem dX6_keep_20 : decode (mcode mX6_keep) 20 = .ok (.dup, 1) := by decide +kernel
theorem dX6_keep_21 : decode (mcode mX6_keep) 21 = .ok (.getfield 32, 3) := by decide +kernel
theorem dX6_keep_24 : decode (mcode mX6_keep) 24 = .ok (.iconst 1, 1) := by decide +kernel
theorem dX6_keep_25 : decode (mcode mX6_keep) 25 = .ok (.iadd, 1) := by decide +kernel
theorem dX6_keep_26 : decode (mcode mX6_keep) 26 = .ok (.putfield 32, 3) := by decide +kernel
theorem dX6_keep_29 : decode (mcode mX6_keep) 29 = .ok (.goto (-29), 3) := by decide +kernel
theorem dX6_keep_32 : decode (mcode mX6_keep) 32 = .ok (.return_, 1) := by decide +kernel

theorem dX3_atOneDoor_0 : decode (mcode mX3_atOneDoor) 0 = .ok (.aload_n 0, 1) := by decide +kernel
theorem dX3_atOneDoor_1 : decode (mcode mX3_atOneDoor) 1 = .ok (.getfield 18, 3) := by decide +kernel
theorem dX3_atOneDoor_4 : decode (mcode mX3_atOneDoor) 4 = .ok (.iload_n 1, 1) := by decide +kernel
theorem dX3_atOneDoor_5 : decode (mcode mX3_atOneDoor) 5 = .ok (.iaload, 1) := by decide +kernel
theorem dX3_atOneDoor_6 : decode (mcode mX3_atOneDoor) 6 = .ok (.aload_n 0, 1) := by decide +kernel
theorem dX3_atOneDoor_7 : decode (mcode mX3_atOneDoor) 7 = .ok (.getfield 18, 3) := by decide +kernel
theorem dX3_atOneDoor_10 : decode (mcode mX3_atOneDoor) 10 = .ok (.iload_n 2, 1) := by decide +kernel
theorem dX3_atOneDoor_11 : decode (mcode mX3_atOneDoor) 11 = .ok (.iaload, 1) := by decide +kernel
theorem dX3_atOneDoor_12 : decode (mcode mX3_atOneDoor) 12 = .ok (.if_icmp .ne 22, 3) := by decide +kernel
theorem dX3_atOneDoor_15 : decode (mcode mX3_atOneDoor) 15 = .ok (.aload_n 0, 1) := by decide +kernel
theorem dX3_atOneDoor_16 : decode (mcode mX3_atOneDoor) 16 = .ok (.getfield 30, 3) := by decide +kernel
theorem dX3_atOneDoor_19 : decode (mcode mX3_atOneDoor) 19 = .ok (.iload_n 1, 1) := by decide +kernel
theorem dX3_atOneDoor_20 : decode (mcode mX3_atOneDoor) 20 = .ok (.iaload, 1) := by decide +kernel
theorem dX3_atOneDoor_21 : decode (mcode mX3_atOneDoor) 21 = .ok (.aload_n 0, 1) := by decide +kernel
theorem dX3_atOneDoor_22 : decode (mcode mX3_atOneDoor) 22 = .ok (.getfield 30, 3) := by decide +kernel
theorem dX3_atOneDoor_25 : decode (mcode mX3_atOneDoor) 25 = .ok (.iload_n 2, 1) := by decide +kernel
theorem dX3_atOneDoor_26 : decode (mcode mX3_atOneDoor) 26 = .ok (.iaload, 1) := by decide +kernel
theorem dX3_atOneDoor_27 : decode (mcode mX3_atOneDoor) 27 = .ok (.if_icmp .ne 7, 3) := by decide +kernel
theorem dX3_atOneDoor_30 : decode (mcode mX3_atOneDoor) 30 = .ok (.iconst 1, 1) := by decide +kernel
theorem dX3_atOneDoor_31 : decode (mcode mX3_atOneDoor) 31 = .ok (.goto 4, 3) := by decide +kernel
theorem dX3_atOneDoor_34 : decode (mcode mX3_atOneDoor) 34 = .ok (.iconst 0, 1) := by decide +kernel
theorem dX3_atOneDoor_35 : decode (mcode mX3_atOneDoor) 35 = .ok (.ireturn, 1) := by decide +kernel
theorem dX3_countOfBook_0 : decode (mcode mX3_countOfBook) 0 = .ok (.iconst 0, 1) := by decide +kernel
theorem dX3_countOfBook_1 : decode (mcode mX3_countOfBook) 1 = .ok (.istore_n 2, 1) := by decide +kernel
theorem dX3_countOfBook_2 : decode (mcode mX3_countOfBook) 2 = .ok (.iconst 0, 1) := by decide +kernel
theorem dX3_countOfBook_3 : decode (mcode mX3_countOfBook) 3 = .ok (.istore_n 3, 1) := by decide +kernel
theorem dX3_countOfBook_4 : decode (mcode mX3_countOfBook) 4 = .ok (.iload_n 3, 1) := by decide +kernel
theorem dX3_countOfBook_5 : decode (mcode mX3_countOfBook) 5 = .ok (.aload_n 0, 1) := by decide +kernel
theorem dX3_countOfBook_6 : decode (mcode mX3_countOfBook) 6 = .ok (.getfield 40, 3) := by decide +kernel
theorem dX3_countOfBook_9 : decode (mcode mX3_countOfBook) 9 = .ok (.if_icmp .ge 22, 3) := by decide +kernel
theorem dX3_countOfBook_12 : decode (mcode mX3_countOfBook) 12 = .ok (.aload_n 0, 1) := by decide +kernel
theorem dX3_countOfBook_13 : decode (mcode mX3_countOfBook) 13 = .ok (.getfield 9, 3) := by decide +kernel
theorem dX3_countOfBook_16 : decode (mcode mX3_countOfBook) 16 = .ok (.iload_n 3, 1) := by decide +kernel
theorem dX3_countOfBook_17 : decode (mcode mX3_countOfBook) 17 = .ok (.iaload, 1) := by decide +kernel
theorem dX3_countOfBook_18 : decode (mcode mX3_countOfBook) 18 = .ok (.iload_n 1, 1) := by decide +kernel
theorem dX3_countOfBook_19 : decode (mcode mX3_countOfBook) 19 = .ok (.if_icmp .ne 6, 3) := by decide +kernel
theorem dX3_countOfBook_22 : decode (mcode mX3_countOfBook) 22 = .ok (.iinc 2 1, 3) := by decide +kernel
theorem dX3_countOfBook_25 : decode (mcode mX3_countOfBook) 25 = .ok (.iinc 3 1, 3) := by decide +kernel
theorem dX3_countOfBook_28 : decode (mcode mX3_countOfBook) 28 = .ok (.goto (-24), 3) := by decide +kernel
theorem dX3_countOfBook_31 : decode (mcode mX3_countOfBook) 31 = .ok (.iload_n 2, 1) := by decide +kernel
theorem dX3_countOfBook_32 : decode (mcode mX3_countOfBook) 32 = .ok (.ireturn, 1) := by decide +kernel
theorem dX3_isHome_0 : decode (mcode mX3_isHome) 0 = .ok (.aload_n 0, 1) := by decide +kernel
theorem dX3_isHome_1 : decode (mcode mX3_isHome) 1 = .ok (.getfield 15, 3) := by decide +kernel
theorem dX3_isHome_4 : decode (mcode mX3_isHome) 4 = .ok (.iload_n 1, 1) := by decide +kernel
theorem dX3_isHome_5 : decode (mcode mX3_isHome) 5 = .ok (.iaload, 1) := by decide +kernel
theorem dX3_isHome_6 : decode (mcode mX3_isHome) 6 = .ok (.ifCond .eq 23, 3) := by decide +kernel
theorem dX3_isHome_9 : decode (mcode mX3_isHome) 9 = .ok (.aload_n 0, 1) := by decide +kernel
theorem dX3_isHome_10 : decode (mcode mX3_isHome) 10 = .ok (.getfield 15, 3) := by decide +kernel
theorem dX3_isHome_13 : decode (mcode mX3_isHome) 13 = .ok (.iload_n 1, 1) := by decide +kernel
theorem dX3_isHome_14 : decode (mcode mX3_isHome) 14 = .ok (.iaload, 1) := by decide +kernel
theorem dX3_isHome_15 : decode (mcode mX3_isHome) 15 = .ok (.iconst 1, 1) := by decide +kernel
theorem dX3_isHome_16 : decode (mcode mX3_isHome) 16 = .ok (.if_icmp .eq 13, 3) := by decide +kernel
theorem dX3_isHome_19 : decode (mcode mX3_isHome) 19 = .ok (.aload_n 0, 1) := by decide +kernel
theorem dX3_isHome_20 : decode (mcode mX3_isHome) 20 = .ok (.getfield 15, 3) := by decide +kernel
theorem dX3_isHome_23 : decode (mcode mX3_isHome) 23 = .ok (.iload_n 1, 1) := by decide +kernel
theorem dX3_isHome_24 : decode (mcode mX3_isHome) 24 = .ok (.iaload, 1) := by decide +kernel
theorem dX3_isHome_25 : decode (mcode mX3_isHome) 25 = .ok (.iconst 2, 1) := by decide +kernel
theorem dX3_isHome_26 : decode (mcode mX3_isHome) 26 = .ok (.if_icmp .ne 7, 3) := by decide +kernel
theorem dX3_isHome_29 : decode (mcode mX3_isHome) 29 = .ok (.iconst 1, 1) := by decide +kernel
theorem dX3_isHome_30 : decode (mcode mX3_isHome) 30 = .ok (.goto 4, 3) := by decide +kernel
theorem dX3_isHome_33 : decode (mcode mX3_isHome) 33 = .ok (.iconst 0, 1) := by decide +kernel
theorem dX3_isHome_34 : decode (mcode mX3_isHome) 34 = .ok (.ireturn, 1) := by decide +kernel
theorem dX3_agesAgree_0 : decode (mcode mX3_agesAgree) 0 = .ok (.aload_n 0, 1) := by decide +kernel
theorem dX3_agesAgree_1 : decode (mcode mX3_agesAgree) 1 = .ok (.getfield 24, 3) := by decide +kernel
theorem dX3_agesAgree_4 : decode (mcode mX3_agesAgree) 4 = .ok (.iload_n 1, 1) := by decide +kernel
theorem dX3_agesAgree_5 : decode (mcode mX3_agesAgree) 5 = .ok (.iaload, 1) := by decide +kernel
theorem dX3_agesAgree_6 : decode (mcode mX3_agesAgree) 6 = .ok (.ldc 74, 2) := by decide +kernel
theorem dX3_agesAgree_8 : decode (mcode mX3_agesAgree) 8 = .ok (.if_icmp .eq 14, 3) := by decide +kernel
theorem dX3_agesAgree_11 : decode (mcode mX3_agesAgree) 11 = .ok (.aload_n 0, 1) := by decide +kernel
theorem dX3_agesAgree_12 : decode (mcode mX3_agesAgree) 12 = .ok (.getfield 24, 3) := by decide +kernel
theorem dX3_agesAgree_15 : decode (mcode mX3_agesAgree) 15 = .ok (.iload_n 2, 1) := by decide +kernel
theorem dX3_agesAgree_16 : decode (mcode mX3_agesAgree) 16 = .ok (.iaload, 1) := by decide +kernel
theorem dX3_agesAgree_17 : decode (mcode mX3_agesAgree) 17 = .ok (.ldc 74, 2) := by decide +kernel
theorem dX3_agesAgree_19 : decode (mcode mX3_agesAgree) 19 = .ok (.if_icmp .ne 5, 3) := by decide +kernel
theorem dX3_agesAgree_22 : decode (mcode mX3_agesAgree) 22 = .ok (.iconst 1, 1) := by decide +kernel
theorem dX3_agesAgree_23 : decode (mcode mX3_agesAgree) 23 = .ok (.ireturn, 1) := by decide +kernel
theorem dX3_agesAgree_24 : decode (mcode mX3_agesAgree) 24 = .ok (.aload_n 0, 1) := by decide +kernel
theorem dX3_agesAgree_25 : decode (mcode mX3_agesAgree) 25 = .ok (.getfield 24, 3) := by decide +kernel
theorem dX3_agesAgree_28 : decode (mcode mX3_agesAgree) 28 = .ok (.iload_n 1, 1) := by decide +kernel
theorem dX3_agesAgree_29 : decode (mcode mX3_agesAgree) 29 = .ok (.iaload, 1) := by decide +kernel
theorem dX3_agesAgree_30 : decode (mcode mX3_agesAgree) 30 = .ok (.aload_n 0, 1) := by decide +kernel
theorem dX3_agesAgree_31 : decode (mcode mX3_agesAgree) 31 = .ok (.getfield 24, 3) := by decide +kernel
theorem dX3_agesAgree_34 : decode (mcode mX3_agesAgree) 34 = .ok (.iload_n 2, 1) := by decide +kernel
theorem dX3_agesAgree_35 : decode (mcode mX3_agesAgree) 35 = .ok (.iaload, 1) := by decide +kernel
theorem dX3_agesAgree_36 : decode (mcode mX3_agesAgree) 36 = .ok (.isub, 1) := by decide +kernel
theorem dX3_agesAgree_37 : decode (mcode mX3_agesAgree) 37 = .ok (.aload_n 0, 1) := by decide +kernel
theorem dX3_agesAgree_38 : decode (mcode mX3_agesAgree) 38 = .ok (.getfield 27, 3) := by decide +kernel
theorem dX3_agesAgree_41 : decode (mcode mX3_agesAgree) 41 = .ok (.iload_n 1, 1) := by decide +kernel
theorem dX3_agesAgree_42 : decode (mcode mX3_agesAgree) 42 = .ok (.iaload, 1) := by decide +kernel
theorem dX3_agesAgree_43 : decode (mcode mX3_agesAgree) 43 = .ok (.aload_n 0, 1) := by decide +kernel
theorem dX3_agesAgree_44 : decode (mcode mX3_agesAgree) 44 = .ok (.getfield 27, 3) := by decide +kernel
theorem dX3_agesAgree_47 : decode (mcode mX3_agesAgree) 47 = .ok (.iload_n 2, 1) := by decide +kernel
theorem dX3_agesAgree_48 : decode (mcode mX3_agesAgree) 48 = .ok (.iaload, 1) := by decide +kernel
theorem dX3_agesAgree_49 : decode (mcode mX3_agesAgree) 49 = .ok (.isub, 1) := by decide +kernel
theorem dX3_agesAgree_50 : decode (mcode mX3_agesAgree) 50 = .ok (.isub, 1) := by decide +kernel
theorem dX3_agesAgree_51 : decode (mcode mX3_agesAgree) 51 = .ok (.invokestatic 75, 3) := by decide +kernel
theorem dX3_agesAgree_54 : decode (mcode mX3_agesAgree) 54 = .ok (.iconst 2, 1) := by decide +kernel
theorem dX3_agesAgree_55 : decode (mcode mX3_agesAgree) 55 = .ok (.if_icmp .gt 7, 3) := by decide +kernel
theorem dX3_agesAgree_58 : decode (mcode mX3_agesAgree) 58 = .ok (.iconst 1, 1) := by decide +kernel
theorem dX3_agesAgree_59 : decode (mcode mX3_agesAgree) 59 = .ok (.goto 4, 3) := by decide +kernel
theorem dX3_agesAgree_62 : decode (mcode mX3_agesAgree) 62 = .ok (.iconst 0, 1) := by decide +kernel
theorem dX3_agesAgree_63 : decode (mcode mX3_agesAgree) 63 = .ok (.ireturn, 1) := by decide +kernel
theorem dX3_areTwoHomesAtOnce_0 : decode (mcode mX3_areTwoHomesAtOnce) 0 = .ok (.aload_n 0, 1) := by decide +kernel
theorem dX3_areTwoHomesAtOnce_1 : decode (mcode mX3_areTwoHomesAtOnce) 1 = .ok (.iload_n 1, 1) := by decide +kernel
theorem dX3_areTwoHomesAtOnce_2 : decode (mcode mX3_areTwoHomesAtOnce) 2 = .ok (.invokevirtual 60, 3) := by decide +kernel
theorem dX3_areTwoHomesAtOnce_5 : decode (mcode mX3_areTwoHomesAtOnce) 5 = .ok (.ifCond .eq 39, 3) := by decide +kernel
theorem dX3_areTwoHomesAtOnce_8 : decode (mcode mX3_areTwoHomesAtOnce) 8 = .ok (.aload_n 0, 1) := by decide +kernel
theorem dX3_areTwoHomesAtOnce_9 : decode (mcode mX3_areTwoHomesAtOnce) 9 = .ok (.iload_n 2, 1) := by decide +kernel
theorem dX3_areTwoHomesAtOnce_10 : decode (mcode mX3_areTwoHomesAtOnce) 10 = .ok (.invokevirtual 60, 3) := by decide +kernel
theorem dX3_areTwoHomesAtOnce_13 : decode (mcode mX3_areTwoHomesAtOnce) 13 = .ok (.ifCond .eq 31, 3) := by decide +kernel
theorem dX3_areTwoHomesAtOnce_16 : decode (mcode mX3_areTwoHomesAtOnce) 16 = .ok (.aload_n 0, 1) := by decide +kernel
theorem dX3_areTwoHomesAtOnce_17 : decode (mcode mX3_areTwoHomesAtOnce) 17 = .ok (.getfield 27, 3) := by decide +kernel
theorem dX3_areTwoHomesAtOnce_20 : decode (mcode mX3_areTwoHomesAtOnce) 20 = .ok (.iload_n 1, 1) := by decide +kernel
theorem dX3_areTwoHomesAtOnce_21 : decode (mcode mX3_areTwoHomesAtOnce) 21 = .ok (.iaload, 1) := by decide +kernel
theorem dX3_areTwoHomesAtOnce_22 : decode (mcode mX3_areTwoHomesAtOnce) 22 = .ok (.aload_n 0, 1) := by decide +kernel
theorem dX3_areTwoHomesAtOnce_23 : decode (mcode mX3_areTwoHomesAtOnce) 23 = .ok (.getfield 27, 3) := by decide +kernel
theorem dX3_areTwoHomesAtOnce_26 : decode (mcode mX3_areTwoHomesAtOnce) 26 = .ok (.iload_n 2, 1) := by decide +kernel
theorem dX3_areTwoHomesAtOnce_27 : decode (mcode mX3_areTwoHomesAtOnce) 27 = .ok (.iaload, 1) := by decide +kernel
theorem dX3_areTwoHomesAtOnce_28 : decode (mcode mX3_areTwoHomesAtOnce) 28 = .ok (.if_icmp .ne 16, 3) := by decide +kernel
theorem dX3_areTwoHomesAtOnce_31 : decode (mcode mX3_areTwoHomesAtOnce) 31 = .ok (.aload_n 0, 1) := by decide +kernel
theorem dX3_areTwoHomesAtOnce_32 : decode (mcode mX3_areTwoHomesAtOnce) 32 = .ok (.iload_n 1, 1) := by decide +kernel
theorem dX3_areTwoHomesAtOnce_33 : decode (mcode mX3_areTwoHomesAtOnce) 33 = .ok (.iload_n 2, 1) := by decide +kernel
theorem dX3_areTwoHomesAtOnce_34 : decode (mcode mX3_areTwoHomesAtOnce) 34 = .ok (.invokevirtual 81, 3) := by decide +kernel
theorem dX3_areTwoHomesAtOnce_37 : decode (mcode mX3_areTwoHomesAtOnce) 37 = .ok (.ifCond .ne 7, 3) := by decide +kernel
theorem dX3_areTwoHomesAtOnce_40 : decode (mcode mX3_areTwoHomesAtOnce) 40 = .ok (.iconst 1, 1) := by decide +kernel
theorem dX3_areTwoHomesAtOnce_41 : decode (mcode mX3_areTwoHomesAtOnce) 41 = .ok (.goto 4, 3) := by decide +kernel
theorem dX3_areTwoHomesAtOnce_44 : decode (mcode mX3_areTwoHomesAtOnce) 44 = .ok (.iconst 0, 1) := by decide +kernel
theorem dX3_areTwoHomesAtOnce_45 : decode (mcode mX3_areTwoHomesAtOnce) 45 = .ok (.ireturn, 1) := by decide +kernel
theorem dX3_countHomes_0 : decode (mcode mX3_countHomes) 0 = .ok (.iconst 0, 1) := by decide +kernel
theorem dX3_countHomes_1 : decode (mcode mX3_countHomes) 1 = .ok (.istore_n 1, 1) := by decide +kernel
theorem dX3_countHomes_2 : decode (mcode mX3_countHomes) 2 = .ok (.iconst 0, 1) := by decide +kernel
theorem dX3_countHomes_3 : decode (mcode mX3_countHomes) 3 = .ok (.istore_n 2, 1) := by decide +kernel
theorem dX3_countHomes_4 : decode (mcode mX3_countHomes) 4 = .ok (.iload_n 2, 1) := by decide +kernel
theorem dX3_countHomes_5 : decode (mcode mX3_countHomes) 5 = .ok (.aload_n 0, 1) := by decide +kernel
theorem dX3_countHomes_6 : decode (mcode mX3_countHomes) 6 = .ok (.getfield 40, 3) := by decide +kernel
theorem dX3_countHomes_9 : decode (mcode mX3_countHomes) 9 = .ok (.if_icmp .ge 20, 3) := by decide +kernel
theorem dX3_countHomes_12 : decode (mcode mX3_countHomes) 12 = .ok (.aload_n 0, 1) := by decide +kernel
theorem dX3_countHomes_13 : decode (mcode mX3_countHomes) 13 = .ok (.iload_n 2, 1) := by decide +kernel
theorem dX3_countHomes_14 : decode (mcode mX3_countHomes) 14 = .ok (.invokevirtual 60, 3) := by decide +kernel
theorem dX3_countHomes_17 : decode (mcode mX3_countHomes) 17 = .ok (.ifCond .eq 6, 3) := by decide +kernel
theorem dX3_countHomes_20 : decode (mcode mX3_countHomes) 20 = .ok (.iinc 1 1, 3) := by decide +kernel
theorem dX3_countHomes_23 : decode (mcode mX3_countHomes) 23 = .ok (.iinc 2 1, 3) := by decide +kernel
theorem dX3_countHomes_26 : decode (mcode mX3_countHomes) 26 = .ok (.goto (-22), 3) := by decide +kernel
theorem dX3_countHomes_29 : decode (mcode mX3_countHomes) 29 = .ok (.iload_n 1, 1) := by decide +kernel
theorem dX3_countHomes_30 : decode (mcode mX3_countHomes) 30 = .ok (.ireturn, 1) := by decide +kernel
theorem dX3_isDoorRead_0 : decode (mcode mX3_isDoorRead) 0 = .ok (.iconst 0, 1) := by decide +kernel
theorem dX3_isDoorRead_1 : decode (mcode mX3_isDoorRead) 1 = .ok (.istore_n 3, 1) := by decide +kernel
theorem dX3_isDoorRead_2 : decode (mcode mX3_isDoorRead) 2 = .ok (.iload_n 3, 1) := by decide +kernel
theorem dX3_isDoorRead_3 : decode (mcode mX3_isDoorRead) 3 = .ok (.aload_n 0, 1) := by decide +kernel
theorem dX3_isDoorRead_4 : decode (mcode mX3_isDoorRead) 4 = .ok (.getfield 40, 3) := by decide +kernel
theorem dX3_isDoorRead_7 : decode (mcode mX3_isDoorRead) 7 = .ok (.if_icmp .ge 34, 3) := by decide +kernel
theorem dX3_isDoorRead_10 : decode (mcode mX3_isDoorRead) 10 = .ok (.aload_n 2, 1) := by decide +kernel
theorem dX3_isDoorRead_11 : decode (mcode mX3_isDoorRead) 11 = .ok (.getfield 99, 3) := by decide +kernel
theorem dX3_isDoorRead_14 : decode (mcode mX3_isDoorRead) 14 = .ok (.aload_n 0, 1) := by decide +kernel
theorem dX3_isDoorRead_15 : decode (mcode mX3_isDoorRead) 15 = .ok (.getfield 9, 3) := by decide +kernel
theorem dX3_isDoorRead_18 : decode (mcode mX3_isDoorRead) 18 = .ok (.iload_n 3, 1) := by decide +kernel
theorem dX3_isDoorRead_19 : decode (mcode mX3_isDoorRead) 19 = .ok (.iaload, 1) := by decide +kernel
theorem dX3_isDoorRead_20 : decode (mcode mX3_isDoorRead) 20 = .ok (.baload, 1) := by decide +kernel
theorem dX3_isDoorRead_21 : decode (mcode mX3_isDoorRead) 21 = .ok (.ifCond .eq 14, 3) := by decide +kernel
theorem dX3_isDoorRead_24 : decode (mcode mX3_isDoorRead) 24 = .ok (.aload_n 0, 1) := by decide +kernel
theorem dX3_isDoorRead_25 : decode (mcode mX3_isDoorRead) 25 = .ok (.iload_n 1, 1) := by decide +kernel
theorem dX3_isDoorRead_26 : decode (mcode mX3_isDoorRead) 26 = .ok (.iload_n 3, 1) := by decide +kernel
theorem dX3_isDoorRead_27 : decode (mcode mX3_isDoorRead) 27 = .ok (.invokevirtual 81, 3) := by decide +kernel
theorem dX3_isDoorRead_30 : decode (mcode mX3_isDoorRead) 30 = .ok (.ifCond .eq 5, 3) := by decide +kernel
theorem dX3_isDoorRead_33 : decode (mcode mX3_isDoorRead) 33 = .ok (.iconst 1, 1) := by decide +kernel
theorem dX3_isDoorRead_34 : decode (mcode mX3_isDoorRead) 34 = .ok (.ireturn, 1) := by decide +kernel
theorem dX3_isDoorRead_35 : decode (mcode mX3_isDoorRead) 35 = .ok (.iinc 3 1, 3) := by decide +kernel
theorem dX3_isDoorRead_38 : decode (mcode mX3_isDoorRead) 38 = .ok (.goto (-36), 3) := by decide +kernel
theorem dX3_isDoorRead_41 : decode (mcode mX3_isDoorRead) 41 = .ok (.iconst 0, 1) := by decide +kernel
theorem dX3_isDoorRead_42 : decode (mcode mX3_isDoorRead) 42 = .ok (.ireturn, 1) := by decide +kernel
theorem dX3_isFoundIn_0 : decode (mcode mX3_isFoundIn) 0 = .ok (.iconst 0, 1) := by decide +kernel
theorem dX3_isFoundIn_1 : decode (mcode mX3_isFoundIn) 1 = .ok (.istore_n 3, 1) := by decide +kernel
theorem dX3_isFoundIn_2 : decode (mcode mX3_isFoundIn) 2 = .ok (.iload_n 3, 1) := by decide +kernel
theorem dX3_isFoundIn_3 : decode (mcode mX3_isFoundIn) 3 = .ok (.aload_n 0, 1) := by decide +kernel
theorem dX3_isFoundIn_4 : decode (mcode mX3_isFoundIn) 4 = .ok (.getfield 40, 3) := by decide +kernel
theorem dX3_isFoundIn_7 : decode (mcode mX3_isFoundIn) 7 = .ok (.if_icmp .ge 42, 3) := by decide +kernel
theorem dX3_isFoundIn_10 : decode (mcode mX3_isFoundIn) 10 = .ok (.aload_n 0, 1) := by decide +kernel
theorem dX3_isFoundIn_11 : decode (mcode mX3_isFoundIn) 11 = .ok (.getfield 9, 3) := by decide +kernel
theorem dX3_isFoundIn_14 : decode (mcode mX3_isFoundIn) 14 = .ok (.iload_n 3, 1) := by decide +kernel
theorem dX3_isFoundIn_15 : decode (mcode mX3_isFoundIn) 15 = .ok (.iaload, 1) := by decide +kernel
theorem dX3_isFoundIn_16 : decode (mcode mX3_isFoundIn) 16 = .ok (.iload_n 2, 1) := by decide +kernel
theorem dX3_isFoundIn_17 : decode (mcode mX3_isFoundIn) 17 = .ok (.if_icmp .ne 26, 3) := by decide +kernel
theorem dX3_isFoundIn_20 : decode (mcode mX3_isFoundIn) 20 = .ok (.aload_n 0, 1) := by decide +kernel
theorem dX3_isFoundIn_21 : decode (mcode mX3_isFoundIn) 21 = .ok (.getfield 36, 3) := by decide +kernel
theorem dX3_isFoundIn_24 : decode (mcode mX3_isFoundIn) 24 = .ok (.iload_n 1, 1) := by decide +kernel
theorem dX3_isFoundIn_25 : decode (mcode mX3_isFoundIn) 25 = .ok (.iload_n 3, 1) := by decide +kernel
theorem dX3_isFoundIn_26 : decode (mcode mX3_isFoundIn) 26 = .ok (.invokevirtual 64, 3) := by decide +kernel
theorem dX3_isFoundIn_29 : decode (mcode mX3_isFoundIn) 29 = .ok (.ifCond .eq 14, 3) := by decide +kernel
theorem dX3_isFoundIn_32 : decode (mcode mX3_isFoundIn) 32 = .ok (.aload_n 0, 1) := by decide +kernel
theorem dX3_isFoundIn_33 : decode (mcode mX3_isFoundIn) 33 = .ok (.iload_n 1, 1) := by decide +kernel
theorem dX3_isFoundIn_34 : decode (mcode mX3_isFoundIn) 34 = .ok (.iload_n 3, 1) := by decide +kernel
theorem dX3_isFoundIn_35 : decode (mcode mX3_isFoundIn) 35 = .ok (.invokevirtual 81, 3) := by decide +kernel
theorem dX3_isFoundIn_38 : decode (mcode mX3_isFoundIn) 38 = .ok (.ifCond .eq 5, 3) := by decide +kernel
theorem dX3_isFoundIn_41 : decode (mcode mX3_isFoundIn) 41 = .ok (.iconst 1, 1) := by decide +kernel
theorem dX3_isFoundIn_42 : decode (mcode mX3_isFoundIn) 42 = .ok (.ireturn, 1) := by decide +kernel
theorem dX3_isFoundIn_43 : decode (mcode mX3_isFoundIn) 43 = .ok (.iinc 3 1, 3) := by decide +kernel
theorem dX3_isFoundIn_46 : decode (mcode mX3_isFoundIn) 46 = .ok (.goto (-44), 3) := by decide +kernel
theorem dX3_isFoundIn_49 : decode (mcode mX3_isFoundIn) 49 = .ok (.iconst 0, 1) := by decide +kernel
theorem dX3_isFoundIn_50 : decode (mcode mX3_isFoundIn) 50 = .ok (.ireturn, 1) := by decide +kernel
theorem dX3_isOfKind_0 : decode (mcode mX3_isOfKind) 0 = .ok (.iload_n 2, 1) := by decide +kernel
theorem dX3_isOfKind_1 : decode (mcode mX3_isOfKind) 1 = .ok (.ifCond .eq 28, 3) := by decide +kernel
theorem dX3_isOfKind_4 : decode (mcode mX3_isOfKind) 4 = .ok (.iload_n 2, 1) := by decide +kernel
theorem dX3_isOfKind_5 : decode (mcode mX3_isOfKind) 5 = .ok (.aload_n 0, 1) := by decide +kernel
theorem dX3_isOfKind_6 : decode (mcode mX3_isOfKind) 6 = .ok (.getfield 15, 3) := by decide +kernel
theorem dX3_isOfKind_9 : decode (mcode mX3_isOfKind) 9 = .ok (.iload_n 1, 1) := by decide +kernel
theorem dX3_isOfKind_10 : decode (mcode mX3_isOfKind) 10 = .ok (.iaload, 1) := by decide +kernel
theorem dX3_isOfKind_11 : decode (mcode mX3_isOfKind) 11 = .ok (.iconst 1, 1) := by decide +kernel
theorem dX3_isOfKind_12 : decode (mcode mX3_isOfKind) 12 = .ok (.iadd, 1) := by decide +kernel
theorem dX3_isOfKind_13 : decode (mcode mX3_isOfKind) 13 = .ok (.if_icmp .eq 16, 3) := by decide +kernel
theorem dX3_isOfKind_16 : decode (mcode mX3_isOfKind) 16 = .ok (.iload_n 2, 1) := by decide +kernel
theorem dX3_isOfKind_17 : decode (mcode mX3_isOfKind) 17 = .ok (.iconst 1, 1) := by decide +kernel
theorem dX3_isOfKind_18 : decode (mcode mX3_isOfKind) 18 = .ok (.if_icmp .ne 15, 3) := by decide +kernel
theorem dX3_isOfKind_21 : decode (mcode mX3_isOfKind) 21 = .ok (.aload_n 0, 1) := by decide +kernel
theorem dX3_isOfKind_22 : decode (mcode mX3_isOfKind) 22 = .ok (.iload_n 1, 1) := by decide +kernel
theorem dX3_isOfKind_23 : decode (mcode mX3_isOfKind) 23 = .ok (.invokevirtual 60, 3) := by decide +kernel
theorem dX3_isOfKind_26 : decode (mcode mX3_isOfKind) 26 = .ok (.ifCond .eq 7, 3) := by decide +kernel
theorem dX3_isOfKind_29 : decode (mcode mX3_isOfKind) 29 = .ok (.iconst 1, 1) := by decide +kernel
theorem dX3_isOfKind_30 : decode (mcode mX3_isOfKind) 30 = .ok (.goto 4, 3) := by decide +kernel
theorem dX3_isOfKind_33 : decode (mcode mX3_isOfKind) 33 = .ok (.iconst 0, 1) := by decide +kernel
theorem dX3_isOfKind_34 : decode (mcode mX3_isOfKind) 34 = .ok (.ireturn, 1) := by decide +kernel
theorem dX3_standsWith_0 : decode (mcode mX3_standsWith) 0 = .ok (.iload_n 2, 1) := by decide +kernel
theorem dX3_standsWith_1 : decode (mcode mX3_standsWith) 1 = .ok (.iload_n 1, 1) := by decide +kernel
theorem dX3_standsWith_2 : decode (mcode mX3_standsWith) 2 = .ok (.ishr, 1) := by decide +kernel
theorem dX3_standsWith_3 : decode (mcode mX3_standsWith) 3 = .ok (.iconst 1, 1) := by decide +kernel
theorem dX3_standsWith_4 : decode (mcode mX3_standsWith) 4 = .ok (.iand, 1) := by decide +kernel
theorem dX3_standsWith_5 : decode (mcode mX3_standsWith) 5 = .ok (.iconst 1, 1) := by decide +kernel
theorem dX3_standsWith_6 : decode (mcode mX3_standsWith) 6 = .ok (.if_icmp .ne 26, 3) := by decide +kernel
theorem dX3_standsWith_9 : decode (mcode mX3_standsWith) 9 = .ok (.aload_n 0, 1) := by decide +kernel
theorem dX3_standsWith_10 : decode (mcode mX3_standsWith) 10 = .ok (.getfield 15, 3) := by decide +kernel
theorem dX3_standsWith_13 : decode (mcode mX3_standsWith) 13 = .ok (.iload_n 1, 1) := by decide +kernel
theorem dX3_standsWith_14 : decode (mcode mX3_standsWith) 14 = .ok (.iaload, 1) := by decide +kernel
theorem dX3_standsWith_15 : decode (mcode mX3_standsWith) 15 = .ok (.iconst 4, 1) := by decide +kernel
theorem dX3_standsWith_16 : decode (mcode mX3_standsWith) 16 = .ok (.if_icmp .eq 16, 3) := by decide +kernel
theorem dX3_standsWith_19 : decode (mcode mX3_standsWith) 19 = .ok (.aload_n 0, 1) := by decide +kernel
theorem dX3_standsWith_20 : decode (mcode mX3_standsWith) 20 = .ok (.iload_n 1, 1) := by decide +kernel
theorem dX3_standsWith_21 : decode (mcode mX3_standsWith) 21 = .ok (.iload_n 3, 1) := by decide +kernel
theorem dX3_standsWith_22 : decode (mcode mX3_standsWith) 22 = .ok (.invokevirtual 81, 3) := by decide +kernel
theorem dX3_standsWith_25 : decode (mcode mX3_standsWith) 25 = .ok (.ifCond .eq 7, 3) := by decide +kernel
theorem dX3_standsWith_28 : decode (mcode mX3_standsWith) 28 = .ok (.iconst 1, 1) := by decide +kernel
theorem dX3_standsWith_29 : decode (mcode mX3_standsWith) 29 = .ok (.goto 4, 3) := by decide +kernel
theorem dX3_standsWith_32 : decode (mcode mX3_standsWith) 32 = .ok (.iconst 0, 1) := by decide +kernel
theorem dX3_standsWith_33 : decode (mcode mX3_standsWith) 33 = .ok (.ireturn, 1) := by decide +kernel
theorem dX3_countInBoth_0 : decode (mcode mX3_countInBoth) 0 = .ok (.iconst 0, 1) := by decide +kernel
theorem dX3_countInBoth_1 : decode (mcode mX3_countInBoth) 1 = .ok (.istore_n 3, 1) := by decide +kernel
theorem dX3_countInBoth_2 : decode (mcode mX3_countInBoth) 2 = .ok (.iconst 0, 1) := by decide +kernel
theorem dX3_countInBoth_3 : decode (mcode mX3_countInBoth) 3 = .ok (.istore 4, 2) := by decide +kernel
theorem dX3_countInBoth_5 : decode (mcode mX3_countInBoth) 5 = .ok (.iload 4, 2) := by decide +kernel
theorem dX3_countInBoth_7 : decode (mcode mX3_countInBoth) 7 = .ok (.aload_n 0, 1) := by decide +kernel
theorem dX3_countInBoth_8 : decode (mcode mX3_countInBoth) 8 = .ok (.getfield 40, 3) := by decide +kernel
theorem dX3_countInBoth_11 : decode (mcode mX3_countInBoth) 11 = .ok (.if_icmp .ge 33, 3) := by decide +kernel
theorem dX3_countInBoth_14 : decode (mcode mX3_countInBoth) 14 = .ok (.aload_n 0, 1) := by decide +kernel
theorem dX3_countInBoth_15 : decode (mcode mX3_countInBoth) 15 = .ok (.getfield 9, 3) := by decide +kernel
theorem dX3_countInBoth_18 : decode (mcode mX3_countInBoth) 18 = .ok (.iload 4, 2) := by decide +kernel
theorem dX3_countInBoth_20 : decode (mcode mX3_countInBoth) 20 = .ok (.iaload, 1) := by decide +kernel
theorem dX3_countInBoth_21 : decode (mcode mX3_countInBoth) 21 = .ok (.iload_n 1, 1) := by decide +kernel
theorem dX3_countInBoth_22 : decode (mcode mX3_countInBoth) 22 = .ok (.if_icmp .ne 16, 3) := by decide +kernel
theorem dX3_countInBoth_25 : decode (mcode mX3_countInBoth) 25 = .ok (.aload_n 0, 1) := by decide +kernel
theorem dX3_countInBoth_26 : decode (mcode mX3_countInBoth) 26 = .ok (.iload 4, 2) := by decide +kernel
theorem dX3_countInBoth_28 : decode (mcode mX3_countInBoth) 28 = .ok (.iload_n 2, 1) := by decide +kernel
theorem dX3_countInBoth_29 : decode (mcode mX3_countInBoth) 29 = .ok (.invokevirtual 92, 3) := by decide +kernel
theorem dX3_countInBoth_32 : decode (mcode mX3_countInBoth) 32 = .ok (.ifCond .eq 6, 3) := by decide +kernel
theorem dX3_countInBoth_35 : decode (mcode mX3_countInBoth) 35 = .ok (.iinc 3 1, 3) := by decide +kernel
theorem dX3_countInBoth_38 : decode (mcode mX3_countInBoth) 38 = .ok (.iinc 4 1, 3) := by decide +kernel
theorem dX3_countInBoth_41 : decode (mcode mX3_countInBoth) 41 = .ok (.goto (-36), 3) := by decide +kernel
theorem dX3_countInBoth_44 : decode (mcode mX3_countInBoth) 44 = .ok (.iload_n 3, 1) := by decide +kernel
theorem dX3_countInBoth_45 : decode (mcode mX3_countInBoth) 45 = .ok (.ireturn, 1) := by decide +kernel
theorem dX3_countUnseen_0 : decode (mcode mX3_countUnseen) 0 = .ok (.iconst 0, 1) := by decide +kernel
theorem dX3_countUnseen_1 : decode (mcode mX3_countUnseen) 1 = .ok (.istore_n 3, 1) := by decide +kernel
theorem dX3_countUnseen_2 : decode (mcode mX3_countUnseen) 2 = .ok (.iconst 0, 1) := by decide +kernel
theorem dX3_countUnseen_3 : decode (mcode mX3_countUnseen) 3 = .ok (.istore 4, 2) := by decide +kernel
theorem dX3_countUnseen_5 : decode (mcode mX3_countUnseen) 5 = .ok (.iload 4, 2) := by decide +kernel
theorem dX3_countUnseen_7 : decode (mcode mX3_countUnseen) 7 = .ok (.aload_n 0, 1) := by decide +kernel
theorem dX3_countUnseen_8 : decode (mcode mX3_countUnseen) 8 = .ok (.getfield 40, 3) := by decide +kernel
theorem dX3_countUnseen_11 : decode (mcode mX3_countUnseen) 11 = .ok (.if_icmp .ge 33, 3) := by decide +kernel
theorem dX3_countUnseen_14 : decode (mcode mX3_countUnseen) 14 = .ok (.aload_n 0, 1) := by decide +kernel
theorem dX3_countUnseen_15 : decode (mcode mX3_countUnseen) 15 = .ok (.getfield 9, 3) := by decide +kernel
theorem dX3_countUnseen_18 : decode (mcode mX3_countUnseen) 18 = .ok (.iload 4, 2) := by decide +kernel
theorem dX3_countUnseen_20 : decode (mcode mX3_countUnseen) 20 = .ok (.iaload, 1) := by decide +kernel
theorem dX3_countUnseen_21 : decode (mcode mX3_countUnseen) 21 = .ok (.iload_n 1, 1) := by decide +kernel
theorem dX3_countUnseen_22 : decode (mcode mX3_countUnseen) 22 = .ok (.if_icmp .ne 16, 3) := by decide +kernel
theorem dX3_countUnseen_25 : decode (mcode mX3_countUnseen) 25 = .ok (.aload_n 0, 1) := by decide +kernel
theorem dX3_countUnseen_26 : decode (mcode mX3_countUnseen) 26 = .ok (.iload 4, 2) := by decide +kernel
theorem dX3_countUnseen_28 : decode (mcode mX3_countUnseen) 28 = .ok (.aload_n 2, 1) := by decide +kernel
theorem dX3_countUnseen_29 : decode (mcode mX3_countUnseen) 29 = .ok (.invokevirtual 95, 3) := by decide +kernel
theorem dX3_countUnseen_32 : decode (mcode mX3_countUnseen) 32 = .ok (.ifCond .ne 6, 3) := by decide +kernel
theorem dX3_countUnseen_35 : decode (mcode mX3_countUnseen) 35 = .ok (.iinc 3 1, 3) := by decide +kernel
theorem dX3_countUnseen_38 : decode (mcode mX3_countUnseen) 38 = .ok (.iinc 4 1, 3) := by decide +kernel
theorem dX3_countUnseen_41 : decode (mcode mX3_countUnseen) 41 = .ok (.goto (-36), 3) := by decide +kernel
theorem dX3_countUnseen_44 : decode (mcode mX3_countUnseen) 44 = .ok (.iload_n 3, 1) := by decide +kernel
theorem dX3_countUnseen_45 : decode (mcode mX3_countUnseen) 45 = .ok (.ireturn, 1) := by decide +kernel
theorem dX3_firstStanding_0 : decode (mcode mX3_firstStanding) 0 = .ok (.ldc 74, 2) := by decide +kernel
theorem dX3_firstStanding_2 : decode (mcode mX3_firstStanding) 2 = .ok (.istore_n 3, 1) := by decide +kernel
theorem dX3_firstStanding_3 : decode (mcode mX3_firstStanding) 3 = .ok (.iconst 0, 1) := by decide +kernel
theorem dX3_firstStanding_4 : decode (mcode mX3_firstStanding) 4 = .ok (.istore 4, 2) := by decide +kernel
theorem dX3_firstStanding_6 : decode (mcode mX3_firstStanding) 6 = .ok (.iload 4, 2) := by decide +kernel
theorem dX3_firstStanding_8 : decode (mcode mX3_firstStanding) 8 = .ok (.aload_n 0, 1) := by decide +kernel
theorem dX3_firstStanding_9 : decode (mcode mX3_firstStanding) 9 = .ok (.getfield 40, 3) := by decide +kernel
theorem dX3_firstStanding_12 : decode (mcode mX3_firstStanding) 12 = .ok (.if_icmp .ge 48, 3) := by decide +kernel
theorem dX3_firstStanding_15 : decode (mcode mX3_firstStanding) 15 = .ok (.aload_n 0, 1) := by decide +kernel
theorem dX3_firstStanding_16 : decode (mcode mX3_firstStanding) 16 = .ok (.iload 4, 2) := by decide +kernel
theorem dX3_firstStanding_18 : decode (mcode mX3_firstStanding) 18 = .ok (.iload_n 1, 1) := by decide +kernel
theorem dX3_firstStanding_19 : decode (mcode mX3_firstStanding) 19 = .ok (.iload_n 2, 1) := by decide +kernel
theorem dX3_firstStanding_20 : decode (mcode mX3_firstStanding) 20 = .ok (.invokevirtual 84, 3) := by decide +kernel
theorem dX3_firstStanding_23 : decode (mcode mX3_firstStanding) 23 = .ok (.ifCond .ne 6, 3) := by decide +kernel
theorem dX3_firstStanding_26 : decode (mcode mX3_firstStanding) 26 = .ok (.goto 28, 3) := by decide +kernel
theorem dX3_firstStanding_29 : decode (mcode mX3_firstStanding) 29 = .ok (.iload_n 3, 1) := by decide +kernel
theorem dX3_firstStanding_30 : decode (mcode mX3_firstStanding) 30 = .ok (.ldc 74, 2) := by decide +kernel
theorem dX3_firstStanding_32 : decode (mcode mX3_firstStanding) 32 = .ok (.if_icmp .eq 14, 3) := by decide +kernel
theorem dX3_firstStanding_35 : decode (mcode mX3_firstStanding) 35 = .ok (.aload_n 0, 1) := by decide +kernel
theorem dX3_firstStanding_36 : decode (mcode mX3_firstStanding) 36 = .ok (.getfield 27, 3) := by decide +kernel
theorem dX3_firstStanding_39 : decode (mcode mX3_firstStanding) 39 = .ok (.iload 4, 2) := by decide +kernel
theorem dX3_firstStanding_41 : decode (mcode mX3_firstStanding) 41 = .ok (.iaload, 1) := by decide +kernel
theorem dX3_firstStanding_42 : decode (mcode mX3_firstStanding) 42 = .ok (.iload_n 3, 1) := by decide +kernel
theorem dX3_firstStanding_43 : decode (mcode mX3_firstStanding) 43 = .ok (.if_icmp .ge 11, 3) := by decide +kernel
theorem dX3_firstStanding_46 : decode (mcode mX3_firstStanding) 46 = .ok (.aload_n 0, 1) := by decide +kernel
theorem dX3_firstStanding_47 : decode (mcode mX3_firstStanding) 47 = .ok (.getfield 27, 3) := by decide +kernel
theorem dX3_firstStanding_50 : decode (mcode mX3_firstStanding) 50 = .ok (.iload 4, 2) := by decide +kernel
theorem dX3_firstStanding_52 : decode (mcode mX3_firstStanding) 52 = .ok (.iaload, 1) := by decide +kernel
theorem dX3_firstStanding_53 : decode (mcode mX3_firstStanding) 53 = .ok (.istore_n 3, 1) := by decide +kernel
theorem dX3_firstStanding_54 : decode (mcode mX3_firstStanding) 54 = .ok (.iinc 4 1, 3) := by decide +kernel
theorem dX3_firstStanding_57 : decode (mcode mX3_firstStanding) 57 = .ok (.goto (-51), 3) := by decide +kernel
theorem dX3_firstStanding_60 : decode (mcode mX3_firstStanding) 60 = .ok (.iload_n 3, 1) := by decide +kernel
theorem dX3_firstStanding_61 : decode (mcode mX3_firstStanding) 61 = .ok (.ireturn, 1) := by decide +kernel
theorem dX3_lastStanding_0 : decode (mcode mX3_lastStanding) 0 = .ok (.ldc 74, 2) := by decide +kernel
theorem dX3_lastStanding_2 : decode (mcode mX3_lastStanding) 2 = .ok (.istore_n 3, 1) := by decide +kernel
theorem dX3_lastStanding_3 : decode (mcode mX3_lastStanding) 3 = .ok (.iconst 0, 1) := by decide +kernel
theorem dX3_lastStanding_4 : decode (mcode mX3_lastStanding) 4 = .ok (.istore 4, 2) := by decide +kernel
theorem dX3_lastStanding_6 : decode (mcode mX3_lastStanding) 6 = .ok (.iload 4, 2) := by decide +kernel
theorem dX3_lastStanding_8 : decode (mcode mX3_lastStanding) 8 = .ok (.aload_n 0, 1) := by decide +kernel
theorem dX3_lastStanding_9 : decode (mcode mX3_lastStanding) 9 = .ok (.getfield 40, 3) := by decide +kernel
theorem dX3_lastStanding_12 : decode (mcode mX3_lastStanding) 12 = .ok (.if_icmp .ge 32, 3) := by decide +kernel
theorem dX3_lastStanding_15 : decode (mcode mX3_lastStanding) 15 = .ok (.aload_n 0, 1) := by decide +kernel
theorem dX3_lastStanding_16 : decode (mcode mX3_lastStanding) 16 = .ok (.iload 4, 2) := by decide +kernel
theorem dX3_lastStanding_18 : decode (mcode mX3_lastStanding) 18 = .ok (.iload_n 1, 1) := by decide +kernel
theorem dX3_lastStanding_19 : decode (mcode mX3_lastStanding) 19 = .ok (.iload_n 2, 1) := by decide +kernel
theorem dX3_lastStanding_20 : decode (mcode mX3_lastStanding) 20 = .ok (.invokevirtual 84, 3) := by decide +kernel
theorem dX3_lastStanding_23 : decode (mcode mX3_lastStanding) 23 = .ok (.ifCond .eq 15, 3) := by decide +kernel
theorem dX3_lastStanding_26 : decode (mcode mX3_lastStanding) 26 = .ok (.iload_n 3, 1) := by decide +kernel
theorem dX3_lastStanding_27 : decode (mcode mX3_lastStanding) 27 = .ok (.aload_n 0, 1) := by decide +kernel
theorem dX3_lastStanding_28 : decode (mcode mX3_lastStanding) 28 = .ok (.getfield 27, 3) := by decide +kernel
theorem dX3_lastStanding_31 : decode (mcode mX3_lastStanding) 31 = .ok (.iload 4, 2) := by decide +kernel
theorem dX3_lastStanding_33 : decode (mcode mX3_lastStanding) 33 = .ok (.iaload, 1) := by decide +kernel
theorem dX3_lastStanding_34 : decode (mcode mX3_lastStanding) 34 = .ok (.invokestatic 88, 3) := by decide +kernel
theorem dX3_lastStanding_37 : decode (mcode mX3_lastStanding) 37 = .ok (.istore_n 3, 1) := by decide +kernel
theorem dX3_lastStanding_38 : decode (mcode mX3_lastStanding) 38 = .ok (.iinc 4 1, 3) := by decide +kernel
theorem dX3_lastStanding_41 : decode (mcode mX3_lastStanding) 41 = .ok (.goto (-35), 3) := by decide +kernel
theorem dX3_lastStanding_44 : decode (mcode mX3_lastStanding) 44 = .ok (.iload_n 3, 1) := by decide +kernel
theorem dX3_lastStanding_45 : decode (mcode mX3_lastStanding) 45 = .ok (.ireturn, 1) := by decide +kernel
theorem dX3_mayBeOne_0 : decode (mcode mX3_mayBeOne) 0 = .ok (.aload_n 0, 1) := by decide +kernel
theorem dX3_mayBeOne_1 : decode (mcode mX3_mayBeOne) 1 = .ok (.getfield 36, 3) := by decide +kernel
theorem dX3_mayBeOne_4 : decode (mcode mX3_mayBeOne) 4 = .ok (.iload_n 1, 1) := by decide +kernel
theorem dX3_mayBeOne_5 : decode (mcode mX3_mayBeOne) 5 = .ok (.iload_n 2, 1) := by decide +kernel
theorem dX3_mayBeOne_6 : decode (mcode mX3_mayBeOne) 6 = .ok (.invokevirtual 64, 3) := by decide +kernel
theorem dX3_mayBeOne_9 : decode (mcode mX3_mayBeOne) 9 = .ok (.ifCond .eq 25, 3) := by decide +kernel
theorem dX3_mayBeOne_12 : decode (mcode mX3_mayBeOne) 12 = .ok (.aload_n 0, 1) := by decide +kernel
theorem dX3_mayBeOne_13 : decode (mcode mX3_mayBeOne) 13 = .ok (.iload_n 1, 1) := by decide +kernel
theorem dX3_mayBeOne_14 : decode (mcode mX3_mayBeOne) 14 = .ok (.iload_n 2, 1) := by decide +kernel
theorem dX3_mayBeOne_15 : decode (mcode mX3_mayBeOne) 15 = .ok (.invokevirtual 68, 3) := by decide +kernel
theorem dX3_mayBeOne_18 : decode (mcode mX3_mayBeOne) 18 = .ok (.ifCond .eq 16, 3) := by decide +kernel
theorem dX3_mayBeOne_21 : decode (mcode mX3_mayBeOne) 21 = .ok (.aload_n 0, 1) := by decide +kernel
theorem dX3_mayBeOne_22 : decode (mcode mX3_mayBeOne) 22 = .ok (.iload_n 1, 1) := by decide +kernel
theorem dX3_mayBeOne_23 : decode (mcode mX3_mayBeOne) 23 = .ok (.iload_n 2, 1) := by decide +kernel
theorem dX3_mayBeOne_24 : decode (mcode mX3_mayBeOne) 24 = .ok (.invokevirtual 71, 3) := by decide +kernel
theorem dX3_mayBeOne_27 : decode (mcode mX3_mayBeOne) 27 = .ok (.ifCond .ne 7, 3) := by decide +kernel
theorem dX3_mayBeOne_30 : decode (mcode mX3_mayBeOne) 30 = .ok (.iconst 1, 1) := by decide +kernel
theorem dX3_mayBeOne_31 : decode (mcode mX3_mayBeOne) 31 = .ok (.goto 4, 3) := by decide +kernel
theorem dX3_mayBeOne_34 : decode (mcode mX3_mayBeOne) 34 = .ok (.iconst 0, 1) := by decide +kernel
theorem dX3_mayBeOne_35 : decode (mcode mX3_mayBeOne) 35 = .ok (.ireturn, 1) := by decide +kernel
theorem dX3_keep_0 : decode (mcode mX3_keep) 0 = .ok (.aload_n 0, 1) := by decide +kernel
theorem dX3_keep_1 : decode (mcode mX3_keep) 1 = .ok (.getfield 40, 3) := by decide +kernel
theorem dX3_keep_4 : decode (mcode mX3_keep) 4 = .ok (.aload_n 0, 1) := by decide +kernel
theorem dX3_keep_5 : decode (mcode mX3_keep) 5 = .ok (.getfield 44, 3) := by decide +kernel
theorem dX3_keep_8 : decode (mcode mX3_keep) 8 = .ok (.if_icmp .ge 50, 3) := by decide +kernel
theorem dX3_keep_11 : decode (mcode mX3_keep) 11 = .ok (.aload_n 0, 1) := by decide +kernel
theorem dX3_keep_12 : decode (mcode mX3_keep) 12 = .ok (.getfield 27, 3) := by decide +kernel
theorem dX3_keep_15 : decode (mcode mX3_keep) 15 = .ok (.aload_n 0, 1) := by decide +kernel
theorem dX3_keep_16 : decode (mcode mX3_keep) 16 = .ok (.getfield 40, 3) := by decide +kernel
theorem dX3_keep_19 : decode (mcode mX3_keep) 19 = .ok (.aload_n 1, 1) := by decide +kernel
theorem dX3_keep_20 : decode (mcode mX3_keep) 20 = .ok (.getfield 47, 3) := by decide +kernel
theorem dX3_keep_23 : decode (mcode mX3_keep) 23 = .ok (.aload_n 0, 1) := by decide +kernel
theorem dX3_keep_24 : decode (mcode mX3_keep) 24 = .ok (.getfield 9, 3) := by decide +kernel
theorem dX3_keep_27 : decode (mcode mX3_keep) 27 = .ok (.aload_n 0, 1) := by decide +kernel
theorem dX3_keep_28 : decode (mcode mX3_keep) 28 = .ok (.getfield 40, 3) := by decide +kernel
theorem dX3_keep_31 : decode (mcode mX3_keep) 31 = .ok (.iaload, 1) := by decide +kernel
theorem dX3_keep_32 : decode (mcode mX3_keep) 32 = .ok (.iaload, 1) := by decide +kernel
theorem dX3_keep_33 : decode (mcode mX3_keep) 33 = .ok (.iastore, 1) := by decide +kernel
theorem dX3_keep_34 : decode (mcode mX3_keep) 34 = .ok (.aload_n 0, 1) := by decide +kernel
theorem dX3_keep_35 : decode (mcode mX3_keep) 35 = .ok (.getfield 36, 3) := by decide +kernel
theorem dX3_keep_38 : decode (mcode mX3_keep) 38 = .ok (.aload_n 0, 1) := by decide +kernel
theorem dX3_keep_39 : decode (mcode mX3_keep) 39 = .ok (.getfield 40, 3) := by decide +kernel
theorem dX3_keep_42 : decode (mcode mX3_keep) 42 = .ok (.invokevirtual 50, 3) := by decide +kernel
theorem dX3_keep_45 : decode (mcode mX3_keep) 45 = .ok (.aload_n 0, 1) := by decide +kernel
theorem dX3_keep_46 : decode (mcode mX3_keep) 46 = .ok (.dup, 1) := by decide +kernel
theorem dX3_keep_47 : decode (mcode mX3_keep) 47 = .ok (.getfield 40, 3) := by decide +kernel
theorem dX3_keep_50 : decode (mcode mX3_keep) 50 = .ok (.iconst 1, 1) := by decide +kernel
theorem dX3_keep_51 : decode (mcode mX3_keep) 51 = .ok (.iadd, 1) := by decide +kernel
theorem dX3_keep_52 : decode (mcode mX3_keep) 52 = .ok (.putfield 40, 3) := by decide +kernel
theorem dX3_keep_55 : decode (mcode mX3_keep) 55 = .ok (.goto (-55), 3) := by decide +kernel
theorem dX3_keep_58 : decode (mcode mX3_keep) 58 = .ok (.iconst 0, 1) := by decide +kernel
theorem dX3_keep_59 : decode (mcode mX3_keep) 59 = .ok (.istore_n 3, 1) := by decide +kernel
theorem dX3_keep_60 : decode (mcode mX3_keep) 60 = .ok (.iload_n 3, 1) := by decide +kernel
theorem dX3_keep_61 : decode (mcode mX3_keep) 61 = .ok (.aload_n 0, 1) := by decide +kernel
theorem dX3_keep_62 : decode (mcode mX3_keep) 62 = .ok (.getfield 40, 3) := by decide +kernel
theorem dX3_keep_65 : decode (mcode mX3_keep) 65 = .ok (.if_icmp .ge 37, 3) := by decide +kernel
theorem dX3_keep_68 : decode (mcode mX3_keep) 68 = .ok (.aload_n 0, 1) := by decide +kernel
theorem dX3_keep_69 : decode (mcode mX3_keep) 69 = .ok (.getfield 30, 3) := by decide +kernel
theorem dX3_keep_72 : decode (mcode mX3_keep) 72 = .ok (.iload_n 3, 1) := by decide +kernel
theorem dX3_keep_73 : decode (mcode mX3_keep) 73 = .ok (.aload_n 2, 1) := by decide +kernel
theorem dX3_keep_74 : decode (mcode mX3_keep) 74 = .ok (.aload_n 0, 1) := by decide +kernel
theorem dX3_keep_75 : decode (mcode mX3_keep) 75 = .ok (.getfield 18, 3) := by decide +kernel
theorem dX3_keep_78 : decode (mcode mX3_keep) 78 = .ok (.iload_n 3, 1) := by decide +kernel
theorem dX3_keep_79 : decode (mcode mX3_keep) 79 = .ok (.iaload, 1) := by decide +kernel
theorem dX3_keep_80 : decode (mcode mX3_keep) 80 = .ok (.aload_n 0, 1) := by decide +kernel
theorem dX3_keep_81 : decode (mcode mX3_keep) 81 = .ok (.getfield 21, 3) := by decide +kernel
theorem dX3_keep_84 : decode (mcode mX3_keep) 84 = .ok (.iload_n 3, 1) := by decide +kernel
theorem dX3_keep_85 : decode (mcode mX3_keep) 85 = .ok (.iaload, 1) := by decide +kernel
theorem dX3_keep_86 : decode (mcode mX3_keep) 86 = .ok (.aload_n 0, 1) := by decide +kernel
theorem dX3_keep_87 : decode (mcode mX3_keep) 87 = .ok (.getfield 27, 3) := by decide +kernel
theorem dX3_keep_90 : decode (mcode mX3_keep) 90 = .ok (.iload_n 3, 1) := by decide +kernel
theorem dX3_keep_91 : decode (mcode mX3_keep) 91 = .ok (.iaload, 1) := by decide +kernel
theorem dX3_keep_92 : decode (mcode mX3_keep) 92 = .ok (.invokevirtual 54, 3) := by decide +kernel
theorem dX3_keep_95 : decode (mcode mX3_keep) 95 = .ok (.iastore, 1) := by decide +kernel
theorem dX3_keep_96 : decode (mcode mX3_keep) 96 = .ok (.iinc 3 1, 3) := by decide +kernel
theorem dX3_keep_99 : decode (mcode mX3_keep) 99 = .ok (.goto (-39), 3) := by decide +kernel
theorem dX3_keep_102 : decode (mcode mX3_keep) 102 = .ok (.return_, 1) := by decide +kernel

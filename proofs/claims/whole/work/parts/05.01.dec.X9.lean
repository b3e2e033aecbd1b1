theorem dX9_haveOneLane_0 : decode (mcode mX9_haveOneLane) 0 = .ok (.aload_n 0, 1) := by decide +kernel
theorem dX9_haveOneLane_1 : decode (mcode mX9_haveOneLane) 1 = .ok (.getfield 9, 3) := by decide +kernel
theorem dX9_haveOneLane_4 : decode (mcode mX9_haveOneLane) 4 = .ok (.iload_n 1, 1) := by decide +kernel
theorem dX9_haveOneLane_5 : decode (mcode mX9_haveOneLane) 5 = .ok (.iaload, 1) := by decide +kernel
theorem dX9_haveOneLane_6 : decode (mcode mX9_haveOneLane) 6 = .ok (.aload_n 0, 1) := by decide +kernel
theorem dX9_haveOneLane_7 : decode (mcode mX9_haveOneLane) 7 = .ok (.getfield 9, 3) := by decide +kernel
theorem dX9_haveOneLane_10 : decode (mcode mX9_haveOneLane) 10 = .ok (.iload_n 2, 1) := by decide +kernel
theorem dX9_haveOneLane_11 : decode (mcode mX9_haveOneLane) 11 = .ok (.iaload, 1) := by decide +kernel
theorem dX9_haveOneLane_12 : decode (mcode mX9_haveOneLane) 12 = .ok (.if_icmp .ne 7, 3) := by decide +kernel
theorem dX9_haveOneLane_15 : decode (mcode mX9_haveOneLane) 15 = .ok (.iconst 1, 1) := by decide +kernel
theorem dX9_haveOneLane_16 : decode (mcode mX9_haveOneLane) 16 = .ok (.goto 4, 3) := by decide +kernel
theorem dX9_haveOneLane_19 : decode (mcode mX9_haveOneLane) 19 = .ok (.iconst 0, 1) := by decide +kernel
theorem dX9_haveOneLane_20 : decode (mcode mX9_haveOneLane) 20 = .ok (.ireturn, 1) := by decide +kernel
theorem dX9_holds_0 : decode (mcode mX9_holds) 0 = .ok (.iload_n 2, 1) := by decide +kernel
theorem dX9_holds_1 : decode (mcode mX9_holds) 1 = .ok (.ifCond .lt 23, 3) := by decide +kernel
theorem dX9_holds_4 : decode (mcode mX9_holds) 4 = .ok (.iload_n 3, 1) := by decide +kernel
theorem dX9_holds_5 : decode (mcode mX9_holds) 5 = .ok (.ifCond .lt 19, 3) := by decide +kernel
theorem dX9_holds_8 : decode (mcode mX9_holds) 8 = .ok (.iload_n 2, 1) := by decide +kernel
theorem dX9_holds_9 : decode (mcode mX9_holds) 9 = .ok (.aload_n 0, 1) := by decide +kernel
theorem dX9_holds_10 : decode (mcode mX9_holds) 10 = .ok (.getfield 15, 3) := by decide +kernel
theorem dX9_holds_13 : decode (mcode mX9_holds) 13 = .ok (.iload_n 1, 1) := by decide +kernel
theorem dX9_holds_14 : decode (mcode mX9_holds) 14 = .ok (.iaload, 1) := by decide +kernel
theorem dX9_holds_15 : decode (mcode mX9_holds) 15 = .ok (.iload_n 3, 1) := by decide +kernel
theorem dX9_holds_16 : decode (mcode mX9_holds) 16 = .ok (.isub, 1) := by decide +kernel
theorem dX9_holds_17 : decode (mcode mX9_holds) 17 = .ok (.if_icmp .gt 7, 3) := by decide +kernel
theorem dX9_holds_20 : decode (mcode mX9_holds) 20 = .ok (.iconst 1, 1) := by decide +kernel
theorem dX9_holds_21 : decode (mcode mX9_holds) 21 = .ok (.goto 4, 3) := by decide +kernel
theorem dX9_holds_24 : decode (mcode mX9_holds) 24 = .ok (.iconst 0, 1) := by decide +kernel
theorem dX9_holds_25 : decode (mcode mX9_holds) 25 = .ok (.ireturn, 1) := by decide +kernel
theorem dX9_isMissing_0 : decode (mcode mX9_isMissing) 0 = .ok (.aload_n 0, 1) := by decide +kernel
theorem dX9_isMissing_1 : decode (mcode mX9_isMissing) 1 = .ok (.getfield 15, 3) := by decide +kernel
theorem dX9_isMissing_4 : decode (mcode mX9_isMissing) 4 = .ok (.iload_n 1, 1) := by decide +kernel
theorem dX9_isMissing_5 : decode (mcode mX9_isMissing) 5 = .ok (.iaload, 1) := by decide +kernel
theorem dX9_isMissing_6 : decode (mcode mX9_isMissing) 6 = .ok (.iconst (-1), 1) := by decide +kernel
theorem dX9_isMissing_7 : decode (mcode mX9_isMissing) 7 = .ok (.if_icmp .ne 7, 3) := by decide +kernel
theorem dX9_isMissing_10 : decode (mcode mX9_isMissing) 10 = .ok (.iconst 1, 1) := by decide +kernel
theorem dX9_isMissing_11 : decode (mcode mX9_isMissing) 11 = .ok (.goto 4, 3) := by decide +kernel
theorem dX9_isMissing_14 : decode (mcode mX9_isMissing) 14 = .ok (.iconst 0, 1) := by decide +kernel
theorem dX9_isMissing_15 : decode (mcode mX9_isMissing) 15 = .ok (.ireturn, 1) := by decide +kernel
theorem dX9_item_0 : decode (mcode mX9_item) 0 = .ok (.aload_n 0, 1) := by decide +kernel
theorem dX9_item_1 : decode (mcode mX9_item) 1 = .ok (.getfield 18, 3) := by decide +kernel
theorem dX9_item_4 : decode (mcode mX9_item) 4 = .ok (.iload_n 1, 1) := by decide +kernel
theorem dX9_item_5 : decode (mcode mX9_item) 5 = .ok (.bipush 60, 2) := by decide +kernel
theorem dX9_item_7 : decode (mcode mX9_item) 7 = .ok (.imul, 1) := by decide +kernel
theorem dX9_item_8 : decode (mcode mX9_item) 8 = .ok (.iload_n 2, 1) := by decide +kernel
theorem dX9_item_9 : decode (mcode mX9_item) 9 = .ok (.iadd, 1) := by decide +kernel
theorem dX9_item_10 : decode (mcode mX9_item) 10 = .ok (.iaload, 1) := by decide +kernel
theorem dX9_item_11 : decode (mcode mX9_item) 11 = .ok (.ireturn, 1) := by decide +kernel
theorem dX9_lay_0 : decode (mcode mX9_lay) 0 = .ok (.aload_n 0, 1) := by decide +kernel
theorem dX9_lay_1 : decode (mcode mX9_lay) 1 = .ok (.getfield 9, 3) := by decide +kernel
theorem dX9_lay_4 : decode (mcode mX9_lay) 4 = .ok (.iload_n 1, 1) := by decide +kernel
theorem dX9_lay_5 : decode (mcode mX9_lay) 5 = .ok (.iload_n 2, 1) := by decide +kernel
theorem dX9_lay_6 : decode (mcode mX9_lay) 6 = .ok (.iastore, 1) := by decide +kernel
theorem dX9_lay_7 : decode (mcode mX9_lay) 7 = .ok (.aload_n 0, 1) := by decide +kernel
theorem dX9_lay_8 : decode (mcode mX9_lay) 8 = .ok (.getfield 15, 3) := by decide +kernel
theorem dX9_lay_11 : decode (mcode mX9_lay) 11 = .ok (.iload_n 1, 1) := by decide +kernel
theorem dX9_lay_12 : decode (mcode mX9_lay) 12 = .ok (.iload_n 3, 1) := by decide +kernel
theorem dX9_lay_13 : decode (mcode mX9_lay) 13 = .ok (.iastore, 1) := by decide +kernel
theorem dX9_lay_14 : decode (mcode mX9_lay) 14 = .ok (.iconst 0, 1) := by decide +kernel
theorem dX9_lay_15 : decode (mcode mX9_lay) 15 = .ok (.istore 4, 2) := by decide +kernel
theorem dX9_lay_17 : decode (mcode mX9_lay) 17 = .ok (.iload 4, 2) := by decide +kernel
theorem dX9_lay_19 : decode (mcode mX9_lay) 19 = .ok (.iload_n 3, 1) := by decide +kernel
theorem dX9_lay_20 : decode (mcode mX9_lay) 20 = .ok (.if_icmp .ge 22, 3) := by decide +kernel
theorem dX9_lay_23 : decode (mcode mX9_lay) 23 = .ok (.aload_n 0, 1) := by decide +kernel
theorem dX9_lay_24 : decode (mcode mX9_lay) 24 = .ok (.getfield 18, 3) := by decide +kernel
theorem dX9_lay_27 : decode (mcode mX9_lay) 27 = .ok (.iload_n 1, 1) := by decide +kernel
theorem dX9_lay_28 : decode (mcode mX9_lay) 28 = .ok (.bipush 60, 2) := by decide +kernel
theorem dX9_lay_30 : decode (mcode mX9_lay) 30 = .ok (.imul, 1) := by decide +kernel
theorem dX9_lay_31 : decode (mcode mX9_lay) 31 = .ok (.iload 4, 2) := by decide +kernel
theorem dX9_lay_33 : decode (mcode mX9_lay) 33 = .ok (.iadd, 1) := by decide +kernel
theorem dX9_lay_34 : decode (mcode mX9_lay) 34 = .ok (.iconst 0, 1) := by decide +kernel
theorem dX9_lay_35 : decode (mcode mX9_lay) 35 = .ok (.iastore, 1) := by decide +kernel
theorem dX9_lay_36 : decode (mcode mX9_lay) 36 = .ok (.iinc 4 1, 3) := by decide +kernel
theorem dX9_lay_39 : decode (mcode mX9_lay) 39 = .ok (.goto (-22), 3) := by decide +kernel
theorem dX9_lay_42 : decode (mcode mX9_lay) 42 = .ok (.return_, 1) := by decide +kernel
theorem dX9_lose_0 : decode (mcode mX9_lose) 0 = .ok (.aload_n 0, 1) := by decide +kernel
theorem dX9_lose_1 : decode (mcode mX9_lose) 1 = .ok (.getfield 15, 3) := by decide +kernel
theorem dX9_lose_4 : decode (mcode mX9_lose) 4 = .ok (.iload_n 1, 1) := by decide +kernel
theorem dX9_lose_5 : decode (mcode mX9_lose) 5 = .ok (.iaload, 1) := by decide +kernel
theorem dX9_lose_6 : decode (mcode mX9_lose) 6 = .ok (.istore_n 2, 1) := by decide +kernel
theorem dX9_lose_7 : decode (mcode mX9_lose) 7 = .ok (.aload_n 0, 1) := by decide +kernel
theorem dX9_lose_8 : decode (mcode mX9_lose) 8 = .ok (.getfield 15, 3) := by decide +kernel
theorem dX9_lose_11 : decode (mcode mX9_lose) 11 = .ok (.iload_n 1, 1) := by decide +kernel
theorem dX9_lose_12 : decode (mcode mX9_lose) 12 = .ok (.iconst (-1), 1) := by decide +kernel
theorem dX9_lose_13 : decode (mcode mX9_lose) 13 = .ok (.iastore, 1) := by decide +kernel
theorem dX9_lose_14 : decode (mcode mX9_lose) 14 = .ok (.iload_n 2, 1) := by decide +kernel
theorem dX9_lose_15 : decode (mcode mX9_lose) 15 = .ok (.ireturn, 1) := by decide +kernel
theorem dX9_put_0 : decode (mcode mX9_put) 0 = .ok (.aload_n 0, 1) := by decide +kernel
theorem dX9_put_1 : decode (mcode mX9_put) 1 = .ok (.getfield 9, 3) := by decide +kernel
theorem dX9_put_4 : decode (mcode mX9_put) 4 = .ok (.iload_n 1, 1) := by decide +kernel
theorem dX9_put_5 : decode (mcode mX9_put) 5 = .ok (.iaload, 1) := by decide +kernel
theorem dX9_put_6 : decode (mcode mX9_put) 6 = .ok (.ifCond .ne 8, 3) := by decide +kernel
theorem dX9_put_9 : decode (mcode mX9_put) 9 = .ok (.iload_n 3, 1) := by decide +kernel
theorem dX9_put_10 : decode (mcode mX9_put) 10 = .ok (.i2b, 1) := by decide +kernel
theorem dX9_put_11 : decode (mcode mX9_put) 11 = .ok (.goto 19, 3) := by decide +kernel
theorem dX9_put_14 : decode (mcode mX9_put) 14 = .ok (.aload_n 0, 1) := by decide +kernel
theorem dX9_put_15 : decode (mcode mX9_put) 15 = .ok (.getfield 9, 3) := by decide +kernel
theorem dX9_put_18 : decode (mcode mX9_put) 18 = .ok (.iload_n 1, 1) := by decide +kernel
theorem dX9_put_19 : decode (mcode mX9_put) 19 = .ok (.iaload, 1) := by decide +kernel
theorem dX9_put_20 : decode (mcode mX9_put) 20 = .ok (.iconst 1, 1) := by decide +kernel
theorem dX9_put_21 : decode (mcode mX9_put) 21 = .ok (.if_icmp .ne 8, 3) := by decide +kernel
theorem dX9_put_24 : decode (mcode mX9_put) 24 = .ok (.iload_n 3, 1) := by decide +kernel
theorem dX9_put_25 : decode (mcode mX9_put) 25 = .ok (.i2s, 1) := by decide +kernel
theorem dX9_put_26 : decode (mcode mX9_put) 26 = .ok (.goto 4, 3) := by decide +kernel
theorem dX9_put_29 : decode (mcode mX9_put) 29 = .ok (.iload_n 3, 1) := by decide +kernel
theorem dX9_put_30 : decode (mcode mX9_put) 30 = .ok (.istore 4, 2) := by decide +kernel
theorem dX9_put_32 : decode (mcode mX9_put) 32 = .ok (.aload_n 0, 1) := by decide +kernel
theorem dX9_put_33 : decode (mcode mX9_put) 33 = .ok (.getfield 18, 3) := by decide +kernel
theorem dX9_put_36 : decode (mcode mX9_put) 36 = .ok (.iload_n 1, 1) := by decide +kernel
theorem dX9_put_37 : decode (mcode mX9_put) 37 = .ok (.bipush 60, 2) := by decide +kernel
theorem dX9_put_39 : decode (mcode mX9_put) 39 = .ok (.imul, 1) := by decide +kernel
theorem dX9_put_40 : decode (mcode mX9_put) 40 = .ok (.iload_n 2, 1) := by decide +kernel
theorem dX9_put_41 : decode (mcode mX9_put) 41 = .ok (.iadd, 1) := by decide +kernel
theorem dX9_put_42 : decode (mcode mX9_put) 42 = .ok (.iload 4, 2) := by decide +kernel
theorem dX9_put_44 : decode (mcode mX9_put) 44 = .ok (.iastore, 1) := by decide +kernel
theorem dX9_put_45 : decode (mcode mX9_put) 45 = .ok (.iload 4, 2) := by decide +kernel
theorem dX9_put_47 : decode (mcode mX9_put) 47 = .ok (.ireturn, 1) := by decide +kernel
theorem dX9_countLaid_0 : decode (mcode mX9_countLaid) 0 = .ok (.iconst 0, 1) := by decide +kernel
theorem dX9_countLaid_1 : decode (mcode mX9_countLaid) 1 = .ok (.istore_n 1, 1) := by decide +kernel
theorem dX9_countLaid_2 : decode (mcode mX9_countLaid) 2 = .ok (.iconst 0, 1) := by decide +kernel
theorem dX9_countLaid_3 : decode (mcode mX9_countLaid) 3 = .ok (.istore_n 2, 1) := by decide +kernel
theorem dX9_countLaid_4 : decode (mcode mX9_countLaid) 4 = .ok (.iload_n 2, 1) := by decide +kernel
theorem dX9_countLaid_5 : decode (mcode mX9_countLaid) 5 = .ok (.bipush 8, 2) := by decide +kernel
theorem dX9_countLaid_7 : decode (mcode mX9_countLaid) 7 = .ok (.if_icmp .ge 20, 3) := by decide +kernel
theorem dX9_countLaid_10 : decode (mcode mX9_countLaid) 10 = .ok (.aload_n 0, 1) := by decide +kernel
theorem dX9_countLaid_11 : decode (mcode mX9_countLaid) 11 = .ok (.iload_n 2, 1) := by decide +kernel
theorem dX9_countLaid_12 : decode (mcode mX9_countLaid) 12 = .ok (.invokevirtual 27, 3) := by decide +kernel
theorem dX9_countLaid_15 : decode (mcode mX9_countLaid) 15 = .ok (.ifCond .ne 6, 3) := by decide +kernel
theorem dX9_countLaid_18 : decode (mcode mX9_countLaid) 18 = .ok (.iinc 1 1, 3) := by decide +kernel
theorem dX9_countLaid_21 : decode (mcode mX9_countLaid) 21 = .ok (.iinc 2 1, 3) := by decide +kernel
theorem dX9_countLaid_24 : decode (mcode mX9_countLaid) 24 = .ok (.goto (-20), 3) := by decide +kernel
theorem dX9_countLaid_27 : decode (mcode mX9_countLaid) 27 = .ok (.iload_n 1, 1) := by decide +kernel
theorem dX9_countLaid_28 : decode (mcode mX9_countLaid) 28 = .ok (.ireturn, 1) := by decide +kernel
theorem dX9_move_0 : decode (mcode mX9_move) 0 = .ok (.aload_n 0, 1) := by decide +kernel
theorem dX9_move_1 : decode (mcode mX9_move) 1 = .ok (.getfield 18, 3) := by decide +kernel
theorem dX9_move_4 : decode (mcode mX9_move) 4 = .ok (.iload_n 1, 1) := by decide +kernel
theorem dX9_move_5 : decode (mcode mX9_move) 5 = .ok (.bipush 60, 2) := by decide +kernel
theorem dX9_move_7 : decode (mcode mX9_move) 7 = .ok (.imul, 1) := by decide +kernel
theorem dX9_move_8 : decode (mcode mX9_move) 8 = .ok (.iload_n 2, 1) := by decide +kernel
theorem dX9_move_9 : decode (mcode mX9_move) 9 = .ok (.iadd, 1) := by decide +kernel
theorem dX9_move_10 : decode (mcode mX9_move) 10 = .ok (.aload_n 0, 1) := by decide +kernel
theorem dX9_move_11 : decode (mcode mX9_move) 11 = .ok (.getfield 18, 3) := by decide +kernel
theorem dX9_move_14 : decode (mcode mX9_move) 14 = .ok (.iload_n 3, 1) := by decide +kernel
theorem dX9_move_15 : decode (mcode mX9_move) 15 = .ok (.bipush 60, 2) := by decide +kernel
theorem dX9_move_17 : decode (mcode mX9_move) 17 = .ok (.imul, 1) := by decide +kernel
theorem dX9_move_18 : decode (mcode mX9_move) 18 = .ok (.iload 4, 2) := by decide +kernel
theorem dX9_move_20 : decode (mcode mX9_move) 20 = .ok (.iadd, 1) := by decide +kernel
theorem dX9_move_21 : decode (mcode mX9_move) 21 = .ok (.iload 5, 2) := by decide +kernel
theorem dX9_move_23 : decode (mcode mX9_move) 23 = .ok (.invokestatic 21, 3) := by decide +kernel
theorem dX9_move_26 : decode (mcode mX9_move) 26 = .ok (.return_, 1) := by decide +kernel

theorem dX8_fail_0 : decode (mcode mX8_fail) 0 = .ok (.aload_n 0, 1) := by decide +kernel
theorem dX8_fail_1 : decode (mcode mX8_fail) 1 = .ok (.iload_n 1, 1) := by decide +kernel
theorem dX8_fail_2 : decode (mcode mX8_fail) 2 = .ok (.putfield 174, 3) := by decide +kernel
theorem dX8_fail_5 : decode (mcode mX8_fail) 5 = .ok (.aload_n 0, 1) := by decide +kernel
theorem dX8_fail_6 : decode (mcode mX8_fail) 6 = .ok (.aload_n 0, 1) := by decide +kernel
theorem dX8_fail_7 : decode (mcode mX8_fail) 7 = .ok (.getfield 9, 3) := by decide +kernel
theorem dX8_fail_10 : decode (mcode mX8_fail) 10 = .ok (.getfield 177, 3) := by decide +kernel
theorem dX8_fail_13 : decode (mcode mX8_fail) 13 = .ok (.putfield 180, 3) := by decide +kernel
theorem dX8_fail_16 : decode (mcode mX8_fail) 16 = .ok (.iconst 0, 1) := by decide +kernel
theorem dX8_fail_17 : decode (mcode mX8_fail) 17 = .ok (.ireturn, 1) := by decide +kernel
theorem dX8_beginPart_0 : decode (mcode mX8_beginPart) 0 = .ok (.iload_n 1, 1) := by decide +kernel
theorem dX8_beginPart_1 : decode (mcode mX8_beginPart) 1 = .ok (.ifCond .ne 9, 3) := by decide +kernel
theorem dX8_beginPart_4 : decode (mcode mX8_beginPart) 4 = .ok (.aload_n 0, 1) := by decide +kernel
theorem dX8_beginPart_5 : decode (mcode mX8_beginPart) 5 = .ok (.iconst 3, 1) := by decide +kernel
theorem dX8_beginPart_6 : decode (mcode mX8_beginPart) 6 = .ok (.invokevirtual 92, 3) := by decide +kernel
theorem dX8_beginPart_9 : decode (mcode mX8_beginPart) 9 = .ok (.ireturn, 1) := by decide +kernel
theorem dX8_beginPart_10 : decode (mcode mX8_beginPart) 10 = .ok (.aload_n 0, 1) := by decide +kernel
theorem dX8_beginPart_11 : decode (mcode mX8_beginPart) 11 = .ok (.getfield 9, 3) := by decide +kernel
theorem dX8_beginPart_14 : decode (mcode mX8_beginPart) 14 = .ok (.invokevirtual 96, 3) := by decide +kernel
theorem dX8_beginPart_17 : decode (mcode mX8_beginPart) 17 = .ok (.iconst 1, 1) := by decide +kernel
theorem dX8_beginPart_18 : decode (mcode mX8_beginPart) 18 = .ok (.ireturn, 1) := by decide +kernel
theorem dX8_takeName_0 : decode (mcode mX8_takeName) 0 = .ok (.aload_n 0, 1) := by decide +kernel
theorem dX8_takeName_1 : decode (mcode mX8_takeName) 1 = .ok (.getfield 9, 3) := by decide +kernel
theorem dX8_takeName_4 : decode (mcode mX8_takeName) 4 = .ok (.getfield 57, 3) := by decide +kernel
theorem dX8_takeName_7 : decode (mcode mX8_takeName) 7 = .ok (.iconst 1, 1) := by decide +kernel
theorem dX8_takeName_8 : decode (mcode mX8_takeName) 8 = .ok (.if_icmp .eq 9, 3) := by decide +kernel
theorem dX8_takeName_11 : decode (mcode mX8_takeName) 11 = .ok (.aload_n 0, 1) := by decide +kernel
theorem dX8_takeName_12 : decode (mcode mX8_takeName) 12 = .ok (.iconst 1, 1) := by decide +kernel
theorem dX8_takeName_13 : decode (mcode mX8_takeName) 13 = .ok (.invokevirtual 92, 3) := by decide +kernel
theorem dX8_takeName_16 : decode (mcode mX8_takeName) 16 = .ok (.ireturn, 1) := by decide +kernel
theorem dX8_takeName_17 : decode (mcode mX8_takeName) 17 = .ok (.aload_n 0, 1) := by decide +kernel
theorem dX8_takeName_18 : decode (mcode mX8_takeName) 18 = .ok (.getfield 9, 3) := by decide +kernel
theorem dX8_takeName_21 : decode (mcode mX8_takeName) 21 = .ok (.invokevirtual 160, 3) := by decide +kernel
theorem dX8_takeName_24 : decode (mcode mX8_takeName) 24 = .ok (.bipush 8, 2) := by decide +kernel
theorem dX8_takeName_26 : decode (mcode mX8_takeName) 26 = .ok (.if_icmp .le 9, 3) := by decide +kernel
theorem dX8_takeName_29 : decode (mcode mX8_takeName) 29 = .ok (.aload_n 0, 1) := by decide +kernel
theorem dX8_takeName_30 : decode (mcode mX8_takeName) 30 = .ok (.iconst 2, 1) := by decide +kernel
theorem dX8_takeName_31 : decode (mcode mX8_takeName) 31 = .ok (.invokevirtual 92, 3) := by decide +kernel
theorem dX8_takeName_34 : decode (mcode mX8_takeName) 34 = .ok (.ireturn, 1) := by decide +kernel
theorem dX8_takeName_35 : decode (mcode mX8_takeName) 35 = .ok (.aload_n 0, 1) := by decide +kernel
theorem dX8_takeName_36 : decode (mcode mX8_takeName) 36 = .ok (.getfield 19, 3) := by decide +kernel
theorem dX8_takeName_39 : decode (mcode mX8_takeName) 39 = .ok (.getfield 163, 3) := by decide +kernel
theorem dX8_takeName_42 : decode (mcode mX8_takeName) 42 = .ok (.iload_n 1, 1) := by decide +kernel
theorem dX8_takeName_43 : decode (mcode mX8_takeName) 43 = .ok (.aload_n 0, 1) := by decide +kernel
theorem dX8_takeName_44 : decode (mcode mX8_takeName) 44 = .ok (.getfield 9, 3) := by decide +kernel
theorem dX8_takeName_47 : decode (mcode mX8_takeName) 47 = .ok (.invokevirtual 167, 3) := by decide +kernel
theorem dX8_takeName_50 : decode (mcode mX8_takeName) 50 = .ok (.aload_n 0, 1) := by decide +kernel
theorem dX8_takeName_51 : decode (mcode mX8_takeName) 51 = .ok (.getfield 9, 3) := by decide +kernel
theorem dX8_takeName_54 : decode (mcode mX8_takeName) 54 = .ok (.invokevirtual 96, 3) := by decide +kernel
theorem dX8_takeName_57 : decode (mcode mX8_takeName) 57 = .ok (.iconst 1, 1) := by decide +kernel
theorem dX8_takeName_58 : decode (mcode mX8_takeName) 58 = .ok (.ireturn, 1) := by decide +kernel
theorem dX8_takeNumber_0 : decode (mcode mX8_takeNumber) 0 = .ok (.aload_n 0, 1) := by decide +kernel
theorem dX8_takeNumber_1 : decode (mcode mX8_takeNumber) 1 = .ok (.getfield 9, 3) := by decide +kernel
theorem dX8_takeNumber_4 : decode (mcode mX8_takeNumber) 4 = .ok (.getfield 57, 3) := by decide +kernel
theorem dX8_takeNumber_7 : decode (mcode mX8_takeNumber) 7 = .ok (.iconst 2, 1) := by decide +kernel
theorem dX8_takeNumber_8 : decode (mcode mX8_takeNumber) 8 = .ok (.if_icmp .eq 9, 3) := by decide +kernel
theorem dX8_takeNumber_11 : decode (mcode mX8_takeNumber) 11 = .ok (.aload_n 0, 1) := by decide +kernel
theorem dX8_takeNumber_12 : decode (mcode mX8_takeNumber) 12 = .ok (.iconst 1, 1) := by decide +kernel
theorem dX8_takeNumber_13 : decode (mcode mX8_takeNumber) 13 = .ok (.invokevirtual 92, 3) := by decide +kernel
theorem dX8_takeNumber_16 : decode (mcode mX8_takeNumber) 16 = .ok (.ireturn, 1) := by decide +kernel
theorem dX8_takeNumber_17 : decode (mcode mX8_takeNumber) 17 = .ok (.aload_n 0, 1) := by decide +kernel
theorem dX8_takeNumber_18 : decode (mcode mX8_takeNumber) 18 = .ok (.aload_n 0, 1) := by decide +kernel
theorem dX8_takeNumber_19 : decode (mcode mX8_takeNumber) 19 = .ok (.getfield 9, 3) := by decide +kernel
theorem dX8_takeNumber_22 : decode (mcode mX8_takeNumber) 22 = .ok (.invokevirtual 143, 3) := by decide +kernel
theorem dX8_takeNumber_25 : decode (mcode mX8_takeNumber) 25 = .ok (.putfield 103, 3) := by decide +kernel
theorem dX8_takeNumber_28 : decode (mcode mX8_takeNumber) 28 = .ok (.aload_n 0, 1) := by decide +kernel
theorem dX8_takeNumber_29 : decode (mcode mX8_takeNumber) 29 = .ok (.getfield 103, 3) := by decide +kernel
theorem dX8_takeNumber_32 : decode (mcode mX8_takeNumber) 32 = .ok (.iload_n 1, 1) := by decide +kernel
theorem dX8_takeNumber_33 : decode (mcode mX8_takeNumber) 33 = .ok (.if_icmp .lt 11, 3) := by decide +kernel
theorem dX8_takeNumber_36 : decode (mcode mX8_takeNumber) 36 = .ok (.aload_n 0, 1) := by decide +kernel
theorem dX8_takeNumber_37 : decode (mcode mX8_takeNumber) 37 = .ok (.getfield 103, 3) := by decide +kernel
theorem dX8_takeNumber_40 : decode (mcode mX8_takeNumber) 40 = .ok (.iload_n 2, 1) := by decide +kernel
theorem dX8_takeNumber_41 : decode (mcode mX8_takeNumber) 41 = .ok (.if_icmp .le 9, 3) := by decide +kernel
theorem dX8_takeNumber_44 : decode (mcode mX8_takeNumber) 44 = .ok (.aload_n 0, 1) := by decide +kernel
theorem dX8_takeNumber_45 : decode (mcode mX8_takeNumber) 45 = .ok (.iconst 2, 1) := by decide +kernel
theorem dX8_takeNumber_46 : decode (mcode mX8_takeNumber) 46 = .ok (.invokevirtual 92, 3) := by decide +kernel
theorem dX8_takeNumber_49 : decode (mcode mX8_takeNumber) 49 = .ok (.ireturn, 1) := by decide +kernel
theorem dX8_takeNumber_50 : decode (mcode mX8_takeNumber) 50 = .ok (.aload_n 0, 1) := by decide +kernel
theorem dX8_takeNumber_51 : decode (mcode mX8_takeNumber) 51 = .ok (.getfield 9, 3) := by decide +kernel
theorem dX8_takeNumber_54 : decode (mcode mX8_takeNumber) 54 = .ok (.invokevirtual 96, 3) := by decide +kernel
theorem dX8_takeNumber_57 : decode (mcode mX8_takeNumber) 57 = .ok (.iconst 1, 1) := by decide +kernel
theorem dX8_takeNumber_58 : decode (mcode mX8_takeNumber) 58 = .ok (.ireturn, 1) := by decide +kernel
theorem dX8_takeSign_0 : decode (mcode mX8_takeSign) 0 = .ok (.aload_n 0, 1) := by decide +kernel
theorem dX8_takeSign_1 : decode (mcode mX8_takeSign) 1 = .ok (.getfield 9, 3) := by decide +kernel
theorem dX8_takeSign_4 : decode (mcode mX8_takeSign) 4 = .ok (.getfield 57, 3) := by decide +kernel
theorem dX8_takeSign_7 : decode (mcode mX8_takeSign) 7 = .ok (.iconst 3, 1) := by decide +kernel
theorem dX8_takeSign_8 : decode (mcode mX8_takeSign) 8 = .ok (.if_icmp .eq 9, 3) := by decide +kernel
theorem dX8_takeSign_11 : decode (mcode mX8_takeSign) 11 = .ok (.aload_n 0, 1) := by decide +kernel
theorem dX8_takeSign_12 : decode (mcode mX8_takeSign) 12 = .ok (.iconst 1, 1) := by decide +kernel
theorem dX8_takeSign_13 : decode (mcode mX8_takeSign) 13 = .ok (.invokevirtual 92, 3) := by decide +kernel
theorem dX8_takeSign_16 : decode (mcode mX8_takeSign) 16 = .ok (.ireturn, 1) := by decide +kernel
theorem dX8_takeSign_17 : decode (mcode mX8_takeSign) 17 = .ok (.aload_n 0, 1) := by decide +kernel
theorem dX8_takeSign_18 : decode (mcode mX8_takeSign) 18 = .ok (.getfield 9, 3) := by decide +kernel
theorem dX8_takeSign_21 : decode (mcode mX8_takeSign) 21 = .ok (.invokevirtual 96, 3) := by decide +kernel
theorem dX8_takeSign_24 : decode (mcode mX8_takeSign) 24 = .ok (.iconst 1, 1) := by decide +kernel
theorem dX8_takeSign_25 : decode (mcode mX8_takeSign) 25 = .ok (.ireturn, 1) := by decide +kernel
theorem dX8_readBook_0 : decode (mcode mX8_readBook) 0 = .ok (.aload_n 0, 1) := by decide +kernel
theorem dX8_readBook_1 : decode (mcode mX8_readBook) 1 = .ok (.iconst 1, 1) := by decide +kernel
theorem dX8_readBook_2 : decode (mcode mX8_readBook) 2 = .ok (.sipush 9998, 3) := by decide +kernel
theorem dX8_readBook_5 : decode (mcode mX8_readBook) 5 = .ok (.invokevirtual 99, 3) := by decide +kernel
theorem dX8_readBook_8 : decode (mcode mX8_readBook) 8 = .ok (.ifCond .ne 5, 3) := by decide +kernel
theorem dX8_readBook_11 : decode (mcode mX8_readBook) 11 = .ok (.iconst 0, 1) := by decide +kernel
theorem dX8_readBook_12 : decode (mcode mX8_readBook) 12 = .ok (.ireturn, 1) := by decide +kernel
theorem dX8_readBook_13 : decode (mcode mX8_readBook) 13 = .ok (.aload_n 0, 1) := by decide +kernel
theorem dX8_readBook_14 : decode (mcode mX8_readBook) 14 = .ok (.getfield 103, 3) := by decide +kernel
theorem dX8_readBook_17 : decode (mcode mX8_readBook) 17 = .ok (.istore_n 1, 1) := by decide +kernel
theorem dX8_readBook_18 : decode (mcode mX8_readBook) 18 = .ok (.aload_n 0, 1) := by decide +kernel
theorem dX8_readBook_19 : decode (mcode mX8_readBook) 19 = .ok (.iconst 0, 1) := by decide +kernel
theorem dX8_readBook_20 : decode (mcode mX8_readBook) 20 = .ok (.bipush 9, 2) := by decide +kernel
theorem dX8_readBook_22 : decode (mcode mX8_readBook) 22 = .ok (.iload_n 1, 1) := by decide +kernel
theorem dX8_readBook_23 : decode (mcode mX8_readBook) 23 = .ok (.iconst 1, 1) := by decide +kernel
theorem dX8_readBook_24 : decode (mcode mX8_readBook) 24 = .ok (.isub, 1) := by decide +kernel
theorem dX8_readBook_25 : decode (mcode mX8_readBook) 25 = .ok (.invokestatic 106, 3) := by decide +kernel
theorem dX8_readBook_28 : decode (mcode mX8_readBook) 28 = .ok (.invokevirtual 99, 3) := by decide +kernel
theorem dX8_readBook_31 : decode (mcode mX8_readBook) 31 = .ok (.ifCond .ne 5, 3) := by decide +kernel
theorem dX8_readBook_34 : decode (mcode mX8_readBook) 34 = .ok (.iconst 0, 1) := by decide +kernel
theorem dX8_readBook_35 : decode (mcode mX8_readBook) 35 = .ok (.ireturn, 1) := by decide +kernel
theorem dX8_readBook_36 : decode (mcode mX8_readBook) 36 = .ok (.aload_n 0, 1) := by decide +kernel
theorem dX8_readBook_37 : decode (mcode mX8_readBook) 37 = .ok (.getfield 103, 3) := by decide +kernel
theorem dX8_readBook_40 : decode (mcode mX8_readBook) 40 = .ok (.istore_n 2, 1) := by decide +kernel
theorem dX8_readBook_41 : decode (mcode mX8_readBook) 41 = .ok (.aload_n 0, 1) := by decide +kernel
theorem dX8_readBook_42 : decode (mcode mX8_readBook) 42 = .ok (.iconst 1, 1) := by decide +kernel
theorem dX8_readBook_43 : decode (mcode mX8_readBook) 43 = .ok (.bipush 99, 2) := by decide +kernel
theorem dX8_readBook_45 : decode (mcode mX8_readBook) 45 = .ok (.invokevirtual 99, 3) := by decide +kernel
theorem dX8_readBook_48 : decode (mcode mX8_readBook) 48 = .ok (.ifCond .ne 5, 3) := by decide +kernel
theorem dX8_readBook_51 : decode (mcode mX8_readBook) 51 = .ok (.iconst 0, 1) := by decide +kernel
theorem dX8_readBook_52 : decode (mcode mX8_readBook) 52 = .ok (.ireturn, 1) := by decide +kernel
theorem dX8_readBook_53 : decode (mcode mX8_readBook) 53 = .ok (.aload_n 0, 1) := by decide +kernel
theorem dX8_readBook_54 : decode (mcode mX8_readBook) 54 = .ok (.getfield 103, 3) := by decide +kernel
theorem dX8_readBook_57 : decode (mcode mX8_readBook) 57 = .ok (.istore_n 3, 1) := by decide +kernel
theorem dX8_readBook_58 : decode (mcode mX8_readBook) 58 = .ok (.aload_n 0, 1) := by decide +kernel
theorem dX8_readBook_59 : decode (mcode mX8_readBook) 59 = .ok (.invokevirtual 112, 3) := by decide +kernel
theorem dX8_readBook_62 : decode (mcode mX8_readBook) 62 = .ok (.ifCond .ne 5, 3) := by decide +kernel
theorem dX8_readBook_65 : decode (mcode mX8_readBook) 65 = .ok (.iconst 0, 1) := by decide +kernel
theorem dX8_readBook_66 : decode (mcode mX8_readBook) 66 = .ok (.ireturn, 1) := by decide +kernel
theorem dX8_readBook_67 : decode (mcode mX8_readBook) 67 = .ok (.aload_n 0, 1) := by decide +kernel
theorem dX8_readBook_68 : decode (mcode mX8_readBook) 68 = .ok (.getfield 15, 3) := by decide +kernel
theorem dX8_readBook_71 : decode (mcode mX8_readBook) 71 = .ok (.iload_n 1, 1) := by decide +kernel
theorem dX8_readBook_72 : decode (mcode mX8_readBook) 72 = .ok (.iload_n 2, 1) := by decide +kernel
theorem dX8_readBook_73 : decode (mcode mX8_readBook) 73 = .ok (.isub, 1) := by decide +kernel
theorem dX8_readBook_74 : decode (mcode mX8_readBook) 74 = .ok (.iload_n 3, 1) := by decide +kernel
theorem dX8_readBook_75 : decode (mcode mX8_readBook) 75 = .ok (.invokevirtual 115, 3) := by decide +kernel
theorem dX8_readBook_78 : decode (mcode mX8_readBook) 78 = .ok (.iconst 1, 1) := by decide +kernel
theorem dX8_readBook_79 : decode (mcode mX8_readBook) 79 = .ok (.ireturn, 1) := by decide +kernel
theorem dX8_readHouse_0 : decode (mcode mX8_readHouse) 0 = .ok (.aload_n 0, 1) := by decide +kernel
theorem dX8_readHouse_1 : decode (mcode mX8_readHouse) 1 = .ok (.iconst 0, 1) := by decide +kernel
theorem dX8_readHouse_2 : decode (mcode mX8_readHouse) 2 = .ok (.iconst 3, 1) := by decide +kernel
theorem dX8_readHouse_3 : decode (mcode mX8_readHouse) 3 = .ok (.invokevirtual 99, 3) := by decide +kernel
theorem dX8_readHouse_6 : decode (mcode mX8_readHouse) 6 = .ok (.ifCond .ne 5, 3) := by decide +kernel
theorem dX8_readHouse_9 : decode (mcode mX8_readHouse) 9 = .ok (.iconst 0, 1) := by decide +kernel
theorem dX8_readHouse_10 : decode (mcode mX8_readHouse) 10 = .ok (.ireturn, 1) := by decide +kernel
theorem dX8_readHouse_11 : decode (mcode mX8_readHouse) 11 = .ok (.aload_n 0, 1) := by decide +kernel
theorem dX8_readHouse_12 : decode (mcode mX8_readHouse) 12 = .ok (.getfield 103, 3) := by decide +kernel
theorem dX8_readHouse_15 : decode (mcode mX8_readHouse) 15 = .ok (.istore_n 1, 1) := by decide +kernel
theorem dX8_readHouse_16 : decode (mcode mX8_readHouse) 16 = .ok (.aload_n 0, 1) := by decide +kernel
theorem dX8_readHouse_17 : decode (mcode mX8_readHouse) 17 = .ok (.iconst 1, 1) := by decide +kernel
theorem dX8_readHouse_18 : decode (mcode mX8_readHouse) 18 = .ok (.bipush 99, 2) := by decide +kernel
theorem dX8_readHouse_20 : decode (mcode mX8_readHouse) 20 = .ok (.invokevirtual 99, 3) := by decide +kernel
theorem dX8_readHouse_23 : decode (mcode mX8_readHouse) 23 = .ok (.ifCond .ne 5, 3) := by decide +kernel
theorem dX8_readHouse_26 : decode (mcode mX8_readHouse) 26 = .ok (.iconst 0, 1) := by decide +kernel
theorem dX8_readHouse_27 : decode (mcode mX8_readHouse) 27 = .ok (.ireturn, 1) := by decide +kernel
theorem dX8_readHouse_28 : decode (mcode mX8_readHouse) 28 = .ok (.aload_n 0, 1) := by decide +kernel
theorem dX8_readHouse_29 : decode (mcode mX8_readHouse) 29 = .ok (.getfield 103, 3) := by decide +kernel
theorem dX8_readHouse_32 : decode (mcode mX8_readHouse) 32 = .ok (.istore_n 2, 1) := by decide +kernel
theorem dX8_readHouse_33 : decode (mcode mX8_readHouse) 33 = .ok (.aload_n 0, 1) := by decide +kernel
theorem dX8_readHouse_34 : decode (mcode mX8_readHouse) 34 = .ok (.iconst 1, 1) := by decide +kernel
theorem dX8_readHouse_35 : decode (mcode mX8_readHouse) 35 = .ok (.sipush 9998, 3) := by decide +kernel
theorem dX8_readHouse_38 : decode (mcode mX8_readHouse) 38 = .ok (.invokevirtual 99, 3) := by decide +kernel
theorem dX8_readHouse_41 : decode (mcode mX8_readHouse) 41 = .ok (.ifCond .ne 5, 3) := by decide +kernel
theorem dX8_readHouse_44 : decode (mcode mX8_readHouse) 44 = .ok (.iconst 0, 1) := by decide +kernel
theorem dX8_readHouse_45 : decode (mcode mX8_readHouse) 45 = .ok (.ireturn, 1) := by decide +kernel
theorem dX8_readHouse_46 : decode (mcode mX8_readHouse) 46 = .ok (.aload_n 0, 1) := by decide +kernel
theorem dX8_readHouse_47 : decode (mcode mX8_readHouse) 47 = .ok (.getfield 103, 3) := by decide +kernel
theorem dX8_readHouse_50 : decode (mcode mX8_readHouse) 50 = .ok (.istore_n 3, 1) := by decide +kernel
theorem dX8_readHouse_51 : decode (mcode mX8_readHouse) 51 = .ok (.aload_n 0, 1) := by decide +kernel
theorem dX8_readHouse_52 : decode (mcode mX8_readHouse) 52 = .ok (.iload_n 3, 1) := by decide +kernel
theorem dX8_readHouse_53 : decode (mcode mX8_readHouse) 53 = .ok (.iconst 1, 1) := by decide +kernel
theorem dX8_readHouse_54 : decode (mcode mX8_readHouse) 54 = .ok (.iadd, 1) := by decide +kernel
theorem dX8_readHouse_55 : decode (mcode mX8_readHouse) 55 = .ok (.sipush 9999, 3) := by decide +kernel
theorem dX8_readHouse_58 : decode (mcode mX8_readHouse) 58 = .ok (.invokevirtual 99, 3) := by decide +kernel
theorem dX8_readHouse_61 : decode (mcode mX8_readHouse) 61 = .ok (.ifCond .ne 5, 3) := by decide +kernel
theorem dX8_readHouse_64 : decode (mcode mX8_readHouse) 64 = .ok (.iconst 0, 1) := by decide +kernel
theorem dX8_readHouse_65 : decode (mcode mX8_readHouse) 65 = .ok (.ireturn, 1) := by decide +kernel
theorem dX8_readHouse_66 : decode (mcode mX8_readHouse) 66 = .ok (.aload_n 0, 1) := by decide +kernel
theorem dX8_readHouse_67 : decode (mcode mX8_readHouse) 67 = .ok (.getfield 103, 3) := by decide +kernel
theorem dX8_readHouse_70 : decode (mcode mX8_readHouse) 70 = .ok (.istore 4, 2) := by decide +kernel
theorem dX8_readHouse_72 : decode (mcode mX8_readHouse) 72 = .ok (.aload_n 0, 1) := by decide +kernel
theorem dX8_readHouse_73 : decode (mcode mX8_readHouse) 73 = .ok (.invokevirtual 112, 3) := by decide +kernel
theorem dX8_readHouse_76 : decode (mcode mX8_readHouse) 76 = .ok (.ifCond .ne 5, 3) := by decide +kernel
theorem dX8_readHouse_79 : decode (mcode mX8_readHouse) 79 = .ok (.iconst 0, 1) := by decide +kernel
theorem dX8_readHouse_80 : decode (mcode mX8_readHouse) 80 = .ok (.ireturn, 1) := by decide +kernel
theorem dX8_readHouse_81 : decode (mcode mX8_readHouse) 81 = .ok (.aload_n 0, 1) := by decide +kernel
theorem dX8_readHouse_82 : decode (mcode mX8_readHouse) 82 = .ok (.getfield 27, 3) := by decide +kernel
theorem dX8_readHouse_85 : decode (mcode mX8_readHouse) 85 = .ok (.iload_n 1, 1) := by decide +kernel
theorem dX8_readHouse_86 : decode (mcode mX8_readHouse) 86 = .ok (.iload_n 2, 1) := by decide +kernel
theorem dX8_readHouse_87 : decode (mcode mX8_readHouse) 87 = .ok (.iload_n 3, 1) := by decide +kernel
theorem dX8_readHouse_88 : decode (mcode mX8_readHouse) 88 = .ok (.iload 4, 2) := by decide +kernel
theorem dX8_readHouse_90 : decode (mcode mX8_readHouse) 90 = .ok (.invokevirtual 149, 3) := by decide +kernel
theorem dX8_readHouse_93 : decode (mcode mX8_readHouse) 93 = .ok (.iconst 1, 1) := by decide +kernel
theorem dX8_readHouse_94 : decode (mcode mX8_readHouse) 94 = .ok (.ireturn, 1) := by decide +kernel
theorem dX8_readOrder_0 : decode (mcode mX8_readOrder) 0 = .ok (.aload_n 0, 1) := by decide +kernel
theorem dX8_readOrder_1 : decode (mcode mX8_readOrder) 1 = .ok (.iconst 1, 1) := by decide +kernel
theorem dX8_readOrder_2 : decode (mcode mX8_readOrder) 2 = .ok (.sipush 9998, 3) := by decide +kernel
theorem dX8_readOrder_5 : decode (mcode mX8_readOrder) 5 = .ok (.invokevirtual 99, 3) := by decide +kernel
theorem dX8_readOrder_8 : decode (mcode mX8_readOrder) 8 = .ok (.ifCond .ne 5, 3) := by decide +kernel
theorem dX8_readOrder_11 : decode (mcode mX8_readOrder) 11 = .ok (.iconst 0, 1) := by decide +kernel
theorem dX8_readOrder_12 : decode (mcode mX8_readOrder) 12 = .ok (.ireturn, 1) := by decide +kernel
theorem dX8_readOrder_13 : decode (mcode mX8_readOrder) 13 = .ok (.aload_n 0, 1) := by decide +kernel
theorem dX8_readOrder_14 : decode (mcode mX8_readOrder) 14 = .ok (.getfield 103, 3) := by decide +kernel
theorem dX8_readOrder_17 : decode (mcode mX8_readOrder) 17 = .ok (.istore_n 1, 1) := by decide +kernel
theorem dX8_readOrder_18 : decode (mcode mX8_readOrder) 18 = .ok (.aload_n 0, 1) := by decide +kernel
theorem dX8_readOrder_19 : decode (mcode mX8_readOrder) 19 = .ok (.iconst 0, 1) := by decide +kernel
theorem dX8_readOrder_20 : decode (mcode mX8_readOrder) 20 = .ok (.iconst 3, 1) := by decide +kernel
theorem dX8_readOrder_21 : decode (mcode mX8_readOrder) 21 = .ok (.invokevirtual 99, 3) := by decide +kernel
theorem dX8_readOrder_24 : decode (mcode mX8_readOrder) 24 = .ok (.ifCond .ne 5, 3) := by decide +kernel
theorem dX8_readOrder_27 : decode (mcode mX8_readOrder) 27 = .ok (.iconst 0, 1) := by decide +kernel
theorem dX8_readOrder_28 : decode (mcode mX8_readOrder) 28 = .ok (.ireturn, 1) := by decide +kernel
theorem dX8_readOrder_29 : decode (mcode mX8_readOrder) 29 = .ok (.aload_n 0, 1) := by decide +kernel
theorem dX8_readOrder_30 : decode (mcode mX8_readOrder) 30 = .ok (.getfield 103, 3) := by decide +kernel
theorem dX8_readOrder_33 : decode (mcode mX8_readOrder) 33 = .ok (.istore_n 2, 1) := by decide +kernel
theorem dX8_readOrder_34 : decode (mcode mX8_readOrder) 34 = .ok (.aload_n 0, 1) := by decide +kernel
theorem dX8_readOrder_35 : decode (mcode mX8_readOrder) 35 = .ok (.iconst 1, 1) := by decide +kernel
theorem dX8_readOrder_36 : decode (mcode mX8_readOrder) 36 = .ok (.bipush 99, 2) := by decide +kernel
theorem dX8_readOrder_38 : decode (mcode mX8_readOrder) 38 = .ok (.invokevirtual 99, 3) := by decide +kernel
theorem dX8_readOrder_41 : decode (mcode mX8_readOrder) 41 = .ok (.ifCond .ne 5, 3) := by decide +kernel
theorem dX8_readOrder_44 : decode (mcode mX8_readOrder) 44 = .ok (.iconst 0, 1) := by decide +kernel
theorem dX8_readOrder_45 : decode (mcode mX8_readOrder) 45 = .ok (.ireturn, 1) := by decide +kernel
theorem dX8_readOrder_46 : decode (mcode mX8_readOrder) 46 = .ok (.aload_n 0, 1) := by decide +kernel
theorem dX8_readOrder_47 : decode (mcode mX8_readOrder) 47 = .ok (.getfield 103, 3) := by decide +kernel
theorem dX8_readOrder_50 : decode (mcode mX8_readOrder) 50 = .ok (.istore_n 3, 1) := by decide +kernel
theorem dX8_readOrder_51 : decode (mcode mX8_readOrder) 51 = .ok (.aload_n 0, 1) := by decide +kernel
theorem dX8_readOrder_52 : decode (mcode mX8_readOrder) 52 = .ok (.getfield 9, 3) := by decide +kernel
theorem dX8_readOrder_55 : decode (mcode mX8_readOrder) 55 = .ok (.getfield 57, 3) := by decide +kernel
theorem dX8_readOrder_58 : decode (mcode mX8_readOrder) 58 = .ok (.iconst 2, 1) := by decide +kernel
theorem dX8_readOrder_59 : decode (mcode mX8_readOrder) 59 = .ok (.if_icmp .ne 20, 3) := by decide +kernel
theorem dX8_readOrder_62 : decode (mcode mX8_readOrder) 62 = .ok (.aload_n 0, 1) := by decide +kernel
theorem dX8_readOrder_63 : decode (mcode mX8_readOrder) 63 = .ok (.getfield 9, 3) := by decide +kernel
theorem dX8_readOrder_66 : decode (mcode mX8_readOrder) 66 = .ok (.invokevirtual 143, 3) := by decide +kernel
theorem dX8_readOrder_69 : decode (mcode mX8_readOrder) 69 = .ok (.iload_n 3, 1) := by decide +kernel
theorem dX8_readOrder_70 : decode (mcode mX8_readOrder) 70 = .ok (.if_icmp .ne 9, 3) := by decide +kernel
theorem dX8_readOrder_73 : decode (mcode mX8_readOrder) 73 = .ok (.aload_n 0, 1) := by decide +kernel
theorem dX8_readOrder_74 : decode (mcode mX8_readOrder) 74 = .ok (.iconst 2, 1) := by decide +kernel
theorem dX8_readOrder_75 : decode (mcode mX8_readOrder) 75 = .ok (.invokevirtual 92, 3) := by decide +kernel
theorem dX8_readOrder_78 : decode (mcode mX8_readOrder) 78 = .ok (.ireturn, 1) := by decide +kernel
theorem dX8_readOrder_79 : decode (mcode mX8_readOrder) 79 = .ok (.aload_n 0, 1) := by decide +kernel
theorem dX8_readOrder_80 : decode (mcode mX8_readOrder) 80 = .ok (.iconst 1, 1) := by decide +kernel
theorem dX8_readOrder_81 : decode (mcode mX8_readOrder) 81 = .ok (.bipush 99, 2) := by decide +kernel
theorem dX8_readOrder_83 : decode (mcode mX8_readOrder) 83 = .ok (.invokevirtual 99, 3) := by decide +kernel
theorem dX8_readOrder_86 : decode (mcode mX8_readOrder) 86 = .ok (.ifCond .ne 5, 3) := by decide +kernel
theorem dX8_readOrder_89 : decode (mcode mX8_readOrder) 89 = .ok (.iconst 0, 1) := by decide +kernel
theorem dX8_readOrder_90 : decode (mcode mX8_readOrder) 90 = .ok (.ireturn, 1) := by decide +kernel
theorem dX8_readOrder_91 : decode (mcode mX8_readOrder) 91 = .ok (.aload_n 0, 1) := by decide +kernel
theorem dX8_readOrder_92 : decode (mcode mX8_readOrder) 92 = .ok (.getfield 103, 3) := by decide +kernel
theorem dX8_readOrder_95 : decode (mcode mX8_readOrder) 95 = .ok (.istore 4, 2) := by decide +kernel
theorem dX8_readOrder_97 : decode (mcode mX8_readOrder) 97 = .ok (.aload_n 0, 1) := by decide +kernel
theorem dX8_readOrder_98 : decode (mcode mX8_readOrder) 98 = .ok (.invokevirtual 112, 3) := by decide +kernel
theorem dX8_readOrder_101 : decode (mcode mX8_readOrder) 101 = .ok (.ifCond .ne 5, 3) := by decide +kernel
theorem dX8_readOrder_104 : decode (mcode mX8_readOrder) 104 = .ok (.iconst 0, 1) := by decide +kernel
theorem dX8_readOrder_105 : decode (mcode mX8_readOrder) 105 = .ok (.ireturn, 1) := by decide +kernel
theorem dX8_readOrder_106 : decode (mcode mX8_readOrder) 106 = .ok (.aload_n 0, 1) := by decide +kernel
theorem dX8_readOrder_107 : decode (mcode mX8_readOrder) 107 = .ok (.getfield 23, 3) := by decide +kernel
theorem dX8_readOrder_110 : decode (mcode mX8_readOrder) 110 = .ok (.iload_n 1, 1) := by decide +kernel
theorem dX8_readOrder_111 : decode (mcode mX8_readOrder) 111 = .ok (.iload_n 2, 1) := by decide +kernel
theorem dX8_readOrder_112 : decode (mcode mX8_readOrder) 112 = .ok (.iload_n 3, 1) := by decide +kernel
theorem dX8_readOrder_113 : decode (mcode mX8_readOrder) 113 = .ok (.iload 4, 2) := by decide +kernel
theorem dX8_readOrder_115 : decode (mcode mX8_readOrder) 115 = .ok (.invokevirtual 146, 3) := by decide +kernel
theorem dX8_readOrder_118 : decode (mcode mX8_readOrder) 118 = .ok (.iconst 1, 1) := by decide +kernel
theorem dX8_readOrder_119 : decode (mcode mX8_readOrder) 119 = .ok (.ireturn, 1) := by decide +kernel
theorem dX8_takeAge_0 : decode (mcode mX8_takeAge) 0 = .ok (.aload_n 0, 1) := by decide +kernel
theorem dX8_takeAge_1 : decode (mcode mX8_takeAge) 1 = .ok (.ldc 172, 2) := by decide +kernel
theorem dX8_takeAge_3 : decode (mcode mX8_takeAge) 3 = .ok (.putfield 103, 3) := by decide +kernel
theorem dX8_takeAge_6 : decode (mcode mX8_takeAge) 6 = .ok (.aload_n 0, 1) := by decide +kernel
theorem dX8_takeAge_7 : decode (mcode mX8_takeAge) 7 = .ok (.getfield 9, 3) := by decide +kernel
theorem dX8_takeAge_10 : decode (mcode mX8_takeAge) 10 = .ok (.ldc 173, 2) := by decide +kernel
theorem dX8_takeAge_12 : decode (mcode mX8_takeAge) 12 = .ok (.invokevirtual 66, 3) := by decide +kernel
theorem dX8_takeAge_15 : decode (mcode mX8_takeAge) 15 = .ok (.ifCond .ne 5, 3) := by decide +kernel
theorem dX8_takeAge_18 : decode (mcode mX8_takeAge) 18 = .ok (.iconst 1, 1) := by decide +kernel
theorem dX8_takeAge_19 : decode (mcode mX8_takeAge) 19 = .ok (.ireturn, 1) := by decide +kernel
theorem dX8_takeAge_20 : decode (mcode mX8_takeAge) 20 = .ok (.aload_n 0, 1) := by decide +kernel
theorem dX8_takeAge_21 : decode (mcode mX8_takeAge) 21 = .ok (.getfield 9, 3) := by decide +kernel
theorem dX8_takeAge_24 : decode (mcode mX8_takeAge) 24 = .ok (.invokevirtual 96, 3) := by decide +kernel
theorem dX8_takeAge_27 : decode (mcode mX8_takeAge) 27 = .ok (.aload_n 0, 1) := by decide +kernel
theorem dX8_takeAge_28 : decode (mcode mX8_takeAge) 28 = .ok (.iconst 0, 1) := by decide +kernel
theorem dX8_takeAge_29 : decode (mcode mX8_takeAge) 29 = .ok (.bipush 120, 2) := by decide +kernel
theorem dX8_takeAge_31 : decode (mcode mX8_takeAge) 31 = .ok (.invokevirtual 99, 3) := by decide +kernel
theorem dX8_takeAge_34 : decode (mcode mX8_takeAge) 34 = .ok (.ireturn, 1) := by decide +kernel
theorem dX8_takeSort_0 : decode (mcode mX8_takeSort) 0 = .ok (.aload_n 0, 1) := by decide +kernel
theorem dX8_takeSort_1 : decode (mcode mX8_takeSort) 1 = .ok (.getfield 9, 3) := by decide +kernel
theorem dX8_takeSort_4 : decode (mcode mX8_takeSort) 4 = .ok (.ldc 150, 2) := by decide +kernel
theorem dX8_takeSort_6 : decode (mcode mX8_takeSort) 6 = .ok (.invokevirtual 66, 3) := by decide +kernel
theorem dX8_takeSort_9 : decode (mcode mX8_takeSort) 9 = .ok (.ifCond .eq 11, 3) := by decide +kernel
theorem dX8_takeSort_12 : decode (mcode mX8_takeSort) 12 = .ok (.aload_n 0, 1) := by decide +kernel
theorem dX8_takeSort_13 : decode (mcode mX8_takeSort) 13 = .ok (.iconst 0, 1) := by decide +kernel
theorem dX8_takeSort_14 : decode (mcode mX8_takeSort) 14 = .ok (.putfield 103, 3) := by decide +kernel
theorem dX8_takeSort_17 : decode (mcode mX8_takeSort) 17 = .ok (.goto 89, 3) := by decide +kernel
theorem dX8_takeSort_20 : decode (mcode mX8_takeSort) 20 = .ok (.aload_n 0, 1) := by decide +kernel
theorem dX8_takeSort_21 : decode (mcode mX8_takeSort) 21 = .ok (.getfield 9, 3) := by decide +kernel
theorem dX8_takeSort_24 : decode (mcode mX8_takeSort) 24 = .ok (.ldc 152, 2) := by decide +kernel
theorem dX8_takeSort_26 : decode (mcode mX8_takeSort) 26 = .ok (.invokevirtual 66, 3) := by decide +kernel
theorem dX8_takeSort_29 : decode (mcode mX8_takeSort) 29 = .ok (.ifCond .eq 11, 3) := by decide +kernel
theorem dX8_takeSort_32 : decode (mcode mX8_takeSort) 32 = .ok (.aload_n 0, 1) := by decide +kernel
theorem dX8_takeSort_33 : decode (mcode mX8_takeSort) 33 = .ok (.iconst 1, 1) := by decide +kernel
theorem dX8_takeSort_34 : decode (mcode mX8_takeSort) 34 = .ok (.putfield 103, 3) := by decide +kernel
theorem dX8_takeSort_37 : decode (mcode mX8_takeSort) 37 = .ok (.goto 69, 3) := by decide +kernel
theorem dX8_takeSort_40 : decode (mcode mX8_takeSort) 40 = .ok (.aload_n 0, 1) := by decide +kernel
theorem dX8_takeSort_41 : decode (mcode mX8_takeSort) 41 = .ok (.getfield 9, 3) := by decide +kernel
theorem dX8_takeSort_44 : decode (mcode mX8_takeSort) 44 = .ok (.ldc 154, 2) := by decide +kernel
theorem dX8_takeSort_46 : decode (mcode mX8_takeSort) 46 = .ok (.invokevirtual 66, 3) := by decide +kernel
theorem dX8_takeSort_49 : decode (mcode mX8_takeSort) 49 = .ok (.ifCond .eq 11, 3) := by decide +kernel
theorem dX8_takeSort_52 : decode (mcode mX8_takeSort) 52 = .ok (.aload_n 0, 1) := by decide +kernel
theorem dX8_takeSort_53 : decode (mcode mX8_takeSort) 53 = .ok (.iconst 2, 1) := by decide +kernel
theorem dX8_takeSort_54 : decode (mcode mX8_takeSort) 54 = .ok (.putfield 103, 3) := by decide +kernel
theorem dX8_takeSort_57 : decode (mcode mX8_takeSort) 57 = .ok (.goto 49, 3) := by decide +kernel
theorem dX8_takeSort_60 : decode (mcode mX8_takeSort) 60 = .ok (.aload_n 0, 1) := by decide +kernel
theorem dX8_takeSort_61 : decode (mcode mX8_takeSort) 61 = .ok (.getfield 9, 3) := by decide +kernel
theorem dX8_takeSort_64 : decode (mcode mX8_takeSort) 64 = .ok (.ldc 156, 2) := by decide +kernel
theorem dX8_takeSort_66 : decode (mcode mX8_takeSort) 66 = .ok (.invokevirtual 66, 3) := by decide +kernel
theorem dX8_takeSort_69 : decode (mcode mX8_takeSort) 69 = .ok (.ifCond .eq 11, 3) := by decide +kernel
theorem dX8_takeSort_72 : decode (mcode mX8_takeSort) 72 = .ok (.aload_n 0, 1) := by decide +kernel
theorem dX8_takeSort_73 : decode (mcode mX8_takeSort) 73 = .ok (.iconst 3, 1) := by decide +kernel
theorem dX8_takeSort_74 : decode (mcode mX8_takeSort) 74 = .ok (.putfield 103, 3) := by decide +kernel
theorem dX8_takeSort_77 : decode (mcode mX8_takeSort) 77 = .ok (.goto 29, 3) := by decide +kernel
theorem dX8_takeSort_80 : decode (mcode mX8_takeSort) 80 = .ok (.aload_n 0, 1) := by decide +kernel
theorem dX8_takeSort_81 : decode (mcode mX8_takeSort) 81 = .ok (.getfield 9, 3) := by decide +kernel
theorem dX8_takeSort_84 : decode (mcode mX8_takeSort) 84 = .ok (.ldc 158, 2) := by decide +kernel
theorem dX8_takeSort_86 : decode (mcode mX8_takeSort) 86 = .ok (.invokevirtual 66, 3) := by decide +kernel
theorem dX8_takeSort_89 : decode (mcode mX8_takeSort) 89 = .ok (.ifCond .eq 11, 3) := by decide +kernel
theorem dX8_takeSort_92 : decode (mcode mX8_takeSort) 92 = .ok (.aload_n 0, 1) := by decide +kernel
theorem dX8_takeSort_93 : decode (mcode mX8_takeSort) 93 = .ok (.iconst 4, 1) := by decide +kernel
theorem dX8_takeSort_94 : decode (mcode mX8_takeSort) 94 = .ok (.putfield 103, 3) := by decide +kernel
theorem dX8_takeSort_97 : decode (mcode mX8_takeSort) 97 = .ok (.goto 9, 3) := by decide +kernel
theorem dX8_takeSort_100 : decode (mcode mX8_takeSort) 100 = .ok (.aload_n 0, 1) := by decide +kernel
theorem dX8_takeSort_101 : decode (mcode mX8_takeSort) 101 = .ok (.iconst 1, 1) := by decide +kernel
theorem dX8_takeSort_102 : decode (mcode mX8_takeSort) 102 = .ok (.invokevirtual 92, 3) := by decide +kernel
theorem dX8_takeSort_105 : decode (mcode mX8_takeSort) 105 = .ok (.ireturn, 1) := by decide +kernel
theorem dX8_takeSort_106 : decode (mcode mX8_takeSort) 106 = .ok (.aload_n 0, 1) := by decide +kernel
theorem dX8_takeSort_107 : decode (mcode mX8_takeSort) 107 = .ok (.getfield 9, 3) := by decide +kernel
theorem dX8_takeSort_110 : decode (mcode mX8_takeSort) 110 = .ok (.invokevirtual 96, 3) := by decide +kernel
theorem dX8_takeSort_113 : decode (mcode mX8_takeSort) 113 = .ok (.iconst 1, 1) := by decide +kernel
theorem dX8_takeSort_114 : decode (mcode mX8_takeSort) 114 = .ok (.ireturn, 1) := by decide +kernel
theorem dX8_readLine_0 : decode (mcode mX8_readLine) 0 = .ok (.aload_n 0, 1) := by decide +kernel
theorem dX8_readLine_1 : decode (mcode mX8_readLine) 1 = .ok (.getfield 19, 3) := by decide +kernel
theorem dX8_readLine_4 : decode (mcode mX8_readLine) 4 = .ok (.getfield 43, 3) := by decide +kernel
theorem dX8_readLine_7 : decode (mcode mX8_readLine) 7 = .ok (.istore_n 1, 1) := by decide +kernel
theorem dX8_readLine_8 : decode (mcode mX8_readLine) 8 = .ok (.iload_n 1, 1) := by decide +kernel
theorem dX8_readLine_9 : decode (mcode mX8_readLine) 9 = .ok (.ifCond .lt 9, 3) := by decide +kernel
theorem dX8_readLine_12 : decode (mcode mX8_readLine) 12 = .ok (.iload_n 1, 1) := by decide +kernel
theorem dX8_readLine_13 : decode (mcode mX8_readLine) 13 = .ok (.bipush 12, 2) := by decide +kernel
theorem dX8_readLine_15 : decode (mcode mX8_readLine) 15 = .ok (.if_icmp .lt 9, 3) := by decide +kernel
theorem dX8_readLine_18 : decode (mcode mX8_readLine) 18 = .ok (.aload_n 0, 1) := by decide +kernel
theorem dX8_readLine_19 : decode (mcode mX8_readLine) 19 = .ok (.iconst 3, 1) := by decide +kernel
theorem dX8_readLine_20 : decode (mcode mX8_readLine) 20 = .ok (.invokevirtual 92, 3) := by decide +kernel
theorem dX8_readLine_23 : decode (mcode mX8_readLine) 23 = .ok (.ireturn, 1) := by decide +kernel
theorem dX8_readLine_24 : decode (mcode mX8_readLine) 24 = .ok (.aload_n 0, 1) := by decide +kernel
theorem dX8_readLine_25 : decode (mcode mX8_readLine) 25 = .ok (.iconst 0, 1) := by decide +kernel
theorem dX8_readLine_26 : decode (mcode mX8_readLine) 26 = .ok (.aload_n 0, 1) := by decide +kernel
theorem dX8_readLine_27 : decode (mcode mX8_readLine) 27 = .ok (.getfield 15, 3) := by decide +kernel
theorem dX8_readLine_30 : decode (mcode mX8_readLine) 30 = .ok (.getfield 37, 3) := by decide +kernel
theorem dX8_readLine_33 : decode (mcode mX8_readLine) 33 = .ok (.iconst 1, 1) := by decide +kernel
theorem dX8_readLine_34 : decode (mcode mX8_readLine) 34 = .ok (.isub, 1) := by decide +kernel
theorem dX8_readLine_35 : decode (mcode mX8_readLine) 35 = .ok (.invokevirtual 99, 3) := by decide +kernel
theorem dX8_readLine_38 : decode (mcode mX8_readLine) 38 = .ok (.ifCond .ne 5, 3) := by decide +kernel
theorem dX8_readLine_41 : decode (mcode mX8_readLine) 41 = .ok (.iconst 0, 1) := by decide +kernel
theorem dX8_readLine_42 : decode (mcode mX8_readLine) 42 = .ok (.ireturn, 1) := by decide +kernel
theorem dX8_readLine_43 : decode (mcode mX8_readLine) 43 = .ok (.aload_n 0, 1) := by decide +kernel
theorem dX8_readLine_44 : decode (mcode mX8_readLine) 44 = .ok (.getfield 19, 3) := by decide +kernel
theorem dX8_readLine_47 : decode (mcode mX8_readLine) 47 = .ok (.getfield 119, 3) := by decide +kernel
theorem dX8_readLine_50 : decode (mcode mX8_readLine) 50 = .ok (.iload_n 1, 1) := by decide +kernel
theorem dX8_readLine_51 : decode (mcode mX8_readLine) 51 = .ok (.aload_n 0, 1) := by decide +kernel
theorem dX8_readLine_52 : decode (mcode mX8_readLine) 52 = .ok (.getfield 103, 3) := by decide +kernel
theorem dX8_readLine_55 : decode (mcode mX8_readLine) 55 = .ok (.iastore, 1) := by decide +kernel
theorem dX8_readLine_56 : decode (mcode mX8_readLine) 56 = .ok (.aload_n 0, 1) := by decide +kernel
theorem dX8_readLine_57 : decode (mcode mX8_readLine) 57 = .ok (.invokevirtual 122, 3) := by decide +kernel
theorem dX8_readLine_60 : decode (mcode mX8_readLine) 60 = .ok (.ifCond .ne 5, 3) := by decide +kernel
theorem dX8_readLine_63 : decode (mcode mX8_readLine) 63 = .ok (.iconst 0, 1) := by decide +kernel
theorem dX8_readLine_64 : decode (mcode mX8_readLine) 64 = .ok (.ireturn, 1) := by decide +kernel
theorem dX8_readLine_65 : decode (mcode mX8_readLine) 65 = .ok (.aload_n 0, 1) := by decide +kernel
theorem dX8_readLine_66 : decode (mcode mX8_readLine) 66 = .ok (.getfield 19, 3) := by decide +kernel
theorem dX8_readLine_69 : decode (mcode mX8_readLine) 69 = .ok (.getfield 125, 3) := by decide +kernel
theorem dX8_readLine_72 : decode (mcode mX8_readLine) 72 = .ok (.iload_n 1, 1) := by decide +kernel
theorem dX8_readLine_73 : decode (mcode mX8_readLine) 73 = .ok (.aload_n 0, 1) := by decide +kernel
theorem dX8_readLine_74 : decode (mcode mX8_readLine) 74 = .ok (.getfield 103, 3) := by decide +kernel
theorem dX8_readLine_77 : decode (mcode mX8_readLine) 77 = .ok (.iastore, 1) := by decide +kernel
theorem dX8_readLine_78 : decode (mcode mX8_readLine) 78 = .ok (.aload_n 0, 1) := by decide +kernel
theorem dX8_readLine_79 : decode (mcode mX8_readLine) 79 = .ok (.iconst 0, 1) := by decide +kernel
theorem dX8_readLine_80 : decode (mcode mX8_readLine) 80 = .ok (.iconst 3, 1) := by decide +kernel
theorem dX8_readLine_81 : decode (mcode mX8_readLine) 81 = .ok (.invokevirtual 99, 3) := by decide +kernel
theorem dX8_readLine_84 : decode (mcode mX8_readLine) 84 = .ok (.ifCond .ne 5, 3) := by decide +kernel
theorem dX8_readLine_87 : decode (mcode mX8_readLine) 87 = .ok (.iconst 0, 1) := by decide +kernel
theorem dX8_readLine_88 : decode (mcode mX8_readLine) 88 = .ok (.ireturn, 1) := by decide +kernel
theorem dX8_readLine_89 : decode (mcode mX8_readLine) 89 = .ok (.aload_n 0, 1) := by decide +kernel
theorem dX8_readLine_90 : decode (mcode mX8_readLine) 90 = .ok (.getfield 19, 3) := by decide +kernel
theorem dX8_readLine_93 : decode (mcode mX8_readLine) 93 = .ok (.getfield 128, 3) := by decide +kernel
theorem dX8_readLine_96 : decode (mcode mX8_readLine) 96 = .ok (.iload_n 1, 1) := by decide +kernel
theorem dX8_readLine_97 : decode (mcode mX8_readLine) 97 = .ok (.aload_n 0, 1) := by decide +kernel
theorem dX8_readLine_98 : decode (mcode mX8_readLine) 98 = .ok (.getfield 103, 3) := by decide +kernel
theorem dX8_readLine_101 : decode (mcode mX8_readLine) 101 = .ok (.iastore, 1) := by decide +kernel
theorem dX8_readLine_102 : decode (mcode mX8_readLine) 102 = .ok (.aload_n 0, 1) := by decide +kernel
theorem dX8_readLine_103 : decode (mcode mX8_readLine) 103 = .ok (.iconst 1, 1) := by decide +kernel
theorem dX8_readLine_104 : decode (mcode mX8_readLine) 104 = .ok (.bipush 99, 2) := by decide +kernel
theorem dX8_readLine_106 : decode (mcode mX8_readLine) 106 = .ok (.invokevirtual 99, 3) := by decide +kernel
theorem dX8_readLine_109 : decode (mcode mX8_readLine) 109 = .ok (.ifCond .ne 5, 3) := by decide +kernel
theorem dX8_readLine_112 : decode (mcode mX8_readLine) 112 = .ok (.iconst 0, 1) := by decide +kernel
theorem dX8_readLine_113 : decode (mcode mX8_readLine) 113 = .ok (.ireturn, 1) := by decide +kernel
theorem dX8_readLine_114 : decode (mcode mX8_readLine) 114 = .ok (.aload_n 0, 1) := by decide +kernel
theorem dX8_readLine_115 : decode (mcode mX8_readLine) 115 = .ok (.getfield 19, 3) := by decide +kernel
theorem dX8_readLine_118 : decode (mcode mX8_readLine) 118 = .ok (.getfield 131, 3) := by decide +kernel
theorem dX8_readLine_121 : decode (mcode mX8_readLine) 121 = .ok (.iload_n 1, 1) := by decide +kernel
theorem dX8_readLine_122 : decode (mcode mX8_readLine) 122 = .ok (.aload_n 0, 1) := by decide +kernel
theorem dX8_readLine_123 : decode (mcode mX8_readLine) 123 = .ok (.getfield 103, 3) := by decide +kernel
theorem dX8_readLine_126 : decode (mcode mX8_readLine) 126 = .ok (.iastore, 1) := by decide +kernel
theorem dX8_readLine_127 : decode (mcode mX8_readLine) 127 = .ok (.aload_n 0, 1) := by decide +kernel
theorem dX8_readLine_128 : decode (mcode mX8_readLine) 128 = .ok (.iload_n 1, 1) := by decide +kernel
theorem dX8_readLine_129 : decode (mcode mX8_readLine) 129 = .ok (.invokevirtual 134, 3) := by decide +kernel
theorem dX8_readLine_132 : decode (mcode mX8_readLine) 132 = .ok (.ifCond .eq 10, 3) := by decide +kernel
theorem dX8_readLine_135 : decode (mcode mX8_readLine) 135 = .ok (.aload_n 0, 1) := by decide +kernel
theorem dX8_readLine_136 : decode (mcode mX8_readLine) 136 = .ok (.invokevirtual 137, 3) := by decide +kernel
theorem dX8_readLine_139 : decode (mcode mX8_readLine) 139 = .ok (.ifCond .ne 5, 3) := by decide +kernel
theorem dX8_readLine_142 : decode (mcode mX8_readLine) 142 = .ok (.iconst 0, 1) := by decide +kernel
theorem dX8_readLine_143 : decode (mcode mX8_readLine) 143 = .ok (.ireturn, 1) := by decide +kernel
theorem dX8_readLine_144 : decode (mcode mX8_readLine) 144 = .ok (.aload_n 0, 1) := by decide +kernel
theorem dX8_readLine_145 : decode (mcode mX8_readLine) 145 = .ok (.getfield 19, 3) := by decide +kernel
theorem dX8_readLine_148 : decode (mcode mX8_readLine) 148 = .ok (.getfield 140, 3) := by decide +kernel
theorem dX8_readLine_151 : decode (mcode mX8_readLine) 151 = .ok (.iload_n 1, 1) := by decide +kernel
theorem dX8_readLine_152 : decode (mcode mX8_readLine) 152 = .ok (.aload_n 0, 1) := by decide +kernel
theorem dX8_readLine_153 : decode (mcode mX8_readLine) 153 = .ok (.getfield 103, 3) := by decide +kernel
theorem dX8_readLine_156 : decode (mcode mX8_readLine) 156 = .ok (.iastore, 1) := by decide +kernel
theorem dX8_readLine_157 : decode (mcode mX8_readLine) 157 = .ok (.aload_n 0, 1) := by decide +kernel
theorem dX8_readLine_158 : decode (mcode mX8_readLine) 158 = .ok (.invokevirtual 112, 3) := by decide +kernel
theorem dX8_readLine_161 : decode (mcode mX8_readLine) 161 = .ok (.ifCond .ne 5, 3) := by decide +kernel
theorem dX8_readLine_164 : decode (mcode mX8_readLine) 164 = .ok (.iconst 0, 1) := by decide +kernel
theorem dX8_readLine_165 : decode (mcode mX8_readLine) 165 = .ok (.ireturn, 1) := by decide +kernel
theorem dX8_readLine_166 : decode (mcode mX8_readLine) 166 = .ok (.aload_n 0, 1) := by decide +kernel
theorem dX8_readLine_167 : decode (mcode mX8_readLine) 167 = .ok (.getfield 19, 3) := by decide +kernel
theorem dX8_readLine_170 : decode (mcode mX8_readLine) 170 = .ok (.dup, 1) := by decide +kernel
theorem dX8_readLine_171 : decode (mcode mX8_readLine) 171 = .ok (.getfield 43, 3) := by decide +kernel
theorem dX8_readLine_174 : decode (mcode mX8_readLine) 174 = .ok (.iconst 1, 1) := by decide +kernel
theorem dX8_readLine_175 : decode (mcode mX8_readLine) 175 = .ok (.iadd, 1) := by decide +kernel
theorem dX8_readLine_176 : decode (mcode mX8_readLine) 176 = .ok (.putfield 43, 3) := by decide +kernel
theorem dX8_readLine_179 : decode (mcode mX8_readLine) 179 = .ok (.iconst 1, 1) := by decide +kernel
theorem dX8_readLine_180 : decode (mcode mX8_readLine) 180 = .ok (.ireturn, 1) := by decide +kernel
theorem dX8_readPart_0 : decode (mcode mX8_readPart) 0 = .ok (.aload_n 0, 1) := by decide +kernel
theorem dX8_readPart_1 : decode (mcode mX8_readPart) 1 = .ok (.getfield 9, 3) := by decide +kernel
theorem dX8_readPart_4 : decode (mcode mX8_readPart) 4 = .ok (.ldc 64, 2) := by decide +kernel
theorem dX8_readPart_6 : decode (mcode mX8_readPart) 6 = .ok (.invokevirtual 66, 3) := by decide +kernel
theorem dX8_readPart_9 : decode (mcode mX8_readPart) 9 = .ok (.ifCond .eq 40, 3) := by decide +kernel
theorem dX8_readPart_12 : decode (mcode mX8_readPart) 12 = .ok (.aload_n 0, 1) := by decide +kernel
theorem dX8_readPart_13 : decode (mcode mX8_readPart) 13 = .ok (.aload_n 0, 1) := by decide +kernel
theorem dX8_readPart_14 : decode (mcode mX8_readPart) 14 = .ok (.getfield 15, 3) := by decide +kernel
theorem dX8_readPart_17 : decode (mcode mX8_readPart) 17 = .ok (.getfield 37, 3) := by decide +kernel
theorem dX8_readPart_20 : decode (mcode mX8_readPart) 20 = .ok (.bipush 10, 2) := by decide +kernel
theorem dX8_readPart_22 : decode (mcode mX8_readPart) 22 = .ok (.if_icmp .ge 7, 3) := by decide +kernel
theorem dX8_readPart_25 : decode (mcode mX8_readPart) 25 = .ok (.iconst 1, 1) := by decide +kernel
theorem dX8_readPart_26 : decode (mcode mX8_readPart) 26 = .ok (.goto 4, 3) := by decide +kernel
theorem dX8_readPart_29 : decode (mcode mX8_readPart) 29 = .ok (.iconst 0, 1) := by decide +kernel
theorem dX8_readPart_30 : decode (mcode mX8_readPart) 30 = .ok (.invokevirtual 70, 3) := by decide +kernel
theorem dX8_readPart_33 : decode (mcode mX8_readPart) 33 = .ok (.ifCond .eq 14, 3) := by decide +kernel
theorem dX8_readPart_36 : decode (mcode mX8_readPart) 36 = .ok (.aload_n 0, 1) := by decide +kernel
theorem dX8_readPart_37 : decode (mcode mX8_readPart) 37 = .ok (.invokevirtual 74, 3) := by decide +kernel
theorem dX8_readPart_40 : decode (mcode mX8_readPart) 40 = .ok (.ifCond .eq 7, 3) := by decide +kernel
theorem dX8_readPart_43 : decode (mcode mX8_readPart) 43 = .ok (.iconst 1, 1) := by decide +kernel
theorem dX8_readPart_44 : decode (mcode mX8_readPart) 44 = .ok (.goto 4, 3) := by decide +kernel
theorem dX8_readPart_47 : decode (mcode mX8_readPart) 47 = .ok (.iconst 0, 1) := by decide +kernel
theorem dX8_readPart_48 : decode (mcode mX8_readPart) 48 = .ok (.ireturn, 1) := by decide +kernel
theorem dX8_readPart_49 : decode (mcode mX8_readPart) 49 = .ok (.aload_n 0, 1) := by decide +kernel
theorem dX8_readPart_50 : decode (mcode mX8_readPart) 50 = .ok (.getfield 9, 3) := by decide +kernel
theorem dX8_readPart_53 : decode (mcode mX8_readPart) 53 = .ok (.ldc 77, 2) := by decide +kernel
theorem dX8_readPart_55 : decode (mcode mX8_readPart) 55 = .ok (.invokevirtual 66, 3) := by decide +kernel
theorem dX8_readPart_58 : decode (mcode mX8_readPart) 58 = .ok (.ifCond .eq 40, 3) := by decide +kernel
theorem dX8_readPart_61 : decode (mcode mX8_readPart) 61 = .ok (.aload_n 0, 1) := by decide +kernel
theorem dX8_readPart_62 : decode (mcode mX8_readPart) 62 = .ok (.aload_n 0, 1) := by decide +kernel
theorem dX8_readPart_63 : decode (mcode mX8_readPart) 63 = .ok (.getfield 19, 3) := by decide +kernel
theorem dX8_readPart_66 : decode (mcode mX8_readPart) 66 = .ok (.getfield 43, 3) := by decide +kernel
theorem dX8_readPart_69 : decode (mcode mX8_readPart) 69 = .ok (.bipush 12, 2) := by decide +kernel
theorem dX8_readPart_71 : decode (mcode mX8_readPart) 71 = .ok (.if_icmp .ge 7, 3) := by decide +kernel
theorem dX8_readPart_74 : decode (mcode mX8_readPart) 74 = .ok (.iconst 1, 1) := by decide +kernel
theorem dX8_readPart_75 : decode (mcode mX8_readPart) 75 = .ok (.goto 4, 3) := by decide +kernel
theorem dX8_readPart_78 : decode (mcode mX8_readPart) 78 = .ok (.iconst 0, 1) := by decide +kernel
theorem dX8_readPart_79 : decode (mcode mX8_readPart) 79 = .ok (.invokevirtual 70, 3) := by decide +kernel
theorem dX8_readPart_82 : decode (mcode mX8_readPart) 82 = .ok (.ifCond .eq 14, 3) := by decide +kernel
theorem dX8_readPart_85 : decode (mcode mX8_readPart) 85 = .ok (.aload_n 0, 1) := by decide +kernel
theorem dX8_readPart_86 : decode (mcode mX8_readPart) 86 = .ok (.invokevirtual 79, 3) := by decide +kernel
theorem dX8_readPart_89 : decode (mcode mX8_readPart) 89 = .ok (.ifCond .eq 7, 3) := by decide +kernel
theorem dX8_readPart_92 : decode (mcode mX8_readPart) 92 = .ok (.iconst 1, 1) := by decide +kernel
theorem dX8_readPart_93 : decode (mcode mX8_readPart) 93 = .ok (.goto 4, 3) := by decide +kernel
theorem dX8_readPart_96 : decode (mcode mX8_readPart) 96 = .ok (.iconst 0, 1) := by decide +kernel
theorem dX8_readPart_97 : decode (mcode mX8_readPart) 97 = .ok (.ireturn, 1) := by decide +kernel
theorem dX8_readPart_98 : decode (mcode mX8_readPart) 98 = .ok (.aload_n 0, 1) := by decide +kernel
theorem dX8_readPart_99 : decode (mcode mX8_readPart) 99 = .ok (.getfield 9, 3) := by decide +kernel
theorem dX8_readPart_102 : decode (mcode mX8_readPart) 102 = .ok (.ldc 82, 2) := by decide +kernel
theorem dX8_readPart_104 : decode (mcode mX8_readPart) 104 = .ok (.invokevirtual 66, 3) := by decide +kernel
theorem dX8_readPart_107 : decode (mcode mX8_readPart) 107 = .ok (.ifCond .eq 40, 3) := by decide +kernel
theorem dX8_readPart_110 : decode (mcode mX8_readPart) 110 = .ok (.aload_n 0, 1) := by decide +kernel
theorem dX8_readPart_111 : decode (mcode mX8_readPart) 111 = .ok (.aload_n 0, 1) := by decide +kernel
theorem dX8_readPart_112 : decode (mcode mX8_readPart) 112 = .ok (.getfield 23, 3) := by decide +kernel
theorem dX8_readPart_115 : decode (mcode mX8_readPart) 115 = .ok (.getfield 47, 3) := by decide +kernel
theorem dX8_readPart_118 : decode (mcode mX8_readPart) 118 = .ok (.bipush 20, 2) := by decide +kernel
theorem dX8_readPart_120 : decode (mcode mX8_readPart) 120 = .ok (.if_icmp .ge 7, 3) := by decide +kernel
theorem dX8_readPart_123 : decode (mcode mX8_readPart) 123 = .ok (.iconst 1, 1) := by decide +kernel
theorem dX8_readPart_124 : decode (mcode mX8_readPart) 124 = .ok (.goto 4, 3) := by decide +kernel
theorem dX8_readPart_127 : decode (mcode mX8_readPart) 127 = .ok (.iconst 0, 1) := by decide +kernel
theorem dX8_readPart_128 : decode (mcode mX8_readPart) 128 = .ok (.invokevirtual 70, 3) := by decide +kernel
theorem dX8_readPart_131 : decode (mcode mX8_readPart) 131 = .ok (.ifCond .eq 14, 3) := by decide +kernel
theorem dX8_readPart_134 : decode (mcode mX8_readPart) 134 = .ok (.aload_n 0, 1) := by decide +kernel
theorem dX8_readPart_135 : decode (mcode mX8_readPart) 135 = .ok (.invokevirtual 84, 3) := by decide +kernel
theorem dX8_readPart_138 : decode (mcode mX8_readPart) 138 = .ok (.ifCond .eq 7, 3) := by decide +kernel
theorem dX8_readPart_141 : decode (mcode mX8_readPart) 141 = .ok (.iconst 1, 1) := by decide +kernel
theorem dX8_readPart_142 : decode (mcode mX8_readPart) 142 = .ok (.goto 4, 3) := by decide +kernel
theorem dX8_readPart_145 : decode (mcode mX8_readPart) 145 = .ok (.iconst 0, 1) := by decide +kernel
theorem dX8_readPart_146 : decode (mcode mX8_readPart) 146 = .ok (.ireturn, 1) := by decide +kernel
theorem dX8_readPart_147 : decode (mcode mX8_readPart) 147 = .ok (.aload_n 0, 1) := by decide +kernel
theorem dX8_readPart_148 : decode (mcode mX8_readPart) 148 = .ok (.getfield 9, 3) := by decide +kernel
theorem dX8_readPart_151 : decode (mcode mX8_readPart) 151 = .ok (.ldc 87, 2) := by decide +kernel
theorem dX8_readPart_153 : decode (mcode mX8_readPart) 153 = .ok (.invokevirtual 66, 3) := by decide +kernel
theorem dX8_readPart_156 : decode (mcode mX8_readPart) 156 = .ok (.ifCond .eq 40, 3) := by decide +kernel
theorem dX8_readPart_159 : decode (mcode mX8_readPart) 159 = .ok (.aload_n 0, 1) := by decide +kernel
theorem dX8_readPart_160 : decode (mcode mX8_readPart) 160 = .ok (.aload_n 0, 1) := by decide +kernel
theorem dX8_readPart_161 : decode (mcode mX8_readPart) 161 = .ok (.getfield 27, 3) := by decide +kernel
theorem dX8_readPart_164 : decode (mcode mX8_readPart) 164 = .ok (.getfield 51, 3) := by decide +kernel
theorem dX8_readPart_167 : decode (mcode mX8_readPart) 167 = .ok (.bipush 20, 2) := by decide +kernel
theorem dX8_readPart_169 : decode (mcode mX8_readPart) 169 = .ok (.if_icmp .ge 7, 3) := by decide +kernel
theorem dX8_readPart_172 : decode (mcode mX8_readPart) 172 = .ok (.iconst 1, 1) := by decide +kernel
theorem dX8_readPart_173 : decode (mcode mX8_readPart) 173 = .ok (.goto 4, 3) := by decide +kernel
theorem dX8_readPart_176 : decode (mcode mX8_readPart) 176 = .ok (.iconst 0, 1) := by decide +kernel
theorem dX8_readPart_177 : decode (mcode mX8_readPart) 177 = .ok (.invokevirtual 70, 3) := by decide +kernel
theorem dX8_readPart_180 : decode (mcode mX8_readPart) 180 = .ok (.ifCond .eq 14, 3) := by decide +kernel
theorem dX8_readPart_183 : decode (mcode mX8_readPart) 183 = .ok (.aload_n 0, 1) := by decide +kernel
theorem dX8_readPart_184 : decode (mcode mX8_readPart) 184 = .ok (.invokevirtual 89, 3) := by decide +kernel
theorem dX8_readPart_187 : decode (mcode mX8_readPart) 187 = .ok (.ifCond .eq 7, 3) := by decide +kernel
theorem dX8_readPart_190 : decode (mcode mX8_readPart) 190 = .ok (.iconst 1, 1) := by decide +kernel
theorem dX8_readPart_191 : decode (mcode mX8_readPart) 191 = .ok (.goto 4, 3) := by decide +kernel
theorem dX8_readPart_194 : decode (mcode mX8_readPart) 194 = .ok (.iconst 0, 1) := by decide +kernel
theorem dX8_readPart_195 : decode (mcode mX8_readPart) 195 = .ok (.ireturn, 1) := by decide +kernel
theorem dX8_readPart_196 : decode (mcode mX8_readPart) 196 = .ok (.aload_n 0, 1) := by decide +kernel
theorem dX8_readPart_197 : decode (mcode mX8_readPart) 197 = .ok (.iconst 1, 1) := by decide +kernel
theorem dX8_readPart_198 : decode (mcode mX8_readPart) 198 = .ok (.invokevirtual 92, 3) := by decide +kernel
theorem dX8_readPart_201 : decode (mcode mX8_readPart) 201 = .ok (.ireturn, 1) := by decide +kernel
theorem dX8_readAll_0 : decode (mcode mX8_readAll) 0 = .ok (.aload_n 0, 1) := by decide +kernel
theorem dX8_readAll_1 : decode (mcode mX8_readAll) 1 = .ok (.getfield 15, 3) := by decide +kernel
theorem dX8_readAll_4 : decode (mcode mX8_readAll) 4 = .ok (.aload_n 0, 1) := by decide +kernel
theorem dX8_readAll_5 : decode (mcode mX8_readAll) 5 = .ok (.getfield 15, 3) := by decide +kernel
theorem dX8_readAll_8 : decode (mcode mX8_readAll) 8 = .ok (.getfield 31, 3) := by decide +kernel
theorem dX8_readAll_11 : decode (mcode mX8_readAll) 11 = .ok (.putfield 37, 3) := by decide +kernel
theorem dX8_readAll_14 : decode (mcode mX8_readAll) 14 = .ok (.aload_n 0, 1) := by decide +kernel
theorem dX8_readAll_15 : decode (mcode mX8_readAll) 15 = .ok (.getfield 19, 3) := by decide +kernel
theorem dX8_readAll_18 : decode (mcode mX8_readAll) 18 = .ok (.aload_n 0, 1) := by decide +kernel
theorem dX8_readAll_19 : decode (mcode mX8_readAll) 19 = .ok (.getfield 19, 3) := by decide +kernel
theorem dX8_readAll_22 : decode (mcode mX8_readAll) 22 = .ok (.getfield 40, 3) := by decide +kernel
theorem dX8_readAll_25 : decode (mcode mX8_readAll) 25 = .ok (.putfield 43, 3) := by decide +kernel
theorem dX8_readAll_28 : decode (mcode mX8_readAll) 28 = .ok (.aload_n 0, 1) := by decide +kernel
theorem dX8_readAll_29 : decode (mcode mX8_readAll) 29 = .ok (.getfield 23, 3) := by decide +kernel
theorem dX8_readAll_32 : decode (mcode mX8_readAll) 32 = .ok (.aload_n 0, 1) := by decide +kernel
theorem dX8_readAll_33 : decode (mcode mX8_readAll) 33 = .ok (.getfield 23, 3) := by decide +kernel
theorem dX8_readAll_36 : decode (mcode mX8_readAll) 36 = .ok (.getfield 44, 3) := by decide +kernel
theorem dX8_readAll_39 : decode (mcode mX8_readAll) 39 = .ok (.putfield 47, 3) := by decide +kernel
theorem dX8_readAll_42 : decode (mcode mX8_readAll) 42 = .ok (.aload_n 0, 1) := by decide +kernel
theorem dX8_readAll_43 : decode (mcode mX8_readAll) 43 = .ok (.getfield 27, 3) := by decide +kernel
theorem dX8_readAll_46 : decode (mcode mX8_readAll) 46 = .ok (.aload_n 0, 1) := by decide +kernel
theorem dX8_readAll_47 : decode (mcode mX8_readAll) 47 = .ok (.getfield 27, 3) := by decide +kernel
theorem dX8_readAll_50 : decode (mcode mX8_readAll) 50 = .ok (.getfield 48, 3) := by decide +kernel
theorem dX8_readAll_53 : decode (mcode mX8_readAll) 53 = .ok (.putfield 51, 3) := by decide +kernel
theorem dX8_readAll_56 : decode (mcode mX8_readAll) 56 = .ok (.aload_n 0, 1) := by decide +kernel
theorem dX8_readAll_57 : decode (mcode mX8_readAll) 57 = .ok (.getfield 9, 3) := by decide +kernel
theorem dX8_readAll_60 : decode (mcode mX8_readAll) 60 = .ok (.invokevirtual 52, 3) := by decide +kernel
theorem dX8_readAll_63 : decode (mcode mX8_readAll) 63 = .ok (.iconst 0, 1) := by decide +kernel
theorem dX8_readAll_64 : decode (mcode mX8_readAll) 64 = .ok (.istore_n 1, 1) := by decide +kernel
theorem dX8_readAll_65 : decode (mcode mX8_readAll) 65 = .ok (.iload_n 1, 1) := by decide +kernel
theorem dX8_readAll_66 : decode (mcode mX8_readAll) 66 = .ok (.sipush 600, 3) := by decide +kernel
theorem dX8_readAll_69 : decode (mcode mX8_readAll) 69 = .ok (.if_icmp .gt 30, 3) := by decide +kernel
theorem dX8_readAll_72 : decode (mcode mX8_readAll) 72 = .ok (.aload_n 0, 1) := by decide +kernel
theorem dX8_readAll_73 : decode (mcode mX8_readAll) 73 = .ok (.getfield 9, 3) := by decide +kernel
theorem dX8_readAll_76 : decode (mcode mX8_readAll) 76 = .ok (.getfield 57, 3) := by decide +kernel
theorem dX8_readAll_79 : decode (mcode mX8_readAll) 79 = .ok (.ifCond .ne 5, 3) := by decide +kernel
theorem dX8_readAll_82 : decode (mcode mX8_readAll) 82 = .ok (.iconst 1, 1) := by decide +kernel
theorem dX8_readAll_83 : decode (mcode mX8_readAll) 83 = .ok (.ireturn, 1) := by decide +kernel
theorem dX8_readAll_84 : decode (mcode mX8_readAll) 84 = .ok (.aload_n 0, 1) := by decide +kernel
theorem dX8_readAll_85 : decode (mcode mX8_readAll) 85 = .ok (.invokevirtual 60, 3) := by decide +kernel
theorem dX8_readAll_88 : decode (mcode mX8_readAll) 88 = .ok (.ifCond .ne 5, 3) := by decide +kernel
theorem dX8_readAll_91 : decode (mcode mX8_readAll) 91 = .ok (.iconst 0, 1) := by decide +kernel
theorem dX8_readAll_92 : decode (mcode mX8_readAll) 92 = .ok (.ireturn, 1) := by decide +kernel
theorem dX8_readAll_93 : decode (mcode mX8_readAll) 93 = .ok (.iinc 1 1, 3) := by decide +kernel
theorem dX8_readAll_96 : decode (mcode mX8_readAll) 96 = .ok (.goto (-31), 3) := by decide +kernel
theorem dX8_readAll_99 : decode (mcode mX8_readAll) 99 = .ok (.iconst 1, 1) := by decide +kernel
theorem dX8_readAll_100 : decode (mcode mX8_readAll) 100 = .ok (.ireturn, 1) := by decide +kernel

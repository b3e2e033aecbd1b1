theorem dX11_fault_0 : decode (mcode mX11_fault) 0 = .ok (.aload_n 0, 1) := by decide +kernel
theorem dX11_fault_1 : decode (mcode mX11_fault) 1 = .ok (.getfield 141, 3) := by decide +kernel
theorem dX11_fault_4 : decode (mcode mX11_fault) 4 = .ok (.ireturn, 1) := by decide +kernel
theorem dX11_finding_0 : decode (mcode mX11_finding) 0 = .ok (.aload_n 0, 1) := by decide +kernel
theorem dX11_finding_1 : decode (mcode mX11_finding) 1 = .ok (.iload_n 1, 1) := by decide +kernel
theorem dX11_finding_2 : decode (mcode mX11_finding) 2 = .ok (.putfield 317, 3) := by decide +kernel
theorem dX11_finding_5 : decode (mcode mX11_finding) 5 = .ok (.ldc_w 336, 3) := by decide +kernel
theorem dX11_finding_8 : decode (mcode mX11_finding) 8 = .ok (.iload_n 1, 1) := by decide +kernel
theorem dX11_finding_9 : decode (mcode mX11_finding) 9 = .ok (.isub, 1) := by decide +kernel
theorem dX11_finding_10 : decode (mcode mX11_finding) 10 = .ok (.ireturn, 1) := by decide +kernel
theorem dX11_meetsAnother_0 : decode (mcode mX11_meetsAnother) 0 = .ok (.iconst 0, 1) := by decide +kernel
theorem dX11_meetsAnother_1 : decode (mcode mX11_meetsAnother) 1 = .ok (.istore_n 3, 1) := by decide +kernel
theorem dX11_meetsAnother_2 : decode (mcode mX11_meetsAnother) 2 = .ok (.iload_n 3, 1) := by decide +kernel
theorem dX11_meetsAnother_3 : decode (mcode mX11_meetsAnother) 3 = .ok (.iload_n 2, 1) := by decide +kernel
theorem dX11_meetsAnother_4 : decode (mcode mX11_meetsAnother) 4 = .ok (.if_icmp .ge 31, 3) := by decide +kernel
theorem dX11_meetsAnother_7 : decode (mcode mX11_meetsAnother) 7 = .ok (.iload_n 3, 1) := by decide +kernel
theorem dX11_meetsAnother_8 : decode (mcode mX11_meetsAnother) 8 = .ok (.iload_n 1, 1) := by decide +kernel
theorem dX11_meetsAnother_9 : decode (mcode mX11_meetsAnother) 9 = .ok (.if_icmp .eq 20, 3) := by decide +kernel
theorem dX11_meetsAnother_12 : decode (mcode mX11_meetsAnother) 12 = .ok (.aload_n 0, 1) := by decide +kernel
theorem dX11_meetsAnother_13 : decode (mcode mX11_meetsAnother) 13 = .ok (.getfield 51, 3) := by decide +kernel
theorem dX11_meetsAnother_16 : decode (mcode mX11_meetsAnother) 16 = .ok (.iload_n 3, 1) := by decide +kernel
theorem dX11_meetsAnother_17 : decode (mcode mX11_meetsAnother) 17 = .ok (.iaload, 1) := by decide +kernel
theorem dX11_meetsAnother_18 : decode (mcode mX11_meetsAnother) 18 = .ok (.aload_n 0, 1) := by decide +kernel
theorem dX11_meetsAnother_19 : decode (mcode mX11_meetsAnother) 19 = .ok (.getfield 51, 3) := by decide +kernel
theorem dX11_meetsAnother_22 : decode (mcode mX11_meetsAnother) 22 = .ok (.iload_n 1, 1) := by decide +kernel
theorem dX11_meetsAnother_23 : decode (mcode mX11_meetsAnother) 23 = .ok (.iaload, 1) := by decide +kernel
theorem dX11_meetsAnother_24 : decode (mcode mX11_meetsAnother) 24 = .ok (.if_icmp .ne 5, 3) := by decide +kernel
theorem dX11_meetsAnother_27 : decode (mcode mX11_meetsAnother) 27 = .ok (.iconst 1, 1) := by decide +kernel
theorem dX11_meetsAnother_28 : decode (mcode mX11_meetsAnother) 28 = .ok (.ireturn, 1) := by decide +kernel
theorem dX11_meetsAnother_29 : decode (mcode mX11_meetsAnother) 29 = .ok (.iinc 3 1, 3) := by decide +kernel
theorem dX11_meetsAnother_32 : decode (mcode mX11_meetsAnother) 32 = .ok (.goto (-30), 3) := by decide +kernel
theorem dX11_meetsAnother_35 : decode (mcode mX11_meetsAnother) 35 = .ok (.iconst 0, 1) := by decide +kernel
theorem dX11_meetsAnother_36 : decode (mcode mX11_meetsAnother) 36 = .ok (.ireturn, 1) := by decide +kernel
theorem dX11_noBook_0 : decode (mcode mX11_noBook) 0 = .ok (.iload_n 1, 1) := by decide +kernel
theorem dX11_noBook_1 : decode (mcode mX11_noBook) 1 = .ok (.ifCond .lt 14, 3) := by decide +kernel
theorem dX11_noBook_4 : decode (mcode mX11_noBook) 4 = .ok (.iload_n 1, 1) := by decide +kernel
theorem dX11_noBook_5 : decode (mcode mX11_noBook) 5 = .ok (.aload_n 0, 1) := by decide +kernel
theorem dX11_noBook_6 : decode (mcode mX11_noBook) 6 = .ok (.getfield 26, 3) := by decide +kernel
theorem dX11_noBook_9 : decode (mcode mX11_noBook) 9 = .ok (.getfield 283, 3) := by decide +kernel
theorem dX11_noBook_12 : decode (mcode mX11_noBook) 12 = .ok (.if_icmp .lt 7, 3) := by decide +kernel
theorem dX11_noBook_15 : decode (mcode mX11_noBook) 15 = .ok (.iconst 1, 1) := by decide +kernel
theorem dX11_noBook_16 : decode (mcode mX11_noBook) 16 = .ok (.goto 4, 3) := by decide +kernel
theorem dX11_noBook_19 : decode (mcode mX11_noBook) 19 = .ok (.iconst 0, 1) := by decide +kernel
theorem dX11_noBook_20 : decode (mcode mX11_noBook) 20 = .ok (.ireturn, 1) := by decide +kernel
theorem dX11_noLine_0 : decode (mcode mX11_noLine) 0 = .ok (.iload_n 1, 1) := by decide +kernel
theorem dX11_noLine_1 : decode (mcode mX11_noLine) 1 = .ok (.ifCond .lt 14, 3) := by decide +kernel
theorem dX11_noLine_4 : decode (mcode mX11_noLine) 4 = .ok (.iload_n 1, 1) := by decide +kernel
theorem dX11_noLine_5 : decode (mcode mX11_noLine) 5 = .ok (.aload_n 0, 1) := by decide +kernel
theorem dX11_noLine_6 : decode (mcode mX11_noLine) 6 = .ok (.getfield 47, 3) := by decide +kernel
theorem dX11_noLine_9 : decode (mcode mX11_noLine) 9 = .ok (.getfield 151, 3) := by decide +kernel
theorem dX11_noLine_12 : decode (mcode mX11_noLine) 12 = .ok (.if_icmp .lt 7, 3) := by decide +kernel
theorem dX11_noLine_15 : decode (mcode mX11_noLine) 15 = .ok (.iconst 1, 1) := by decide +kernel
theorem dX11_noLine_16 : decode (mcode mX11_noLine) 16 = .ok (.goto 4, 3) := by decide +kernel
theorem dX11_noLine_19 : decode (mcode mX11_noLine) 19 = .ok (.iconst 0, 1) := by decide +kernel
theorem dX11_noLine_20 : decode (mcode mX11_noLine) 20 = .ok (.ireturn, 1) := by decide +kernel
theorem dX11_noSheet_0 : decode (mcode mX11_noSheet) 0 = .ok (.iload_n 1, 1) := by decide +kernel
theorem dX11_noSheet_1 : decode (mcode mX11_noSheet) 1 = .ok (.ifCond .lt 9, 3) := by decide +kernel
theorem dX11_noSheet_4 : decode (mcode mX11_noSheet) 4 = .ok (.iload_n 1, 1) := by decide +kernel
theorem dX11_noSheet_5 : decode (mcode mX11_noSheet) 5 = .ok (.bipush 8, 2) := by decide +kernel
theorem dX11_noSheet_7 : decode (mcode mX11_noSheet) 7 = .ok (.if_icmp .lt 7, 3) := by decide +kernel
theorem dX11_noSheet_10 : decode (mcode mX11_noSheet) 10 = .ok (.iconst 1, 1) := by decide +kernel
theorem dX11_noSheet_11 : decode (mcode mX11_noSheet) 11 = .ok (.goto 4, 3) := by decide +kernel
theorem dX11_noSheet_14 : decode (mcode mX11_noSheet) 14 = .ok (.iconst 0, 1) := by decide +kernel
theorem dX11_noSheet_15 : decode (mcode mX11_noSheet) 15 = .ok (.ireturn, 1) := by decide +kernel
theorem dX11_noStreet_0 : decode (mcode mX11_noStreet) 0 = .ok (.iload_n 1, 1) := by decide +kernel
theorem dX11_noStreet_1 : decode (mcode mX11_noStreet) 1 = .ok (.ifCond .lt 8, 3) := by decide +kernel
theorem dX11_noStreet_4 : decode (mcode mX11_noStreet) 4 = .ok (.iload_n 1, 1) := by decide +kernel
theorem dX11_noStreet_5 : decode (mcode mX11_noStreet) 5 = .ok (.iconst 4, 1) := by decide +kernel
theorem dX11_noStreet_6 : decode (mcode mX11_noStreet) 6 = .ok (.if_icmp .lt 7, 3) := by decide +kernel
theorem dX11_noStreet_9 : decode (mcode mX11_noStreet) 9 = .ok (.iconst 1, 1) := by decide +kernel
theorem dX11_noStreet_10 : decode (mcode mX11_noStreet) 10 = .ok (.goto 4, 3) := by decide +kernel
theorem dX11_noStreet_13 : decode (mcode mX11_noStreet) 13 = .ok (.iconst 0, 1) := by decide +kernel
theorem dX11_noStreet_14 : decode (mcode mX11_noStreet) 14 = .ok (.ireturn, 1) := by decide +kernel
theorem dX11_noYear_0 : decode (mcode mX11_noYear) 0 = .ok (.iload_n 1, 1) := by decide +kernel
theorem dX11_noYear_1 : decode (mcode mX11_noYear) 1 = .ok (.ifCond .lt 10, 3) := by decide +kernel
theorem dX11_noYear_4 : decode (mcode mX11_noYear) 4 = .ok (.iload_n 1, 1) := by decide +kernel
theorem dX11_noYear_5 : decode (mcode mX11_noYear) 5 = .ok (.sipush 9999, 3) := by decide +kernel
theorem dX11_noYear_8 : decode (mcode mX11_noYear) 8 = .ok (.if_icmp .le 7, 3) := by decide +kernel
theorem dX11_noYear_11 : decode (mcode mX11_noYear) 11 = .ok (.iconst 1, 1) := by decide +kernel
theorem dX11_noYear_12 : decode (mcode mX11_noYear) 12 = .ok (.goto 4, 3) := by decide +kernel
theorem dX11_noYear_15 : decode (mcode mX11_noYear) 15 = .ok (.iconst 0, 1) := by decide +kernel
theorem dX11_noYear_16 : decode (mcode mX11_noYear) 16 = .ok (.ireturn, 1) := by decide +kernel
theorem dX11_status_0 : decode (mcode mX11_status) 0 = .ok (.aload_n 0, 1) := by decide +kernel
theorem dX11_status_1 : decode (mcode mX11_status) 1 = .ok (.getfield 317, 3) := by decide +kernel
theorem dX11_status_4 : decode (mcode mX11_status) 4 = .ok (.ireturn, 1) := by decide +kernel
theorem dX11_trace_0 : decode (mcode mX11_trace) 0 = .ok (.iload_n 1, 1) := by decide +kernel
theorem dX11_trace_1 : decode (mcode mX11_trace) 1 = .ok (.ifCond .lt 14, 3) := by decide +kernel
theorem dX11_trace_4 : decode (mcode mX11_trace) 4 = .ok (.iload_n 1, 1) := by decide +kernel
theorem dX11_trace_5 : decode (mcode mX11_trace) 5 = .ok (.aload_n 0, 1) := by decide +kernel
theorem dX11_trace_6 : decode (mcode mX11_trace) 6 = .ok (.getfield 83, 3) := by decide +kernel
theorem dX11_trace_9 : decode (mcode mX11_trace) 9 = .ok (.getfield 294, 3) := by decide +kernel
theorem dX11_trace_12 : decode (mcode mX11_trace) 12 = .ok (.if_icmp .lt 8, 3) := by decide +kernel
theorem dX11_trace_15 : decode (mcode mX11_trace) 15 = .ok (.ldc 238, 2) := by decide +kernel
theorem dX11_trace_17 : decode (mcode mX11_trace) 17 = .ok (.goto 12, 3) := by decide +kernel
theorem dX11_trace_20 : decode (mcode mX11_trace) 20 = .ok (.aload_n 0, 1) := by decide +kernel
theorem dX11_trace_21 : decode (mcode mX11_trace) 21 = .ok (.getfield 83, 3) := by decide +kernel
theorem dX11_trace_24 : decode (mcode mX11_trace) 24 = .ok (.getfield 303, 3) := by decide +kernel
theorem dX11_trace_27 : decode (mcode mX11_trace) 27 = .ok (.iload_n 1, 1) := by decide +kernel
theorem dX11_trace_28 : decode (mcode mX11_trace) 28 = .ok (.iaload, 1) := by decide +kernel
theorem dX11_trace_29 : decode (mcode mX11_trace) 29 = .ok (.ireturn, 1) := by decide +kernel
theorem dX11_withoutFinding_0 : decode (mcode mX11_withoutFinding) 0 = .ok (.aload_n 0, 1) := by decide +kernel
theorem dX11_withoutFinding_1 : decode (mcode mX11_withoutFinding) 1 = .ok (.iconst 0, 1) := by decide +kernel
theorem dX11_withoutFinding_2 : decode (mcode mX11_withoutFinding) 2 = .ok (.putfield 317, 3) := by decide +kernel
theorem dX11_withoutFinding_5 : decode (mcode mX11_withoutFinding) 5 = .ok (.iload_n 1, 1) := by decide +kernel
theorem dX11_withoutFinding_6 : decode (mcode mX11_withoutFinding) 6 = .ok (.ireturn, 1) := by decide +kernel
theorem dX11_countMeetings_0 : decode (mcode mX11_countMeetings) 0 = .ok (.iconst 0, 1) := by decide +kernel
theorem dX11_countMeetings_1 : decode (mcode mX11_countMeetings) 1 = .ok (.istore_n 2, 1) := by decide +kernel
theorem dX11_countMeetings_2 : decode (mcode mX11_countMeetings) 2 = .ok (.iconst 0, 1) := by decide +kernel
theorem dX11_countMeetings_3 : decode (mcode mX11_countMeetings) 3 = .ok (.istore_n 3, 1) := by decide +kernel
theorem dX11_countMeetings_4 : decode (mcode mX11_countMeetings) 4 = .ok (.iload_n 3, 1) := by decide +kernel
theorem dX11_countMeetings_5 : decode (mcode mX11_countMeetings) 5 = .ok (.iload_n 1, 1) := by decide +kernel
theorem dX11_countMeetings_6 : decode (mcode mX11_countMeetings) 6 = .ok (.if_icmp .ge 21, 3) := by decide +kernel
theorem dX11_countMeetings_9 : decode (mcode mX11_countMeetings) 9 = .ok (.aload_n 0, 1) := by decide +kernel
theorem dX11_countMeetings_10 : decode (mcode mX11_countMeetings) 10 = .ok (.iload_n 3, 1) := by decide +kernel
theorem dX11_countMeetings_11 : decode (mcode mX11_countMeetings) 11 = .ok (.iload_n 1, 1) := by decide +kernel
theorem dX11_countMeetings_12 : decode (mcode mX11_countMeetings) 12 = .ok (.invokevirtual 340, 3) := by decide +kernel
theorem dX11_countMeetings_15 : decode (mcode mX11_countMeetings) 15 = .ok (.ifCond .eq 6, 3) := by decide +kernel
theorem dX11_countMeetings_18 : decode (mcode mX11_countMeetings) 18 = .ok (.iinc 2 1, 3) := by decide +kernel
theorem dX11_countMeetings_21 : decode (mcode mX11_countMeetings) 21 = .ok (.iinc 3 1, 3) := by decide +kernel
theorem dX11_countMeetings_24 : decode (mcode mX11_countMeetings) 24 = .ok (.goto (-20), 3) := by decide +kernel
theorem dX11_countMeetings_27 : decode (mcode mX11_countMeetings) 27 = .ok (.iload_n 2, 1) := by decide +kernel
theorem dX11_countMeetings_28 : decode (mcode mX11_countMeetings) 28 = .ok (.ireturn, 1) := by decide +kernel
theorem dX11_drop_0 : decode (mcode mX11_drop) 0 = .ok (.aload_n 0, 1) := by decide +kernel
theorem dX11_drop_1 : decode (mcode mX11_drop) 1 = .ok (.iload_n 1, 1) := by decide +kernel
theorem dX11_drop_2 : decode (mcode mX11_drop) 2 = .ok (.invokevirtual 87, 3) := by decide +kernel
theorem dX11_drop_5 : decode (mcode mX11_drop) 5 = .ok (.ifCond .eq 6, 3) := by decide +kernel
theorem dX11_drop_8 : decode (mcode mX11_drop) 8 = .ok (.ldc 91, 2) := by decide +kernel
theorem dX11_drop_10 : decode (mcode mX11_drop) 10 = .ok (.ireturn, 1) := by decide +kernel
theorem dX11_drop_11 : decode (mcode mX11_drop) 11 = .ok (.aload_n 0, 1) := by decide +kernel
theorem dX11_drop_12 : decode (mcode mX11_drop) 12 = .ok (.getfield 10, 3) := by decide +kernel
theorem dX11_drop_15 : decode (mcode mX11_drop) 15 = .ok (.iload_n 1, 1) := by decide +kernel
theorem dX11_drop_16 : decode (mcode mX11_drop) 16 = .ok (.invokevirtual 103, 3) := by decide +kernel
theorem dX11_drop_19 : decode (mcode mX11_drop) 19 = .ok (.ifCond .eq 9, 3) := by decide +kernel
theorem dX11_drop_22 : decode (mcode mX11_drop) 22 = .ok (.aload_n 0, 1) := by decide +kernel
theorem dX11_drop_23 : decode (mcode mX11_drop) 23 = .ok (.iconst 1, 1) := by decide +kernel
theorem dX11_drop_24 : decode (mcode mX11_drop) 24 = .ok (.invokevirtual 92, 3) := by decide +kernel
theorem dX11_drop_27 : decode (mcode mX11_drop) 27 = .ok (.ireturn, 1) := by decide +kernel
theorem dX11_drop_28 : decode (mcode mX11_drop) 28 = .ok (.aload_n 0, 1) := by decide +kernel
theorem dX11_drop_29 : decode (mcode mX11_drop) 29 = .ok (.aload_n 0, 1) := by decide +kernel
theorem dX11_drop_30 : decode (mcode mX11_drop) 30 = .ok (.getfield 10, 3) := by decide +kernel
theorem dX11_drop_33 : decode (mcode mX11_drop) 33 = .ok (.iload_n 1, 1) := by decide +kernel
theorem dX11_drop_34 : decode (mcode mX11_drop) 34 = .ok (.invokevirtual 122, 3) := by decide +kernel
theorem dX11_drop_37 : decode (mcode mX11_drop) 37 = .ok (.invokevirtual 100, 3) := by decide +kernel
theorem dX11_drop_40 : decode (mcode mX11_drop) 40 = .ok (.ireturn, 1) := by decide +kernel
theorem dX11_ear_0 : decode (mcode mX11_ear) 0 = .ok (.aload_n 0, 1) := by decide +kernel
theorem dX11_ear_1 : decode (mcode mX11_ear) 1 = .ok (.iload_n 1, 1) := by decide +kernel
theorem dX11_ear_2 : decode (mcode mX11_ear) 2 = .ok (.invokevirtual 154, 3) := by decide +kernel
theorem dX11_ear_5 : decode (mcode mX11_ear) 5 = .ok (.ifCond .eq 8, 3) := by decide +kernel
theorem dX11_ear_8 : decode (mcode mX11_ear) 8 = .ok (.ldc 91, 2) := by decide +kernel
theorem dX11_ear_10 : decode (mcode mX11_ear) 10 = .ok (.goto 15, 3) := by decide +kernel
theorem dX11_ear_13 : decode (mcode mX11_ear) 13 = .ok (.aload_n 0, 1) := by decide +kernel
theorem dX11_ear_14 : decode (mcode mX11_ear) 14 = .ok (.getfield 47, 3) := by decide +kernel
theorem dX11_ear_17 : decode (mcode mX11_ear) 17 = .ok (.getfield 181, 3) := by decide +kernel
theorem dX11_ear_20 : decode (mcode mX11_ear) 20 = .ok (.getfield 189, 3) := by decide +kernel
theorem dX11_ear_23 : decode (mcode mX11_ear) 23 = .ok (.iload_n 1, 1) := by decide +kernel
theorem dX11_ear_24 : decode (mcode mX11_ear) 24 = .ok (.iaload, 1) := by decide +kernel
theorem dX11_ear_25 : decode (mcode mX11_ear) 25 = .ok (.ireturn, 1) := by decide +kernel
theorem dX11_feed_0 : decode (mcode mX11_feed) 0 = .ok (.iload_n 3, 1) := by decide +kernel
theorem dX11_feed_1 : decode (mcode mX11_feed) 1 = .ok (.iconst 1, 1) := by decide +kernel
theorem dX11_feed_2 : decode (mcode mX11_feed) 2 = .ok (.if_icmp .lt 9, 3) := by decide +kernel
theorem dX11_feed_5 : decode (mcode mX11_feed) 5 = .ok (.iload_n 3, 1) := by decide +kernel
theorem dX11_feed_6 : decode (mcode mX11_feed) 6 = .ok (.bipush 8, 2) := by decide +kernel
theorem dX11_feed_8 : decode (mcode mX11_feed) 8 = .ok (.if_icmp .le 6, 3) := by decide +kernel
theorem dX11_feed_11 : decode (mcode mX11_feed) 11 = .ok (.ldc 91, 2) := by decide +kernel
theorem dX11_feed_13 : decode (mcode mX11_feed) 13 = .ok (.ireturn, 1) := by decide +kernel
theorem dX11_feed_14 : decode (mcode mX11_feed) 14 = .ok (.aload_n 0, 1) := by decide +kernel
theorem dX11_feed_15 : decode (mcode mX11_feed) 15 = .ok (.getfield 19, 3) := by decide +kernel
theorem dX11_feed_18 : decode (mcode mX11_feed) 18 = .ok (.getfield 125, 3) := by decide +kernel
theorem dX11_feed_21 : decode (mcode mX11_feed) 21 = .ok (.iload_n 3, 1) := by decide +kernel
theorem dX11_feed_22 : decode (mcode mX11_feed) 22 = .ok (.iadd, 1) := by decide +kernel
theorem dX11_feed_23 : decode (mcode mX11_feed) 23 = .ok (.sipush 600, 3) := by decide +kernel
theorem dX11_feed_26 : decode (mcode mX11_feed) 26 = .ok (.if_icmp .le 6, 3) := by decide +kernel
theorem dX11_feed_29 : decode (mcode mX11_feed) 29 = .ok (.ldc 129, 2) := by decide +kernel
theorem dX11_feed_31 : decode (mcode mX11_feed) 31 = .ok (.ireturn, 1) := by decide +kernel
theorem dX11_feed_32 : decode (mcode mX11_feed) 32 = .ok (.iload_n 3, 1) := by decide +kernel
theorem dX11_feed_33 : decode (mcode mX11_feed) 33 = .ok (.iconst 1, 1) := by decide +kernel
theorem dX11_feed_34 : decode (mcode mX11_feed) 34 = .ok (.isub, 1) := by decide +kernel
theorem dX11_feed_35 : decode (mcode mX11_feed) 35 = .ok (.istore 4, 2) := by decide +kernel
theorem dX11_feed_37 : decode (mcode mX11_feed) 37 = .ok (.iload 4, 2) := by decide +kernel
theorem dX11_feed_39 : decode (mcode mX11_feed) 39 = .ok (.ifCond .lt 25, 3) := by decide +kernel
theorem dX11_feed_42 : decode (mcode mX11_feed) 42 = .ok (.aload_n 0, 1) := by decide +kernel
theorem dX11_feed_43 : decode (mcode mX11_feed) 43 = .ok (.getfield 19, 3) := by decide +kernel
theorem dX11_feed_46 : decode (mcode mX11_feed) 46 = .ok (.lload_n 1, 1) := by decide +kernel
theorem dX11_feed_47 : decode (mcode mX11_feed) 47 = .ok (.bipush 8, 2) := by decide +kernel
theorem dX11_feed_49 : decode (mcode mX11_feed) 49 = .ok (.iload 4, 2) := by decide +kernel
theorem dX11_feed_51 : decode (mcode mX11_feed) 51 = .ok (.imul, 1) := by decide +kernel
theorem dX11_feed_52 : decode (mcode mX11_feed) 52 = .ok (.lushr, 1) := by decide +kernel
theorem dX11_feed_53 : decode (mcode mX11_feed) 53 = .ok (.l2i, 1) := by decide +kernel
theorem dX11_feed_54 : decode (mcode mX11_feed) 54 = .ok (.i2b, 1) := by decide +kernel
theorem dX11_feed_55 : decode (mcode mX11_feed) 55 = .ok (.invokevirtual 130, 3) := by decide +kernel
theorem dX11_feed_58 : decode (mcode mX11_feed) 58 = .ok (.iinc 4 (-1), 3) := by decide +kernel
theorem dX11_feed_61 : decode (mcode mX11_feed) 61 = .ok (.goto (-24), 3) := by decide +kernel
theorem dX11_feed_64 : decode (mcode mX11_feed) 64 = .ok (.aload_n 0, 1) := by decide +kernel
theorem dX11_feed_65 : decode (mcode mX11_feed) 65 = .ok (.getfield 19, 3) := by decide +kernel
theorem dX11_feed_68 : decode (mcode mX11_feed) 68 = .ok (.getfield 125, 3) := by decide +kernel
theorem dX11_feed_71 : decode (mcode mX11_feed) 71 = .ok (.ireturn, 1) := by decide +kernel
theorem dX11_isHomeless_0 : decode (mcode mX11_isHomeless) 0 = .ok (.aload_n 0, 1) := by decide +kernel
theorem dX11_isHomeless_1 : decode (mcode mX11_isHomeless) 1 = .ok (.getfield 40, 3) := by decide +kernel
theorem dX11_isHomeless_4 : decode (mcode mX11_isHomeless) 4 = .ok (.aload_n 0, 1) := by decide +kernel
theorem dX11_isHomeless_5 : decode (mcode mX11_isHomeless) 5 = .ok (.getfield 47, 3) := by decide +kernel
theorem dX11_isHomeless_8 : decode (mcode mX11_isHomeless) 8 = .ok (.getfield 163, 3) := by decide +kernel
theorem dX11_isHomeless_11 : decode (mcode mX11_isHomeless) 11 = .ok (.iload_n 1, 1) := by decide +kernel
theorem dX11_isHomeless_12 : decode (mcode mX11_isHomeless) 12 = .ok (.iaload, 1) := by decide +kernel
theorem dX11_isHomeless_13 : decode (mcode mX11_isHomeless) 13 = .ok (.aload_n 0, 1) := by decide +kernel
theorem dX11_isHomeless_14 : decode (mcode mX11_isHomeless) 14 = .ok (.getfield 47, 3) := by decide +kernel
theorem dX11_isHomeless_17 : decode (mcode mX11_isHomeless) 17 = .ok (.getfield 175, 3) := by decide +kernel
theorem dX11_isHomeless_20 : decode (mcode mX11_isHomeless) 20 = .ok (.iload_n 1, 1) := by decide +kernel
theorem dX11_isHomeless_21 : decode (mcode mX11_isHomeless) 21 = .ok (.iaload, 1) := by decide +kernel
theorem dX11_isHomeless_22 : decode (mcode mX11_isHomeless) 22 = .ok (.aload_n 0, 1) := by decide +kernel
theorem dX11_isHomeless_23 : decode (mcode mX11_isHomeless) 23 = .ok (.getfield 47, 3) := by decide +kernel
theorem dX11_isHomeless_26 : decode (mcode mX11_isHomeless) 26 = .ok (.getfield 172, 3) := by decide +kernel
theorem dX11_isHomeless_29 : decode (mcode mX11_isHomeless) 29 = .ok (.iload_n 1, 1) := by decide +kernel
theorem dX11_isHomeless_30 : decode (mcode mX11_isHomeless) 30 = .ok (.iaload, 1) := by decide +kernel
theorem dX11_isHomeless_31 : decode (mcode mX11_isHomeless) 31 = .ok (.invokevirtual 343, 3) := by decide +kernel
theorem dX11_isHomeless_34 : decode (mcode mX11_isHomeless) 34 = .ok (.ireturn, 1) := by decide +kernel
theorem dX11_isPlace_0 : decode (mcode mX11_isPlace) 0 = .ok (.aload_n 0, 1) := by decide +kernel
theorem dX11_isPlace_1 : decode (mcode mX11_isPlace) 1 = .ok (.iload_n 1, 1) := by decide +kernel
theorem dX11_isPlace_2 : decode (mcode mX11_isPlace) 2 = .ok (.invokevirtual 248, 3) := by decide +kernel
theorem dX11_isPlace_5 : decode (mcode mX11_isPlace) 5 = .ok (.ifCond .ne 26, 3) := by decide +kernel
theorem dX11_isPlace_8 : decode (mcode mX11_isPlace) 8 = .ok (.iload_n 2, 1) := by decide +kernel
theorem dX11_isPlace_9 : decode (mcode mX11_isPlace) 9 = .ok (.iconst 1, 1) := by decide +kernel
theorem dX11_isPlace_10 : decode (mcode mX11_isPlace) 10 = .ok (.if_icmp .lt 21, 3) := by decide +kernel
theorem dX11_isPlace_13 : decode (mcode mX11_isPlace) 13 = .ok (.iload_n 2, 1) := by decide +kernel
theorem dX11_isPlace_14 : decode (mcode mX11_isPlace) 14 = .ok (.bipush 99, 2) := by decide +kernel
theorem dX11_isPlace_16 : decode (mcode mX11_isPlace) 16 = .ok (.if_icmp .gt 15, 3) := by decide +kernel
theorem dX11_isPlace_19 : decode (mcode mX11_isPlace) 19 = .ok (.aload_n 0, 1) := by decide +kernel
theorem dX11_isPlace_20 : decode (mcode mX11_isPlace) 20 = .ok (.iload_n 3, 1) := by decide +kernel
theorem dX11_isPlace_21 : decode (mcode mX11_isPlace) 21 = .ok (.invokevirtual 251, 3) := by decide +kernel
theorem dX11_isPlace_24 : decode (mcode mX11_isPlace) 24 = .ok (.ifCond .ne 7, 3) := by decide +kernel
theorem dX11_isPlace_27 : decode (mcode mX11_isPlace) 27 = .ok (.iconst 1, 1) := by decide +kernel
theorem dX11_isPlace_28 : decode (mcode mX11_isPlace) 28 = .ok (.goto 4, 3) := by decide +kernel
theorem dX11_isPlace_31 : decode (mcode mX11_isPlace) 31 = .ok (.iconst 0, 1) := by decide +kernel
theorem dX11_isPlace_32 : decode (mcode mX11_isPlace) 32 = .ok (.ireturn, 1) := by decide +kernel
theorem dX11_kind_0 : decode (mcode mX11_kind) 0 = .ok (.aload_n 0, 1) := by decide +kernel
theorem dX11_kind_1 : decode (mcode mX11_kind) 1 = .ok (.iload_n 1, 1) := by decide +kernel
theorem dX11_kind_2 : decode (mcode mX11_kind) 2 = .ok (.invokevirtual 154, 3) := by decide +kernel
theorem dX11_kind_5 : decode (mcode mX11_kind) 5 = .ok (.ifCond .eq 8, 3) := by decide +kernel
theorem dX11_kind_8 : decode (mcode mX11_kind) 8 = .ok (.ldc 91, 2) := by decide +kernel
theorem dX11_kind_10 : decode (mcode mX11_kind) 10 = .ok (.goto 14, 3) := by decide +kernel
theorem dX11_kind_13 : decode (mcode mX11_kind) 13 = .ok (.aload_n 0, 1) := by decide +kernel
theorem dX11_kind_14 : decode (mcode mX11_kind) 14 = .ok (.getfield 47, 3) := by decide +kernel
theorem dX11_kind_17 : decode (mcode mX11_kind) 17 = .ok (.getfield 160, 3) := by decide +kernel
theorem dX11_kind_20 : decode (mcode mX11_kind) 20 = .ok (.iload_n 1, 1) := by decide +kernel
theorem dX11_kind_21 : decode (mcode mX11_kind) 21 = .ok (.iaload, 1) := by decide +kernel
theorem dX11_kind_22 : decode (mcode mX11_kind) 22 = .ok (.iconst 1, 1) := by decide +kernel
theorem dX11_kind_23 : decode (mcode mX11_kind) 23 = .ok (.iadd, 1) := by decide +kernel
theorem dX11_kind_24 : decode (mcode mX11_kind) 24 = .ok (.ireturn, 1) := by decide +kernel
theorem dX11_leaf_0 : decode (mcode mX11_leaf) 0 = .ok (.aload_n 0, 1) := by decide +kernel
theorem dX11_leaf_1 : decode (mcode mX11_leaf) 1 = .ok (.iload_n 1, 1) := by decide +kernel
theorem dX11_leaf_2 : decode (mcode mX11_leaf) 2 = .ok (.invokevirtual 270, 3) := by decide +kernel
theorem dX11_leaf_5 : decode (mcode mX11_leaf) 5 = .ok (.ifCond .ne 12, 3) := by decide +kernel
theorem dX11_leaf_8 : decode (mcode mX11_leaf) 8 = .ok (.iload_n 2, 1) := by decide +kernel
theorem dX11_leaf_9 : decode (mcode mX11_leaf) 9 = .ok (.ifCond .lt 8, 3) := by decide +kernel
theorem dX11_leaf_12 : decode (mcode mX11_leaf) 12 = .ok (.iload_n 2, 1) := by decide +kernel
theorem dX11_leaf_13 : decode (mcode mX11_leaf) 13 = .ok (.iconst 1, 1) := by decide +kernel
theorem dX11_leaf_14 : decode (mcode mX11_leaf) 14 = .ok (.if_icmp .le 6, 3) := by decide +kernel
theorem dX11_leaf_17 : decode (mcode mX11_leaf) 17 = .ok (.ldc 91, 2) := by decide +kernel
theorem dX11_leaf_19 : decode (mcode mX11_leaf) 19 = .ok (.ireturn, 1) := by decide +kernel
theorem dX11_leaf_20 : decode (mcode mX11_leaf) 20 = .ok (.aload_n 0, 1) := by decide +kernel
theorem dX11_leaf_21 : decode (mcode mX11_leaf) 21 = .ok (.getfield 26, 3) := by decide +kernel
theorem dX11_leaf_24 : decode (mcode mX11_leaf) 24 = .ok (.getfield 279, 3) := by decide +kernel
theorem dX11_leaf_27 : decode (mcode mX11_leaf) 27 = .ok (.iload_n 1, 1) := by decide +kernel
theorem dX11_leaf_28 : decode (mcode mX11_leaf) 28 = .ok (.baload, 1) := by decide +kernel
theorem dX11_leaf_29 : decode (mcode mX11_leaf) 29 = .ok (.ifCond .eq 7, 3) := by decide +kernel
theorem dX11_leaf_32 : decode (mcode mX11_leaf) 32 = .ok (.iconst 1, 1) := by decide +kernel
theorem dX11_leaf_33 : decode (mcode mX11_leaf) 33 = .ok (.goto 4, 3) := by decide +kernel
theorem dX11_leaf_36 : decode (mcode mX11_leaf) 36 = .ok (.iconst 0, 1) := by decide +kernel
theorem dX11_leaf_37 : decode (mcode mX11_leaf) 37 = .ok (.istore_n 3, 1) := by decide +kernel
theorem dX11_leaf_38 : decode (mcode mX11_leaf) 38 = .ok (.aload_n 0, 1) := by decide +kernel
theorem dX11_leaf_39 : decode (mcode mX11_leaf) 39 = .ok (.getfield 26, 3) := by decide +kernel
theorem dX11_leaf_42 : decode (mcode mX11_leaf) 42 = .ok (.getfield 279, 3) := by decide +kernel
theorem dX11_leaf_45 : decode (mcode mX11_leaf) 45 = .ok (.iload_n 1, 1) := by decide +kernel
theorem dX11_leaf_46 : decode (mcode mX11_leaf) 46 = .ok (.iload_n 2, 1) := by decide +kernel
theorem dX11_leaf_47 : decode (mcode mX11_leaf) 47 = .ok (.iconst 1, 1) := by decide +kernel
theorem dX11_leaf_48 : decode (mcode mX11_leaf) 48 = .ok (.if_icmp .ne 7, 3) := by decide +kernel
theorem dX11_leaf_51 : decode (mcode mX11_leaf) 51 = .ok (.iconst 1, 1) := by decide +kernel
theorem dX11_leaf_52 : decode (mcode mX11_leaf) 52 = .ok (.goto 4, 3) := by decide +kernel
theorem dX11_leaf_55 : decode (mcode mX11_leaf) 55 = .ok (.iconst 0, 1) := by decide +kernel
theorem dX11_leaf_56 : decode (mcode mX11_leaf) 56 = .ok (.bastore, 1) := by decide +kernel
theorem dX11_leaf_57 : decode (mcode mX11_leaf) 57 = .ok (.iload_n 3, 1) := by decide +kernel
theorem dX11_leaf_58 : decode (mcode mX11_leaf) 58 = .ok (.ireturn, 1) := by decide +kernel
theorem dX11_set_0 : decode (mcode mX11_set) 0 = .ok (.aload_n 0, 1) := by decide +kernel
theorem dX11_set_1 : decode (mcode mX11_set) 1 = .ok (.iload_n 1, 1) := by decide +kernel
theorem dX11_set_2 : decode (mcode mX11_set) 2 = .ok (.invokevirtual 87, 3) := by decide +kernel
theorem dX11_set_5 : decode (mcode mX11_set) 5 = .ok (.ifCond .eq 6, 3) := by decide +kernel
theorem dX11_set_8 : decode (mcode mX11_set) 8 = .ok (.ldc 91, 2) := by decide +kernel
theorem dX11_set_10 : decode (mcode mX11_set) 10 = .ok (.ireturn, 1) := by decide +kernel
theorem dX11_set_11 : decode (mcode mX11_set) 11 = .ok (.aload_n 0, 1) := by decide +kernel
theorem dX11_set_12 : decode (mcode mX11_set) 12 = .ok (.getfield 10, 3) := by decide +kernel
theorem dX11_set_15 : decode (mcode mX11_set) 15 = .ok (.iload_n 1, 1) := by decide +kernel
theorem dX11_set_16 : decode (mcode mX11_set) 16 = .ok (.invokevirtual 103, 3) := by decide +kernel
theorem dX11_set_19 : decode (mcode mX11_set) 19 = .ok (.ifCond .eq 9, 3) := by decide +kernel
theorem dX11_set_22 : decode (mcode mX11_set) 22 = .ok (.aload_n 0, 1) := by decide +kernel
theorem dX11_set_23 : decode (mcode mX11_set) 23 = .ok (.iconst 1, 1) := by decide +kernel
theorem dX11_set_24 : decode (mcode mX11_set) 24 = .ok (.invokevirtual 92, 3) := by decide +kernel
theorem dX11_set_27 : decode (mcode mX11_set) 27 = .ok (.ireturn, 1) := by decide +kernel
theorem dX11_set_28 : decode (mcode mX11_set) 28 = .ok (.aload_n 0, 1) := by decide +kernel
theorem dX11_set_29 : decode (mcode mX11_set) 29 = .ok (.getfield 10, 3) := by decide +kernel
theorem dX11_set_32 : decode (mcode mX11_set) 32 = .ok (.iload_n 1, 1) := by decide +kernel
theorem dX11_set_33 : decode (mcode mX11_set) 33 = .ok (.iload_n 2, 1) := by decide +kernel
theorem dX11_set_34 : decode (mcode mX11_set) 34 = .ok (.iconst 1, 1) := by decide +kernel
theorem dX11_set_35 : decode (mcode mX11_set) 35 = .ok (.invokevirtual 106, 3) := by decide +kernel
theorem dX11_set_38 : decode (mcode mX11_set) 38 = .ok (.ifCond .ne 9, 3) := by decide +kernel
theorem dX11_set_41 : decode (mcode mX11_set) 41 = .ok (.aload_n 0, 1) := by decide +kernel
theorem dX11_set_42 : decode (mcode mX11_set) 42 = .ok (.iconst 2, 1) := by decide +kernel
theorem dX11_set_43 : decode (mcode mX11_set) 43 = .ok (.invokevirtual 92, 3) := by decide +kernel
theorem dX11_set_46 : decode (mcode mX11_set) 46 = .ok (.ireturn, 1) := by decide +kernel
theorem dX11_set_47 : decode (mcode mX11_set) 47 = .ok (.aload_n 0, 1) := by decide +kernel
theorem dX11_set_48 : decode (mcode mX11_set) 48 = .ok (.aload_n 0, 1) := by decide +kernel
theorem dX11_set_49 : decode (mcode mX11_set) 49 = .ok (.getfield 10, 3) := by decide +kernel
theorem dX11_set_52 : decode (mcode mX11_set) 52 = .ok (.iload_n 1, 1) := by decide +kernel
theorem dX11_set_53 : decode (mcode mX11_set) 53 = .ok (.iload_n 2, 1) := by decide +kernel
theorem dX11_set_54 : decode (mcode mX11_set) 54 = .ok (.iload_n 3, 1) := by decide +kernel
theorem dX11_set_55 : decode (mcode mX11_set) 55 = .ok (.invokevirtual 110, 3) := by decide +kernel
theorem dX11_set_58 : decode (mcode mX11_set) 58 = .ok (.invokevirtual 100, 3) := by decide +kernel
theorem dX11_set_61 : decode (mcode mX11_set) 61 = .ok (.ireturn, 1) := by decide +kernel
theorem dX11_sheet_0 : decode (mcode mX11_sheet) 0 = .ok (.aload_n 0, 1) := by decide +kernel
theorem dX11_sheet_1 : decode (mcode mX11_sheet) 1 = .ok (.iload_n 1, 1) := by decide +kernel
theorem dX11_sheet_2 : decode (mcode mX11_sheet) 2 = .ok (.invokevirtual 87, 3) := by decide +kernel
theorem dX11_sheet_5 : decode (mcode mX11_sheet) 5 = .ok (.ifCond .ne 18, 3) := by decide +kernel
theorem dX11_sheet_8 : decode (mcode mX11_sheet) 8 = .ok (.iload_n 2, 1) := by decide +kernel
theorem dX11_sheet_9 : decode (mcode mX11_sheet) 9 = .ok (.ifCond .lt 14, 3) := by decide +kernel
theorem dX11_sheet_12 : decode (mcode mX11_sheet) 12 = .ok (.iload_n 2, 1) := by decide +kernel
theorem dX11_sheet_13 : decode (mcode mX11_sheet) 13 = .ok (.iconst 3, 1) := by decide +kernel
theorem dX11_sheet_14 : decode (mcode mX11_sheet) 14 = .ok (.if_icmp .ge 9, 3) := by decide +kernel
theorem dX11_sheet_17 : decode (mcode mX11_sheet) 17 = .ok (.iload_n 3, 1) := by decide +kernel
theorem dX11_sheet_18 : decode (mcode mX11_sheet) 18 = .ok (.bipush 60, 2) := by decide +kernel
theorem dX11_sheet_20 : decode (mcode mX11_sheet) 20 = .ok (.if_icmp .le 6, 3) := by decide +kernel
theorem dX11_sheet_23 : decode (mcode mX11_sheet) 23 = .ok (.ldc 91, 2) := by decide +kernel
theorem dX11_sheet_25 : decode (mcode mX11_sheet) 25 = .ok (.ireturn, 1) := by decide +kernel
theorem dX11_sheet_26 : decode (mcode mX11_sheet) 26 = .ok (.iload_n 3, 1) := by decide +kernel
theorem dX11_sheet_27 : decode (mcode mX11_sheet) 27 = .ok (.ifCond .ge 9, 3) := by decide +kernel
theorem dX11_sheet_30 : decode (mcode mX11_sheet) 30 = .ok (.aload_n 0, 1) := by decide +kernel
theorem dX11_sheet_31 : decode (mcode mX11_sheet) 31 = .ok (.iconst 4, 1) := by decide +kernel
theorem dX11_sheet_32 : decode (mcode mX11_sheet) 32 = .ok (.invokevirtual 92, 3) := by decide +kernel
theorem dX11_sheet_35 : decode (mcode mX11_sheet) 35 = .ok (.ireturn, 1) := by decide +kernel
theorem dX11_sheet_36 : decode (mcode mX11_sheet) 36 = .ok (.aload_n 0, 1) := by decide +kernel
theorem dX11_sheet_37 : decode (mcode mX11_sheet) 37 = .ok (.getfield 10, 3) := by decide +kernel
theorem dX11_sheet_40 : decode (mcode mX11_sheet) 40 = .ok (.iload_n 1, 1) := by decide +kernel
theorem dX11_sheet_41 : decode (mcode mX11_sheet) 41 = .ok (.iload_n 2, 1) := by decide +kernel
theorem dX11_sheet_42 : decode (mcode mX11_sheet) 42 = .ok (.iload_n 3, 1) := by decide +kernel
theorem dX11_sheet_43 : decode (mcode mX11_sheet) 43 = .ok (.invokevirtual 96, 3) := by decide +kernel
theorem dX11_sheet_46 : decode (mcode mX11_sheet) 46 = .ok (.aload_n 0, 1) := by decide +kernel
theorem dX11_sheet_47 : decode (mcode mX11_sheet) 47 = .ok (.iload_n 3, 1) := by decide +kernel
theorem dX11_sheet_48 : decode (mcode mX11_sheet) 48 = .ok (.invokevirtual 100, 3) := by decide +kernel
theorem dX11_sheet_51 : decode (mcode mX11_sheet) 51 = .ok (.ireturn, 1) := by decide +kernel
theorem dX11_shown_0 : decode (mcode mX11_shown) 0 = .ok (.aload_n 0, 1) := by decide +kernel
theorem dX11_shown_1 : decode (mcode mX11_shown) 1 = .ok (.iload_n 1, 1) := by decide +kernel
theorem dX11_shown_2 : decode (mcode mX11_shown) 2 = .ok (.invokevirtual 154, 3) := by decide +kernel
theorem dX11_shown_5 : decode (mcode mX11_shown) 5 = .ok (.ifCond .ne 11, 3) := by decide +kernel
theorem dX11_shown_8 : decode (mcode mX11_shown) 8 = .ok (.aload_n 0, 1) := by decide +kernel
theorem dX11_shown_9 : decode (mcode mX11_shown) 9 = .ok (.iload_n 2, 1) := by decide +kernel
theorem dX11_shown_10 : decode (mcode mX11_shown) 10 = .ok (.invokevirtual 251, 3) := by decide +kernel
theorem dX11_shown_13 : decode (mcode mX11_shown) 13 = .ok (.ifCond .eq 6, 3) := by decide +kernel
theorem dX11_shown_16 : decode (mcode mX11_shown) 16 = .ok (.ldc 91, 2) := by decide +kernel
theorem dX11_shown_18 : decode (mcode mX11_shown) 18 = .ok (.ireturn, 1) := by decide +kernel
theorem dX11_shown_19 : decode (mcode mX11_shown) 19 = .ok (.aload_n 0, 1) := by decide +kernel
theorem dX11_shown_20 : decode (mcode mX11_shown) 20 = .ok (.getfield 47, 3) := by decide +kernel
theorem dX11_shown_23 : decode (mcode mX11_shown) 23 = .ok (.getfield 160, 3) := by decide +kernel
theorem dX11_shown_26 : decode (mcode mX11_shown) 26 = .ok (.iload_n 1, 1) := by decide +kernel
theorem dX11_shown_27 : decode (mcode mX11_shown) 27 = .ok (.iaload, 1) := by decide +kernel
theorem dX11_shown_28 : decode (mcode mX11_shown) 28 = .ok (.iconst 2, 1) := by decide +kernel
theorem dX11_shown_29 : decode (mcode mX11_shown) 29 = .ok (.if_icmp .ne 8, 3) := by decide +kernel
theorem dX11_shown_32 : decode (mcode mX11_shown) 32 = .ok (.bipush 100, 2) := by decide +kernel
theorem dX11_shown_34 : decode (mcode mX11_shown) 34 = .ok (.goto 5, 3) := by decide +kernel
theorem dX11_shown_37 : decode (mcode mX11_shown) 37 = .ok (.bipush 72, 2) := by decide +kernel
theorem dX11_shown_39 : decode (mcode mX11_shown) 39 = .ok (.istore_n 3, 1) := by decide +kernel
theorem dX11_shown_40 : decode (mcode mX11_shown) 40 = .ok (.iload_n 2, 1) := by decide +kernel
theorem dX11_shown_41 : decode (mcode mX11_shown) 41 = .ok (.aload_n 0, 1) := by decide +kernel
theorem dX11_shown_42 : decode (mcode mX11_shown) 42 = .ok (.getfield 47, 3) := by decide +kernel
theorem dX11_shown_45 : decode (mcode mX11_shown) 45 = .ok (.getfield 172, 3) := by decide +kernel
theorem dX11_shown_48 : decode (mcode mX11_shown) 48 = .ok (.iload_n 1, 1) := by decide +kernel
theorem dX11_shown_49 : decode (mcode mX11_shown) 49 = .ok (.iaload, 1) := by decide +kernel
theorem dX11_shown_50 : decode (mcode mX11_shown) 50 = .ok (.isub, 1) := by decide +kernel
theorem dX11_shown_51 : decode (mcode mX11_shown) 51 = .ok (.iload_n 3, 1) := by decide +kernel
theorem dX11_shown_52 : decode (mcode mX11_shown) 52 = .ok (.if_icmp .lt 7, 3) := by decide +kernel
theorem dX11_shown_55 : decode (mcode mX11_shown) 55 = .ok (.iconst 1, 1) := by decide +kernel
theorem dX11_shown_56 : decode (mcode mX11_shown) 56 = .ok (.goto 4, 3) := by decide +kernel
theorem dX11_shown_59 : decode (mcode mX11_shown) 59 = .ok (.iconst 0, 1) := by decide +kernel
theorem dX11_shown_60 : decode (mcode mX11_shown) 60 = .ok (.ireturn, 1) := by decide +kernel
theorem dX11_as_0 : decode (mcode mX11_as) 0 = .ok (.aload_n 0, 1) := by decide +kernel
theorem dX11_as_1 : decode (mcode mX11_as) 1 = .ok (.iload_n 1, 1) := by decide +kernel
theorem dX11_as_2 : decode (mcode mX11_as) 2 = .ok (.invokevirtual 154, 3) := by decide +kernel
theorem dX11_as_5 : decode (mcode mX11_as) 5 = .ok (.ifCond .ne 13, 3) := by decide +kernel
theorem dX11_as_8 : decode (mcode mX11_as) 8 = .ok (.iload_n 2, 1) := by decide +kernel
theorem dX11_as_9 : decode (mcode mX11_as) 9 = .ok (.ifCond .lt 9, 3) := by decide +kernel
theorem dX11_as_12 : decode (mcode mX11_as) 12 = .ok (.iload_n 2, 1) := by decide +kernel
theorem dX11_as_13 : decode (mcode mX11_as) 13 = .ok (.bipush 6, 2) := by decide +kernel
theorem dX11_as_15 : decode (mcode mX11_as) 15 = .ok (.if_icmp .lt 6, 3) := by decide +kernel
theorem dX11_as_18 : decode (mcode mX11_as) 18 = .ok (.ldc 91, 2) := by decide +kernel
theorem dX11_as_20 : decode (mcode mX11_as) 20 = .ok (.ireturn, 1) := by decide +kernel
theorem dX11_as_21 : decode (mcode mX11_as) 21 = .ok (.aload_n 0, 1) := by decide +kernel
theorem dX11_as_22 : decode (mcode mX11_as) 22 = .ok (.getfield 47, 3) := by decide +kernel
theorem dX11_as_25 : decode (mcode mX11_as) 25 = .ok (.iload_n 1, 1) := by decide +kernel
theorem dX11_as_26 : decode (mcode mX11_as) 26 = .ok (.iload_n 2, 1) := by decide +kernel
theorem dX11_as_27 : decode (mcode mX11_as) 27 = .ok (.invokevirtual 291, 3) := by decide +kernel
theorem dX11_as_30 : decode (mcode mX11_as) 30 = .ok (.ifCond .ne 9, 3) := by decide +kernel
theorem dX11_as_33 : decode (mcode mX11_as) 33 = .ok (.aload_n 0, 1) := by decide +kernel
theorem dX11_as_34 : decode (mcode mX11_as) 34 = .ok (.iconst 3, 1) := by decide +kernel
theorem dX11_as_35 : decode (mcode mX11_as) 35 = .ok (.invokevirtual 92, 3) := by decide +kernel
theorem dX11_as_38 : decode (mcode mX11_as) 38 = .ok (.ireturn, 1) := by decide +kernel
theorem dX11_as_39 : decode (mcode mX11_as) 39 = .ok (.aload_n 0, 1) := by decide +kernel
theorem dX11_as_40 : decode (mcode mX11_as) 40 = .ok (.aload_n 0, 1) := by decide +kernel
theorem dX11_as_41 : decode (mcode mX11_as) 41 = .ok (.getfield 47, 3) := by decide +kernel
theorem dX11_as_44 : decode (mcode mX11_as) 44 = .ok (.getfield 166, 3) := by decide +kernel
theorem dX11_as_47 : decode (mcode mX11_as) 47 = .ok (.iload_n 1, 1) := by decide +kernel
theorem dX11_as_48 : decode (mcode mX11_as) 48 = .ok (.iaload, 1) := by decide +kernel
theorem dX11_as_49 : decode (mcode mX11_as) 49 = .ok (.invokevirtual 100, 3) := by decide +kernel
theorem dX11_as_52 : decode (mcode mX11_as) 52 = .ok (.ireturn, 1) := by decide +kernel
theorem dX11_copy_0 : decode (mcode mX11_copy) 0 = .ok (.aload_n 0, 1) := by decide +kernel
theorem dX11_copy_1 : decode (mcode mX11_copy) 1 = .ok (.iload_n 1, 1) := by decide +kernel
theorem dX11_copy_2 : decode (mcode mX11_copy) 2 = .ok (.invokevirtual 87, 3) := by decide +kernel
theorem dX11_copy_5 : decode (mcode mX11_copy) 5 = .ok (.ifCond .ne 11, 3) := by decide +kernel
theorem dX11_copy_8 : decode (mcode mX11_copy) 8 = .ok (.aload_n 0, 1) := by decide +kernel
theorem dX11_copy_9 : decode (mcode mX11_copy) 9 = .ok (.iload_n 3, 1) := by decide +kernel
theorem dX11_copy_10 : decode (mcode mX11_copy) 10 = .ok (.invokevirtual 87, 3) := by decide +kernel
theorem dX11_copy_13 : decode (mcode mX11_copy) 13 = .ok (.ifCond .eq 6, 3) := by decide +kernel
theorem dX11_copy_16 : decode (mcode mX11_copy) 16 = .ok (.ldc 91, 2) := by decide +kernel
theorem dX11_copy_18 : decode (mcode mX11_copy) 18 = .ok (.ireturn, 1) := by decide +kernel
theorem dX11_copy_19 : decode (mcode mX11_copy) 19 = .ok (.aload_n 0, 1) := by decide +kernel
theorem dX11_copy_20 : decode (mcode mX11_copy) 20 = .ok (.getfield 10, 3) := by decide +kernel
theorem dX11_copy_23 : decode (mcode mX11_copy) 23 = .ok (.iload_n 1, 1) := by decide +kernel
theorem dX11_copy_24 : decode (mcode mX11_copy) 24 = .ok (.invokevirtual 103, 3) := by decide +kernel
theorem dX11_copy_27 : decode (mcode mX11_copy) 27 = .ok (.ifCond .ne 14, 3) := by decide +kernel
theorem dX11_copy_30 : decode (mcode mX11_copy) 30 = .ok (.aload_n 0, 1) := by decide +kernel
theorem dX11_copy_31 : decode (mcode mX11_copy) 31 = .ok (.getfield 10, 3) := by decide +kernel
theorem dX11_copy_34 : decode (mcode mX11_copy) 34 = .ok (.iload_n 3, 1) := by decide +kernel
theorem dX11_copy_35 : decode (mcode mX11_copy) 35 = .ok (.invokevirtual 103, 3) := by decide +kernel
theorem dX11_copy_38 : decode (mcode mX11_copy) 38 = .ok (.ifCond .eq 9, 3) := by decide +kernel
theorem dX11_copy_41 : decode (mcode mX11_copy) 41 = .ok (.aload_n 0, 1) := by decide +kernel
theorem dX11_copy_42 : decode (mcode mX11_copy) 42 = .ok (.iconst 1, 1) := by decide +kernel
theorem dX11_copy_43 : decode (mcode mX11_copy) 43 = .ok (.invokevirtual 92, 3) := by decide +kernel
theorem dX11_copy_46 : decode (mcode mX11_copy) 46 = .ok (.ireturn, 1) := by decide +kernel
theorem dX11_copy_47 : decode (mcode mX11_copy) 47 = .ok (.aload_n 0, 1) := by decide +kernel
theorem dX11_copy_48 : decode (mcode mX11_copy) 48 = .ok (.getfield 10, 3) := by decide +kernel
theorem dX11_copy_51 : decode (mcode mX11_copy) 51 = .ok (.iload_n 1, 1) := by decide +kernel
theorem dX11_copy_52 : decode (mcode mX11_copy) 52 = .ok (.iload_n 3, 1) := by decide +kernel
theorem dX11_copy_53 : decode (mcode mX11_copy) 53 = .ok (.invokevirtual 114, 3) := by decide +kernel
theorem dX11_copy_56 : decode (mcode mX11_copy) 56 = .ok (.ifCond .ne 9, 3) := by decide +kernel
theorem dX11_copy_59 : decode (mcode mX11_copy) 59 = .ok (.aload_n 0, 1) := by decide +kernel
theorem dX11_copy_60 : decode (mcode mX11_copy) 60 = .ok (.iconst 5, 1) := by decide +kernel
theorem dX11_copy_61 : decode (mcode mX11_copy) 61 = .ok (.invokevirtual 92, 3) := by decide +kernel
theorem dX11_copy_64 : decode (mcode mX11_copy) 64 = .ok (.ireturn, 1) := by decide +kernel
theorem dX11_copy_65 : decode (mcode mX11_copy) 65 = .ok (.aload_n 0, 1) := by decide +kernel
theorem dX11_copy_66 : decode (mcode mX11_copy) 66 = .ok (.getfield 10, 3) := by decide +kernel
theorem dX11_copy_69 : decode (mcode mX11_copy) 69 = .ok (.iload_n 1, 1) := by decide +kernel
theorem dX11_copy_70 : decode (mcode mX11_copy) 70 = .ok (.iload_n 2, 1) := by decide +kernel
theorem dX11_copy_71 : decode (mcode mX11_copy) 71 = .ok (.iload 5, 2) := by decide +kernel
theorem dX11_copy_73 : decode (mcode mX11_copy) 73 = .ok (.invokevirtual 106, 3) := by decide +kernel
theorem dX11_copy_76 : decode (mcode mX11_copy) 76 = .ok (.ifCond .eq 18, 3) := by decide +kernel
theorem dX11_copy_79 : decode (mcode mX11_copy) 79 = .ok (.aload_n 0, 1) := by decide +kernel
theorem dX11_copy_80 : decode (mcode mX11_copy) 80 = .ok (.getfield 10, 3) := by decide +kernel
theorem dX11_copy_83 : decode (mcode mX11_copy) 83 = .ok (.iload_n 3, 1) := by decide +kernel
theorem dX11_copy_84 : decode (mcode mX11_copy) 84 = .ok (.iload 4, 2) := by decide +kernel
theorem dX11_copy_86 : decode (mcode mX11_copy) 86 = .ok (.iload 5, 2) := by decide +kernel
theorem dX11_copy_88 : decode (mcode mX11_copy) 88 = .ok (.invokevirtual 106, 3) := by decide +kernel
theorem dX11_copy_91 : decode (mcode mX11_copy) 91 = .ok (.ifCond .ne 9, 3) := by decide +kernel
theorem dX11_copy_94 : decode (mcode mX11_copy) 94 = .ok (.aload_n 0, 1) := by decide +kernel
theorem dX11_copy_95 : decode (mcode mX11_copy) 95 = .ok (.iconst 2, 1) := by decide +kernel
theorem dX11_copy_96 : decode (mcode mX11_copy) 96 = .ok (.invokevirtual 92, 3) := by decide +kernel
theorem dX11_copy_99 : decode (mcode mX11_copy) 99 = .ok (.ireturn, 1) := by decide +kernel
theorem dX11_copy_100 : decode (mcode mX11_copy) 100 = .ok (.aload_n 0, 1) := by decide +kernel
theorem dX11_copy_101 : decode (mcode mX11_copy) 101 = .ok (.getfield 10, 3) := by decide +kernel
theorem dX11_copy_104 : decode (mcode mX11_copy) 104 = .ok (.iload_n 1, 1) := by decide +kernel
theorem dX11_copy_105 : decode (mcode mX11_copy) 105 = .ok (.iload_n 2, 1) := by decide +kernel
theorem dX11_copy_106 : decode (mcode mX11_copy) 106 = .ok (.iload_n 3, 1) := by decide +kernel
theorem dX11_copy_107 : decode (mcode mX11_copy) 107 = .ok (.iload 4, 2) := by decide +kernel
theorem dX11_copy_109 : decode (mcode mX11_copy) 109 = .ok (.iload 5, 2) := by decide +kernel
theorem dX11_copy_111 : decode (mcode mX11_copy) 111 = .ok (.invokevirtual 118, 3) := by decide +kernel
theorem dX11_copy_114 : decode (mcode mX11_copy) 114 = .ok (.aload_n 0, 1) := by decide +kernel
theorem dX11_copy_115 : decode (mcode mX11_copy) 115 = .ok (.iload 5, 2) := by decide +kernel
theorem dX11_copy_117 : decode (mcode mX11_copy) 117 = .ok (.invokevirtual 100, 3) := by decide +kernel
theorem dX11_copy_120 : decode (mcode mX11_copy) 120 = .ok (.ireturn, 1) := by decide +kernel
theorem dX11_countHomeless_0 : decode (mcode mX11_countHomeless) 0 = .ok (.iconst 0, 1) := by decide +kernel
theorem dX11_countHomeless_1 : decode (mcode mX11_countHomeless) 1 = .ok (.istore_n 1, 1) := by decide +kernel
theorem dX11_countHomeless_2 : decode (mcode mX11_countHomeless) 2 = .ok (.iconst 0, 1) := by decide +kernel
theorem dX11_countHomeless_3 : decode (mcode mX11_countHomeless) 3 = .ok (.istore_n 2, 1) := by decide +kernel
theorem dX11_countHomeless_4 : decode (mcode mX11_countHomeless) 4 = .ok (.iload_n 2, 1) := by decide +kernel
theorem dX11_countHomeless_5 : decode (mcode mX11_countHomeless) 5 = .ok (.aload_n 0, 1) := by decide +kernel
theorem dX11_countHomeless_6 : decode (mcode mX11_countHomeless) 6 = .ok (.getfield 47, 3) := by decide +kernel
theorem dX11_countHomeless_9 : decode (mcode mX11_countHomeless) 9 = .ok (.getfield 151, 3) := by decide +kernel
theorem dX11_countHomeless_12 : decode (mcode mX11_countHomeless) 12 = .ok (.if_icmp .ge 20, 3) := by decide +kernel
theorem dX11_countHomeless_15 : decode (mcode mX11_countHomeless) 15 = .ok (.aload_n 0, 1) := by decide +kernel
theorem dX11_countHomeless_16 : decode (mcode mX11_countHomeless) 16 = .ok (.iload_n 2, 1) := by decide +kernel
theorem dX11_countHomeless_17 : decode (mcode mX11_countHomeless) 17 = .ok (.invokevirtual 178, 3) := by decide +kernel
theorem dX11_countHomeless_20 : decode (mcode mX11_countHomeless) 20 = .ok (.ifCond .eq 6, 3) := by decide +kernel
theorem dX11_countHomeless_23 : decode (mcode mX11_countHomeless) 23 = .ok (.iinc 1 1, 3) := by decide +kernel
theorem dX11_countHomeless_26 : decode (mcode mX11_countHomeless) 26 = .ok (.iinc 2 1, 3) := by decide +kernel
theorem dX11_countHomeless_29 : decode (mcode mX11_countHomeless) 29 = .ok (.goto (-25), 3) := by decide +kernel
theorem dX11_countHomeless_32 : decode (mcode mX11_countHomeless) 32 = .ok (.iload_n 1, 1) := by decide +kernel
theorem dX11_countHomeless_33 : decode (mcode mX11_countHomeless) 33 = .ok (.ireturn, 1) := by decide +kernel
theorem dX11_line_0 : decode (mcode mX11_line) 0 = .ok (.aload_n 0, 1) := by decide +kernel
theorem dX11_line_1 : decode (mcode mX11_line) 1 = .ok (.iload_n 1, 1) := by decide +kernel
theorem dX11_line_2 : decode (mcode mX11_line) 2 = .ok (.invokevirtual 154, 3) := by decide +kernel
theorem dX11_line_5 : decode (mcode mX11_line) 5 = .ok (.ifCond .eq 6, 3) := by decide +kernel
theorem dX11_line_8 : decode (mcode mX11_line) 8 = .ok (.ldc 91, 2) := by decide +kernel
theorem dX11_line_10 : decode (mcode mX11_line) 10 = .ok (.ireturn, 1) := by decide +kernel
theorem dX11_line_11 : decode (mcode mX11_line) 11 = .ok (.iload_n 2, 1) := by decide +kernel
theorem dX11_line_12 : decode (mcode mX11_line) 12 = .ok (.tableswitch 149 0 8 #[52, 62, 72, 82, 92, 102, 112, 122, 136], 52) := by decide +kernel
theorem dX11_line_64 : decode (mcode mX11_line) 64 = .ok (.aload_n 0, 1) := by decide +kernel
theorem dX11_line_65 : decode (mcode mX11_line) 65 = .ok (.getfield 47, 3) := by decide +kernel
theorem dX11_line_68 : decode (mcode mX11_line) 68 = .ok (.getfield 157, 3) := by decide +kernel
theorem dX11_line_71 : decode (mcode mX11_line) 71 = .ok (.iload_n 1, 1) := by decide +kernel
theorem dX11_line_72 : decode (mcode mX11_line) 72 = .ok (.iaload, 1) := by decide +kernel
theorem dX11_line_73 : decode (mcode mX11_line) 73 = .ok (.ireturn, 1) := by decide +kernel
theorem dX11_line_74 : decode (mcode mX11_line) 74 = .ok (.aload_n 0, 1) := by decide +kernel
theorem dX11_line_75 : decode (mcode mX11_line) 75 = .ok (.getfield 47, 3) := by decide +kernel
theorem dX11_line_78 : decode (mcode mX11_line) 78 = .ok (.getfield 160, 3) := by decide +kernel
theorem dX11_line_81 : decode (mcode mX11_line) 81 = .ok (.iload_n 1, 1) := by decide +kernel
theorem dX11_line_82 : decode (mcode mX11_line) 82 = .ok (.iaload, 1) := by decide +kernel
theorem dX11_line_83 : decode (mcode mX11_line) 83 = .ok (.ireturn, 1) := by decide +kernel
theorem dX11_line_84 : decode (mcode mX11_line) 84 = .ok (.aload_n 0, 1) := by decide +kernel
theorem dX11_line_85 : decode (mcode mX11_line) 85 = .ok (.getfield 47, 3) := by decide +kernel
theorem dX11_line_88 : decode (mcode mX11_line) 88 = .ok (.getfield 163, 3) := by decide +kernel
theorem dX11_line_91 : decode (mcode mX11_line) 91 = .ok (.iload_n 1, 1) := by decide +kernel
theorem dX11_line_92 : decode (mcode mX11_line) 92 = .ok (.iaload, 1) := by decide +kernel
theorem dX11_line_93 : decode (mcode mX11_line) 93 = .ok (.ireturn, 1) := by decide +kernel
theorem dX11_line_94 : decode (mcode mX11_line) 94 = .ok (.aload_n 0, 1) := by decide +kernel
theorem dX11_line_95 : decode (mcode mX11_line) 95 = .ok (.getfield 47, 3) := by decide +kernel
theorem dX11_line_98 : decode (mcode mX11_line) 98 = .ok (.getfield 166, 3) := by decide +kernel
theorem dX11_line_101 : decode (mcode mX11_line) 101 = .ok (.iload_n 1, 1) := by decide +kernel
theorem dX11_line_102 : decode (mcode mX11_line) 102 = .ok (.iaload, 1) := by decide +kernel
theorem dX11_line_103 : decode (mcode mX11_line) 103 = .ok (.ireturn, 1) := by decide +kernel
theorem dX11_line_104 : decode (mcode mX11_line) 104 = .ok (.aload_n 0, 1) := by decide +kernel
theorem dX11_line_105 : decode (mcode mX11_line) 105 = .ok (.getfield 47, 3) := by decide +kernel
theorem dX11_line_108 : decode (mcode mX11_line) 108 = .ok (.getfield 169, 3) := by decide +kernel
theorem dX11_line_111 : decode (mcode mX11_line) 111 = .ok (.iload_n 1, 1) := by decide +kernel
theorem dX11_line_112 : decode (mcode mX11_line) 112 = .ok (.iaload, 1) := by decide +kernel
theorem dX11_line_113 : decode (mcode mX11_line) 113 = .ok (.ireturn, 1) := by decide +kernel
theorem dX11_line_114 : decode (mcode mX11_line) 114 = .ok (.aload_n 0, 1) := by decide +kernel
theorem dX11_line_115 : decode (mcode mX11_line) 115 = .ok (.getfield 47, 3) := by decide +kernel
theorem dX11_line_118 : decode (mcode mX11_line) 118 = .ok (.getfield 172, 3) := by decide +kernel
theorem dX11_line_121 : decode (mcode mX11_line) 121 = .ok (.iload_n 1, 1) := by decide +kernel
theorem dX11_line_122 : decode (mcode mX11_line) 122 = .ok (.iaload, 1) := by decide +kernel
theorem dX11_line_123 : decode (mcode mX11_line) 123 = .ok (.ireturn, 1) := by decide +kernel
theorem dX11_line_124 : decode (mcode mX11_line) 124 = .ok (.aload_n 0, 1) := by decide +kernel
theorem dX11_line_125 : decode (mcode mX11_line) 125 = .ok (.getfield 47, 3) := by decide +kernel
theorem dX11_line_128 : decode (mcode mX11_line) 128 = .ok (.getfield 175, 3) := by decide +kernel
theorem dX11_line_131 : decode (mcode mX11_line) 131 = .ok (.iload_n 1, 1) := by decide +kernel
theorem dX11_line_132 : decode (mcode mX11_line) 132 = .ok (.iaload, 1) := by decide +kernel
theorem dX11_line_133 : decode (mcode mX11_line) 133 = .ok (.ireturn, 1) := by decide +kernel
theorem dX11_line_134 : decode (mcode mX11_line) 134 = .ok (.aload_n 0, 1) := by decide +kernel
theorem dX11_line_135 : decode (mcode mX11_line) 135 = .ok (.iload_n 1, 1) := by decide +kernel
theorem dX11_line_136 : decode (mcode mX11_line) 136 = .ok (.invokevirtual 178, 3) := by decide +kernel
theorem dX11_line_139 : decode (mcode mX11_line) 139 = .ok (.ifCond .eq 7, 3) := by decide +kernel
theorem dX11_line_142 : decode (mcode mX11_line) 142 = .ok (.iconst 1, 1) := by decide +kernel
theorem dX11_line_143 : decode (mcode mX11_line) 143 = .ok (.goto 4, 3) := by decide +kernel
theorem dX11_line_146 : decode (mcode mX11_line) 146 = .ok (.iconst 0, 1) := by decide +kernel
theorem dX11_line_147 : decode (mcode mX11_line) 147 = .ok (.ireturn, 1) := by decide +kernel
theorem dX11_line_148 : decode (mcode mX11_line) 148 = .ok (.aload_n 0, 1) := by decide +kernel
theorem dX11_line_149 : decode (mcode mX11_line) 149 = .ok (.getfield 47, 3) := by decide +kernel
theorem dX11_line_152 : decode (mcode mX11_line) 152 = .ok (.getfield 181, 3) := by decide +kernel
theorem dX11_line_155 : decode (mcode mX11_line) 155 = .ok (.getfield 185, 3) := by decide +kernel
theorem dX11_line_158 : decode (mcode mX11_line) 158 = .ok (.iload_n 1, 1) := by decide +kernel
theorem dX11_line_159 : decode (mcode mX11_line) 159 = .ok (.iaload, 1) := by decide +kernel
theorem dX11_line_160 : decode (mcode mX11_line) 160 = .ok (.ireturn, 1) := by decide +kernel
theorem dX11_line_161 : decode (mcode mX11_line) 161 = .ok (.ldc 91, 2) := by decide +kernel
theorem dX11_line_163 : decode (mcode mX11_line) 163 = .ok (.ireturn, 1) := by decide +kernel
theorem dX11_quarrels_0 : decode (mcode mX11_quarrels) 0 = .ok (.aload_n 0, 1) := by decide +kernel
theorem dX11_quarrels_1 : decode (mcode mX11_quarrels) 1 = .ok (.getfield 33, 3) := by decide +kernel
theorem dX11_quarrels_4 : decode (mcode mX11_quarrels) 4 = .ok (.invokevirtual 208, 3) := by decide +kernel
theorem dX11_quarrels_7 : decode (mcode mX11_quarrels) 7 = .ok (.ireturn, 1) := by decide +kernel
theorem dX11_today_0 : decode (mcode mX11_today) 0 = .ok (.aload_n 0, 1) := by decide +kernel
theorem dX11_today_1 : decode (mcode mX11_today) 1 = .ok (.iload_n 1, 1) := by decide +kernel
theorem dX11_today_2 : decode (mcode mX11_today) 2 = .ok (.iload_n 2, 1) := by decide +kernel
theorem dX11_today_3 : decode (mcode mX11_today) 3 = .ok (.iload_n 3, 1) := by decide +kernel
theorem dX11_today_4 : decode (mcode mX11_today) 4 = .ok (.invokevirtual 202, 3) := by decide +kernel
theorem dX11_today_7 : decode (mcode mX11_today) 7 = .ok (.ifCond .eq 16, 3) := by decide +kernel
theorem dX11_today_10 : decode (mcode mX11_today) 10 = .ok (.aload_n 0, 1) := by decide +kernel
theorem dX11_today_11 : decode (mcode mX11_today) 11 = .ok (.getfield 33, 3) := by decide +kernel
theorem dX11_today_14 : decode (mcode mX11_today) 14 = .ok (.iload_n 1, 1) := by decide +kernel
theorem dX11_today_15 : decode (mcode mX11_today) 15 = .ok (.iload_n 2, 1) := by decide +kernel
theorem dX11_today_16 : decode (mcode mX11_today) 16 = .ok (.iload_n 3, 1) := by decide +kernel
theorem dX11_today_17 : decode (mcode mX11_today) 17 = .ok (.invokevirtual 205, 3) := by decide +kernel
theorem dX11_today_20 : decode (mcode mX11_today) 20 = .ok (.goto 5, 3) := by decide +kernel
theorem dX11_today_23 : decode (mcode mX11_today) 23 = .ok (.ldc 91, 2) := by decide +kernel
theorem dX11_today_25 : decode (mcode mX11_today) 25 = .ok (.ireturn, 1) := by decide +kernel
theorem dX11_walkEnd_0 : decode (mcode mX11_walkEnd) 0 = .ok (.aload_n 0, 1) := by decide +kernel
theorem dX11_walkEnd_1 : decode (mcode mX11_walkEnd) 1 = .ok (.getfield 10, 3) := by decide +kernel
theorem dX11_walkEnd_4 : decode (mcode mX11_walkEnd) 4 = .ok (.iload_n 1, 1) := by decide +kernel
theorem dX11_walkEnd_5 : decode (mcode mX11_walkEnd) 5 = .ok (.iload_n 2, 1) := by decide +kernel
theorem dX11_walkEnd_6 : decode (mcode mX11_walkEnd) 6 = .ok (.invokevirtual 337, 3) := by decide +kernel
theorem dX11_walkEnd_9 : decode (mcode mX11_walkEnd) 9 = .ok (.istore_n 3, 1) := by decide +kernel
theorem dX11_walkEnd_10 : decode (mcode mX11_walkEnd) 10 = .ok (.aload_n 0, 1) := by decide +kernel
theorem dX11_walkEnd_11 : decode (mcode mX11_walkEnd) 11 = .ok (.getfield 10, 3) := by decide +kernel
theorem dX11_walkEnd_14 : decode (mcode mX11_walkEnd) 14 = .ok (.iload_n 1, 1) := by decide +kernel
theorem dX11_walkEnd_15 : decode (mcode mX11_walkEnd) 15 = .ok (.iload_n 2, 1) := by decide +kernel
theorem dX11_walkEnd_16 : decode (mcode mX11_walkEnd) 16 = .ok (.iconst 1, 1) := by decide +kernel
theorem dX11_walkEnd_17 : decode (mcode mX11_walkEnd) 17 = .ok (.iadd, 1) := by decide +kernel
theorem dX11_walkEnd_18 : decode (mcode mX11_walkEnd) 18 = .ok (.invokevirtual 337, 3) := by decide +kernel
theorem dX11_walkEnd_21 : decode (mcode mX11_walkEnd) 21 = .ok (.istore 4, 2) := by decide +kernel
theorem dX11_walkEnd_23 : decode (mcode mX11_walkEnd) 23 = .ok (.aload_n 0, 1) := by decide +kernel
theorem dX11_walkEnd_24 : decode (mcode mX11_walkEnd) 24 = .ok (.getfield 10, 3) := by decide +kernel
theorem dX11_walkEnd_27 : decode (mcode mX11_walkEnd) 27 = .ok (.iload_n 1, 1) := by decide +kernel
theorem dX11_walkEnd_28 : decode (mcode mX11_walkEnd) 28 = .ok (.iload_n 2, 1) := by decide +kernel
theorem dX11_walkEnd_29 : decode (mcode mX11_walkEnd) 29 = .ok (.iconst 2, 1) := by decide +kernel
theorem dX11_walkEnd_30 : decode (mcode mX11_walkEnd) 30 = .ok (.iadd, 1) := by decide +kernel
theorem dX11_walkEnd_31 : decode (mcode mX11_walkEnd) 31 = .ok (.invokevirtual 337, 3) := by decide +kernel
theorem dX11_walkEnd_34 : decode (mcode mX11_walkEnd) 34 = .ok (.istore 5, 2) := by decide +kernel
theorem dX11_walkEnd_36 : decode (mcode mX11_walkEnd) 36 = .ok (.aload_n 0, 1) := by decide +kernel
theorem dX11_walkEnd_37 : decode (mcode mX11_walkEnd) 37 = .ok (.iload_n 3, 1) := by decide +kernel
theorem dX11_walkEnd_38 : decode (mcode mX11_walkEnd) 38 = .ok (.iload 4, 2) := by decide +kernel
theorem dX11_walkEnd_40 : decode (mcode mX11_walkEnd) 40 = .ok (.iload 5, 2) := by decide +kernel
theorem dX11_walkEnd_42 : decode (mcode mX11_walkEnd) 42 = .ok (.invokevirtual 202, 3) := by decide +kernel
theorem dX11_walkEnd_45 : decode (mcode mX11_walkEnd) 45 = .ok (.ifCond .ne 6, 3) := by decide +kernel
theorem dX11_walkEnd_48 : decode (mcode mX11_walkEnd) 48 = .ok (.ldc 91, 2) := by decide +kernel
theorem dX11_walkEnd_50 : decode (mcode mX11_walkEnd) 50 = .ok (.ireturn, 1) := by decide +kernel
theorem dX11_walkEnd_51 : decode (mcode mX11_walkEnd) 51 = .ok (.iload_n 3, 1) := by decide +kernel
theorem dX11_walkEnd_52 : decode (mcode mX11_walkEnd) 52 = .ok (.bipush 100, 2) := by decide +kernel
theorem dX11_walkEnd_54 : decode (mcode mX11_walkEnd) 54 = .ok (.imul, 1) := by decide +kernel
theorem dX11_walkEnd_55 : decode (mcode mX11_walkEnd) 55 = .ok (.aload_n 0, 1) := by decide +kernel
theorem dX11_walkEnd_56 : decode (mcode mX11_walkEnd) 56 = .ok (.getfield 33, 3) := by decide +kernel
theorem dX11_walkEnd_59 : decode (mcode mX11_walkEnd) 59 = .ok (.iload_n 3, 1) := by decide +kernel
theorem dX11_walkEnd_60 : decode (mcode mX11_walkEnd) 60 = .ok (.iload 4, 2) := by decide +kernel
theorem dX11_walkEnd_62 : decode (mcode mX11_walkEnd) 62 = .ok (.iload 5, 2) := by decide +kernel
theorem dX11_walkEnd_64 : decode (mcode mX11_walkEnd) 64 = .ok (.invokevirtual 205, 3) := by decide +kernel
theorem dX11_walkEnd_67 : decode (mcode mX11_walkEnd) 67 = .ok (.iadd, 1) := by decide +kernel
theorem dX11_walkEnd_68 : decode (mcode mX11_walkEnd) 68 = .ok (.ireturn, 1) := by decide +kernel
theorem dX11_alike_0 : decode (mcode mX11_alike) 0 = .ok (.aload_n 0, 1) := by decide +kernel
theorem dX11_alike_1 : decode (mcode mX11_alike) 1 = .ok (.iload_n 1, 1) := by decide +kernel
theorem dX11_alike_2 : decode (mcode mX11_alike) 2 = .ok (.invokevirtual 154, 3) := by decide +kernel
theorem dX11_alike_5 : decode (mcode mX11_alike) 5 = .ok (.ifCond .ne 11, 3) := by decide +kernel
theorem dX11_alike_8 : decode (mcode mX11_alike) 8 = .ok (.aload_n 0, 1) := by decide +kernel
theorem dX11_alike_9 : decode (mcode mX11_alike) 9 = .ok (.iload_n 2, 1) := by decide +kernel
theorem dX11_alike_10 : decode (mcode mX11_alike) 10 = .ok (.invokevirtual 154, 3) := by decide +kernel
theorem dX11_alike_13 : decode (mcode mX11_alike) 13 = .ok (.ifCond .eq 6, 3) := by decide +kernel
theorem dX11_alike_16 : decode (mcode mX11_alike) 16 = .ok (.ldc 91, 2) := by decide +kernel
theorem dX11_alike_18 : decode (mcode mX11_alike) 18 = .ok (.ireturn, 1) := by decide +kernel
theorem dX11_alike_19 : decode (mcode mX11_alike) 19 = .ok (.iload_n 3, 1) := by decide +kernel
theorem dX11_alike_20 : decode (mcode mX11_alike) 20 = .ok (.tableswitch 80 0 2 #[28, 41, 62], 28) := by decide +kernel
theorem dX11_alike_48 : decode (mcode mX11_alike) 48 = .ok (.aload_n 0, 1) := by decide +kernel
theorem dX11_alike_49 : decode (mcode mX11_alike) 49 = .ok (.getfield 47, 3) := by decide +kernel
theorem dX11_alike_52 : decode (mcode mX11_alike) 52 = .ok (.getfield 181, 3) := by decide +kernel
theorem dX11_alike_55 : decode (mcode mX11_alike) 55 = .ok (.iload_n 1, 1) := by decide +kernel
theorem dX11_alike_56 : decode (mcode mX11_alike) 56 = .ok (.iload_n 2, 1) := by decide +kernel
theorem dX11_alike_57 : decode (mcode mX11_alike) 57 = .ok (.invokevirtual 192, 3) := by decide +kernel
theorem dX11_alike_60 : decode (mcode mX11_alike) 60 = .ok (.ireturn, 1) := by decide +kernel
theorem dX11_alike_61 : decode (mcode mX11_alike) 61 = .ok (.aload_n 0, 1) := by decide +kernel
theorem dX11_alike_62 : decode (mcode mX11_alike) 62 = .ok (.getfield 47, 3) := by decide +kernel
theorem dX11_alike_65 : decode (mcode mX11_alike) 65 = .ok (.getfield 181, 3) := by decide +kernel
theorem dX11_alike_68 : decode (mcode mX11_alike) 68 = .ok (.iload_n 1, 1) := by decide +kernel
theorem dX11_alike_69 : decode (mcode mX11_alike) 69 = .ok (.iload_n 2, 1) := by decide +kernel
theorem dX11_alike_70 : decode (mcode mX11_alike) 70 = .ok (.invokevirtual 196, 3) := by decide +kernel
theorem dX11_alike_73 : decode (mcode mX11_alike) 73 = .ok (.ifCond .eq 7, 3) := by decide +kernel
theorem dX11_alike_76 : decode (mcode mX11_alike) 76 = .ok (.iconst 1, 1) := by decide +kernel
theorem dX11_alike_77 : decode (mcode mX11_alike) 77 = .ok (.goto 4, 3) := by decide +kernel
theorem dX11_alike_80 : decode (mcode mX11_alike) 80 = .ok (.iconst 0, 1) := by decide +kernel
theorem dX11_alike_81 : decode (mcode mX11_alike) 81 = .ok (.ireturn, 1) := by decide +kernel
theorem dX11_alike_82 : decode (mcode mX11_alike) 82 = .ok (.aload_n 0, 1) := by decide +kernel
theorem dX11_alike_83 : decode (mcode mX11_alike) 83 = .ok (.getfield 47, 3) := by decide +kernel
theorem dX11_alike_86 : decode (mcode mX11_alike) 86 = .ok (.iload_n 1, 1) := by decide +kernel
theorem dX11_alike_87 : decode (mcode mX11_alike) 87 = .ok (.iload_n 2, 1) := by decide +kernel
theorem dX11_alike_88 : decode (mcode mX11_alike) 88 = .ok (.invokevirtual 199, 3) := by decide +kernel
theorem dX11_alike_91 : decode (mcode mX11_alike) 91 = .ok (.ifCond .eq 7, 3) := by decide +kernel
theorem dX11_alike_94 : decode (mcode mX11_alike) 94 = .ok (.iconst 1, 1) := by decide +kernel
theorem dX11_alike_95 : decode (mcode mX11_alike) 95 = .ok (.goto 4, 3) := by decide +kernel
theorem dX11_alike_98 : decode (mcode mX11_alike) 98 = .ok (.iconst 0, 1) := by decide +kernel
theorem dX11_alike_99 : decode (mcode mX11_alike) 99 = .ok (.ireturn, 1) := by decide +kernel
theorem dX11_alike_100 : decode (mcode mX11_alike) 100 = .ok (.ldc 91, 2) := by decide +kernel
theorem dX11_alike_102 : decode (mcode mX11_alike) 102 = .ok (.ireturn, 1) := by decide +kernel
theorem dX11_count_0 : decode (mcode mX11_count) 0 = .ok (.iload_n 1, 1) := by decide +kernel
theorem dX11_count_1 : decode (mcode mX11_count) 1 = .ok (.tableswitch 108 0 7 #[47, 55, 63, 71, 79, 87, 95, 100], 47) := by decide +kernel
theorem dX11_count_48 : decode (mcode mX11_count) 48 = .ok (.aload_n 0, 1) := by decide +kernel
theorem dX11_count_49 : decode (mcode mX11_count) 49 = .ok (.getfield 10, 3) := by decide +kernel
theorem dX11_count_52 : decode (mcode mX11_count) 52 = .ok (.invokevirtual 306, 3) := by decide +kernel
theorem dX11_count_55 : decode (mcode mX11_count) 55 = .ok (.ireturn, 1) := by decide +kernel
theorem dX11_count_56 : decode (mcode mX11_count) 56 = .ok (.aload_n 0, 1) := by decide +kernel
theorem dX11_count_57 : decode (mcode mX11_count) 57 = .ok (.getfield 26, 3) := by decide +kernel
theorem dX11_count_60 : decode (mcode mX11_count) 60 = .ok (.getfield 283, 3) := by decide +kernel
theorem dX11_count_63 : decode (mcode mX11_count) 63 = .ok (.ireturn, 1) := by decide +kernel
theorem dX11_count_64 : decode (mcode mX11_count) 64 = .ok (.aload_n 0, 1) := by decide +kernel
theorem dX11_count_65 : decode (mcode mX11_count) 65 = .ok (.getfield 47, 3) := by decide +kernel
theorem dX11_count_68 : decode (mcode mX11_count) 68 = .ok (.getfield 151, 3) := by decide +kernel
theorem dX11_count_71 : decode (mcode mX11_count) 71 = .ok (.ireturn, 1) := by decide +kernel
theorem dX11_count_72 : decode (mcode mX11_count) 72 = .ok (.aload_n 0, 1) := by decide +kernel
theorem dX11_count_73 : decode (mcode mX11_count) 73 = .ok (.getfield 33, 3) := by decide +kernel
theorem dX11_count_76 : decode (mcode mX11_count) 76 = .ok (.getfield 309, 3) := by decide +kernel
theorem dX11_count_79 : decode (mcode mX11_count) 79 = .ok (.ireturn, 1) := by decide +kernel
theorem dX11_count_80 : decode (mcode mX11_count) 80 = .ok (.aload_n 0, 1) := by decide +kernel
theorem dX11_count_81 : decode (mcode mX11_count) 81 = .ok (.getfield 40, 3) := by decide +kernel
theorem dX11_count_84 : decode (mcode mX11_count) 84 = .ok (.getfield 310, 3) := by decide +kernel
theorem dX11_count_87 : decode (mcode mX11_count) 87 = .ok (.ireturn, 1) := by decide +kernel
theorem dX11_count_88 : decode (mcode mX11_count) 88 = .ok (.aload_n 0, 1) := by decide +kernel
theorem dX11_count_89 : decode (mcode mX11_count) 89 = .ok (.getfield 47, 3) := by decide +kernel
theorem dX11_count_92 : decode (mcode mX11_count) 92 = .ok (.invokevirtual 311, 3) := by decide +kernel
theorem dX11_count_95 : decode (mcode mX11_count) 95 = .ok (.ireturn, 1) := by decide +kernel
theorem dX11_count_96 : decode (mcode mX11_count) 96 = .ok (.aload_n 0, 1) := by decide +kernel
theorem dX11_count_97 : decode (mcode mX11_count) 97 = .ok (.invokevirtual 314, 3) := by decide +kernel
theorem dX11_count_100 : decode (mcode mX11_count) 100 = .ok (.ireturn, 1) := by decide +kernel
theorem dX11_count_101 : decode (mcode mX11_count) 101 = .ok (.aload_n 0, 1) := by decide +kernel
theorem dX11_count_102 : decode (mcode mX11_count) 102 = .ok (.getfield 19, 3) := by decide +kernel
theorem dX11_count_105 : decode (mcode mX11_count) 105 = .ok (.getfield 125, 3) := by decide +kernel
theorem dX11_count_108 : decode (mcode mX11_count) 108 = .ok (.ireturn, 1) := by decide +kernel
theorem dX11_count_109 : decode (mcode mX11_count) 109 = .ok (.ldc 91, 2) := by decide +kernel
theorem dX11_count_111 : decode (mcode mX11_count) 111 = .ok (.ireturn, 1) := by decide +kernel
theorem dX11_missing_0 : decode (mcode mX11_missing) 0 = .ok (.aload_n 0, 1) := by decide +kernel
theorem dX11_missing_1 : decode (mcode mX11_missing) 1 = .ok (.iload_n 1, 1) := by decide +kernel
theorem dX11_missing_2 : decode (mcode mX11_missing) 2 = .ok (.invokevirtual 270, 3) := by decide +kernel
theorem dX11_missing_5 : decode (mcode mX11_missing) 5 = .ok (.ifCond .ne 25, 3) := by decide +kernel
theorem dX11_missing_8 : decode (mcode mX11_missing) 8 = .ok (.aload_n 0, 1) := by decide +kernel
theorem dX11_missing_9 : decode (mcode mX11_missing) 9 = .ok (.iload_n 2, 1) := by decide +kernel
theorem dX11_missing_10 : decode (mcode mX11_missing) 10 = .ok (.invokevirtual 270, 3) := by decide +kernel
theorem dX11_missing_13 : decode (mcode mX11_missing) 13 = .ok (.ifCond .ne 17, 3) := by decide +kernel
theorem dX11_missing_16 : decode (mcode mX11_missing) 16 = .ok (.iload_n 1, 1) := by decide +kernel
theorem dX11_missing_17 : decode (mcode mX11_missing) 17 = .ok (.iload_n 2, 1) := by decide +kernel
theorem dX11_missing_18 : decode (mcode mX11_missing) 18 = .ok (.if_icmp .eq 12, 3) := by decide +kernel
theorem dX11_missing_21 : decode (mcode mX11_missing) 21 = .ok (.iload_n 3, 1) := by decide +kernel
theorem dX11_missing_22 : decode (mcode mX11_missing) 22 = .ok (.ifCond .lt 8, 3) := by decide +kernel
theorem dX11_missing_25 : decode (mcode mX11_missing) 25 = .ok (.iload_n 3, 1) := by decide +kernel
theorem dX11_missing_26 : decode (mcode mX11_missing) 26 = .ok (.iconst 2, 1) := by decide +kernel
theorem dX11_missing_27 : decode (mcode mX11_missing) 27 = .ok (.if_icmp .le 6, 3) := by decide +kernel
theorem dX11_missing_30 : decode (mcode mX11_missing) 30 = .ok (.ldc 91, 2) := by decide +kernel
theorem dX11_missing_32 : decode (mcode mX11_missing) 32 = .ok (.ireturn, 1) := by decide +kernel
theorem dX11_missing_33 : decode (mcode mX11_missing) 33 = .ok (.aload_n 0, 1) := by decide +kernel
theorem dX11_missing_34 : decode (mcode mX11_missing) 34 = .ok (.getfield 47, 3) := by decide +kernel
theorem dX11_missing_37 : decode (mcode mX11_missing) 37 = .ok (.iload_n 1, 1) := by decide +kernel
theorem dX11_missing_38 : decode (mcode mX11_missing) 38 = .ok (.invokevirtual 273, 3) := by decide +kernel
theorem dX11_missing_41 : decode (mcode mX11_missing) 41 = .ok (.istore 4, 2) := by decide +kernel
theorem dX11_missing_43 : decode (mcode mX11_missing) 43 = .ok (.aload_n 0, 1) := by decide +kernel
theorem dX11_missing_44 : decode (mcode mX11_missing) 44 = .ok (.getfield 47, 3) := by decide +kernel
theorem dX11_missing_47 : decode (mcode mX11_missing) 47 = .ok (.iload_n 2, 1) := by decide +kernel
theorem dX11_missing_48 : decode (mcode mX11_missing) 48 = .ok (.invokevirtual 273, 3) := by decide +kernel
theorem dX11_missing_51 : decode (mcode mX11_missing) 51 = .ok (.istore 5, 2) := by decide +kernel
theorem dX11_missing_53 : decode (mcode mX11_missing) 53 = .ok (.aload_n 0, 1) := by decide +kernel
theorem dX11_missing_54 : decode (mcode mX11_missing) 54 = .ok (.getfield 47, 3) := by decide +kernel
theorem dX11_missing_57 : decode (mcode mX11_missing) 57 = .ok (.iload_n 1, 1) := by decide +kernel
theorem dX11_missing_58 : decode (mcode mX11_missing) 58 = .ok (.iload_n 2, 1) := by decide +kernel
theorem dX11_missing_59 : decode (mcode mX11_missing) 59 = .ok (.invokevirtual 276, 3) := by decide +kernel
theorem dX11_missing_62 : decode (mcode mX11_missing) 62 = .ok (.istore 6, 2) := by decide +kernel
theorem dX11_missing_64 : decode (mcode mX11_missing) 64 = .ok (.iload_n 3, 1) := by decide +kernel
theorem dX11_missing_65 : decode (mcode mX11_missing) 65 = .ok (.lookupswitch 55 #[(0, 27), (1, 46)], 27) := by decide +kernel
theorem dX11_missing_92 : decode (mcode mX11_missing) 92 = .ok (.iload 6, 2) := by decide +kernel
theorem dX11_missing_94 : decode (mcode mX11_missing) 94 = .ok (.ifCond .ne 8, 3) := by decide +kernel
theorem dX11_missing_97 : decode (mcode mX11_missing) 97 = .ok (.ldc 238, 2) := by decide +kernel
theorem dX11_missing_99 : decode (mcode mX11_missing) 99 = .ok (.goto 11, 3) := by decide +kernel
theorem dX11_missing_102 : decode (mcode mX11_missing) 102 = .ok (.iload 4, 2) := by decide +kernel
theorem dX11_missing_104 : decode (mcode mX11_missing) 104 = .ok (.iload 5, 2) := by decide +kernel
theorem dX11_missing_106 : decode (mcode mX11_missing) 106 = .ok (.imul, 1) := by decide +kernel
theorem dX11_missing_107 : decode (mcode mX11_missing) 107 = .ok (.iload 6, 2) := by decide +kernel
theorem dX11_missing_109 : decode (mcode mX11_missing) 109 = .ok (.idiv, 1) := by decide +kernel
theorem dX11_missing_110 : decode (mcode mX11_missing) 110 = .ok (.ireturn, 1) := by decide +kernel
theorem dX11_missing_111 : decode (mcode mX11_missing) 111 = .ok (.iload 4, 2) := by decide +kernel
theorem dX11_missing_113 : decode (mcode mX11_missing) 113 = .ok (.iload 5, 2) := by decide +kernel
theorem dX11_missing_115 : decode (mcode mX11_missing) 115 = .ok (.iadd, 1) := by decide +kernel
theorem dX11_missing_116 : decode (mcode mX11_missing) 116 = .ok (.iload 6, 2) := by decide +kernel
theorem dX11_missing_118 : decode (mcode mX11_missing) 118 = .ok (.isub, 1) := by decide +kernel
theorem dX11_missing_119 : decode (mcode mX11_missing) 119 = .ok (.ireturn, 1) := by decide +kernel
theorem dX11_missing_120 : decode (mcode mX11_missing) 120 = .ok (.iload 6, 2) := by decide +kernel
theorem dX11_missing_122 : decode (mcode mX11_missing) 122 = .ok (.ireturn, 1) := by decide +kernel
theorem dX11_next_0 : decode (mcode mX11_next) 0 = .ok (.ldc 238, 2) := by decide +kernel
theorem dX11_next_2 : decode (mcode mX11_next) 2 = .ok (.istore_n 1, 1) := by decide +kernel
theorem dX11_next_3 : decode (mcode mX11_next) 3 = .ok (.iconst (-1), 1) := by decide +kernel
theorem dX11_next_4 : decode (mcode mX11_next) 4 = .ok (.istore_n 2, 1) := by decide +kernel
theorem dX11_next_5 : decode (mcode mX11_next) 5 = .ok (.iconst 0, 1) := by decide +kernel
theorem dX11_next_6 : decode (mcode mX11_next) 6 = .ok (.istore_n 3, 1) := by decide +kernel
theorem dX11_next_7 : decode (mcode mX11_next) 7 = .ok (.iload_n 3, 1) := by decide +kernel
theorem dX11_next_8 : decode (mcode mX11_next) 8 = .ok (.aload_n 0, 1) := by decide +kernel
theorem dX11_next_9 : decode (mcode mX11_next) 9 = .ok (.getfield 26, 3) := by decide +kernel
theorem dX11_next_12 : decode (mcode mX11_next) 12 = .ok (.getfield 283, 3) := by decide +kernel
theorem dX11_next_15 : decode (mcode mX11_next) 15 = .ok (.if_icmp .ge 57, 3) := by decide +kernel
theorem dX11_next_18 : decode (mcode mX11_next) 18 = .ok (.aload_n 0, 1) := by decide +kernel
theorem dX11_next_19 : decode (mcode mX11_next) 19 = .ok (.getfield 26, 3) := by decide +kernel
theorem dX11_next_22 : decode (mcode mX11_next) 22 = .ok (.getfield 279, 3) := by decide +kernel
theorem dX11_next_25 : decode (mcode mX11_next) 25 = .ok (.iload_n 3, 1) := by decide +kernel
theorem dX11_next_26 : decode (mcode mX11_next) 26 = .ok (.baload, 1) := by decide +kernel
theorem dX11_next_27 : decode (mcode mX11_next) 27 = .ok (.ifCond .eq 6, 3) := by decide +kernel
theorem dX11_next_30 : decode (mcode mX11_next) 30 = .ok (.goto 36, 3) := by decide +kernel
theorem dX11_next_33 : decode (mcode mX11_next) 33 = .ok (.aload_n 0, 1) := by decide +kernel
theorem dX11_next_34 : decode (mcode mX11_next) 34 = .ok (.getfield 26, 3) := by decide +kernel
theorem dX11_next_37 : decode (mcode mX11_next) 37 = .ok (.iload_n 3, 1) := by decide +kernel
theorem dX11_next_38 : decode (mcode mX11_next) 38 = .ok (.aload_n 0, 1) := by decide +kernel
theorem dX11_next_39 : decode (mcode mX11_next) 39 = .ok (.getfield 47, 3) := by decide +kernel
theorem dX11_next_42 : decode (mcode mX11_next) 42 = .ok (.iload_n 3, 1) := by decide +kernel
theorem dX11_next_43 : decode (mcode mX11_next) 43 = .ok (.aload_n 0, 1) := by decide +kernel
theorem dX11_next_44 : decode (mcode mX11_next) 44 = .ok (.getfield 26, 3) := by decide +kernel
theorem dX11_next_47 : decode (mcode mX11_next) 47 = .ok (.invokevirtual 284, 3) := by decide +kernel
theorem dX11_next_50 : decode (mcode mX11_next) 50 = .ok (.invokevirtual 288, 3) := by decide +kernel
theorem dX11_next_53 : decode (mcode mX11_next) 53 = .ok (.istore 4, 2) := by decide +kernel
theorem dX11_next_55 : decode (mcode mX11_next) 55 = .ok (.iload 4, 2) := by decide +kernel
theorem dX11_next_57 : decode (mcode mX11_next) 57 = .ok (.iload_n 2, 1) := by decide +kernel
theorem dX11_next_58 : decode (mcode mX11_next) 58 = .ok (.if_icmp .le 8, 3) := by decide +kernel
theorem dX11_next_61 : decode (mcode mX11_next) 61 = .ok (.iload 4, 2) := by decide +kernel
theorem dX11_next_63 : decode (mcode mX11_next) 63 = .ok (.istore_n 2, 1) := by decide +kernel
theorem dX11_next_64 : decode (mcode mX11_next) 64 = .ok (.iload_n 3, 1) := by decide +kernel
theorem dX11_next_65 : decode (mcode mX11_next) 65 = .ok (.istore_n 1, 1) := by decide +kernel
theorem dX11_next_66 : decode (mcode mX11_next) 66 = .ok (.iinc 3 1, 3) := by decide +kernel
theorem dX11_next_69 : decode (mcode mX11_next) 69 = .ok (.goto (-62), 3) := by decide +kernel
theorem dX11_next_72 : decode (mcode mX11_next) 72 = .ok (.iload_n 1, 1) := by decide +kernel
theorem dX11_next_73 : decode (mcode mX11_next) 73 = .ok (.ireturn, 1) := by decide +kernel
theorem dX11_walks_0 : decode (mcode mX11_walks) 0 = .ok (.aload_n 0, 1) := by decide +kernel
theorem dX11_walks_1 : decode (mcode mX11_walks) 1 = .ok (.iload_n 1, 1) := by decide +kernel
theorem dX11_walks_2 : decode (mcode mX11_walks) 2 = .ok (.invokevirtual 87, 3) := by decide +kernel
theorem dX11_walks_5 : decode (mcode mX11_walks) 5 = .ok (.ifCond .ne 14, 3) := by decide +kernel
theorem dX11_walks_8 : decode (mcode mX11_walks) 8 = .ok (.iload_n 3, 1) := by decide +kernel
theorem dX11_walks_9 : decode (mcode mX11_walks) 9 = .ok (.iconst 1, 1) := by decide +kernel
theorem dX11_walks_10 : decode (mcode mX11_walks) 10 = .ok (.if_icmp .lt 9, 3) := by decide +kernel
theorem dX11_walks_13 : decode (mcode mX11_walks) 13 = .ok (.iload_n 3, 1) := by decide +kernel
theorem dX11_walks_14 : decode (mcode mX11_walks) 14 = .ok (.bipush 20, 2) := by decide +kernel
theorem dX11_walks_16 : decode (mcode mX11_walks) 16 = .ok (.if_icmp .le 6, 3) := by decide +kernel
theorem dX11_walks_19 : decode (mcode mX11_walks) 19 = .ok (.ldc 91, 2) := by decide +kernel
theorem dX11_walks_21 : decode (mcode mX11_walks) 21 = .ok (.ireturn, 1) := by decide +kernel
theorem dX11_walks_22 : decode (mcode mX11_walks) 22 = .ok (.aload_n 0, 1) := by decide +kernel
theorem dX11_walks_23 : decode (mcode mX11_walks) 23 = .ok (.getfield 10, 3) := by decide +kernel
theorem dX11_walks_26 : decode (mcode mX11_walks) 26 = .ok (.iload_n 1, 1) := by decide +kernel
theorem dX11_walks_27 : decode (mcode mX11_walks) 27 = .ok (.invokevirtual 103, 3) := by decide +kernel
theorem dX11_walks_30 : decode (mcode mX11_walks) 30 = .ok (.ifCond .eq 9, 3) := by decide +kernel
theorem dX11_walks_33 : decode (mcode mX11_walks) 33 = .ok (.aload_n 0, 1) := by decide +kernel
theorem dX11_walks_34 : decode (mcode mX11_walks) 34 = .ok (.iconst 1, 1) := by decide +kernel
theorem dX11_walks_35 : decode (mcode mX11_walks) 35 = .ok (.invokevirtual 92, 3) := by decide +kernel
theorem dX11_walks_38 : decode (mcode mX11_walks) 38 = .ok (.ireturn, 1) := by decide +kernel
theorem dX11_walks_39 : decode (mcode mX11_walks) 39 = .ok (.aload_n 0, 1) := by decide +kernel
theorem dX11_walks_40 : decode (mcode mX11_walks) 40 = .ok (.getfield 10, 3) := by decide +kernel
theorem dX11_walks_43 : decode (mcode mX11_walks) 43 = .ok (.iload_n 1, 1) := by decide +kernel
theorem dX11_walks_44 : decode (mcode mX11_walks) 44 = .ok (.iload_n 2, 1) := by decide +kernel
theorem dX11_walks_45 : decode (mcode mX11_walks) 45 = .ok (.iconst 3, 1) := by decide +kernel
theorem dX11_walks_46 : decode (mcode mX11_walks) 46 = .ok (.iload_n 3, 1) := by decide +kernel
theorem dX11_walks_47 : decode (mcode mX11_walks) 47 = .ok (.imul, 1) := by decide +kernel
theorem dX11_walks_48 : decode (mcode mX11_walks) 48 = .ok (.invokevirtual 106, 3) := by decide +kernel
theorem dX11_walks_51 : decode (mcode mX11_walks) 51 = .ok (.ifCond .ne 9, 3) := by decide +kernel
theorem dX11_walks_54 : decode (mcode mX11_walks) 54 = .ok (.aload_n 0, 1) := by decide +kernel
theorem dX11_walks_55 : decode (mcode mX11_walks) 55 = .ok (.iconst 2, 1) := by decide +kernel
theorem dX11_walks_56 : decode (mcode mX11_walks) 56 = .ok (.invokevirtual 92, 3) := by decide +kernel
theorem dX11_walks_59 : decode (mcode mX11_walks) 59 = .ok (.ireturn, 1) := by decide +kernel
theorem dX11_walks_60 : decode (mcode mX11_walks) 60 = .ok (.iconst 0, 1) := by decide +kernel
theorem dX11_walks_61 : decode (mcode mX11_walks) 61 = .ok (.istore 4, 2) := by decide +kernel
theorem dX11_walks_63 : decode (mcode mX11_walks) 63 = .ok (.iload 4, 2) := by decide +kernel
theorem dX11_walks_65 : decode (mcode mX11_walks) 65 = .ok (.iload_n 3, 1) := by decide +kernel
theorem dX11_walks_66 : decode (mcode mX11_walks) 66 = .ok (.if_icmp .ge 41, 3) := by decide +kernel
theorem dX11_walks_69 : decode (mcode mX11_walks) 69 = .ok (.aload_n 0, 1) := by decide +kernel
theorem dX11_walks_70 : decode (mcode mX11_walks) 70 = .ok (.iload_n 1, 1) := by decide +kernel
theorem dX11_walks_71 : decode (mcode mX11_walks) 71 = .ok (.iload_n 2, 1) := by decide +kernel
theorem dX11_walks_72 : decode (mcode mX11_walks) 72 = .ok (.iconst 3, 1) := by decide +kernel
theorem dX11_walks_73 : decode (mcode mX11_walks) 73 = .ok (.iload 4, 2) := by decide +kernel
theorem dX11_walks_75 : decode (mcode mX11_walks) 75 = .ok (.imul, 1) := by decide +kernel
theorem dX11_walks_76 : decode (mcode mX11_walks) 76 = .ok (.iadd, 1) := by decide +kernel
theorem dX11_walks_77 : decode (mcode mX11_walks) 77 = .ok (.invokevirtual 212, 3) := by decide +kernel
theorem dX11_walks_80 : decode (mcode mX11_walks) 80 = .ok (.istore 5, 2) := by decide +kernel
theorem dX11_walks_82 : decode (mcode mX11_walks) 82 = .ok (.iload 5, 2) := by decide +kernel
theorem dX11_walks_84 : decode (mcode mX11_walks) 84 = .ok (.ldc 91, 2) := by decide +kernel
theorem dX11_walks_86 : decode (mcode mX11_walks) 86 = .ok (.if_icmp .ne 6, 3) := by decide +kernel
theorem dX11_walks_89 : decode (mcode mX11_walks) 89 = .ok (.ldc 91, 2) := by decide +kernel
theorem dX11_walks_91 : decode (mcode mX11_walks) 91 = .ok (.ireturn, 1) := by decide +kernel
theorem dX11_walks_92 : decode (mcode mX11_walks) 92 = .ok (.aload_n 0, 1) := by decide +kernel
theorem dX11_walks_93 : decode (mcode mX11_walks) 93 = .ok (.getfield 51, 3) := by decide +kernel
theorem dX11_walks_96 : decode (mcode mX11_walks) 96 = .ok (.iload 4, 2) := by decide +kernel
theorem dX11_walks_98 : decode (mcode mX11_walks) 98 = .ok (.iload 5, 2) := by decide +kernel
theorem dX11_walks_100 : decode (mcode mX11_walks) 100 = .ok (.iastore, 1) := by decide +kernel
theorem dX11_walks_101 : decode (mcode mX11_walks) 101 = .ok (.iinc 4 1, 3) := by decide +kernel
theorem dX11_walks_104 : decode (mcode mX11_walks) 104 = .ok (.goto (-41), 3) := by decide +kernel
theorem dX11_walks_107 : decode (mcode mX11_walks) 107 = .ok (.aload_n 0, 1) := by decide +kernel
theorem dX11_walks_108 : decode (mcode mX11_walks) 108 = .ok (.aload_n 0, 1) := by decide +kernel
theorem dX11_walks_109 : decode (mcode mX11_walks) 109 = .ok (.iload_n 3, 1) := by decide +kernel
theorem dX11_walks_110 : decode (mcode mX11_walks) 110 = .ok (.invokevirtual 215, 3) := by decide +kernel
theorem dX11_walks_113 : decode (mcode mX11_walks) 113 = .ok (.invokevirtual 100, 3) := by decide +kernel
theorem dX11_walks_116 : decode (mcode mX11_walks) 116 = .ok (.ireturn, 1) := by decide +kernel
theorem dX11_found_0 : decode (mcode mX11_found) 0 = .ok (.aload_n 0, 1) := by decide +kernel
theorem dX11_found_1 : decode (mcode mX11_found) 1 = .ok (.iload_n 1, 1) := by decide +kernel
theorem dX11_found_2 : decode (mcode mX11_found) 2 = .ok (.invokevirtual 248, 3) := by decide +kernel
theorem dX11_found_5 : decode (mcode mX11_found) 5 = .ok (.ifCond .ne 30, 3) := by decide +kernel
theorem dX11_found_8 : decode (mcode mX11_found) 8 = .ok (.aload_n 0, 1) := by decide +kernel
theorem dX11_found_9 : decode (mcode mX11_found) 9 = .ok (.iload_n 2, 1) := by decide +kernel
theorem dX11_found_10 : decode (mcode mX11_found) 10 = .ok (.invokevirtual 251, 3) := by decide +kernel
theorem dX11_found_13 : decode (mcode mX11_found) 13 = .ok (.ifCond .ne 22, 3) := by decide +kernel
theorem dX11_found_16 : decode (mcode mX11_found) 16 = .ok (.aload_n 0, 1) := by decide +kernel
theorem dX11_found_17 : decode (mcode mX11_found) 17 = .ok (.iload_n 3, 1) := by decide +kernel
theorem dX11_found_18 : decode (mcode mX11_found) 18 = .ok (.invokevirtual 251, 3) := by decide +kernel
theorem dX11_found_21 : decode (mcode mX11_found) 21 = .ok (.ifCond .ne 14, 3) := by decide +kernel
theorem dX11_found_24 : decode (mcode mX11_found) 24 = .ok (.iload 5, 2) := by decide +kernel
theorem dX11_found_26 : decode (mcode mX11_found) 26 = .ok (.ifCond .lt 9, 3) := by decide +kernel
theorem dX11_found_29 : decode (mcode mX11_found) 29 = .ok (.iload 5, 2) := by decide +kernel
theorem dX11_found_31 : decode (mcode mX11_found) 31 = .ok (.iconst 1, 1) := by decide +kernel
theorem dX11_found_32 : decode (mcode mX11_found) 32 = .ok (.if_icmp .le 6, 3) := by decide +kernel
theorem dX11_found_35 : decode (mcode mX11_found) 35 = .ok (.ldc 91, 2) := by decide +kernel
theorem dX11_found_37 : decode (mcode mX11_found) 37 = .ok (.ireturn, 1) := by decide +kernel
theorem dX11_found_38 : decode (mcode mX11_found) 38 = .ok (.aload_n 0, 1) := by decide +kernel
theorem dX11_found_39 : decode (mcode mX11_found) 39 = .ok (.getfield 76, 3) := by decide +kernel
theorem dX11_found_42 : decode (mcode mX11_found) 42 = .ok (.iload_n 1, 1) := by decide +kernel
theorem dX11_found_43 : decode (mcode mX11_found) 43 = .ok (.iload_n 2, 1) := by decide +kernel
theorem dX11_found_44 : decode (mcode mX11_found) 44 = .ok (.iload_n 3, 1) := by decide +kernel
theorem dX11_found_45 : decode (mcode mX11_found) 45 = .ok (.invokevirtual 254, 3) := by decide +kernel
theorem dX11_found_48 : decode (mcode mX11_found) 48 = .ok (.iload 4, 2) := by decide +kernel
theorem dX11_found_50 : decode (mcode mX11_found) 50 = .ok (.ifCond .lt 15, 3) := by decide +kernel
theorem dX11_found_53 : decode (mcode mX11_found) 53 = .ok (.iload 4, 2) := by decide +kernel
theorem dX11_found_55 : decode (mcode mX11_found) 55 = .ok (.aload_n 0, 1) := by decide +kernel
theorem dX11_found_56 : decode (mcode mX11_found) 56 = .ok (.getfield 76, 3) := by decide +kernel
theorem dX11_found_59 : decode (mcode mX11_found) 59 = .ok (.invokevirtual 257, 3) := by decide +kernel
theorem dX11_found_62 : decode (mcode mX11_found) 62 = .ok (.if_icmp .lt 6, 3) := by decide +kernel
theorem dX11_found_65 : decode (mcode mX11_found) 65 = .ok (.ldc 238, 2) := by decide +kernel
theorem dX11_found_67 : decode (mcode mX11_found) 67 = .ok (.ireturn, 1) := by decide +kernel
theorem dX11_found_68 : decode (mcode mX11_found) 68 = .ok (.aload_n 0, 1) := by decide +kernel
theorem dX11_found_69 : decode (mcode mX11_found) 69 = .ok (.getfield 76, 3) := by decide +kernel
theorem dX11_found_72 : decode (mcode mX11_found) 72 = .ok (.iload 4, 2) := by decide +kernel
theorem dX11_found_74 : decode (mcode mX11_found) 74 = .ok (.iload 5, 2) := by decide +kernel
theorem dX11_found_76 : decode (mcode mX11_found) 76 = .ok (.ifCond .ne 7, 3) := by decide +kernel
theorem dX11_found_79 : decode (mcode mX11_found) 79 = .ok (.iconst 1, 1) := by decide +kernel
theorem dX11_found_80 : decode (mcode mX11_found) 80 = .ok (.goto 4, 3) := by decide +kernel
theorem dX11_found_83 : decode (mcode mX11_found) 83 = .ok (.iconst 0, 1) := by decide +kernel
theorem dX11_found_84 : decode (mcode mX11_found) 84 = .ok (.invokevirtual 266, 3) := by decide +kernel
theorem dX11_found_87 : decode (mcode mX11_found) 87 = .ok (.ireturn, 1) := by decide +kernel
theorem dX11_lost_0 : decode (mcode mX11_lost) 0 = .ok (.aload_n 0, 1) := by decide +kernel
theorem dX11_lost_1 : decode (mcode mX11_lost) 1 = .ok (.iload_n 1, 1) := by decide +kernel
theorem dX11_lost_2 : decode (mcode mX11_lost) 2 = .ok (.invokevirtual 248, 3) := by decide +kernel
theorem dX11_lost_5 : decode (mcode mX11_lost) 5 = .ok (.ifCond .ne 30, 3) := by decide +kernel
theorem dX11_lost_8 : decode (mcode mX11_lost) 8 = .ok (.aload_n 0, 1) := by decide +kernel
theorem dX11_lost_9 : decode (mcode mX11_lost) 9 = .ok (.iload_n 2, 1) := by decide +kernel
theorem dX11_lost_10 : decode (mcode mX11_lost) 10 = .ok (.invokevirtual 251, 3) := by decide +kernel
theorem dX11_lost_13 : decode (mcode mX11_lost) 13 = .ok (.ifCond .ne 22, 3) := by decide +kernel
theorem dX11_lost_16 : decode (mcode mX11_lost) 16 = .ok (.aload_n 0, 1) := by decide +kernel
theorem dX11_lost_17 : decode (mcode mX11_lost) 17 = .ok (.iload_n 3, 1) := by decide +kernel
theorem dX11_lost_18 : decode (mcode mX11_lost) 18 = .ok (.invokevirtual 251, 3) := by decide +kernel
theorem dX11_lost_21 : decode (mcode mX11_lost) 21 = .ok (.ifCond .ne 14, 3) := by decide +kernel
theorem dX11_lost_24 : decode (mcode mX11_lost) 24 = .ok (.iload 4, 2) := by decide +kernel
theorem dX11_lost_26 : decode (mcode mX11_lost) 26 = .ok (.ifCond .lt 9, 3) := by decide +kernel
theorem dX11_lost_29 : decode (mcode mX11_lost) 29 = .ok (.iload 4, 2) := by decide +kernel
theorem dX11_lost_31 : decode (mcode mX11_lost) 31 = .ok (.iconst 2, 1) := by decide +kernel
theorem dX11_lost_32 : decode (mcode mX11_lost) 32 = .ok (.if_icmp .le 6, 3) := by decide +kernel
theorem dX11_lost_35 : decode (mcode mX11_lost) 35 = .ok (.ldc 91, 2) := by decide +kernel
theorem dX11_lost_37 : decode (mcode mX11_lost) 37 = .ok (.ireturn, 1) := by decide +kernel
theorem dX11_lost_38 : decode (mcode mX11_lost) 38 = .ok (.aload_n 0, 1) := by decide +kernel
theorem dX11_lost_39 : decode (mcode mX11_lost) 39 = .ok (.getfield 76, 3) := by decide +kernel
theorem dX11_lost_42 : decode (mcode mX11_lost) 42 = .ok (.iload_n 1, 1) := by decide +kernel
theorem dX11_lost_43 : decode (mcode mX11_lost) 43 = .ok (.iload_n 2, 1) := by decide +kernel
theorem dX11_lost_44 : decode (mcode mX11_lost) 44 = .ok (.iload_n 3, 1) := by decide +kernel
theorem dX11_lost_45 : decode (mcode mX11_lost) 45 = .ok (.invokevirtual 254, 3) := by decide +kernel
theorem dX11_lost_48 : decode (mcode mX11_lost) 48 = .ok (.iload 4, 2) := by decide +kernel
theorem dX11_lost_50 : decode (mcode mX11_lost) 50 = .ok (.lookupswitch 42 #[(0, 26), (1, 34)], 26) := by decide +kernel
theorem dX11_lost_76 : decode (mcode mX11_lost) 76 = .ok (.aload_n 0, 1) := by decide +kernel
theorem dX11_lost_77 : decode (mcode mX11_lost) 77 = .ok (.getfield 76, 3) := by decide +kernel
theorem dX11_lost_80 : decode (mcode mX11_lost) 80 = .ok (.invokevirtual 257, 3) := by decide +kernel
theorem dX11_lost_83 : decode (mcode mX11_lost) 83 = .ok (.ireturn, 1) := by decide +kernel
theorem dX11_lost_84 : decode (mcode mX11_lost) 84 = .ok (.aload_n 0, 1) := by decide +kernel
theorem dX11_lost_85 : decode (mcode mX11_lost) 85 = .ok (.getfield 76, 3) := by decide +kernel
theorem dX11_lost_88 : decode (mcode mX11_lost) 88 = .ok (.getfield 260, 3) := by decide +kernel
theorem dX11_lost_91 : decode (mcode mX11_lost) 91 = .ok (.ireturn, 1) := by decide +kernel
theorem dX11_lost_92 : decode (mcode mX11_lost) 92 = .ok (.aload_n 0, 1) := by decide +kernel
theorem dX11_lost_93 : decode (mcode mX11_lost) 93 = .ok (.getfield 76, 3) := by decide +kernel
theorem dX11_lost_96 : decode (mcode mX11_lost) 96 = .ok (.getfield 263, 3) := by decide +kernel
theorem dX11_lost_99 : decode (mcode mX11_lost) 99 = .ok (.ireturn, 1) := by decide +kernel
theorem dX11_keepTold_0 : decode (mcode mX11_keepTold) 0 = .ok (.aload_n 0, 1) := by decide +kernel
theorem dX11_keepTold_1 : decode (mcode mX11_keepTold) 1 = .ok (.getfield 47, 3) := by decide +kernel
theorem dX11_keepTold_4 : decode (mcode mX11_keepTold) 4 = .ok (.getfield 151, 3) := by decide +kernel
theorem dX11_keepTold_7 : decode (mcode mX11_keepTold) 7 = .ok (.aload_n 0, 1) := by decide +kernel
theorem dX11_keepTold_8 : decode (mcode mX11_keepTold) 8 = .ok (.getfield 47, 3) := by decide +kernel
theorem dX11_keepTold_11 : decode (mcode mX11_keepTold) 11 = .ok (.getfield 320, 3) := by decide +kernel
theorem dX11_keepTold_14 : decode (mcode mX11_keepTold) 14 = .ok (.if_icmp .lt 20, 3) := by decide +kernel
theorem dX11_keepTold_17 : decode (mcode mX11_keepTold) 17 = .ok (.aload_n 0, 1) := by decide +kernel
theorem dX11_keepTold_18 : decode (mcode mX11_keepTold) 18 = .ok (.getfield 33, 3) := by decide +kernel
theorem dX11_keepTold_21 : decode (mcode mX11_keepTold) 21 = .ok (.getfield 309, 3) := by decide +kernel
theorem dX11_keepTold_24 : decode (mcode mX11_keepTold) 24 = .ok (.aload_n 0, 1) := by decide +kernel
theorem dX11_keepTold_25 : decode (mcode mX11_keepTold) 25 = .ok (.getfield 33, 3) := by decide +kernel
theorem dX11_keepTold_28 : decode (mcode mX11_keepTold) 28 = .ok (.getfield 323, 3) := by decide +kernel
theorem dX11_keepTold_31 : decode (mcode mX11_keepTold) 31 = .ok (.if_icmp .ge 11, 3) := by decide +kernel
theorem dX11_keepTold_34 : decode (mcode mX11_keepTold) 34 = .ok (.aload_n 0, 1) := by decide +kernel
theorem dX11_keepTold_35 : decode (mcode mX11_keepTold) 35 = .ok (.getfield 69, 3) := by decide +kernel
theorem dX11_keepTold_38 : decode (mcode mX11_keepTold) 38 = .ok (.iconst 1, 1) := by decide +kernel
theorem dX11_keepTold_39 : decode (mcode mX11_keepTold) 39 = .ok (.putfield 324, 3) := by decide +kernel
theorem dX11_keepTold_42 : decode (mcode mX11_keepTold) 42 = .ok (.aload_n 0, 1) := by decide +kernel
theorem dX11_keepTold_43 : decode (mcode mX11_keepTold) 43 = .ok (.getfield 26, 3) := by decide +kernel
theorem dX11_keepTold_46 : decode (mcode mX11_keepTold) 46 = .ok (.aload_n 0, 1) := by decide +kernel
theorem dX11_keepTold_47 : decode (mcode mX11_keepTold) 47 = .ok (.getfield 26, 3) := by decide +kernel
theorem dX11_keepTold_50 : decode (mcode mX11_keepTold) 50 = .ok (.getfield 328, 3) := by decide +kernel
theorem dX11_keepTold_53 : decode (mcode mX11_keepTold) 53 = .ok (.putfield 283, 3) := by decide +kernel
theorem dX11_keepTold_56 : decode (mcode mX11_keepTold) 56 = .ok (.aload_n 0, 1) := by decide +kernel
theorem dX11_keepTold_57 : decode (mcode mX11_keepTold) 57 = .ok (.getfield 40, 3) := by decide +kernel
theorem dX11_keepTold_60 : decode (mcode mX11_keepTold) 60 = .ok (.aload_n 0, 1) := by decide +kernel
theorem dX11_keepTold_61 : decode (mcode mX11_keepTold) 61 = .ok (.getfield 40, 3) := by decide +kernel
theorem dX11_keepTold_64 : decode (mcode mX11_keepTold) 64 = .ok (.getfield 329, 3) := by decide +kernel
theorem dX11_keepTold_67 : decode (mcode mX11_keepTold) 67 = .ok (.putfield 310, 3) := by decide +kernel
theorem dX11_keepTold_70 : decode (mcode mX11_keepTold) 70 = .ok (.aload_n 0, 1) := by decide +kernel
theorem dX11_keepTold_71 : decode (mcode mX11_keepTold) 71 = .ok (.getfield 33, 3) := by decide +kernel
theorem dX11_keepTold_74 : decode (mcode mX11_keepTold) 74 = .ok (.invokevirtual 330, 3) := by decide +kernel
theorem dX11_keepTold_77 : decode (mcode mX11_keepTold) 77 = .ok (.aload_n 0, 1) := by decide +kernel
theorem dX11_keepTold_78 : decode (mcode mX11_keepTold) 78 = .ok (.getfield 47, 3) := by decide +kernel
theorem dX11_keepTold_81 : decode (mcode mX11_keepTold) 81 = .ok (.aload_n 0, 1) := by decide +kernel
theorem dX11_keepTold_82 : decode (mcode mX11_keepTold) 82 = .ok (.getfield 26, 3) := by decide +kernel
theorem dX11_keepTold_85 : decode (mcode mX11_keepTold) 85 = .ok (.aload_n 0, 1) := by decide +kernel
theorem dX11_keepTold_86 : decode (mcode mX11_keepTold) 86 = .ok (.getfield 33, 3) := by decide +kernel
theorem dX11_keepTold_89 : decode (mcode mX11_keepTold) 89 = .ok (.invokevirtual 333, 3) := by decide +kernel
theorem dX11_keepTold_92 : decode (mcode mX11_keepTold) 92 = .ok (.return_, 1) := by decide +kernel
theorem dX11_ask_0 : decode (mcode mX11_ask) 0 = .ok (.aload_n 0, 1) := by decide +kernel
theorem dX11_ask_1 : decode (mcode mX11_ask) 1 = .ok (.iload_n 1, 1) := by decide +kernel
theorem dX11_ask_2 : decode (mcode mX11_ask) 2 = .ok (.invokevirtual 154, 3) := by decide +kernel
theorem dX11_ask_5 : decode (mcode mX11_ask) 5 = .ok (.ifCond .ne 12, 3) := by decide +kernel
theorem dX11_ask_8 : decode (mcode mX11_ask) 8 = .ok (.iload_n 2, 1) := by decide +kernel
theorem dX11_ask_9 : decode (mcode mX11_ask) 9 = .ok (.ifCond .lt 8, 3) := by decide +kernel
theorem dX11_ask_12 : decode (mcode mX11_ask) 12 = .ok (.iload_n 2, 1) := by decide +kernel
theorem dX11_ask_13 : decode (mcode mX11_ask) 13 = .ok (.iconst 1, 1) := by decide +kernel
theorem dX11_ask_14 : decode (mcode mX11_ask) 14 = .ok (.if_icmp .le 6, 3) := by decide +kernel
theorem dX11_ask_17 : decode (mcode mX11_ask) 17 = .ok (.ldc 91, 2) := by decide +kernel
theorem dX11_ask_19 : decode (mcode mX11_ask) 19 = .ok (.ireturn, 1) := by decide +kernel
theorem dX11_ask_20 : decode (mcode mX11_ask) 20 = .ok (.aload_n 0, 1) := by decide +kernel
theorem dX11_ask_21 : decode (mcode mX11_ask) 21 = .ok (.getfield 83, 3) := by decide +kernel
theorem dX11_ask_24 : decode (mcode mX11_ask) 24 = .ok (.iconst 0, 1) := by decide +kernel
theorem dX11_ask_25 : decode (mcode mX11_ask) 25 = .ok (.putfield 294, 3) := by decide +kernel
theorem dX11_ask_28 : decode (mcode mX11_ask) 28 = .ok (.iload_n 2, 1) := by decide +kernel
theorem dX11_ask_29 : decode (mcode mX11_ask) 29 = .ok (.ifCond .ne 14, 3) := by decide +kernel
theorem dX11_ask_32 : decode (mcode mX11_ask) 32 = .ok (.aload_n 0, 1) := by decide +kernel
theorem dX11_ask_33 : decode (mcode mX11_ask) 33 = .ok (.getfield 83, 3) := by decide +kernel
theorem dX11_ask_36 : decode (mcode mX11_ask) 36 = .ok (.iload_n 1, 1) := by decide +kernel
theorem dX11_ask_37 : decode (mcode mX11_ask) 37 = .ok (.invokevirtual 297, 3) := by decide +kernel
theorem dX11_ask_40 : decode (mcode mX11_ask) 40 = .ok (.goto 11, 3) := by decide +kernel
theorem dX11_ask_43 : decode (mcode mX11_ask) 43 = .ok (.aload_n 0, 1) := by decide +kernel
theorem dX11_ask_44 : decode (mcode mX11_ask) 44 = .ok (.getfield 83, 3) := by decide +kernel
theorem dX11_ask_47 : decode (mcode mX11_ask) 47 = .ok (.iload_n 1, 1) := by decide +kernel
theorem dX11_ask_48 : decode (mcode mX11_ask) 48 = .ok (.invokevirtual 300, 3) := by decide +kernel
theorem dX11_ask_51 : decode (mcode mX11_ask) 51 = .ok (.ireturn, 1) := by decide +kernel
theorem dX11_joined_0 : decode (mcode mX11_joined) 0 = .ok (.iload_n 1, 1) := by decide +kernel
theorem dX11_joined_1 : decode (mcode mX11_joined) 1 = .ok (.tableswitch 54 0 2 #[27, 36, 45], 27) := by decide +kernel
theorem dX11_joined_28 : decode (mcode mX11_joined) 28 = .ok (.aload_n 0, 1) := by decide +kernel
theorem dX11_joined_29 : decode (mcode mX11_joined) 29 = .ok (.getfield 69, 3) := by decide +kernel
theorem dX11_joined_32 : decode (mcode mX11_joined) 32 = .ok (.invokevirtual 218, 3) := by decide +kernel
theorem dX11_joined_35 : decode (mcode mX11_joined) 35 = .ok (.i2l, 1) := by decide +kernel
theorem dX11_joined_36 : decode (mcode mX11_joined) 36 = .ok (.lreturn, 1) := by decide +kernel
theorem dX11_joined_37 : decode (mcode mX11_joined) 37 = .ok (.aload_n 0, 1) := by decide +kernel
theorem dX11_joined_38 : decode (mcode mX11_joined) 38 = .ok (.getfield 69, 3) := by decide +kernel
theorem dX11_joined_41 : decode (mcode mX11_joined) 41 = .ok (.invokevirtual 221, 3) := by decide +kernel
theorem dX11_joined_44 : decode (mcode mX11_joined) 44 = .ok (.i2l, 1) := by decide +kernel
theorem dX11_joined_45 : decode (mcode mX11_joined) 45 = .ok (.lreturn, 1) := by decide +kernel
theorem dX11_joined_46 : decode (mcode mX11_joined) 46 = .ok (.aload_n 0, 1) := by decide +kernel
theorem dX11_joined_47 : decode (mcode mX11_joined) 47 = .ok (.getfield 69, 3) := by decide +kernel
theorem dX11_joined_50 : decode (mcode mX11_joined) 50 = .ok (.invokevirtual 224, 3) := by decide +kernel
theorem dX11_joined_53 : decode (mcode mX11_joined) 53 = .ok (.i2l, 1) := by decide +kernel
theorem dX11_joined_54 : decode (mcode mX11_joined) 54 = .ok (.lreturn, 1) := by decide +kernel
theorem dX11_joined_55 : decode (mcode mX11_joined) 55 = .ok (.ldc2_w 227, 3) := by decide +kernel
theorem dX11_joined_58 : decode (mcode mX11_joined) 58 = .ok (.lreturn, 1) := by decide +kernel
theorem dX11_person_0 : decode (mcode mX11_person) 0 = .ok (.aload_n 0, 1) := by decide +kernel
theorem dX11_person_1 : decode (mcode mX11_person) 1 = .ok (.iload_n 1, 1) := by decide +kernel
theorem dX11_person_2 : decode (mcode mX11_person) 2 = .ok (.invokevirtual 154, 3) := by decide +kernel
theorem dX11_person_5 : decode (mcode mX11_person) 5 = .ok (.ifCond .eq 8, 3) := by decide +kernel
theorem dX11_person_8 : decode (mcode mX11_person) 8 = .ok (.ldc 91, 2) := by decide +kernel
theorem dX11_person_10 : decode (mcode mX11_person) 10 = .ok (.goto 11, 3) := by decide +kernel
theorem dX11_person_13 : decode (mcode mX11_person) 13 = .ok (.aload_n 0, 1) := by decide +kernel
theorem dX11_person_14 : decode (mcode mX11_person) 14 = .ok (.getfield 69, 3) := by decide +kernel
theorem dX11_person_17 : decode (mcode mX11_person) 17 = .ok (.iload_n 1, 1) := by decide +kernel
theorem dX11_person_18 : decode (mcode mX11_person) 18 = .ok (.invokevirtual 229, 3) := by decide +kernel
theorem dX11_person_21 : decode (mcode mX11_person) 21 = .ok (.ireturn, 1) := by decide +kernel
theorem dX11_stay_0 : decode (mcode mX11_stay) 0 = .ok (.aload_n 0, 1) := by decide +kernel
theorem dX11_stay_1 : decode (mcode mX11_stay) 1 = .ok (.iload_n 1, 1) := by decide +kernel
theorem dX11_stay_2 : decode (mcode mX11_stay) 2 = .ok (.invokevirtual 154, 3) := by decide +kernel
theorem dX11_stay_5 : decode (mcode mX11_stay) 5 = .ok (.ifCond .ne 12, 3) := by decide +kernel
theorem dX11_stay_8 : decode (mcode mX11_stay) 8 = .ok (.iload_n 2, 1) := by decide +kernel
theorem dX11_stay_9 : decode (mcode mX11_stay) 9 = .ok (.ifCond .lt 8, 3) := by decide +kernel
theorem dX11_stay_12 : decode (mcode mX11_stay) 12 = .ok (.iload_n 2, 1) := by decide +kernel
theorem dX11_stay_13 : decode (mcode mX11_stay) 13 = .ok (.iconst 3, 1) := by decide +kernel
theorem dX11_stay_14 : decode (mcode mX11_stay) 14 = .ok (.if_icmp .le 6, 3) := by decide +kernel
theorem dX11_stay_17 : decode (mcode mX11_stay) 17 = .ok (.ldc 91, 2) := by decide +kernel
theorem dX11_stay_19 : decode (mcode mX11_stay) 19 = .ok (.ireturn, 1) := by decide +kernel
theorem dX11_stay_20 : decode (mcode mX11_stay) 20 = .ok (.aload_n 0, 1) := by decide +kernel
theorem dX11_stay_21 : decode (mcode mX11_stay) 21 = .ok (.getfield 69, 3) := by decide +kernel
theorem dX11_stay_24 : decode (mcode mX11_stay) 24 = .ok (.iload_n 1, 1) := by decide +kernel
theorem dX11_stay_25 : decode (mcode mX11_stay) 25 = .ok (.invokevirtual 229, 3) := by decide +kernel
theorem dX11_stay_28 : decode (mcode mX11_stay) 28 = .ok (.istore_n 3, 1) := by decide +kernel
theorem dX11_stay_29 : decode (mcode mX11_stay) 29 = .ok (.aload_n 0, 1) := by decide +kernel
theorem dX11_stay_30 : decode (mcode mX11_stay) 30 = .ok (.getfield 47, 3) := by decide +kernel
theorem dX11_stay_33 : decode (mcode mX11_stay) 33 = .ok (.iload_n 3, 1) := by decide +kernel
theorem dX11_stay_34 : decode (mcode mX11_stay) 34 = .ok (.iload_n 1, 1) := by decide +kernel
theorem dX11_stay_35 : decode (mcode mX11_stay) 35 = .ok (.invokevirtual 235, 3) := by decide +kernel
theorem dX11_stay_38 : decode (mcode mX11_stay) 38 = .ok (.istore 4, 2) := by decide +kernel
theorem dX11_stay_40 : decode (mcode mX11_stay) 40 = .ok (.iload 4, 2) := by decide +kernel
theorem dX11_stay_42 : decode (mcode mX11_stay) 42 = .ok (.ldc 238, 2) := by decide +kernel
theorem dX11_stay_44 : decode (mcode mX11_stay) 44 = .ok (.if_icmp .ne 6, 3) := by decide +kernel
theorem dX11_stay_47 : decode (mcode mX11_stay) 47 = .ok (.ldc 238, 2) := by decide +kernel
theorem dX11_stay_49 : decode (mcode mX11_stay) 49 = .ok (.ireturn, 1) := by decide +kernel
theorem dX11_stay_50 : decode (mcode mX11_stay) 50 = .ok (.iload_n 2, 1) := by decide +kernel
theorem dX11_stay_51 : decode (mcode mX11_stay) 51 = .ok (.tableswitch 48 0 2 #[25, 28, 38], 25) := by decide +kernel
theorem dX11_stay_76 : decode (mcode mX11_stay) 76 = .ok (.iload 4, 2) := by decide +kernel
theorem dX11_stay_78 : decode (mcode mX11_stay) 78 = .ok (.ireturn, 1) := by decide +kernel
theorem dX11_stay_79 : decode (mcode mX11_stay) 79 = .ok (.aload_n 0, 1) := by decide +kernel
theorem dX11_stay_80 : decode (mcode mX11_stay) 80 = .ok (.getfield 47, 3) := by decide +kernel
theorem dX11_stay_83 : decode (mcode mX11_stay) 83 = .ok (.iload_n 3, 1) := by decide +kernel
theorem dX11_stay_84 : decode (mcode mX11_stay) 84 = .ok (.iload_n 1, 1) := by decide +kernel
theorem dX11_stay_85 : decode (mcode mX11_stay) 85 = .ok (.invokevirtual 239, 3) := by decide +kernel
theorem dX11_stay_88 : decode (mcode mX11_stay) 88 = .ok (.ireturn, 1) := by decide +kernel
theorem dX11_stay_89 : decode (mcode mX11_stay) 89 = .ok (.aload_n 0, 1) := by decide +kernel
theorem dX11_stay_90 : decode (mcode mX11_stay) 90 = .ok (.getfield 26, 3) := by decide +kernel
theorem dX11_stay_93 : decode (mcode mX11_stay) 93 = .ok (.iload 4, 2) := by decide +kernel
theorem dX11_stay_95 : decode (mcode mX11_stay) 95 = .ok (.invokevirtual 242, 3) := by decide +kernel
theorem dX11_stay_98 : decode (mcode mX11_stay) 98 = .ok (.ireturn, 1) := by decide +kernel
theorem dX11_stay_99 : decode (mcode mX11_stay) 99 = .ok (.aload_n 0, 1) := by decide +kernel
theorem dX11_stay_100 : decode (mcode mX11_stay) 100 = .ok (.getfield 26, 3) := by decide +kernel
theorem dX11_stay_103 : decode (mcode mX11_stay) 103 = .ok (.aload_n 0, 1) := by decide +kernel
theorem dX11_stay_104 : decode (mcode mX11_stay) 104 = .ok (.getfield 47, 3) := by decide +kernel
theorem dX11_stay_107 : decode (mcode mX11_stay) 107 = .ok (.iload_n 3, 1) := by decide +kernel
theorem dX11_stay_108 : decode (mcode mX11_stay) 108 = .ok (.iload_n 1, 1) := by decide +kernel
theorem dX11_stay_109 : decode (mcode mX11_stay) 109 = .ok (.invokevirtual 239, 3) := by decide +kernel
theorem dX11_stay_112 : decode (mcode mX11_stay) 112 = .ok (.invokevirtual 245, 3) := by decide +kernel
theorem dX11_stay_115 : decode (mcode mX11_stay) 115 = .ok (.ireturn, 1) := by decide +kernel
theorem dX11_sure_0 : decode (mcode mX11_sure) 0 = .ok (.aload_n 0, 1) := by decide +kernel
theorem dX11_sure_1 : decode (mcode mX11_sure) 1 = .ok (.iload_n 1, 1) := by decide +kernel
theorem dX11_sure_2 : decode (mcode mX11_sure) 2 = .ok (.invokevirtual 154, 3) := by decide +kernel
theorem dX11_sure_5 : decode (mcode mX11_sure) 5 = .ok (.ifCond .ne 11, 3) := by decide +kernel
theorem dX11_sure_8 : decode (mcode mX11_sure) 8 = .ok (.aload_n 0, 1) := by decide +kernel
theorem dX11_sure_9 : decode (mcode mX11_sure) 9 = .ok (.iload_n 2, 1) := by decide +kernel
theorem dX11_sure_10 : decode (mcode mX11_sure) 10 = .ok (.invokevirtual 154, 3) := by decide +kernel
theorem dX11_sure_13 : decode (mcode mX11_sure) 13 = .ok (.ifCond .eq 9, 3) := by decide +kernel
theorem dX11_sure_16 : decode (mcode mX11_sure) 16 = .ok (.ldc2_w 227, 3) := by decide +kernel
theorem dX11_sure_19 : decode (mcode mX11_sure) 19 = .ok (.goto 13, 3) := by decide +kernel
theorem dX11_sure_22 : decode (mcode mX11_sure) 22 = .ok (.aload_n 0, 1) := by decide +kernel
theorem dX11_sure_23 : decode (mcode mX11_sure) 23 = .ok (.getfield 69, 3) := by decide +kernel
theorem dX11_sure_26 : decode (mcode mX11_sure) 26 = .ok (.iload_n 1, 1) := by decide +kernel
theorem dX11_sure_27 : decode (mcode mX11_sure) 27 = .ok (.iload_n 2, 1) := by decide +kernel
theorem dX11_sure_28 : decode (mcode mX11_sure) 28 = .ok (.invokevirtual 232, 3) := by decide +kernel
theorem dX11_sure_31 : decode (mcode mX11_sure) 31 = .ok (.i2l, 1) := by decide +kernel
theorem dX11_sure_32 : decode (mcode mX11_sure) 32 = .ok (.lreturn, 1) := by decide +kernel
theorem dX11_read_0 : decode (mcode mX11_read) 0 = .ok (.aload_n 0, 1) := by decide +kernel
theorem dX11_read_1 : decode (mcode mX11_read) 1 = .ok (.getfield 60, 3) := by decide +kernel
theorem dX11_read_4 : decode (mcode mX11_read) 4 = .ok (.invokevirtual 134, 3) := by decide +kernel
theorem dX11_read_7 : decode (mcode mX11_read) 7 = .ok (.istore_n 1, 1) := by decide +kernel
theorem dX11_read_8 : decode (mcode mX11_read) 8 = .ok (.aload_n 0, 1) := by decide +kernel
theorem dX11_read_9 : decode (mcode mX11_read) 9 = .ok (.getfield 19, 3) := by decide +kernel
theorem dX11_read_12 : decode (mcode mX11_read) 12 = .ok (.iconst 0, 1) := by decide +kernel
theorem dX11_read_13 : decode (mcode mX11_read) 13 = .ok (.putfield 125, 3) := by decide +kernel
theorem dX11_read_16 : decode (mcode mX11_read) 16 = .ok (.iload_n 1, 1) := by decide +kernel
theorem dX11_read_17 : decode (mcode mX11_read) 17 = .ok (.ifCond .ne 25, 3) := by decide +kernel
theorem dX11_read_20 : decode (mcode mX11_read) 20 = .ok (.aload_n 0, 1) := by decide +kernel
theorem dX11_read_21 : decode (mcode mX11_read) 21 = .ok (.aload_n 0, 1) := by decide +kernel
theorem dX11_read_22 : decode (mcode mX11_read) 22 = .ok (.getfield 60, 3) := by decide +kernel
theorem dX11_read_25 : decode (mcode mX11_read) 25 = .ok (.getfield 138, 3) := by decide +kernel
theorem dX11_read_28 : decode (mcode mX11_read) 28 = .ok (.putfield 141, 3) := by decide +kernel
theorem dX11_read_31 : decode (mcode mX11_read) 31 = .ok (.ldc 144, 2) := by decide +kernel
theorem dX11_read_33 : decode (mcode mX11_read) 33 = .ok (.aload_n 0, 1) := by decide +kernel
theorem dX11_read_34 : decode (mcode mX11_read) 34 = .ok (.getfield 60, 3) := by decide +kernel
theorem dX11_read_37 : decode (mcode mX11_read) 37 = .ok (.getfield 145, 3) := by decide +kernel
theorem dX11_read_40 : decode (mcode mX11_read) 40 = .ok (.isub, 1) := by decide +kernel
theorem dX11_read_41 : decode (mcode mX11_read) 41 = .ok (.ireturn, 1) := by decide +kernel
theorem dX11_read_42 : decode (mcode mX11_read) 42 = .ok (.aload_n 0, 1) := by decide +kernel
theorem dX11_read_43 : decode (mcode mX11_read) 43 = .ok (.invokevirtual 148, 3) := by decide +kernel
theorem dX11_read_46 : decode (mcode mX11_read) 46 = .ok (.aload_n 0, 1) := by decide +kernel
theorem dX11_read_47 : decode (mcode mX11_read) 47 = .ok (.getfield 47, 3) := by decide +kernel
theorem dX11_read_50 : decode (mcode mX11_read) 50 = .ok (.getfield 151, 3) := by decide +kernel
theorem dX11_read_53 : decode (mcode mX11_read) 53 = .ok (.ireturn, 1) := by decide +kernel

theorem dX0_init_0 : decode cX0_init 0 = .ok (.aload_n 0, 1) := by decide +kernel
theorem dX0_init_1 : decode cX0_init 1 = .ok (.invokespecial 1, 3) := by decide +kernel
theorem dX0_init_4 : decode cX0_init 4 = .ok (.aload_n 0, 1) := by decide +kernel
theorem dX0_init_5 : decode cX0_init 5 = .ok (.new 7, 3) := by decide +kernel
theorem dX0_init_8 : decode cX0_init 8 = .ok (.dup, 1) := by decide +kernel
theorem dX0_init_9 : decode cX0_init 9 = .ok (.invokespecial 9, 3) := by decide +kernel
theorem dX0_init_12 : decode cX0_init 12 = .ok (.putfield 10, 3) := by decide +kernel
theorem dX0_init_15 : decode cX0_init 15 = .ok (.return_, 1) := by decide +kernel
theorem dX0_size_0 : decode cX0_size 0 = .ok (.aload_n 0, 1) := by decide +kernel
theorem dX0_size_1 : decode cX0_size 1 = .ok (.getfield 10, 3) := by decide +kernel
theorem dX0_size_4 : decode cX0_size 4 = .ok (.invokevirtual 16, 3) := by decide +kernel
theorem dX0_size_7 : decode cX0_size 7 = .ok (.ireturn, 1) := by decide +kernel
theorem dX0_hadAmong_0 : decode cX0_hadAmong 0 = .ok (.iconst 0, 1) := by decide +kernel
theorem dX0_hadAmong_1 : decode cX0_hadAmong 1 = .ok (.istore 4, 2) := by decide +kernel
theorem dX0_hadAmong_3 : decode cX0_hadAmong 3 = .ok (.iload 4, 2) := by decide +kernel
theorem dX0_hadAmong_5 : decode cX0_hadAmong 5 = .ok (.iload_n 1, 1) := by decide +kernel
theorem dX0_hadAmong_6 : decode cX0_hadAmong 6 = .ok (.if_icmp .ge 58, 3) := by decide +kernel
theorem dX0_hadAmong_9 : decode cX0_hadAmong 9 = .ok (.iload 4, 2) := by decide +kernel
theorem dX0_hadAmong_11 : decode cX0_hadAmong 11 = .ok (.aload_n 0, 1) := by decide +kernel
theorem dX0_hadAmong_12 : decode cX0_hadAmong 12 = .ok (.getfield 10, 3) := by decide +kernel
theorem dX0_hadAmong_15 : decode cX0_hadAmong 15 = .ok (.invokevirtual 16, 3) := by decide +kernel
theorem dX0_hadAmong_18 : decode cX0_hadAmong 18 = .ok (.if_icmp .ge 46, 3) := by decide +kernel
theorem dX0_hadAmong_21 : decode cX0_hadAmong 21 = .ok (.aload_n 0, 1) := by decide +kernel
theorem dX0_hadAmong_22 : decode cX0_hadAmong 22 = .ok (.getfield 10, 3) := by decide +kernel
theorem dX0_hadAmong_25 : decode cX0_hadAmong 25 = .ok (.iload 4, 2) := by decide +kernel
theorem dX0_hadAmong_27 : decode cX0_hadAmong 27 = .ok (.invokevirtual 20, 3) := by decide +kernel
theorem dX0_hadAmong_30 : decode cX0_hadAmong 30 = .ok (.checkcast 24, 3) := by decide +kernel
theorem dX0_hadAmong_33 : decode cX0_hadAmong 33 = .ok (.astore 5, 2) := by decide +kernel
theorem dX0_hadAmong_35 : decode cX0_hadAmong 35 = .ok (.aload 5, 2) := by decide +kernel
theorem dX0_hadAmong_37 : decode cX0_hadAmong 37 = .ok (.getfield 26, 3) := by decide +kernel
theorem dX0_hadAmong_40 : decode cX0_hadAmong 40 = .ok (.iload_n 2, 1) := by decide +kernel
theorem dX0_hadAmong_41 : decode cX0_hadAmong 41 = .ok (.if_icmp .ne 17, 3) := by decide +kernel
theorem dX0_hadAmong_44 : decode cX0_hadAmong 44 = .ok (.aload 5, 2) := by decide +kernel
theorem dX0_hadAmong_46 : decode cX0_hadAmong 46 = .ok (.getfield 30, 3) := by decide +kernel
theorem dX0_hadAmong_49 : decode cX0_hadAmong 49 = .ok (.aload_n 3, 1) := by decide +kernel
theorem dX0_hadAmong_50 : decode cX0_hadAmong 50 = .ok (.invokevirtual 34, 3) := by decide +kernel
theorem dX0_hadAmong_53 : decode cX0_hadAmong 53 = .ok (.ifCond .eq 5, 3) := by decide +kernel
theorem dX0_hadAmong_56 : decode cX0_hadAmong 56 = .ok (.iconst 1, 1) := by decide +kernel
theorem dX0_hadAmong_57 : decode cX0_hadAmong 57 = .ok (.ireturn, 1) := by decide +kernel
theorem dX0_hadAmong_58 : decode cX0_hadAmong 58 = .ok (.iinc 4 1, 3) := by decide +kernel
theorem dX0_hadAmong_61 : decode cX0_hadAmong 61 = .ok (.goto (-58), 3) := by decide +kernel
theorem dX0_hadAmong_64 : decode cX0_hadAmong 64 = .ok (.iconst 0, 1) := by decide +kernel
theorem dX0_hadAmong_65 : decode cX0_hadAmong 65 = .ok (.ireturn, 1) := by decide +kernel
theorem dX0_has_0 : decode cX0_has 0 = .ok (.aload_n 0, 1) := by decide +kernel
theorem dX0_has_1 : decode cX0_has 1 = .ok (.aload_n 0, 1) := by decide +kernel
theorem dX0_has_2 : decode cX0_has 2 = .ok (.getfield 10, 3) := by decide +kernel
theorem dX0_has_5 : decode cX0_has 5 = .ok (.invokevirtual 16, 3) := by decide +kernel
theorem dX0_has_8 : decode cX0_has 8 = .ok (.iload_n 1, 1) := by decide +kernel
theorem dX0_has_9 : decode cX0_has 9 = .ok (.aload_n 2, 1) := by decide +kernel
theorem dX0_has_10 : decode cX0_has 10 = .ok (.invokevirtual 40, 3) := by decide +kernel
theorem dX0_has_13 : decode cX0_has 13 = .ok (.ireturn, 1) := by decide +kernel
theorem dX0_hasAnyOf_0 : decode cX0_hasAnyOf 0 = .ok (.iconst 0, 1) := by decide +kernel
theorem dX0_hasAnyOf_1 : decode cX0_hasAnyOf 1 = .ok (.istore_n 2, 1) := by decide +kernel
theorem dX0_hasAnyOf_2 : decode cX0_hasAnyOf 2 = .ok (.iload_n 2, 1) := by decide +kernel
theorem dX0_hasAnyOf_3 : decode cX0_hasAnyOf 3 = .ok (.aload_n 0, 1) := by decide +kernel
theorem dX0_hasAnyOf_4 : decode cX0_hasAnyOf 4 = .ok (.getfield 10, 3) := by decide +kernel
theorem dX0_hasAnyOf_7 : decode cX0_hasAnyOf 7 = .ok (.invokevirtual 16, 3) := by decide +kernel
theorem dX0_hasAnyOf_10 : decode cX0_hasAnyOf 10 = .ok (.if_icmp .ge 29, 3) := by decide +kernel
theorem dX0_hasAnyOf_13 : decode cX0_hasAnyOf 13 = .ok (.aload_n 0, 1) := by decide +kernel
theorem dX0_hasAnyOf_14 : decode cX0_hasAnyOf 14 = .ok (.getfield 10, 3) := by decide +kernel
theorem dX0_hasAnyOf_17 : decode cX0_hasAnyOf 17 = .ok (.iload_n 2, 1) := by decide +kernel
theorem dX0_hasAnyOf_18 : decode cX0_hasAnyOf 18 = .ok (.invokevirtual 20, 3) := by decide +kernel
theorem dX0_hasAnyOf_21 : decode cX0_hasAnyOf 21 = .ok (.checkcast 24, 3) := by decide +kernel
theorem dX0_hasAnyOf_24 : decode cX0_hasAnyOf 24 = .ok (.getfield 26, 3) := by decide +kernel
theorem dX0_hasAnyOf_27 : decode cX0_hasAnyOf 27 = .ok (.iload_n 1, 1) := by decide +kernel
theorem dX0_hasAnyOf_28 : decode cX0_hasAnyOf 28 = .ok (.if_icmp .ne 5, 3) := by decide +kernel
theorem dX0_hasAnyOf_31 : decode cX0_hasAnyOf 31 = .ok (.iconst 1, 1) := by decide +kernel
theorem dX0_hasAnyOf_32 : decode cX0_hasAnyOf 32 = .ok (.ireturn, 1) := by decide +kernel
theorem dX0_hasAnyOf_33 : decode cX0_hasAnyOf 33 = .ok (.iinc 2 1, 3) := by decide +kernel
theorem dX0_hasAnyOf_36 : decode cX0_hasAnyOf 36 = .ok (.goto (-34), 3) := by decide +kernel
theorem dX0_hasAnyOf_39 : decode cX0_hasAnyOf 39 = .ok (.iconst 0, 1) := by decide +kernel
theorem dX0_hasAnyOf_40 : decode cX0_hasAnyOf 40 = .ok (.ireturn, 1) := by decide +kernel
theorem dX0_hasRefunded_0 : decode cX0_hasRefunded 0 = .ok (.iconst 0, 1) := by decide +kernel
theorem dX0_hasRefunded_1 : decode cX0_hasRefunded 1 = .ok (.istore_n 2, 1) := by decide +kernel
theorem dX0_hasRefunded_2 : decode cX0_hasRefunded 2 = .ok (.iload_n 2, 1) := by decide +kernel
theorem dX0_hasRefunded_3 : decode cX0_hasRefunded 3 = .ok (.aload_n 0, 1) := by decide +kernel
theorem dX0_hasRefunded_4 : decode cX0_hasRefunded 4 = .ok (.getfield 10, 3) := by decide +kernel
theorem dX0_hasRefunded_7 : decode cX0_hasRefunded 7 = .ok (.invokevirtual 16, 3) := by decide +kernel
theorem dX0_hasRefunded_10 : decode cX0_hasRefunded 10 = .ok (.if_icmp .ge 41, 3) := by decide +kernel
theorem dX0_hasRefunded_13 : decode cX0_hasRefunded 13 = .ok (.aload_n 0, 1) := by decide +kernel
theorem dX0_hasRefunded_14 : decode cX0_hasRefunded 14 = .ok (.getfield 10, 3) := by decide +kernel
theorem dX0_hasRefunded_17 : decode cX0_hasRefunded 17 = .ok (.iload_n 2, 1) := by decide +kernel
theorem dX0_hasRefunded_18 : decode cX0_hasRefunded 18 = .ok (.invokevirtual 20, 3) := by decide +kernel
theorem dX0_hasRefunded_21 : decode cX0_hasRefunded 21 = .ok (.checkcast 24, 3) := by decide +kernel
theorem dX0_hasRefunded_24 : decode cX0_hasRefunded 24 = .ok (.astore_n 3, 1) := by decide +kernel
theorem dX0_hasRefunded_25 : decode cX0_hasRefunded 25 = .ok (.aload_n 3, 1) := by decide +kernel
theorem dX0_hasRefunded_26 : decode cX0_hasRefunded 26 = .ok (.getfield 44, 3) := by decide +kernel
theorem dX0_hasRefunded_29 : decode cX0_hasRefunded 29 = .ok (.ifCond .eq 16, 3) := by decide +kernel
theorem dX0_hasRefunded_32 : decode cX0_hasRefunded 32 = .ok (.aload_n 3, 1) := by decide +kernel
theorem dX0_hasRefunded_33 : decode cX0_hasRefunded 33 = .ok (.getfield 30, 3) := by decide +kernel
theorem dX0_hasRefunded_36 : decode cX0_hasRefunded 36 = .ok (.aload_n 1, 1) := by decide +kernel
theorem dX0_hasRefunded_37 : decode cX0_hasRefunded 37 = .ok (.invokevirtual 34, 3) := by decide +kernel
theorem dX0_hasRefunded_40 : decode cX0_hasRefunded 40 = .ok (.ifCond .eq 5, 3) := by decide +kernel
theorem dX0_hasRefunded_43 : decode cX0_hasRefunded 43 = .ok (.iconst 1, 1) := by decide +kernel
theorem dX0_hasRefunded_44 : decode cX0_hasRefunded 44 = .ok (.ireturn, 1) := by decide +kernel
theorem dX0_hasRefunded_45 : decode cX0_hasRefunded 45 = .ok (.iinc 2 1, 3) := by decide +kernel
theorem dX0_hasRefunded_48 : decode cX0_hasRefunded 48 = .ok (.goto (-46), 3) := by decide +kernel
theorem dX0_hasRefunded_51 : decode cX0_hasRefunded 51 = .ok (.iconst 0, 1) := by decide +kernel
theorem dX0_hasRefunded_52 : decode cX0_hasRefunded 52 = .ok (.ireturn, 1) := by decide +kernel
theorem dX0_markRefunded_0 : decode cX0_markRefunded 0 = .ok (.iconst 0, 1) := by decide +kernel
theorem dX0_markRefunded_1 : decode cX0_markRefunded 1 = .ok (.istore_n 2, 1) := by decide +kernel
theorem dX0_markRefunded_2 : decode cX0_markRefunded 2 = .ok (.iload_n 2, 1) := by decide +kernel
theorem dX0_markRefunded_3 : decode cX0_markRefunded 3 = .ok (.aload_n 0, 1) := by decide +kernel
theorem dX0_markRefunded_4 : decode cX0_markRefunded 4 = .ok (.getfield 10, 3) := by decide +kernel
theorem dX0_markRefunded_7 : decode cX0_markRefunded 7 = .ok (.invokevirtual 16, 3) := by decide +kernel
theorem dX0_markRefunded_10 : decode cX0_markRefunded 10 = .ok (.if_icmp .ge 37, 3) := by decide +kernel
theorem dX0_markRefunded_13 : decode cX0_markRefunded 13 = .ok (.aload_n 0, 1) := by decide +kernel
theorem dX0_markRefunded_14 : decode cX0_markRefunded 14 = .ok (.getfield 10, 3) := by decide +kernel
theorem dX0_markRefunded_17 : decode cX0_markRefunded 17 = .ok (.iload_n 2, 1) := by decide +kernel
theorem dX0_markRefunded_18 : decode cX0_markRefunded 18 = .ok (.invokevirtual 20, 3) := by decide +kernel
theorem dX0_markRefunded_21 : decode cX0_markRefunded 21 = .ok (.checkcast 24, 3) := by decide +kernel
theorem dX0_markRefunded_24 : decode cX0_markRefunded 24 = .ok (.astore_n 3, 1) := by decide +kernel
theorem dX0_markRefunded_25 : decode cX0_markRefunded 25 = .ok (.aload_n 3, 1) := by decide +kernel
theorem dX0_markRefunded_26 : decode cX0_markRefunded 26 = .ok (.getfield 30, 3) := by decide +kernel
theorem dX0_markRefunded_29 : decode cX0_markRefunded 29 = .ok (.aload_n 1, 1) := by decide +kernel
theorem dX0_markRefunded_30 : decode cX0_markRefunded 30 = .ok (.invokevirtual 34, 3) := by decide +kernel
theorem dX0_markRefunded_33 : decode cX0_markRefunded 33 = .ok (.ifCond .eq 8, 3) := by decide +kernel
theorem dX0_markRefunded_36 : decode cX0_markRefunded 36 = .ok (.aload_n 3, 1) := by decide +kernel
theorem dX0_markRefunded_37 : decode cX0_markRefunded 37 = .ok (.iconst 1, 1) := by decide +kernel
theorem dX0_markRefunded_38 : decode cX0_markRefunded 38 = .ok (.putfield 44, 3) := by decide +kernel
theorem dX0_markRefunded_41 : decode cX0_markRefunded 41 = .ok (.iinc 2 1, 3) := by decide +kernel
theorem dX0_markRefunded_44 : decode cX0_markRefunded 44 = .ok (.goto (-42), 3) := by decide +kernel
theorem dX0_markRefunded_47 : decode cX0_markRefunded 47 = .ok (.return_, 1) := by decide +kernel
theorem dX0_takeRecord_0 : decode cX0_takeRecord 0 = .ok (.aload_n 0, 1) := by decide +kernel
theorem dX0_takeRecord_1 : decode cX0_takeRecord 1 = .ok (.iload_n 1, 1) := by decide +kernel
theorem dX0_takeRecord_2 : decode cX0_takeRecord 2 = .ok (.aload_n 2, 1) := by decide +kernel
theorem dX0_takeRecord_3 : decode cX0_takeRecord 3 = .ok (.invokevirtual 48, 3) := by decide +kernel
theorem dX0_takeRecord_6 : decode cX0_takeRecord 6 = .ok (.ifCond .eq 5, 3) := by decide +kernel
theorem dX0_takeRecord_9 : decode cX0_takeRecord 9 = .ok (.iconst 0, 1) := by decide +kernel
theorem dX0_takeRecord_10 : decode cX0_takeRecord 10 = .ok (.ireturn, 1) := by decide +kernel
theorem dX0_takeRecord_11 : decode cX0_takeRecord 11 = .ok (.aload_n 0, 1) := by decide +kernel
theorem dX0_takeRecord_12 : decode cX0_takeRecord 12 = .ok (.getfield 10, 3) := by decide +kernel
theorem dX0_takeRecord_15 : decode cX0_takeRecord 15 = .ok (.new 24, 3) := by decide +kernel
theorem dX0_takeRecord_18 : decode cX0_takeRecord 18 = .ok (.dup, 1) := by decide +kernel
theorem dX0_takeRecord_19 : decode cX0_takeRecord 19 = .ok (.iload_n 1, 1) := by decide +kernel
theorem dX0_takeRecord_20 : decode cX0_takeRecord 20 = .ok (.aload_n 2, 1) := by decide +kernel
theorem dX0_takeRecord_21 : decode cX0_takeRecord 21 = .ok (.invokespecial 52, 3) := by decide +kernel
theorem dX0_takeRecord_24 : decode cX0_takeRecord 24 = .ok (.invokevirtual 55, 3) := by decide +kernel
theorem dX0_takeRecord_27 : decode cX0_takeRecord 27 = .ok (.pop, 1) := by decide +kernel
theorem dX0_takeRecord_28 : decode cX0_takeRecord 28 = .ok (.iconst 1, 1) := by decide +kernel
theorem dX0_takeRecord_29 : decode cX0_takeRecord 29 = .ok (.ireturn, 1) := by decide +kernel
theorem dX1_init_0 : decode cX1_init 0 = .ok (.aload_n 0, 1) := by decide +kernel
theorem dX1_init_1 : decode cX1_init 1 = .ok (.invokespecial 1, 3) := by decide +kernel
theorem dX1_init_4 : decode cX1_init 4 = .ok (.aload_n 0, 1) := by decide +kernel
theorem dX1_init_5 : decode cX1_init 5 = .ok (.iload_n 1, 1) := by decide +kernel
theorem dX1_init_6 : decode cX1_init 6 = .ok (.putfield 7, 3) := by decide +kernel
theorem dX1_init_9 : decode cX1_init 9 = .ok (.aload_n 0, 1) := by decide +kernel
theorem dX1_init_10 : decode cX1_init 10 = .ok (.aload_n 2, 1) := by decide +kernel
theorem dX1_init_11 : decode cX1_init 11 = .ok (.putfield 13, 3) := by decide +kernel
theorem dX1_init_14 : decode cX1_init 14 = .ok (.return_, 1) := by decide +kernel
theorem dX2_init_0 : decode cX2_init 0 = .ok (.aload_n 0, 1) := by decide +kernel
theorem dX2_init_1 : decode cX2_init 1 = .ok (.invokespecial 1, 3) := by decide +kernel
theorem dX2_init_4 : decode cX2_init 4 = .ok (.aload_n 0, 1) := by decide +kernel
theorem dX2_init_5 : decode cX2_init 5 = .ok (.iload_n 1, 1) := by decide +kernel
theorem dX2_init_6 : decode cX2_init 6 = .ok (.putfield 7, 3) := by decide +kernel
theorem dX2_init_9 : decode cX2_init 9 = .ok (.aload_n 0, 1) := by decide +kernel
theorem dX2_init_10 : decode cX2_init 10 = .ok (.iload_n 2, 1) := by decide +kernel
theorem dX2_init_11 : decode cX2_init 11 = .ok (.putfield 13, 3) := by decide +kernel
theorem dX2_init_14 : decode cX2_init 14 = .ok (.aload_n 0, 1) := by decide +kernel
theorem dX2_init_15 : decode cX2_init 15 = .ok (.aload_n 3, 1) := by decide +kernel
theorem dX2_init_16 : decode cX2_init 16 = .ok (.putfield 16, 3) := by decide +kernel
theorem dX2_init_19 : decode cX2_init 19 = .ok (.aload_n 0, 1) := by decide +kernel
theorem dX2_init_20 : decode cX2_init 20 = .ok (.iload 4, 2) := by decide +kernel
theorem dX2_init_22 : decode cX2_init 22 = .ok (.putfield 20, 3) := by decide +kernel
theorem dX2_init_25 : decode cX2_init 25 = .ok (.aload_n 0, 1) := by decide +kernel
theorem dX2_init_26 : decode cX2_init 26 = .ok (.iload 5, 2) := by decide +kernel
theorem dX2_init_28 : decode cX2_init 28 = .ok (.putfield 23, 3) := by decide +kernel
theorem dX2_init_31 : decode cX2_init 31 = .ok (.return_, 1) := by decide +kernel
theorem dX3_init_0 : decode cX3_init 0 = .ok (.aload_n 0, 1) := by decide +kernel
theorem dX3_init_1 : decode cX3_init 1 = .ok (.invokespecial 3, 3) := by decide +kernel
theorem dX3_init_4 : decode cX3_init 4 = .ok (.aload_n 0, 1) := by decide +kernel
theorem dX3_init_5 : decode cX3_init 5 = .ok (.iload_n 1, 1) := by decide +kernel
theorem dX3_init_6 : decode cX3_init 6 = .ok (.putfield 9, 3) := by decide +kernel
theorem dX3_init_9 : decode cX3_init 9 = .ok (.aload_n 0, 1) := by decide +kernel
theorem dX3_init_10 : decode cX3_init 10 = .ok (.iload_n 2, 1) := by decide +kernel
theorem dX3_init_11 : decode cX3_init 11 = .ok (.putfield 15, 3) := by decide +kernel
theorem dX3_init_14 : decode cX3_init 14 = .ok (.aload_n 0, 1) := by decide +kernel
theorem dX3_init_15 : decode cX3_init 15 = .ok (.aload_n 3, 1) := by decide +kernel
theorem dX3_init_16 : decode cX3_init 16 = .ok (.putfield 18, 3) := by decide +kernel
theorem dX3_init_19 : decode cX3_init 19 = .ok (.aload_n 0, 1) := by decide +kernel
theorem dX3_init_20 : decode cX3_init 20 = .ok (.new 22, 3) := by decide +kernel
theorem dX3_init_23 : decode cX3_init 23 = .ok (.dup, 1) := by decide +kernel
theorem dX3_init_24 : decode cX3_init 24 = .ok (.invokespecial 24, 3) := by decide +kernel
theorem dX3_init_27 : decode cX3_init 27 = .ok (.putfield 25, 3) := by decide +kernel
theorem dX3_init_30 : decode cX3_init 30 = .ok (.aload_n 0, 1) := by decide +kernel
theorem dX3_init_31 : decode cX3_init 31 = .ok (.iconst 1, 1) := by decide +kernel
theorem dX3_init_32 : decode cX3_init 32 = .ok (.putfield 29, 3) := by decide +kernel
theorem dX3_init_35 : decode cX3_init 35 = .ok (.aload_n 0, 1) := by decide +kernel
theorem dX3_init_36 : decode cX3_init 36 = .ok (.iconst 0, 1) := by decide +kernel
theorem dX3_init_37 : decode cX3_init 37 = .ok (.putfield 32, 3) := by decide +kernel
theorem dX3_init_40 : decode cX3_init 40 = .ok (.aload_n 0, 1) := by decide +kernel
theorem dX3_init_41 : decode cX3_init 41 = .ok (.aload_n 3, 1) := by decide +kernel
theorem dX3_init_42 : decode cX3_init 42 = .ok (.putfield 35, 3) := by decide +kernel
theorem dX3_init_45 : decode cX3_init 45 = .ok (.return_, 1) := by decide +kernel
theorem dX3_logIsFull_0 : decode cX3_logIsFull 0 = .ok (.aload_n 0, 1) := by decide +kernel
theorem dX3_logIsFull_1 : decode cX3_logIsFull 1 = .ok (.getfield 25, 3) := by decide +kernel
theorem dX3_logIsFull_4 : decode cX3_logIsFull 4 = .ok (.invokevirtual 38, 3) := by decide +kernel
theorem dX3_logIsFull_7 : decode cX3_logIsFull 7 = .ok (.iconst 5, 1) := by decide +kernel
theorem dX3_logIsFull_8 : decode cX3_logIsFull 8 = .ok (.if_icmp .lt 7, 3) := by decide +kernel
theorem dX3_logIsFull_11 : decode cX3_logIsFull 11 = .ok (.iconst 1, 1) := by decide +kernel
theorem dX3_logIsFull_12 : decode cX3_logIsFull 12 = .ok (.goto 4, 3) := by decide +kernel
theorem dX3_logIsFull_15 : decode cX3_logIsFull 15 = .ok (.iconst 0, 1) := by decide +kernel
theorem dX3_logIsFull_16 : decode cX3_logIsFull 16 = .ok (.ireturn, 1) := by decide +kernel
theorem dX3_does_0 : decode cX3_does 0 = .ok (.aload_n 0, 1) := by decide +kernel
theorem dX3_does_1 : decode cX3_does 1 = .ok (.getfield 32, 3) := by decide +kernel
theorem dX3_does_4 : decode cX3_does 4 = .ok (.iload_n 1, 1) := by decide +kernel
theorem dX3_does_5 : decode cX3_does 5 = .ok (.if_icmp .ne 18, 3) := by decide +kernel
theorem dX3_does_8 : decode cX3_does 8 = .ok (.aload_n 0, 1) := by decide +kernel
theorem dX3_does_9 : decode cX3_does 9 = .ok (.getfield 35, 3) := by decide +kernel
theorem dX3_does_12 : decode cX3_does 12 = .ok (.aload_n 2, 1) := by decide +kernel
theorem dX3_does_13 : decode cX3_does 13 = .ok (.invokevirtual 42, 3) := by decide +kernel
theorem dX3_does_16 : decode cX3_does 16 = .ok (.ifCond .eq 7, 3) := by decide +kernel
theorem dX3_does_19 : decode cX3_does 19 = .ok (.iconst 1, 1) := by decide +kernel
theorem dX3_does_20 : decode cX3_does 20 = .ok (.goto 4, 3) := by decide +kernel
theorem dX3_does_23 : decode cX3_does 23 = .ok (.iconst 0, 1) := by decide +kernel
theorem dX3_does_24 : decode cX3_does 24 = .ok (.ireturn, 1) := by decide +kernel
theorem dX3_hasKept_0 : decode cX3_hasKept 0 = .ok (.iconst 0, 1) := by decide +kernel
theorem dX3_hasKept_1 : decode cX3_hasKept 1 = .ok (.istore_n 2, 1) := by decide +kernel
theorem dX3_hasKept_2 : decode cX3_hasKept 2 = .ok (.iload_n 2, 1) := by decide +kernel
theorem dX3_hasKept_3 : decode cX3_hasKept 3 = .ok (.aload_n 0, 1) := by decide +kernel
theorem dX3_hasKept_4 : decode cX3_hasKept 4 = .ok (.getfield 25, 3) := by decide +kernel
theorem dX3_hasKept_7 : decode cX3_hasKept 7 = .ok (.invokevirtual 38, 3) := by decide +kernel
theorem dX3_hasKept_10 : decode cX3_hasKept 10 = .ok (.if_icmp .ge 29, 3) := by decide +kernel
theorem dX3_hasKept_13 : decode cX3_hasKept 13 = .ok (.aload_n 0, 1) := by decide +kernel
theorem dX3_hasKept_14 : decode cX3_hasKept 14 = .ok (.getfield 25, 3) := by decide +kernel
theorem dX3_hasKept_17 : decode cX3_hasKept 17 = .ok (.iload_n 2, 1) := by decide +kernel
theorem dX3_hasKept_18 : decode cX3_hasKept 18 = .ok (.invokevirtual 48, 3) := by decide +kernel
theorem dX3_hasKept_21 : decode cX3_hasKept 21 = .ok (.checkcast 43, 3) := by decide +kernel
theorem dX3_hasKept_24 : decode cX3_hasKept 24 = .ok (.aload_n 1, 1) := by decide +kernel
theorem dX3_hasKept_25 : decode cX3_hasKept 25 = .ok (.invokevirtual 42, 3) := by decide +kernel
theorem dX3_hasKept_28 : decode cX3_hasKept 28 = .ok (.ifCond .eq 5, 3) := by decide +kernel
theorem dX3_hasKept_31 : decode cX3_hasKept 31 = .ok (.iconst 1, 1) := by decide +kernel
theorem dX3_hasKept_32 : decode cX3_hasKept 32 = .ok (.ireturn, 1) := by decide +kernel
theorem dX3_hasKept_33 : decode cX3_hasKept 33 = .ok (.iinc 2 1, 3) := by decide +kernel
theorem dX3_hasKept_36 : decode cX3_hasKept 36 = .ok (.goto (-34), 3) := by decide +kernel
theorem dX3_hasKept_39 : decode cX3_hasKept 39 = .ok (.iconst 0, 1) := by decide +kernel
theorem dX3_hasKept_40 : decode cX3_hasKept 40 = .ok (.ireturn, 1) := by decide +kernel
theorem dX3_start_0 : decode cX3_start 0 = .ok (.aload_n 0, 1) := by decide +kernel
theorem dX3_start_1 : decode cX3_start 1 = .ok (.iload_n 1, 1) := by decide +kernel
theorem dX3_start_2 : decode cX3_start 2 = .ok (.putfield 32, 3) := by decide +kernel
theorem dX3_start_5 : decode cX3_start 5 = .ok (.aload_n 0, 1) := by decide +kernel
theorem dX3_start_6 : decode cX3_start 6 = .ok (.aload_n 2, 1) := by decide +kernel
theorem dX3_start_7 : decode cX3_start 7 = .ok (.putfield 35, 3) := by decide +kernel
theorem dX3_start_10 : decode cX3_start 10 = .ok (.aload_n 0, 1) := by decide +kernel
theorem dX3_start_11 : decode cX3_start 11 = .ok (.dup, 1) := by decide +kernel
theorem dX3_start_12 : decode cX3_start 12 = .ok (.getfield 29, 3) := by decide +kernel
theorem dX3_start_15 : decode cX3_start 15 = .ok (.iconst 1, 1) := by decide +kernel
theorem dX3_start_16 : decode cX3_start 16 = .ok (.iadd, 1) := by decide +kernel
theorem dX3_start_17 : decode cX3_start 17 = .ok (.putfield 29, 3) := by decide +kernel
theorem dX3_start_20 : decode cX3_start 20 = .ok (.return_, 1) := by decide +kernel
theorem dX3_rest_0 : decode cX3_rest 0 = .ok (.aload_n 0, 1) := by decide +kernel
theorem dX3_rest_1 : decode cX3_rest 1 = .ok (.iconst 0, 1) := by decide +kernel
theorem dX3_rest_2 : decode cX3_rest 2 = .ok (.putfield 32, 3) := by decide +kernel
theorem dX3_rest_5 : decode cX3_rest 5 = .ok (.aload_n 0, 1) := by decide +kernel
theorem dX3_rest_6 : decode cX3_rest 6 = .ok (.aload_n 0, 1) := by decide +kernel
theorem dX3_rest_7 : decode cX3_rest 7 = .ok (.getfield 18, 3) := by decide +kernel
theorem dX3_rest_10 : decode cX3_rest 10 = .ok (.putfield 35, 3) := by decide +kernel
theorem dX3_rest_13 : decode cX3_rest 13 = .ok (.return_, 1) := by decide +kernel
theorem dX3_end_0 : decode cX3_end 0 = .ok (.aload_n 0, 1) := by decide +kernel
theorem dX3_end_1 : decode cX3_end 1 = .ok (.getfield 32, 3) := by decide +kernel
theorem dX3_end_4 : decode cX3_end 4 = .ok (.ifCond .ne 4, 3) := by decide +kernel
theorem dX3_end_7 : decode cX3_end 7 = .ok (.return_, 1) := by decide +kernel
theorem dX3_end_8 : decode cX3_end 8 = .ok (.aload_n 0, 1) := by decide +kernel
theorem dX3_end_9 : decode cX3_end 9 = .ok (.getfield 32, 3) := by decide +kernel
theorem dX3_end_12 : decode cX3_end 12 = .ok (.iconst 2, 1) := by decide +kernel
theorem dX3_end_13 : decode cX3_end 13 = .ok (.if_icmp .eq 11, 3) := by decide +kernel
theorem dX3_end_16 : decode cX3_end 16 = .ok (.aload_n 0, 1) := by decide +kernel
theorem dX3_end_17 : decode cX3_end 17 = .ok (.getfield 32, 3) := by decide +kernel
theorem dX3_end_20 : decode cX3_end 20 = .ok (.iconst 3, 1) := by decide +kernel
theorem dX3_end_21 : decode cX3_end 21 = .ok (.if_icmp .ne 15, 3) := by decide +kernel
theorem dX3_end_24 : decode cX3_end 24 = .ok (.aload_n 0, 1) := by decide +kernel
theorem dX3_end_25 : decode cX3_end 25 = .ok (.getfield 25, 3) := by decide +kernel
theorem dX3_end_28 : decode cX3_end 28 = .ok (.aload_n 0, 1) := by decide +kernel
theorem dX3_end_29 : decode cX3_end 29 = .ok (.getfield 35, 3) := by decide +kernel
theorem dX3_end_32 : decode cX3_end 32 = .ok (.invokevirtual 52, 3) := by decide +kernel
theorem dX3_end_35 : decode cX3_end 35 = .ok (.pop, 1) := by decide +kernel
theorem dX3_end_36 : decode cX3_end 36 = .ok (.aload_n 0, 1) := by decide +kernel
theorem dX3_end_37 : decode cX3_end 37 = .ok (.dup, 1) := by decide +kernel
theorem dX3_end_38 : decode cX3_end 38 = .ok (.getfield 29, 3) := by decide +kernel
theorem dX3_end_41 : decode cX3_end 41 = .ok (.iconst 1, 1) := by decide +kernel
theorem dX3_end_42 : decode cX3_end 42 = .ok (.iadd, 1) := by decide +kernel
theorem dX3_end_43 : decode cX3_end 43 = .ok (.putfield 29, 3) := by decide +kernel
theorem dX3_end_46 : decode cX3_end 46 = .ok (.aload_n 0, 1) := by decide +kernel
theorem dX3_end_47 : decode cX3_end 47 = .ok (.invokevirtual 56, 3) := by decide +kernel
theorem dX3_end_50 : decode cX3_end 50 = .ok (.return_, 1) := by decide +kernel
theorem dX4_init_0 : decode cX4_init 0 = .ok (.aload_n 0, 1) := by decide +kernel
theorem dX4_init_1 : decode cX4_init 1 = .ok (.invokespecial 1, 3) := by decide +kernel
theorem dX4_init_4 : decode cX4_init 4 = .ok (.aload_n 0, 1) := by decide +kernel
theorem dX4_init_5 : decode cX4_init 5 = .ok (.iload_n 1, 1) := by decide +kernel
theorem dX4_init_6 : decode cX4_init 6 = .ok (.putfield 7, 3) := by decide +kernel
theorem dX4_init_9 : decode cX4_init 9 = .ok (.aload_n 0, 1) := by decide +kernel
theorem dX4_init_10 : decode cX4_init 10 = .ok (.iload_n 2, 1) := by decide +kernel
theorem dX4_init_11 : decode cX4_init 11 = .ok (.putfield 13, 3) := by decide +kernel
theorem dX4_init_14 : decode cX4_init 14 = .ok (.aload_n 0, 1) := by decide +kernel
theorem dX4_init_15 : decode cX4_init 15 = .ok (.iload_n 3, 1) := by decide +kernel
theorem dX4_init_16 : decode cX4_init 16 = .ok (.putfield 16, 3) := by decide +kernel
theorem dX4_init_19 : decode cX4_init 19 = .ok (.aload_n 0, 1) := by decide +kernel
theorem dX4_init_20 : decode cX4_init 20 = .ok (.iload 4, 2) := by decide +kernel
theorem dX4_init_22 : decode cX4_init 22 = .ok (.putfield 19, 3) := by decide +kernel
theorem dX4_init_25 : decode cX4_init 25 = .ok (.aload_n 0, 1) := by decide +kernel
theorem dX4_init_26 : decode cX4_init 26 = .ok (.iload 5, 2) := by decide +kernel
theorem dX4_init_28 : decode cX4_init 28 = .ok (.putfield 22, 3) := by decide +kernel
theorem dX4_init_31 : decode cX4_init 31 = .ok (.return_, 1) := by decide +kernel
theorem dX4_same_0 : decode cX4_same 0 = .ok (.aload_n 0, 1) := by decide +kernel
theorem dX4_same_1 : decode cX4_same 1 = .ok (.getfield 7, 3) := by decide +kernel
theorem dX4_same_4 : decode cX4_same 4 = .ok (.aload_n 1, 1) := by decide +kernel
theorem dX4_same_5 : decode cX4_same 5 = .ok (.getfield 7, 3) := by decide +kernel
theorem dX4_same_8 : decode cX4_same 8 = .ok (.if_icmp .ne 51, 3) := by decide +kernel
theorem dX4_same_11 : decode cX4_same 11 = .ok (.aload_n 0, 1) := by decide +kernel
theorem dX4_same_12 : decode cX4_same 12 = .ok (.getfield 13, 3) := by decide +kernel
theorem dX4_same_15 : decode cX4_same 15 = .ok (.aload_n 1, 1) := by decide +kernel
theorem dX4_same_16 : decode cX4_same 16 = .ok (.getfield 13, 3) := by decide +kernel
theorem dX4_same_19 : decode cX4_same 19 = .ok (.if_icmp .ne 40, 3) := by decide +kernel
theorem dX4_same_22 : decode cX4_same 22 = .ok (.aload_n 0, 1) := by decide +kernel
theorem dX4_same_23 : decode cX4_same 23 = .ok (.getfield 16, 3) := by decide +kernel
theorem dX4_same_26 : decode cX4_same 26 = .ok (.aload_n 1, 1) := by decide +kernel
theorem dX4_same_27 : decode cX4_same 27 = .ok (.getfield 16, 3) := by decide +kernel
theorem dX4_same_30 : decode cX4_same 30 = .ok (.if_icmp .ne 29, 3) := by decide +kernel
theorem dX4_same_33 : decode cX4_same 33 = .ok (.aload_n 0, 1) := by decide +kernel
theorem dX4_same_34 : decode cX4_same 34 = .ok (.getfield 19, 3) := by decide +kernel
theorem dX4_same_37 : decode cX4_same 37 = .ok (.aload_n 1, 1) := by decide +kernel
theorem dX4_same_38 : decode cX4_same 38 = .ok (.getfield 19, 3) := by decide +kernel
theorem dX4_same_41 : decode cX4_same 41 = .ok (.if_icmp .ne 18, 3) := by decide +kernel
theorem dX4_same_44 : decode cX4_same 44 = .ok (.aload_n 0, 1) := by decide +kernel
theorem dX4_same_45 : decode cX4_same 45 = .ok (.getfield 22, 3) := by decide +kernel
theorem dX4_same_48 : decode cX4_same 48 = .ok (.aload_n 1, 1) := by decide +kernel
theorem dX4_same_49 : decode cX4_same 49 = .ok (.getfield 22, 3) := by decide +kernel
theorem dX4_same_52 : decode cX4_same 52 = .ok (.if_icmp .ne 7, 3) := by decide +kernel
theorem dX4_same_55 : decode cX4_same 55 = .ok (.iconst 1, 1) := by decide +kernel
theorem dX4_same_56 : decode cX4_same 56 = .ok (.goto 4, 3) := by decide +kernel
theorem dX4_same_59 : decode cX4_same 59 = .ok (.iconst 0, 1) := by decide +kernel
theorem dX4_same_60 : decode cX4_same 60 = .ok (.ireturn, 1) := by decide +kernel

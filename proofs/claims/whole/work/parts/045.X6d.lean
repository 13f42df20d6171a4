theorem dX6_init_0 : decode cX6_init 0 = .ok (.aload_n 0, 1) := by decide +kernel
theorem dX6_init_1 : decode cX6_init 1 = .ok (.invokespecial 1, 3) := by decide +kernel
theorem dX6_init_4 : decode cX6_init 4 = .ok (.aload_n 0, 1) := by decide +kernel
theorem dX6_init_5 : decode cX6_init 5 = .ok (.bipush 12, 2) := by decide +kernel
theorem dX6_init_7 : decode cX6_init 7 = .ok (.newarray .int, 2) := by decide +kernel
theorem dX6_init_9 : decode cX6_init 9 = .ok (.putfield 7, 3) := by decide +kernel
theorem dX6_init_12 : decode cX6_init 12 = .ok (.aload_n 0, 1) := by decide +kernel
theorem dX6_init_13 : decode cX6_init 13 = .ok (.bipush 12, 2) := by decide +kernel
theorem dX6_init_15 : decode cX6_init 15 = .ok (.newarray .int, 2) := by decide +kernel
theorem dX6_init_17 : decode cX6_init 17 = .ok (.putfield 13, 3) := by decide +kernel
theorem dX6_init_20 : decode cX6_init 20 = .ok (.aload_n 0, 1) := by decide +kernel
theorem dX6_init_21 : decode cX6_init 21 = .ok (.bipush 12, 2) := by decide +kernel
theorem dX6_init_23 : decode cX6_init 23 = .ok (.newarray .int, 2) := by decide +kernel
theorem dX6_init_25 : decode cX6_init 25 = .ok (.putfield 16, 3) := by decide +kernel
theorem dX6_init_28 : decode cX6_init 28 = .ok (.aload_n 0, 1) := by decide +kernel
theorem dX6_init_29 : decode cX6_init 29 = .ok (.bipush 12, 2) := by decide +kernel
theorem dX6_init_31 : decode cX6_init 31 = .ok (.newarray .int, 2) := by decide +kernel
theorem dX6_init_33 : decode cX6_init 33 = .ok (.putfield 19, 3) := by decide +kernel
theorem dX6_init_36 : decode cX6_init 36 = .ok (.aload_n 0, 1) := by decide +kernel
theorem dX6_init_37 : decode cX6_init 37 = .ok (.sipush 800, 3) := by decide +kernel
theorem dX6_init_40 : decode cX6_init 40 = .ok (.newarray .int, 2) := by decide +kernel
theorem dX6_init_42 : decode cX6_init 42 = .ok (.putfield 22, 3) := by decide +kernel
theorem dX6_init_45 : decode cX6_init 45 = .ok (.aload_n 0, 1) := by decide +kernel
theorem dX6_init_46 : decode cX6_init 46 = .ok (.sipush 800, 3) := by decide +kernel
theorem dX6_init_49 : decode cX6_init 49 = .ok (.newarray .int, 2) := by decide +kernel
theorem dX6_init_51 : decode cX6_init 51 = .ok (.putfield 25, 3) := by decide +kernel
theorem dX6_init_54 : decode cX6_init 54 = .ok (.aload_n 0, 1) := by decide +kernel
theorem dX6_init_55 : decode cX6_init 55 = .ok (.sipush 800, 3) := by decide +kernel
theorem dX6_init_58 : decode cX6_init 58 = .ok (.newarray .int, 2) := by decide +kernel
theorem dX6_init_60 : decode cX6_init 60 = .ok (.putfield 28, 3) := by decide +kernel
theorem dX6_init_63 : decode cX6_init 63 = .ok (.aload_n 0, 1) := by decide +kernel
theorem dX6_init_64 : decode cX6_init 64 = .ok (.sipush 800, 3) := by decide +kernel
theorem dX6_init_67 : decode cX6_init 67 = .ok (.newarray .int, 2) := by decide +kernel
theorem dX6_init_69 : decode cX6_init 69 = .ok (.putfield 31, 3) := by decide +kernel
theorem dX6_init_72 : decode cX6_init 72 = .ok (.aload_n 0, 1) := by decide +kernel
theorem dX6_init_73 : decode cX6_init 73 = .ok (.sipush 800, 3) := by decide +kernel
theorem dX6_init_76 : decode cX6_init 76 = .ok (.newarray .boolean, 2) := by decide +kernel
theorem dX6_init_78 : decode cX6_init 78 = .ok (.putfield 34, 3) := by decide +kernel
theorem dX6_init_81 : decode cX6_init 81 = .ok (.aload_n 0, 1) := by decide +kernel
theorem dX6_init_82 : decode cX6_init 82 = .ok (.sipush 8360, 3) := by decide +kernel
theorem dX6_init_85 : decode cX6_init 85 = .ok (.newarray .int, 2) := by decide +kernel
theorem dX6_init_87 : decode cX6_init 87 = .ok (.putfield 38, 3) := by decide +kernel
theorem dX6_init_90 : decode cX6_init 90 = .ok (.return_, 1) := by decide +kernel
theorem dX6_thrown_0 : decode cX6_thrown 0 = .ok (.aload_n 0, 1) := by decide +kernel
theorem dX6_thrown_1 : decode cX6_thrown 1 = .ok (.getfield 41, 3) := by decide +kernel
theorem dX6_thrown_4 : decode cX6_thrown 4 = .ok (.ireturn, 1) := by decide +kernel
theorem dX6_in_0 : decode cX6_in 0 = .ok (.iload_n 0, 1) := by decide +kernel
theorem dX6_in_1 : decode cX6_in 1 = .ok (.iload_n 1, 1) := by decide +kernel
theorem dX6_in_2 : decode cX6_in 2 = .ok (.if_icmp .lt 12, 3) := by decide +kernel
theorem dX6_in_5 : decode cX6_in 5 = .ok (.iload_n 0, 1) := by decide +kernel
theorem dX6_in_6 : decode cX6_in 6 = .ok (.iload_n 2, 1) := by decide +kernel
theorem dX6_in_7 : decode cX6_in 7 = .ok (.if_icmp .gt 7, 3) := by decide +kernel
theorem dX6_in_10 : decode cX6_in 10 = .ok (.iconst 1, 1) := by decide +kernel
theorem dX6_in_11 : decode cX6_in 11 = .ok (.goto 4, 3) := by decide +kernel
theorem dX6_in_14 : decode cX6_in 14 = .ok (.iconst 0, 1) := by decide +kernel
theorem dX6_in_15 : decode cX6_in 15 = .ok (.ireturn, 1) := by decide +kernel
theorem dX6_isPurse_0 : decode cX6_isPurse 0 = .ok (.iload_n 1, 1) := by decide +kernel
theorem dX6_isPurse_1 : decode cX6_isPurse 1 = .ok (.iconst 0, 1) := by decide +kernel
theorem dX6_isPurse_2 : decode cX6_isPurse 2 = .ok (.aload_n 0, 1) := by decide +kernel
theorem dX6_isPurse_3 : decode cX6_isPurse 3 = .ok (.getfield 45, 3) := by decide +kernel
theorem dX6_isPurse_6 : decode cX6_isPurse 6 = .ok (.iconst 1, 1) := by decide +kernel
theorem dX6_isPurse_7 : decode cX6_isPurse 7 = .ok (.isub, 1) := by decide +kernel
theorem dX6_isPurse_8 : decode cX6_isPurse 8 = .ok (.invokestatic 48, 3) := by decide +kernel
theorem dX6_isPurse_11 : decode cX6_isPurse 11 = .ok (.ireturn, 1) := by decide +kernel
theorem dX6_part_0 : decode cX6_part 0 = .ok (.aload_n 0, 1) := by decide +kernel
theorem dX6_part_1 : decode cX6_part 1 = .ok (.getfield 38, 3) := by decide +kernel
theorem dX6_part_4 : decode cX6_part 4 = .ok (.iconst 5, 1) := by decide +kernel
theorem dX6_part_5 : decode cX6_part 5 = .ok (.iload_n 1, 1) := by decide +kernel
theorem dX6_part_6 : decode cX6_part 6 = .ok (.imul, 1) := by decide +kernel
theorem dX6_part_7 : decode cX6_part 7 = .ok (.iload_n 2, 1) := by decide +kernel
theorem dX6_part_8 : decode cX6_part 8 = .ok (.iadd, 1) := by decide +kernel
theorem dX6_part_9 : decode cX6_part 9 = .ok (.iaload, 1) := by decide +kernel
theorem dX6_part_10 : decode cX6_part 10 = .ok (.ireturn, 1) := by decide +kernel
theorem dX6_copy_0 : decode cX6_copy 0 = .ok (.iconst 0, 1) := by decide +kernel
theorem dX6_copy_1 : decode cX6_copy 1 = .ok (.istore_n 3, 1) := by decide +kernel
theorem dX6_copy_2 : decode cX6_copy 2 = .ok (.iload_n 3, 1) := by decide +kernel
theorem dX6_copy_3 : decode cX6_copy 3 = .ok (.iconst 5, 1) := by decide +kernel
theorem dX6_copy_4 : decode cX6_copy 4 = .ok (.if_icmp .ge 29, 3) := by decide +kernel
theorem dX6_copy_7 : decode cX6_copy 7 = .ok (.aload_n 0, 1) := by decide +kernel
theorem dX6_copy_8 : decode cX6_copy 8 = .ok (.getfield 38, 3) := by decide +kernel
theorem dX6_copy_11 : decode cX6_copy 11 = .ok (.iconst 5, 1) := by decide +kernel
theorem dX6_copy_12 : decode cX6_copy 12 = .ok (.iload_n 2, 1) := by decide +kernel
theorem dX6_copy_13 : decode cX6_copy 13 = .ok (.imul, 1) := by decide +kernel
theorem dX6_copy_14 : decode cX6_copy 14 = .ok (.iload_n 3, 1) := by decide +kernel
theorem dX6_copy_15 : decode cX6_copy 15 = .ok (.iadd, 1) := by decide +kernel
theorem dX6_copy_16 : decode cX6_copy 16 = .ok (.aload_n 0, 1) := by decide +kernel
theorem dX6_copy_17 : decode cX6_copy 17 = .ok (.getfield 38, 3) := by decide +kernel
theorem dX6_copy_20 : decode cX6_copy 20 = .ok (.iconst 5, 1) := by decide +kernel
theorem dX6_copy_21 : decode cX6_copy 21 = .ok (.iload_n 1, 1) := by decide +kernel
theorem dX6_copy_22 : decode cX6_copy 22 = .ok (.imul, 1) := by decide +kernel
theorem dX6_copy_23 : decode cX6_copy 23 = .ok (.iload_n 3, 1) := by decide +kernel
theorem dX6_copy_24 : decode cX6_copy 24 = .ok (.iadd, 1) := by decide +kernel
theorem dX6_copy_25 : decode cX6_copy 25 = .ok (.iaload, 1) := by decide +kernel
theorem dX6_copy_26 : decode cX6_copy 26 = .ok (.iastore, 1) := by decide +kernel
theorem dX6_copy_27 : decode cX6_copy 27 = .ok (.iinc 3 1, 3) := by decide +kernel
theorem dX6_copy_30 : decode cX6_copy 30 = .ok (.goto (-28), 3) := by decide +kernel
theorem dX6_copy_33 : decode cX6_copy 33 = .ok (.return_, 1) := by decide +kernel
theorem dX6_lay_0 : decode cX6_lay 0 = .ok (.aload_n 0, 1) := by decide +kernel
theorem dX6_lay_1 : decode cX6_lay 1 = .ok (.getfield 38, 3) := by decide +kernel
theorem dX6_lay_4 : decode cX6_lay 4 = .ok (.iconst 5, 1) := by decide +kernel
theorem dX6_lay_5 : decode cX6_lay 5 = .ok (.iload_n 1, 1) := by decide +kernel
theorem dX6_lay_6 : decode cX6_lay 6 = .ok (.imul, 1) := by decide +kernel
theorem dX6_lay_7 : decode cX6_lay 7 = .ok (.iload_n 2, 1) := by decide +kernel
theorem dX6_lay_8 : decode cX6_lay 8 = .ok (.iastore, 1) := by decide +kernel
theorem dX6_lay_9 : decode cX6_lay 9 = .ok (.aload_n 0, 1) := by decide +kernel
theorem dX6_lay_10 : decode cX6_lay 10 = .ok (.getfield 38, 3) := by decide +kernel
theorem dX6_lay_13 : decode cX6_lay 13 = .ok (.iconst 5, 1) := by decide +kernel
theorem dX6_lay_14 : decode cX6_lay 14 = .ok (.iload_n 1, 1) := by decide +kernel
theorem dX6_lay_15 : decode cX6_lay 15 = .ok (.imul, 1) := by decide +kernel
theorem dX6_lay_16 : decode cX6_lay 16 = .ok (.iconst 1, 1) := by decide +kernel
theorem dX6_lay_17 : decode cX6_lay 17 = .ok (.iadd, 1) := by decide +kernel
theorem dX6_lay_18 : decode cX6_lay 18 = .ok (.iload_n 3, 1) := by decide +kernel
theorem dX6_lay_19 : decode cX6_lay 19 = .ok (.iastore, 1) := by decide +kernel
theorem dX6_lay_20 : decode cX6_lay 20 = .ok (.aload_n 0, 1) := by decide +kernel
theorem dX6_lay_21 : decode cX6_lay 21 = .ok (.getfield 38, 3) := by decide +kernel
theorem dX6_lay_24 : decode cX6_lay 24 = .ok (.iconst 5, 1) := by decide +kernel
theorem dX6_lay_25 : decode cX6_lay 25 = .ok (.iload_n 1, 1) := by decide +kernel
theorem dX6_lay_26 : decode cX6_lay 26 = .ok (.imul, 1) := by decide +kernel
theorem dX6_lay_27 : decode cX6_lay 27 = .ok (.iconst 2, 1) := by decide +kernel
theorem dX6_lay_28 : decode cX6_lay 28 = .ok (.iadd, 1) := by decide +kernel
theorem dX6_lay_29 : decode cX6_lay 29 = .ok (.iload 4, 2) := by decide +kernel
theorem dX6_lay_31 : decode cX6_lay 31 = .ok (.iastore, 1) := by decide +kernel
theorem dX6_lay_32 : decode cX6_lay 32 = .ok (.aload_n 0, 1) := by decide +kernel
theorem dX6_lay_33 : decode cX6_lay 33 = .ok (.getfield 38, 3) := by decide +kernel
theorem dX6_lay_36 : decode cX6_lay 36 = .ok (.iconst 5, 1) := by decide +kernel
theorem dX6_lay_37 : decode cX6_lay 37 = .ok (.iload_n 1, 1) := by decide +kernel
theorem dX6_lay_38 : decode cX6_lay 38 = .ok (.imul, 1) := by decide +kernel
theorem dX6_lay_39 : decode cX6_lay 39 = .ok (.iconst 3, 1) := by decide +kernel
theorem dX6_lay_40 : decode cX6_lay 40 = .ok (.iadd, 1) := by decide +kernel
theorem dX6_lay_41 : decode cX6_lay 41 = .ok (.iload 5, 2) := by decide +kernel
theorem dX6_lay_43 : decode cX6_lay 43 = .ok (.iastore, 1) := by decide +kernel
theorem dX6_lay_44 : decode cX6_lay 44 = .ok (.aload_n 0, 1) := by decide +kernel
theorem dX6_lay_45 : decode cX6_lay 45 = .ok (.getfield 38, 3) := by decide +kernel
theorem dX6_lay_48 : decode cX6_lay 48 = .ok (.iconst 5, 1) := by decide +kernel
theorem dX6_lay_49 : decode cX6_lay 49 = .ok (.iload_n 1, 1) := by decide +kernel
theorem dX6_lay_50 : decode cX6_lay 50 = .ok (.imul, 1) := by decide +kernel
theorem dX6_lay_51 : decode cX6_lay 51 = .ok (.iconst 4, 1) := by decide +kernel
theorem dX6_lay_52 : decode cX6_lay 52 = .ok (.iadd, 1) := by decide +kernel
theorem dX6_lay_53 : decode cX6_lay 53 = .ok (.iload 6, 2) := by decide +kernel
theorem dX6_lay_55 : decode cX6_lay 55 = .ok (.iastore, 1) := by decide +kernel
theorem dX6_lay_56 : decode cX6_lay 56 = .ok (.return_, 1) := by decide +kernel
theorem dX6_same_0 : decode cX6_same 0 = .ok (.iconst 1, 1) := by decide +kernel
theorem dX6_same_1 : decode cX6_same 1 = .ok (.istore_n 3, 1) := by decide +kernel
theorem dX6_same_2 : decode cX6_same 2 = .ok (.iconst 0, 1) := by decide +kernel
theorem dX6_same_3 : decode cX6_same 3 = .ok (.istore 4, 2) := by decide +kernel
theorem dX6_same_5 : decode cX6_same 5 = .ok (.iload 4, 2) := by decide +kernel
theorem dX6_same_7 : decode cX6_same 7 = .ok (.iconst 5, 1) := by decide +kernel
theorem dX6_same_8 : decode cX6_same 8 = .ok (.if_icmp .ge 44, 3) := by decide +kernel
theorem dX6_same_11 : decode cX6_same 11 = .ok (.iload_n 3, 1) := by decide +kernel
theorem dX6_same_12 : decode cX6_same 12 = .ok (.ifCond .eq 32, 3) := by decide +kernel
theorem dX6_same_15 : decode cX6_same 15 = .ok (.aload_n 0, 1) := by decide +kernel
theorem dX6_same_16 : decode cX6_same 16 = .ok (.getfield 38, 3) := by decide +kernel
theorem dX6_same_19 : decode cX6_same 19 = .ok (.iconst 5, 1) := by decide +kernel
theorem dX6_same_20 : decode cX6_same 20 = .ok (.iload_n 1, 1) := by decide +kernel
theorem dX6_same_21 : decode cX6_same 21 = .ok (.imul, 1) := by decide +kernel
theorem dX6_same_22 : decode cX6_same 22 = .ok (.iload 4, 2) := by decide +kernel
theorem dX6_same_24 : decode cX6_same 24 = .ok (.iadd, 1) := by decide +kernel
theorem dX6_same_25 : decode cX6_same 25 = .ok (.iaload, 1) := by decide +kernel
theorem dX6_same_26 : decode cX6_same 26 = .ok (.aload_n 0, 1) := by decide +kernel
theorem dX6_same_27 : decode cX6_same 27 = .ok (.getfield 38, 3) := by decide +kernel
theorem dX6_same_30 : decode cX6_same 30 = .ok (.iconst 5, 1) := by decide +kernel
theorem dX6_same_31 : decode cX6_same 31 = .ok (.iload_n 2, 1) := by decide +kernel
theorem dX6_same_32 : decode cX6_same 32 = .ok (.imul, 1) := by decide +kernel
theorem dX6_same_33 : decode cX6_same 33 = .ok (.iload 4, 2) := by decide +kernel
theorem dX6_same_35 : decode cX6_same 35 = .ok (.iadd, 1) := by decide +kernel
theorem dX6_same_36 : decode cX6_same 36 = .ok (.iaload, 1) := by decide +kernel
theorem dX6_same_37 : decode cX6_same 37 = .ok (.if_icmp .ne 7, 3) := by decide +kernel
theorem dX6_same_40 : decode cX6_same 40 = .ok (.iconst 1, 1) := by decide +kernel
theorem dX6_same_41 : decode cX6_same 41 = .ok (.goto 4, 3) := by decide +kernel
theorem dX6_same_44 : decode cX6_same 44 = .ok (.iconst 0, 1) := by decide +kernel
theorem dX6_same_45 : decode cX6_same 45 = .ok (.istore_n 3, 1) := by decide +kernel
theorem dX6_same_46 : decode cX6_same 46 = .ok (.iinc 4 1, 3) := by decide +kernel
theorem dX6_same_49 : decode cX6_same 49 = .ok (.goto (-44), 3) := by decide +kernel
theorem dX6_same_52 : decode cX6_same 52 = .ok (.iload_n 3, 1) := by decide +kernel
theorem dX6_same_53 : decode cX6_same 53 = .ok (.ireturn, 1) := by decide +kernel
theorem dX6_isInLog_0 : decode cX6_isInLog 0 = .ok (.iconst 0, 1) := by decide +kernel
theorem dX6_isInLog_1 : decode cX6_isInLog 1 = .ok (.istore_n 3, 1) := by decide +kernel
theorem dX6_isInLog_2 : decode cX6_isInLog 2 = .ok (.iconst 0, 1) := by decide +kernel
theorem dX6_isInLog_3 : decode cX6_isInLog 3 = .ok (.istore 4, 2) := by decide +kernel
theorem dX6_isInLog_5 : decode cX6_isInLog 5 = .ok (.iload 4, 2) := by decide +kernel
theorem dX6_isInLog_7 : decode cX6_isInLog 7 = .ok (.aload_n 0, 1) := by decide +kernel
theorem dX6_isInLog_8 : decode cX6_isInLog 8 = .ok (.getfield 19, 3) := by decide +kernel
theorem dX6_isInLog_11 : decode cX6_isInLog 11 = .ok (.iload_n 1, 1) := by decide +kernel
theorem dX6_isInLog_12 : decode cX6_isInLog 12 = .ok (.iaload, 1) := by decide +kernel
theorem dX6_isInLog_13 : decode cX6_isInLog 13 = .ok (.if_icmp .ge 36, 3) := by decide +kernel
theorem dX6_isInLog_16 : decode cX6_isInLog 16 = .ok (.iload_n 3, 1) := by decide +kernel
theorem dX6_isInLog_17 : decode cX6_isInLog 17 = .ok (.ifCond .ne 20, 3) := by decide +kernel
theorem dX6_isInLog_20 : decode cX6_isInLog 20 = .ok (.aload_n 0, 1) := by decide +kernel
theorem dX6_isInLog_21 : decode cX6_isInLog 21 = .ok (.bipush 12, 2) := by decide +kernel
theorem dX6_isInLog_23 : decode cX6_isInLog 23 = .ok (.iconst 5, 1) := by decide +kernel
theorem dX6_isInLog_24 : decode cX6_isInLog 24 = .ok (.iload_n 1, 1) := by decide +kernel
theorem dX6_isInLog_25 : decode cX6_isInLog 25 = .ok (.imul, 1) := by decide +kernel
theorem dX6_isInLog_26 : decode cX6_isInLog 26 = .ok (.iadd, 1) := by decide +kernel
theorem dX6_isInLog_27 : decode cX6_isInLog 27 = .ok (.iload 4, 2) := by decide +kernel
theorem dX6_isInLog_29 : decode cX6_isInLog 29 = .ok (.iadd, 1) := by decide +kernel
theorem dX6_isInLog_30 : decode cX6_isInLog 30 = .ok (.iload_n 2, 1) := by decide +kernel
theorem dX6_isInLog_31 : decode cX6_isInLog 31 = .ok (.invokevirtual 52, 3) := by decide +kernel
theorem dX6_isInLog_34 : decode cX6_isInLog 34 = .ok (.ifCond .eq 7, 3) := by decide +kernel
theorem dX6_isInLog_37 : decode cX6_isInLog 37 = .ok (.iconst 1, 1) := by decide +kernel
theorem dX6_isInLog_38 : decode cX6_isInLog 38 = .ok (.goto 4, 3) := by decide +kernel
theorem dX6_isInLog_41 : decode cX6_isInLog 41 = .ok (.iconst 0, 1) := by decide +kernel
theorem dX6_isInLog_42 : decode cX6_isInLog 42 = .ok (.istore_n 3, 1) := by decide +kernel
theorem dX6_isInLog_43 : decode cX6_isInLog 43 = .ok (.iinc 4 1, 3) := by decide +kernel
theorem dX6_isInLog_46 : decode cX6_isInLog 46 = .ok (.goto (-41), 3) := by decide +kernel
theorem dX6_isInLog_49 : decode cX6_isInLog 49 = .ok (.iload_n 3, 1) := by decide +kernel
theorem dX6_isInLog_50 : decode cX6_isInLog 50 = .ok (.ireturn, 1) := by decide +kernel
theorem dX6_isKept_0 : decode cX6_isKept 0 = .ok (.iconst 0, 1) := by decide +kernel
theorem dX6_isKept_1 : decode cX6_isKept 1 = .ok (.istore 4, 2) := by decide +kernel
theorem dX6_isKept_3 : decode cX6_isKept 3 = .ok (.iconst 0, 1) := by decide +kernel
theorem dX6_isKept_4 : decode cX6_isKept 4 = .ok (.istore 5, 2) := by decide +kernel
theorem dX6_isKept_6 : decode cX6_isKept 6 = .ok (.iload 5, 2) := by decide +kernel
theorem dX6_isKept_8 : decode cX6_isKept 8 = .ok (.iload_n 3, 1) := by decide +kernel
theorem dX6_isKept_9 : decode cX6_isKept 9 = .ok (.if_icmp .ge 46, 3) := by decide +kernel
theorem dX6_isKept_12 : decode cX6_isKept 12 = .ok (.iload 4, 2) := by decide +kernel
theorem dX6_isKept_14 : decode cX6_isKept 14 = .ok (.ifCond .ne 28, 3) := by decide +kernel
theorem dX6_isKept_17 : decode cX6_isKept 17 = .ok (.aload_n 0, 1) := by decide +kernel
theorem dX6_isKept_18 : decode cX6_isKept 18 = .ok (.getfield 31, 3) := by decide +kernel
theorem dX6_isKept_21 : decode cX6_isKept 21 = .ok (.iload 5, 2) := by decide +kernel
theorem dX6_isKept_23 : decode cX6_isKept 23 = .ok (.iaload, 1) := by decide +kernel
theorem dX6_isKept_24 : decode cX6_isKept 24 = .ok (.iload_n 1, 1) := by decide +kernel
theorem dX6_isKept_25 : decode cX6_isKept 25 = .ok (.if_icmp .ne 21, 3) := by decide +kernel
theorem dX6_isKept_28 : decode cX6_isKept 28 = .ok (.aload_n 0, 1) := by decide +kernel
theorem dX6_isKept_29 : decode cX6_isKept 29 = .ok (.sipush 872, 3) := by decide +kernel
theorem dX6_isKept_32 : decode cX6_isKept 32 = .ok (.iload 5, 2) := by decide +kernel
theorem dX6_isKept_34 : decode cX6_isKept 34 = .ok (.iadd, 1) := by decide +kernel
theorem dX6_isKept_35 : decode cX6_isKept 35 = .ok (.iload_n 2, 1) := by decide +kernel
theorem dX6_isKept_36 : decode cX6_isKept 36 = .ok (.invokevirtual 52, 3) := by decide +kernel
theorem dX6_isKept_39 : decode cX6_isKept 39 = .ok (.ifCond .eq 7, 3) := by decide +kernel
theorem dX6_isKept_42 : decode cX6_isKept 42 = .ok (.iconst 1, 1) := by decide +kernel
theorem dX6_isKept_43 : decode cX6_isKept 43 = .ok (.goto 4, 3) := by decide +kernel
theorem dX6_isKept_46 : decode cX6_isKept 46 = .ok (.iconst 0, 1) := by decide +kernel
theorem dX6_isKept_47 : decode cX6_isKept 47 = .ok (.istore 4, 2) := by decide +kernel
theorem dX6_isKept_49 : decode cX6_isKept 49 = .ok (.iinc 5 1, 3) := by decide +kernel
theorem dX6_isKept_52 : decode cX6_isKept 52 = .ok (.goto (-46), 3) := by decide +kernel
theorem dX6_isKept_55 : decode cX6_isKept 55 = .ok (.iload 4, 2) := by decide +kernel
theorem dX6_isKept_57 : decode cX6_isKept 57 = .ok (.ireturn, 1) := by decide +kernel
theorem dX6_isRefunded_0 : decode cX6_isRefunded 0 = .ok (.iconst 0, 1) := by decide +kernel
theorem dX6_isRefunded_1 : decode cX6_isRefunded 1 = .ok (.istore_n 2, 1) := by decide +kernel
theorem dX6_isRefunded_2 : decode cX6_isRefunded 2 = .ok (.iconst 0, 1) := by decide +kernel
theorem dX6_isRefunded_3 : decode cX6_isRefunded 3 = .ok (.istore_n 3, 1) := by decide +kernel
theorem dX6_isRefunded_4 : decode cX6_isRefunded 4 = .ok (.iload_n 3, 1) := by decide +kernel
theorem dX6_isRefunded_5 : decode cX6_isRefunded 5 = .ok (.aload_n 0, 1) := by decide +kernel
theorem dX6_isRefunded_6 : decode cX6_isRefunded 6 = .ok (.getfield 56, 3) := by decide +kernel
theorem dX6_isRefunded_9 : decode cX6_isRefunded 9 = .ok (.if_icmp .ge 41, 3) := by decide +kernel
theorem dX6_isRefunded_12 : decode cX6_isRefunded 12 = .ok (.iload_n 2, 1) := by decide +kernel
theorem dX6_isRefunded_13 : decode cX6_isRefunded 13 = .ok (.ifCond .ne 25, 3) := by decide +kernel
theorem dX6_isRefunded_16 : decode cX6_isRefunded 16 = .ok (.aload_n 0, 1) := by decide +kernel
theorem dX6_isRefunded_17 : decode cX6_isRefunded 17 = .ok (.getfield 34, 3) := by decide +kernel
theorem dX6_isRefunded_20 : decode cX6_isRefunded 20 = .ok (.iload_n 3, 1) := by decide +kernel
theorem dX6_isRefunded_21 : decode cX6_isRefunded 21 = .ok (.baload, 1) := by decide +kernel
theorem dX6_isRefunded_22 : decode cX6_isRefunded 22 = .ok (.ifCond .eq 20, 3) := by decide +kernel
theorem dX6_isRefunded_25 : decode cX6_isRefunded 25 = .ok (.aload_n 0, 1) := by decide +kernel
theorem dX6_isRefunded_26 : decode cX6_isRefunded 26 = .ok (.sipush 872, 3) := by decide +kernel
theorem dX6_isRefunded_29 : decode cX6_isRefunded 29 = .ok (.iload_n 3, 1) := by decide +kernel
theorem dX6_isRefunded_30 : decode cX6_isRefunded 30 = .ok (.iadd, 1) := by decide +kernel
theorem dX6_isRefunded_31 : decode cX6_isRefunded 31 = .ok (.iload_n 1, 1) := by decide +kernel
theorem dX6_isRefunded_32 : decode cX6_isRefunded 32 = .ok (.invokevirtual 52, 3) := by decide +kernel
theorem dX6_isRefunded_35 : decode cX6_isRefunded 35 = .ok (.ifCond .eq 7, 3) := by decide +kernel
theorem dX6_isRefunded_38 : decode cX6_isRefunded 38 = .ok (.iconst 1, 1) := by decide +kernel
theorem dX6_isRefunded_39 : decode cX6_isRefunded 39 = .ok (.goto 4, 3) := by decide +kernel
theorem dX6_isRefunded_42 : decode cX6_isRefunded 42 = .ok (.iconst 0, 1) := by decide +kernel
theorem dX6_isRefunded_43 : decode cX6_isRefunded 43 = .ok (.istore_n 2, 1) := by decide +kernel
theorem dX6_isRefunded_44 : decode cX6_isRefunded 44 = .ok (.iinc 3 1, 3) := by decide +kernel
theorem dX6_isRefunded_47 : decode cX6_isRefunded 47 = .ok (.goto (-43), 3) := by decide +kernel
theorem dX6_isRefunded_50 : decode cX6_isRefunded 50 = .ok (.iload_n 2, 1) := by decide +kernel
theorem dX6_isRefunded_51 : decode cX6_isRefunded 51 = .ok (.ireturn, 1) := by decide +kernel
theorem dX6_send_0 : decode cX6_send 0 = .ok (.aload_n 0, 1) := by decide +kernel
theorem dX6_send_1 : decode cX6_send 1 = .ok (.getfield 22, 3) := by decide +kernel
theorem dX6_send_4 : decode cX6_send 4 = .ok (.aload_n 0, 1) := by decide +kernel
theorem dX6_send_5 : decode cX6_send 5 = .ok (.getfield 59, 3) := by decide +kernel
theorem dX6_send_8 : decode cX6_send 8 = .ok (.iload_n 1, 1) := by decide +kernel
theorem dX6_send_9 : decode cX6_send 9 = .ok (.iastore, 1) := by decide +kernel
theorem dX6_send_10 : decode cX6_send 10 = .ok (.aload_n 0, 1) := by decide +kernel
theorem dX6_send_11 : decode cX6_send 11 = .ok (.getfield 25, 3) := by decide +kernel
theorem dX6_send_14 : decode cX6_send 14 = .ok (.aload_n 0, 1) := by decide +kernel
theorem dX6_send_15 : decode cX6_send 15 = .ok (.getfield 59, 3) := by decide +kernel
theorem dX6_send_18 : decode cX6_send 18 = .ok (.iload_n 2, 1) := by decide +kernel
theorem dX6_send_19 : decode cX6_send 19 = .ok (.iastore, 1) := by decide +kernel
theorem dX6_send_20 : decode cX6_send 20 = .ok (.aload_n 0, 1) := by decide +kernel
theorem dX6_send_21 : decode cX6_send 21 = .ok (.iload_n 3, 1) := by decide +kernel
theorem dX6_send_22 : decode cX6_send 22 = .ok (.bipush 72, 2) := by decide +kernel
theorem dX6_send_24 : decode cX6_send 24 = .ok (.aload_n 0, 1) := by decide +kernel
theorem dX6_send_25 : decode cX6_send 25 = .ok (.getfield 59, 3) := by decide +kernel
theorem dX6_send_28 : decode cX6_send 28 = .ok (.iadd, 1) := by decide +kernel
theorem dX6_send_29 : decode cX6_send 29 = .ok (.invokevirtual 62, 3) := by decide +kernel
theorem dX6_send_32 : decode cX6_send 32 = .ok (.aload_n 0, 1) := by decide +kernel
theorem dX6_send_33 : decode cX6_send 33 = .ok (.dup, 1) := by decide +kernel
theorem dX6_send_34 : decode cX6_send 34 = .ok (.getfield 59, 3) := by decide +kernel
theorem dX6_send_37 : decode cX6_send 37 = .ok (.iconst 1, 1) := by decide +kernel
theorem dX6_send_38 : decode cX6_send 38 = .ok (.iadd, 1) := by decide +kernel
theorem dX6_send_39 : decode cX6_send 39 = .ok (.putfield 59, 3) := by decide +kernel
theorem dX6_send_42 : decode cX6_send 42 = .ok (.return_, 1) := by decide +kernel
theorem dX6_endIt_0 : decode cX6_endIt 0 = .ok (.aload_n 0, 1) := by decide +kernel
theorem dX6_endIt_1 : decode cX6_endIt 1 = .ok (.getfield 16, 3) := by decide +kernel
theorem dX6_endIt_4 : decode cX6_endIt 4 = .ok (.iload_n 1, 1) := by decide +kernel
theorem dX6_endIt_5 : decode cX6_endIt 5 = .ok (.iaload, 1) := by decide +kernel
theorem dX6_endIt_6 : decode cX6_endIt 6 = .ok (.iconst 2, 1) := by decide +kernel
theorem dX6_endIt_7 : decode cX6_endIt 7 = .ok (.if_icmp .lt 31, 3) := by decide +kernel
theorem dX6_endIt_10 : decode cX6_endIt 10 = .ok (.aload_n 0, 1) := by decide +kernel
theorem dX6_endIt_11 : decode cX6_endIt 11 = .ok (.iload_n 1, 1) := by decide +kernel
theorem dX6_endIt_12 : decode cX6_endIt 12 = .ok (.bipush 12, 2) := by decide +kernel
theorem dX6_endIt_14 : decode cX6_endIt 14 = .ok (.iconst 5, 1) := by decide +kernel
theorem dX6_endIt_15 : decode cX6_endIt 15 = .ok (.iload_n 1, 1) := by decide +kernel
theorem dX6_endIt_16 : decode cX6_endIt 16 = .ok (.imul, 1) := by decide +kernel
theorem dX6_endIt_17 : decode cX6_endIt 17 = .ok (.iadd, 1) := by decide +kernel
theorem dX6_endIt_18 : decode cX6_endIt 18 = .ok (.aload_n 0, 1) := by decide +kernel
theorem dX6_endIt_19 : decode cX6_endIt 19 = .ok (.getfield 19, 3) := by decide +kernel
theorem dX6_endIt_22 : decode cX6_endIt 22 = .ok (.iload_n 1, 1) := by decide +kernel
theorem dX6_endIt_23 : decode cX6_endIt 23 = .ok (.iaload, 1) := by decide +kernel
theorem dX6_endIt_24 : decode cX6_endIt 24 = .ok (.iadd, 1) := by decide +kernel
theorem dX6_endIt_25 : decode cX6_endIt 25 = .ok (.invokevirtual 62, 3) := by decide +kernel
theorem dX6_endIt_28 : decode cX6_endIt 28 = .ok (.aload_n 0, 1) := by decide +kernel
theorem dX6_endIt_29 : decode cX6_endIt 29 = .ok (.getfield 19, 3) := by decide +kernel
theorem dX6_endIt_32 : decode cX6_endIt 32 = .ok (.iload_n 1, 1) := by decide +kernel
theorem dX6_endIt_33 : decode cX6_endIt 33 = .ok (.dup2, 1) := by decide +kernel
theorem dX6_endIt_34 : decode cX6_endIt 34 = .ok (.iaload, 1) := by decide +kernel
theorem dX6_endIt_35 : decode cX6_endIt 35 = .ok (.iconst 1, 1) := by decide +kernel
theorem dX6_endIt_36 : decode cX6_endIt 36 = .ok (.iadd, 1) := by decide +kernel
theorem dX6_endIt_37 : decode cX6_endIt 37 = .ok (.iastore, 1) := by decide +kernel
theorem dX6_endIt_38 : decode cX6_endIt 38 = .ok (.aload_n 0, 1) := by decide +kernel
theorem dX6_endIt_39 : decode cX6_endIt 39 = .ok (.getfield 13, 3) := by decide +kernel
theorem dX6_endIt_42 : decode cX6_endIt 42 = .ok (.iload_n 1, 1) := by decide +kernel
theorem dX6_endIt_43 : decode cX6_endIt 43 = .ok (.dup2, 1) := by decide +kernel
theorem dX6_endIt_44 : decode cX6_endIt 44 = .ok (.iaload, 1) := by decide +kernel
theorem dX6_endIt_45 : decode cX6_endIt 45 = .ok (.aload_n 0, 1) := by decide +kernel
theorem dX6_endIt_46 : decode cX6_endIt 46 = .ok (.getfield 16, 3) := by decide +kernel
theorem dX6_endIt_49 : decode cX6_endIt 49 = .ok (.iload_n 1, 1) := by decide +kernel
theorem dX6_endIt_50 : decode cX6_endIt 50 = .ok (.iaload, 1) := by decide +kernel
theorem dX6_endIt_51 : decode cX6_endIt 51 = .ok (.ifCond .ne 7, 3) := by decide +kernel
theorem dX6_endIt_54 : decode cX6_endIt 54 = .ok (.iconst 0, 1) := by decide +kernel
theorem dX6_endIt_55 : decode cX6_endIt 55 = .ok (.goto 4, 3) := by decide +kernel
theorem dX6_endIt_58 : decode cX6_endIt 58 = .ok (.iconst 1, 1) := by decide +kernel
theorem dX6_endIt_59 : decode cX6_endIt 59 = .ok (.iadd, 1) := by decide +kernel
theorem dX6_endIt_60 : decode cX6_endIt 60 = .ok (.iastore, 1) := by decide +kernel
theorem dX6_endIt_61 : decode cX6_endIt 61 = .ok (.aload_n 0, 1) := by decide +kernel
theorem dX6_endIt_62 : decode cX6_endIt 62 = .ok (.getfield 16, 3) := by decide +kernel
theorem dX6_endIt_65 : decode cX6_endIt 65 = .ok (.iload_n 1, 1) := by decide +kernel
theorem dX6_endIt_66 : decode cX6_endIt 66 = .ok (.iconst 0, 1) := by decide +kernel
theorem dX6_endIt_67 : decode cX6_endIt 67 = .ok (.iastore, 1) := by decide +kernel
theorem dX6_endIt_68 : decode cX6_endIt 68 = .ok (.return_, 1) := by decide +kernel
theorem dX6_waits_0 : decode cX6_waits 0 = .ok (.aload_n 0, 1) := by decide +kernel
theorem dX6_waits_1 : decode cX6_waits 1 = .ok (.getfield 16, 3) := by decide +kernel
theorem dX6_waits_4 : decode cX6_waits 4 = .ok (.iload_n 1, 1) := by decide +kernel
theorem dX6_waits_5 : decode cX6_waits 5 = .ok (.iaload, 1) := by decide +kernel
theorem dX6_waits_6 : decode cX6_waits 6 = .ok (.iload_n 2, 1) := by decide +kernel
theorem dX6_waits_7 : decode cX6_waits 7 = .ok (.if_icmp .ne 16, 3) := by decide +kernel
theorem dX6_waits_10 : decode cX6_waits 10 = .ok (.aload_n 0, 1) := by decide +kernel
theorem dX6_waits_11 : decode cX6_waits 11 = .ok (.iload_n 1, 1) := by decide +kernel
theorem dX6_waits_12 : decode cX6_waits 12 = .ok (.iload_n 3, 1) := by decide +kernel
theorem dX6_waits_13 : decode cX6_waits 13 = .ok (.invokevirtual 52, 3) := by decide +kernel
theorem dX6_waits_16 : decode cX6_waits 16 = .ok (.ifCond .eq 7, 3) := by decide +kernel
theorem dX6_waits_19 : decode cX6_waits 19 = .ok (.iconst 1, 1) := by decide +kernel
theorem dX6_waits_20 : decode cX6_waits 20 = .ok (.goto 4, 3) := by decide +kernel
theorem dX6_waits_23 : decode cX6_waits 23 = .ok (.iconst 0, 1) := by decide +kernel
theorem dX6_waits_24 : decode cX6_waits 24 = .ok (.ireturn, 1) := by decide +kernel
theorem dX6_takesBegin_0 : decode cX6_takesBegin 0 = .ok (.aload_n 0, 1) := by decide +kernel
theorem dX6_takesBegin_1 : decode cX6_takesBegin 1 = .ok (.iload_n 1, 1) := by decide +kernel
theorem dX6_takesBegin_2 : decode cX6_takesBegin 2 = .ok (.invokevirtual 66, 3) := by decide +kernel
theorem dX6_takesBegin_5 : decode cX6_takesBegin 5 = .ok (.aload_n 0, 1) := by decide +kernel
theorem dX6_takesBegin_6 : decode cX6_takesBegin 6 = .ok (.getfield 19, 3) := by decide +kernel
theorem dX6_takesBegin_9 : decode cX6_takesBegin 9 = .ok (.iload_n 1, 1) := by decide +kernel
theorem dX6_takesBegin_10 : decode cX6_takesBegin 10 = .ok (.iaload, 1) := by decide +kernel
theorem dX6_takesBegin_11 : decode cX6_takesBegin 11 = .ok (.iconst 5, 1) := by decide +kernel
theorem dX6_takesBegin_12 : decode cX6_takesBegin 12 = .ok (.if_icmp .eq 22, 3) := by decide +kernel
theorem dX6_takesBegin_15 : decode cX6_takesBegin 15 = .ok (.iload_n 3, 1) := by decide +kernel
theorem dX6_takesBegin_16 : decode cX6_takesBegin 16 = .ok (.ifCond .eq 20, 3) := by decide +kernel
theorem dX6_takesBegin_19 : decode cX6_takesBegin 19 = .ok (.aload_n 0, 1) := by decide +kernel
theorem dX6_takesBegin_20 : decode cX6_takesBegin 20 = .ok (.getfield 7, 3) := by decide +kernel
theorem dX6_takesBegin_23 : decode cX6_takesBegin 23 = .ok (.iload_n 1, 1) := by decide +kernel
theorem dX6_takesBegin_24 : decode cX6_takesBegin 24 = .ok (.iaload, 1) := by decide +kernel
theorem dX6_takesBegin_25 : decode cX6_takesBegin 25 = .ok (.aload_n 0, 1) := by decide +kernel
theorem dX6_takesBegin_26 : decode cX6_takesBegin 26 = .ok (.iload_n 2, 1) := by decide +kernel
theorem dX6_takesBegin_27 : decode cX6_takesBegin 27 = .ok (.iconst 4, 1) := by decide +kernel
theorem dX6_takesBegin_28 : decode cX6_takesBegin 28 = .ok (.invokevirtual 70, 3) := by decide +kernel
theorem dX6_takesBegin_31 : decode cX6_takesBegin 31 = .ok (.if_icmp .ge 5, 3) := by decide +kernel
theorem dX6_takesBegin_34 : decode cX6_takesBegin 34 = .ok (.iconst 0, 1) := by decide +kernel
theorem dX6_takesBegin_35 : decode cX6_takesBegin 35 = .ok (.ireturn, 1) := by decide +kernel
theorem dX6_takesBegin_36 : decode cX6_takesBegin 36 = .ok (.aload_n 0, 1) := by decide +kernel
theorem dX6_takesBegin_37 : decode cX6_takesBegin 37 = .ok (.iload_n 2, 1) := by decide +kernel
theorem dX6_takesBegin_38 : decode cX6_takesBegin 38 = .ok (.iload_n 1, 1) := by decide +kernel
theorem dX6_takesBegin_39 : decode cX6_takesBegin 39 = .ok (.invokevirtual 62, 3) := by decide +kernel
theorem dX6_takesBegin_42 : decode cX6_takesBegin 42 = .ok (.aload_n 0, 1) := by decide +kernel
theorem dX6_takesBegin_43 : decode cX6_takesBegin 43 = .ok (.getfield 38, 3) := by decide +kernel
theorem dX6_takesBegin_46 : decode cX6_takesBegin 46 = .ok (.iconst 5, 1) := by decide +kernel
theorem dX6_takesBegin_47 : decode cX6_takesBegin 47 = .ok (.iload_n 1, 1) := by decide +kernel
theorem dX6_takesBegin_48 : decode cX6_takesBegin 48 = .ok (.imul, 1) := by decide +kernel
theorem dX6_takesBegin_49 : decode cX6_takesBegin 49 = .ok (.iload_n 3, 1) := by decide +kernel
theorem dX6_takesBegin_50 : decode cX6_takesBegin 50 = .ok (.ifCond .eq 7, 3) := by decide +kernel
theorem dX6_takesBegin_53 : decode cX6_takesBegin 53 = .ok (.iconst 1, 1) := by decide +kernel
theorem dX6_takesBegin_54 : decode cX6_takesBegin 54 = .ok (.goto 4, 3) := by decide +kernel
theorem dX6_takesBegin_57 : decode cX6_takesBegin 57 = .ok (.iconst 3, 1) := by decide +kernel
theorem dX6_takesBegin_58 : decode cX6_takesBegin 58 = .ok (.iadd, 1) := by decide +kernel
theorem dX6_takesBegin_59 : decode cX6_takesBegin 59 = .ok (.aload_n 0, 1) := by decide +kernel
theorem dX6_takesBegin_60 : decode cX6_takesBegin 60 = .ok (.getfield 13, 3) := by decide +kernel
theorem dX6_takesBegin_63 : decode cX6_takesBegin 63 = .ok (.iload_n 1, 1) := by decide +kernel
theorem dX6_takesBegin_64 : decode cX6_takesBegin 64 = .ok (.iaload, 1) := by decide +kernel
theorem dX6_takesBegin_65 : decode cX6_takesBegin 65 = .ok (.iastore, 1) := by decide +kernel
theorem dX6_takesBegin_66 : decode cX6_takesBegin 66 = .ok (.aload_n 0, 1) := by decide +kernel
theorem dX6_takesBegin_67 : decode cX6_takesBegin 67 = .ok (.getfield 13, 3) := by decide +kernel
theorem dX6_takesBegin_70 : decode cX6_takesBegin 70 = .ok (.iload_n 1, 1) := by decide +kernel
theorem dX6_takesBegin_71 : decode cX6_takesBegin 71 = .ok (.dup2, 1) := by decide +kernel
theorem dX6_takesBegin_72 : decode cX6_takesBegin 72 = .ok (.iaload, 1) := by decide +kernel
theorem dX6_takesBegin_73 : decode cX6_takesBegin 73 = .ok (.iconst 1, 1) := by decide +kernel
theorem dX6_takesBegin_74 : decode cX6_takesBegin 74 = .ok (.iadd, 1) := by decide +kernel
theorem dX6_takesBegin_75 : decode cX6_takesBegin 75 = .ok (.iastore, 1) := by decide +kernel
theorem dX6_takesBegin_76 : decode cX6_takesBegin 76 = .ok (.aload_n 0, 1) := by decide +kernel
theorem dX6_takesBegin_77 : decode cX6_takesBegin 77 = .ok (.getfield 16, 3) := by decide +kernel
theorem dX6_takesBegin_80 : decode cX6_takesBegin 80 = .ok (.iload_n 1, 1) := by decide +kernel
theorem dX6_takesBegin_81 : decode cX6_takesBegin 81 = .ok (.iload_n 3, 1) := by decide +kernel
theorem dX6_takesBegin_82 : decode cX6_takesBegin 82 = .ok (.ifCond .eq 7, 3) := by decide +kernel
theorem dX6_takesBegin_85 : decode cX6_takesBegin 85 = .ok (.iconst 1, 1) := by decide +kernel
theorem dX6_takesBegin_86 : decode cX6_takesBegin 86 = .ok (.goto 4, 3) := by decide +kernel
theorem dX6_takesBegin_89 : decode cX6_takesBegin 89 = .ok (.iconst 2, 1) := by decide +kernel
theorem dX6_takesBegin_90 : decode cX6_takesBegin 90 = .ok (.iastore, 1) := by decide +kernel
theorem dX6_takesBegin_91 : decode cX6_takesBegin 91 = .ok (.iload_n 3, 1) := by decide +kernel
theorem dX6_takesBegin_92 : decode cX6_takesBegin 92 = .ok (.ifCond .ne 15, 3) := by decide +kernel
theorem dX6_takesBegin_95 : decode cX6_takesBegin 95 = .ok (.aload_n 0, 1) := by decide +kernel
theorem dX6_takesBegin_96 : decode cX6_takesBegin 96 = .ok (.iconst 2, 1) := by decide +kernel
theorem dX6_takesBegin_97 : decode cX6_takesBegin 97 = .ok (.aload_n 0, 1) := by decide +kernel
theorem dX6_takesBegin_98 : decode cX6_takesBegin 98 = .ok (.iload_n 1, 1) := by decide +kernel
theorem dX6_takesBegin_99 : decode cX6_takesBegin 99 = .ok (.iconst 0, 1) := by decide +kernel
theorem dX6_takesBegin_100 : decode cX6_takesBegin 100 = .ok (.invokevirtual 70, 3) := by decide +kernel
theorem dX6_takesBegin_103 : decode cX6_takesBegin 103 = .ok (.iload_n 1, 1) := by decide +kernel
theorem dX6_takesBegin_104 : decode cX6_takesBegin 104 = .ok (.invokevirtual 74, 3) := by decide +kernel
theorem dX6_takesBegin_107 : decode cX6_takesBegin 107 = .ok (.iconst 1, 1) := by decide +kernel
theorem dX6_takesBegin_108 : decode cX6_takesBegin 108 = .ok (.ireturn, 1) := by decide +kernel
theorem dX6_takesOther_0 : decode cX6_takesOther 0 = .ok (.aload_n 0, 1) := by decide +kernel
theorem dX6_takesOther_1 : decode cX6_takesOther 1 = .ok (.iload_n 1, 1) := by decide +kernel
theorem dX6_takesOther_2 : decode cX6_takesOther 2 = .ok (.iload_n 2, 1) := by decide +kernel
theorem dX6_takesOther_3 : decode cX6_takesOther 3 = .ok (.iconst 2, 1) := by decide +kernel
theorem dX6_takesOther_4 : decode cX6_takesOther 4 = .ok (.if_icmp .ne 7, 3) := by decide +kernel
theorem dX6_takesOther_7 : decode cX6_takesOther 7 = .ok (.iconst 1, 1) := by decide +kernel
theorem dX6_takesOther_8 : decode cX6_takesOther 8 = .ok (.goto 13, 3) := by decide +kernel
theorem dX6_takesOther_11 : decode cX6_takesOther 11 = .ok (.iload_n 2, 1) := by decide +kernel
theorem dX6_takesOther_12 : decode cX6_takesOther 12 = .ok (.iconst 3, 1) := by decide +kernel
theorem dX6_takesOther_13 : decode cX6_takesOther 13 = .ok (.if_icmp .ne 7, 3) := by decide +kernel
theorem dX6_takesOther_16 : decode cX6_takesOther 16 = .ok (.iconst 2, 1) := by decide +kernel
theorem dX6_takesOther_17 : decode cX6_takesOther 17 = .ok (.goto 4, 3) := by decide +kernel
theorem dX6_takesOther_20 : decode cX6_takesOther 20 = .ok (.iconst 3, 1) := by decide +kernel
theorem dX6_takesOther_21 : decode cX6_takesOther 21 = .ok (.iload_n 3, 1) := by decide +kernel
theorem dX6_takesOther_22 : decode cX6_takesOther 22 = .ok (.invokevirtual 78, 3) := by decide +kernel
theorem dX6_takesOther_25 : decode cX6_takesOther 25 = .ok (.istore 4, 2) := by decide +kernel
theorem dX6_takesOther_27 : decode cX6_takesOther 27 = .ok (.iload 4, 2) := by decide +kernel
theorem dX6_takesOther_29 : decode cX6_takesOther 29 = .ok (.ifCond .eq 45, 3) := by decide +kernel
theorem dX6_takesOther_32 : decode cX6_takesOther 32 = .ok (.iload_n 2, 1) := by decide +kernel
theorem dX6_takesOther_33 : decode cX6_takesOther 33 = .ok (.iconst 2, 1) := by decide +kernel
theorem dX6_takesOther_34 : decode cX6_takesOther 34 = .ok (.if_icmp .ne 40, 3) := by decide +kernel
theorem dX6_takesOther_37 : decode cX6_takesOther 37 = .ok (.aload_n 0, 1) := by decide +kernel
theorem dX6_takesOther_38 : decode cX6_takesOther 38 = .ok (.getfield 7, 3) := by decide +kernel
theorem dX6_takesOther_41 : decode cX6_takesOther 41 = .ok (.iload_n 1, 1) := by decide +kernel
theorem dX6_takesOther_42 : decode cX6_takesOther 42 = .ok (.dup2, 1) := by decide +kernel
theorem dX6_takesOther_43 : decode cX6_takesOther 43 = .ok (.iaload, 1) := by decide +kernel
theorem dX6_takesOther_44 : decode cX6_takesOther 44 = .ok (.aload_n 0, 1) := by decide +kernel
theorem dX6_takesOther_45 : decode cX6_takesOther 45 = .ok (.iload_n 3, 1) := by decide +kernel
theorem dX6_takesOther_46 : decode cX6_takesOther 46 = .ok (.iconst 4, 1) := by decide +kernel
theorem dX6_takesOther_47 : decode cX6_takesOther 47 = .ok (.invokevirtual 70, 3) := by decide +kernel
theorem dX6_takesOther_50 : decode cX6_takesOther 50 = .ok (.isub, 1) := by decide +kernel
theorem dX6_takesOther_51 : decode cX6_takesOther 51 = .ok (.iastore, 1) := by decide +kernel
theorem dX6_takesOther_52 : decode cX6_takesOther 52 = .ok (.aload_n 0, 1) := by decide +kernel
theorem dX6_takesOther_53 : decode cX6_takesOther 53 = .ok (.getfield 16, 3) := by decide +kernel
theorem dX6_takesOther_56 : decode cX6_takesOther 56 = .ok (.iload_n 1, 1) := by decide +kernel
theorem dX6_takesOther_57 : decode cX6_takesOther 57 = .ok (.iconst 3, 1) := by decide +kernel
theorem dX6_takesOther_58 : decode cX6_takesOther 58 = .ok (.iastore, 1) := by decide +kernel
theorem dX6_takesOther_59 : decode cX6_takesOther 59 = .ok (.aload_n 0, 1) := by decide +kernel
theorem dX6_takesOther_60 : decode cX6_takesOther 60 = .ok (.iconst 3, 1) := by decide +kernel
theorem dX6_takesOther_61 : decode cX6_takesOther 61 = .ok (.aload_n 0, 1) := by decide +kernel
theorem dX6_takesOther_62 : decode cX6_takesOther 62 = .ok (.iload_n 3, 1) := by decide +kernel
theorem dX6_takesOther_63 : decode cX6_takesOther 63 = .ok (.iconst 2, 1) := by decide +kernel
theorem dX6_takesOther_64 : decode cX6_takesOther 64 = .ok (.invokevirtual 70, 3) := by decide +kernel
theorem dX6_takesOther_67 : decode cX6_takesOther 67 = .ok (.iload_n 3, 1) := by decide +kernel
theorem dX6_takesOther_68 : decode cX6_takesOther 68 = .ok (.invokevirtual 74, 3) := by decide +kernel
theorem dX6_takesOther_71 : decode cX6_takesOther 71 = .ok (.goto 56, 3) := by decide +kernel
theorem dX6_takesOther_74 : decode cX6_takesOther 74 = .ok (.iload 4, 2) := by decide +kernel
theorem dX6_takesOther_76 : decode cX6_takesOther 76 = .ok (.ifCond .eq 51, 3) := by decide +kernel
theorem dX6_takesOther_79 : decode cX6_takesOther 79 = .ok (.aload_n 0, 1) := by decide +kernel
theorem dX6_takesOther_80 : decode cX6_takesOther 80 = .ok (.getfield 7, 3) := by decide +kernel
theorem dX6_takesOther_83 : decode cX6_takesOther 83 = .ok (.iload_n 1, 1) := by decide +kernel
theorem dX6_takesOther_84 : decode cX6_takesOther 84 = .ok (.dup2, 1) := by decide +kernel
theorem dX6_takesOther_85 : decode cX6_takesOther 85 = .ok (.iaload, 1) := by decide +kernel
theorem dX6_takesOther_86 : decode cX6_takesOther 86 = .ok (.iload_n 2, 1) := by decide +kernel
theorem dX6_takesOther_87 : decode cX6_takesOther 87 = .ok (.iconst 3, 1) := by decide +kernel
theorem dX6_takesOther_88 : decode cX6_takesOther 88 = .ok (.if_icmp .ne 12, 3) := by decide +kernel
theorem dX6_takesOther_91 : decode cX6_takesOther 91 = .ok (.aload_n 0, 1) := by decide +kernel
theorem dX6_takesOther_92 : decode cX6_takesOther 92 = .ok (.iload_n 3, 1) := by decide +kernel
theorem dX6_takesOther_93 : decode cX6_takesOther 93 = .ok (.iconst 4, 1) := by decide +kernel
theorem dX6_takesOther_94 : decode cX6_takesOther 94 = .ok (.invokevirtual 70, 3) := by decide +kernel
theorem dX6_takesOther_97 : decode cX6_takesOther 97 = .ok (.goto 4, 3) := by decide +kernel
theorem dX6_takesOther_100 : decode cX6_takesOther 100 = .ok (.iconst 0, 1) := by decide +kernel
theorem dX6_takesOther_101 : decode cX6_takesOther 101 = .ok (.iadd, 1) := by decide +kernel
theorem dX6_takesOther_102 : decode cX6_takesOther 102 = .ok (.iastore, 1) := by decide +kernel
theorem dX6_takesOther_103 : decode cX6_takesOther 103 = .ok (.aload_n 0, 1) := by decide +kernel
theorem dX6_takesOther_104 : decode cX6_takesOther 104 = .ok (.getfield 16, 3) := by decide +kernel
theorem dX6_takesOther_107 : decode cX6_takesOther 107 = .ok (.iload_n 1, 1) := by decide +kernel
theorem dX6_takesOther_108 : decode cX6_takesOther 108 = .ok (.iconst 0, 1) := by decide +kernel
theorem dX6_takesOther_109 : decode cX6_takesOther 109 = .ok (.iastore, 1) := by decide +kernel
theorem dX6_takesOther_110 : decode cX6_takesOther 110 = .ok (.iload_n 2, 1) := by decide +kernel
theorem dX6_takesOther_111 : decode cX6_takesOther 111 = .ok (.iconst 3, 1) := by decide +kernel
theorem dX6_takesOther_112 : decode cX6_takesOther 112 = .ok (.if_icmp .ne 15, 3) := by decide +kernel
theorem dX6_takesOther_115 : decode cX6_takesOther 115 = .ok (.aload_n 0, 1) := by decide +kernel
theorem dX6_takesOther_116 : decode cX6_takesOther 116 = .ok (.iconst 4, 1) := by decide +kernel
theorem dX6_takesOther_117 : decode cX6_takesOther 117 = .ok (.aload_n 0, 1) := by decide +kernel
theorem dX6_takesOther_118 : decode cX6_takesOther 118 = .ok (.iload_n 3, 1) := by decide +kernel
theorem dX6_takesOther_119 : decode cX6_takesOther 119 = .ok (.iconst 0, 1) := by decide +kernel
theorem dX6_takesOther_120 : decode cX6_takesOther 120 = .ok (.invokevirtual 70, 3) := by decide +kernel
theorem dX6_takesOther_123 : decode cX6_takesOther 123 = .ok (.iload_n 3, 1) := by decide +kernel
theorem dX6_takesOther_124 : decode cX6_takesOther 124 = .ok (.invokevirtual 74, 3) := by decide +kernel
theorem dX6_takesOther_127 : decode cX6_takesOther 127 = .ok (.iload 4, 2) := by decide +kernel
theorem dX6_takesOther_129 : decode cX6_takesOther 129 = .ok (.ireturn, 1) := by decide +kernel
theorem dX6_takesRecord_0 : decode cX6_takesRecord 0 = .ok (.aload_n 0, 1) := by decide +kernel
theorem dX6_takesRecord_1 : decode cX6_takesRecord 1 = .ok (.aload_n 0, 1) := by decide +kernel
theorem dX6_takesRecord_2 : decode cX6_takesRecord 2 = .ok (.getfield 28, 3) := by decide +kernel
theorem dX6_takesRecord_5 : decode cX6_takesRecord 5 = .ok (.iload_n 1, 1) := by decide +kernel
theorem dX6_takesRecord_6 : decode cX6_takesRecord 6 = .ok (.iaload, 1) := by decide +kernel
theorem dX6_takesRecord_7 : decode cX6_takesRecord 7 = .ok (.bipush 72, 2) := by decide +kernel
theorem dX6_takesRecord_9 : decode cX6_takesRecord 9 = .ok (.iload_n 1, 1) := by decide +kernel
theorem dX6_takesRecord_10 : decode cX6_takesRecord 10 = .ok (.iadd, 1) := by decide +kernel
theorem dX6_takesRecord_11 : decode cX6_takesRecord 11 = .ok (.aload_n 0, 1) := by decide +kernel
theorem dX6_takesRecord_12 : decode cX6_takesRecord 12 = .ok (.getfield 56, 3) := by decide +kernel
theorem dX6_takesRecord_15 : decode cX6_takesRecord 15 = .ok (.invokevirtual 81, 3) := by decide +kernel
theorem dX6_takesRecord_18 : decode cX6_takesRecord 18 = .ok (.ifCond .eq 5, 3) := by decide +kernel
theorem dX6_takesRecord_21 : decode cX6_takesRecord 21 = .ok (.iconst 0, 1) := by decide +kernel
theorem dX6_takesRecord_22 : decode cX6_takesRecord 22 = .ok (.ireturn, 1) := by decide +kernel
theorem dX6_takesRecord_23 : decode cX6_takesRecord 23 = .ok (.aload_n 0, 1) := by decide +kernel
theorem dX6_takesRecord_24 : decode cX6_takesRecord 24 = .ok (.getfield 31, 3) := by decide +kernel
theorem dX6_takesRecord_27 : decode cX6_takesRecord 27 = .ok (.aload_n 0, 1) := by decide +kernel
theorem dX6_takesRecord_28 : decode cX6_takesRecord 28 = .ok (.getfield 56, 3) := by decide +kernel
theorem dX6_takesRecord_31 : decode cX6_takesRecord 31 = .ok (.aload_n 0, 1) := by decide +kernel
theorem dX6_takesRecord_32 : decode cX6_takesRecord 32 = .ok (.getfield 28, 3) := by decide +kernel
theorem dX6_takesRecord_35 : decode cX6_takesRecord 35 = .ok (.iload_n 1, 1) := by decide +kernel
theorem dX6_takesRecord_36 : decode cX6_takesRecord 36 = .ok (.iaload, 1) := by decide +kernel
theorem dX6_takesRecord_37 : decode cX6_takesRecord 37 = .ok (.iastore, 1) := by decide +kernel
theorem dX6_takesRecord_38 : decode cX6_takesRecord 38 = .ok (.aload_n 0, 1) := by decide +kernel
theorem dX6_takesRecord_39 : decode cX6_takesRecord 39 = .ok (.getfield 34, 3) := by decide +kernel
theorem dX6_takesRecord_42 : decode cX6_takesRecord 42 = .ok (.aload_n 0, 1) := by decide +kernel
theorem dX6_takesRecord_43 : decode cX6_takesRecord 43 = .ok (.getfield 56, 3) := by decide +kernel
theorem dX6_takesRecord_46 : decode cX6_takesRecord 46 = .ok (.iconst 0, 1) := by decide +kernel
theorem dX6_takesRecord_47 : decode cX6_takesRecord 47 = .ok (.bastore, 1) := by decide +kernel
theorem dX6_takesRecord_48 : decode cX6_takesRecord 48 = .ok (.aload_n 0, 1) := by decide +kernel
theorem dX6_takesRecord_49 : decode cX6_takesRecord 49 = .ok (.bipush 72, 2) := by decide +kernel
theorem dX6_takesRecord_51 : decode cX6_takesRecord 51 = .ok (.iload_n 1, 1) := by decide +kernel
theorem dX6_takesRecord_52 : decode cX6_takesRecord 52 = .ok (.iadd, 1) := by decide +kernel
theorem dX6_takesRecord_53 : decode cX6_takesRecord 53 = .ok (.sipush 872, 3) := by decide +kernel
theorem dX6_takesRecord_56 : decode cX6_takesRecord 56 = .ok (.aload_n 0, 1) := by decide +kernel
theorem dX6_takesRecord_57 : decode cX6_takesRecord 57 = .ok (.getfield 56, 3) := by decide +kernel
theorem dX6_takesRecord_60 : decode cX6_takesRecord 60 = .ok (.iadd, 1) := by decide +kernel
theorem dX6_takesRecord_61 : decode cX6_takesRecord 61 = .ok (.invokevirtual 62, 3) := by decide +kernel
theorem dX6_takesRecord_64 : decode cX6_takesRecord 64 = .ok (.aload_n 0, 1) := by decide +kernel
theorem dX6_takesRecord_65 : decode cX6_takesRecord 65 = .ok (.dup, 1) := by decide +kernel
theorem dX6_takesRecord_66 : decode cX6_takesRecord 66 = .ok (.getfield 56, 3) := by decide +kernel
theorem dX6_takesRecord_69 : decode cX6_takesRecord 69 = .ok (.iconst 1, 1) := by decide +kernel
theorem dX6_takesRecord_70 : decode cX6_takesRecord 70 = .ok (.iadd, 1) := by decide +kernel
theorem dX6_takesRecord_71 : decode cX6_takesRecord 71 = .ok (.putfield 56, 3) := by decide +kernel
theorem dX6_takesRecord_74 : decode cX6_takesRecord 74 = .ok (.iconst 1, 1) := by decide +kernel
theorem dX6_takesRecord_75 : decode cX6_takesRecord 75 = .ok (.ireturn, 1) := by decide +kernel
theorem dX6_takesClearing_0 : decode cX6_takesClearing 0 = .ok (.aload_n 0, 1) := by decide +kernel
theorem dX6_takesClearing_1 : decode cX6_takesClearing 1 = .ok (.getfield 16, 3) := by decide +kernel
theorem dX6_takesClearing_4 : decode cX6_takesClearing 4 = .ok (.iload_n 1, 1) := by decide +kernel
theorem dX6_takesClearing_5 : decode cX6_takesClearing 5 = .ok (.iaload, 1) := by decide +kernel
theorem dX6_takesClearing_6 : decode cX6_takesClearing 6 = .ok (.ifCond .ne 16, 3) := by decide +kernel
theorem dX6_takesClearing_9 : decode cX6_takesClearing 9 = .ok (.aload_n 0, 1) := by decide +kernel
theorem dX6_takesClearing_10 : decode cX6_takesClearing 10 = .ok (.getfield 19, 3) := by decide +kernel
theorem dX6_takesClearing_13 : decode cX6_takesClearing 13 = .ok (.iload_n 1, 1) := by decide +kernel
theorem dX6_takesClearing_14 : decode cX6_takesClearing 14 = .ok (.iaload, 1) := by decide +kernel
theorem dX6_takesClearing_15 : decode cX6_takesClearing 15 = .ok (.ifCond .le 7, 3) := by decide +kernel
theorem dX6_takesClearing_18 : decode cX6_takesClearing 18 = .ok (.iconst 1, 1) := by decide +kernel
theorem dX6_takesClearing_19 : decode cX6_takesClearing 19 = .ok (.goto 4, 3) := by decide +kernel
theorem dX6_takesClearing_22 : decode cX6_takesClearing 22 = .ok (.iconst 0, 1) := by decide +kernel
theorem dX6_takesClearing_23 : decode cX6_takesClearing 23 = .ok (.istore_n 3, 1) := by decide +kernel
theorem dX6_takesClearing_24 : decode cX6_takesClearing 24 = .ok (.iconst 0, 1) := by decide +kernel
theorem dX6_takesClearing_25 : decode cX6_takesClearing 25 = .ok (.istore 4, 2) := by decide +kernel
theorem dX6_takesClearing_27 : decode cX6_takesClearing 27 = .ok (.iload 4, 2) := by decide +kernel
theorem dX6_takesClearing_29 : decode cX6_takesClearing 29 = .ok (.aload_n 0, 1) := by decide +kernel
theorem dX6_takesClearing_30 : decode cX6_takesClearing 30 = .ok (.getfield 19, 3) := by decide +kernel
theorem dX6_takesClearing_33 : decode cX6_takesClearing 33 = .ok (.iload_n 1, 1) := by decide +kernel
theorem dX6_takesClearing_34 : decode cX6_takesClearing 34 = .ok (.iaload, 1) := by decide +kernel
theorem dX6_takesClearing_35 : decode cX6_takesClearing 35 = .ok (.if_icmp .ge 37, 3) := by decide +kernel
theorem dX6_takesClearing_38 : decode cX6_takesClearing 38 = .ok (.iload_n 3, 1) := by decide +kernel
theorem dX6_takesClearing_39 : decode cX6_takesClearing 39 = .ok (.ifCond .eq 25, 3) := by decide +kernel
theorem dX6_takesClearing_42 : decode cX6_takesClearing 42 = .ok (.aload_n 0, 1) := by decide +kernel
theorem dX6_takesClearing_43 : decode cX6_takesClearing 43 = .ok (.iload_n 1, 1) := by decide +kernel
theorem dX6_takesClearing_44 : decode cX6_takesClearing 44 = .ok (.bipush 12, 2) := by decide +kernel
theorem dX6_takesClearing_46 : decode cX6_takesClearing 46 = .ok (.iconst 5, 1) := by decide +kernel
theorem dX6_takesClearing_47 : decode cX6_takesClearing 47 = .ok (.iload_n 1, 1) := by decide +kernel
theorem dX6_takesClearing_48 : decode cX6_takesClearing 48 = .ok (.imul, 1) := by decide +kernel
theorem dX6_takesClearing_49 : decode cX6_takesClearing 49 = .ok (.iadd, 1) := by decide +kernel
theorem dX6_takesClearing_50 : decode cX6_takesClearing 50 = .ok (.iload 4, 2) := by decide +kernel
theorem dX6_takesClearing_52 : decode cX6_takesClearing 52 = .ok (.iadd, 1) := by decide +kernel
theorem dX6_takesClearing_53 : decode cX6_takesClearing 53 = .ok (.iload_n 2, 1) := by decide +kernel
theorem dX6_takesClearing_54 : decode cX6_takesClearing 54 = .ok (.invokevirtual 81, 3) := by decide +kernel
theorem dX6_takesClearing_57 : decode cX6_takesClearing 57 = .ok (.ifCond .eq 7, 3) := by decide +kernel
theorem dX6_takesClearing_60 : decode cX6_takesClearing 60 = .ok (.iconst 1, 1) := by decide +kernel
theorem dX6_takesClearing_61 : decode cX6_takesClearing 61 = .ok (.goto 4, 3) := by decide +kernel
theorem dX6_takesClearing_64 : decode cX6_takesClearing 64 = .ok (.iconst 0, 1) := by decide +kernel
theorem dX6_takesClearing_65 : decode cX6_takesClearing 65 = .ok (.istore_n 3, 1) := by decide +kernel
theorem dX6_takesClearing_66 : decode cX6_takesClearing 66 = .ok (.iinc 4 1, 3) := by decide +kernel
theorem dX6_takesClearing_69 : decode cX6_takesClearing 69 = .ok (.goto (-42), 3) := by decide +kernel
theorem dX6_takesClearing_72 : decode cX6_takesClearing 72 = .ok (.aload_n 0, 1) := by decide +kernel
theorem dX6_takesClearing_73 : decode cX6_takesClearing 73 = .ok (.getfield 19, 3) := by decide +kernel
theorem dX6_takesClearing_76 : decode cX6_takesClearing 76 = .ok (.iload_n 1, 1) := by decide +kernel
theorem dX6_takesClearing_77 : decode cX6_takesClearing 77 = .ok (.iload_n 3, 1) := by decide +kernel
theorem dX6_takesClearing_78 : decode cX6_takesClearing 78 = .ok (.ifCond .eq 7, 3) := by decide +kernel
theorem dX6_takesClearing_81 : decode cX6_takesClearing 81 = .ok (.iconst 0, 1) := by decide +kernel
theorem dX6_takesClearing_82 : decode cX6_takesClearing 82 = .ok (.goto 9, 3) := by decide +kernel
theorem dX6_takesClearing_85 : decode cX6_takesClearing 85 = .ok (.aload_n 0, 1) := by decide +kernel
theorem dX6_takesClearing_86 : decode cX6_takesClearing 86 = .ok (.getfield 19, 3) := by decide +kernel
theorem dX6_takesClearing_89 : decode cX6_takesClearing 89 = .ok (.iload_n 1, 1) := by decide +kernel
theorem dX6_takesClearing_90 : decode cX6_takesClearing 90 = .ok (.iaload, 1) := by decide +kernel
theorem dX6_takesClearing_91 : decode cX6_takesClearing 91 = .ok (.iastore, 1) := by decide +kernel
theorem dX6_takesClearing_92 : decode cX6_takesClearing 92 = .ok (.iload_n 3, 1) := by decide +kernel
theorem dX6_takesClearing_93 : decode cX6_takesClearing 93 = .ok (.ireturn, 1) := by decide +kernel
theorem dX6_purse_0 : decode cX6_purse 0 = .ok (.aload_n 0, 1) := by decide +kernel
theorem dX6_purse_1 : decode cX6_purse 1 = .ok (.iload_n 1, 1) := by decide +kernel
theorem dX6_purse_2 : decode cX6_purse 2 = .ok (.iconst 0, 1) := by decide +kernel
theorem dX6_purse_3 : decode cX6_purse 3 = .ok (.ldc 84, 2) := by decide +kernel
theorem dX6_purse_5 : decode cX6_purse 5 = .ok (.invokestatic 48, 3) := by decide +kernel
theorem dX6_purse_8 : decode cX6_purse 8 = .ok (.ifCond .ne 7, 3) := by decide +kernel
theorem dX6_purse_11 : decode cX6_purse 11 = .ok (.iconst 1, 1) := by decide +kernel
theorem dX6_purse_12 : decode cX6_purse 12 = .ok (.goto 17, 3) := by decide +kernel
theorem dX6_purse_15 : decode cX6_purse 15 = .ok (.aload_n 0, 1) := by decide +kernel
theorem dX6_purse_16 : decode cX6_purse 16 = .ok (.getfield 45, 3) := by decide +kernel
theorem dX6_purse_19 : decode cX6_purse 19 = .ok (.bipush 12, 2) := by decide +kernel
theorem dX6_purse_21 : decode cX6_purse 21 = .ok (.if_icmp .ne 7, 3) := by decide +kernel
theorem dX6_purse_24 : decode cX6_purse 24 = .ok (.iconst 2, 1) := by decide +kernel
theorem dX6_purse_25 : decode cX6_purse 25 = .ok (.goto 4, 3) := by decide +kernel
theorem dX6_purse_28 : decode cX6_purse 28 = .ok (.iconst 0, 1) := by decide +kernel
theorem dX6_purse_29 : decode cX6_purse 29 = .ok (.putfield 41, 3) := by decide +kernel
theorem dX6_purse_32 : decode cX6_purse 32 = .ok (.aload_n 0, 1) := by decide +kernel
theorem dX6_purse_33 : decode cX6_purse 33 = .ok (.getfield 41, 3) := by decide +kernel
theorem dX6_purse_36 : decode cX6_purse 36 = .ok (.ifCond .le 5, 3) := by decide +kernel
theorem dX6_purse_39 : decode cX6_purse 39 = .ok (.iconst 0, 1) := by decide +kernel
theorem dX6_purse_40 : decode cX6_purse 40 = .ok (.ireturn, 1) := by decide +kernel
theorem dX6_purse_41 : decode cX6_purse 41 = .ok (.aload_n 0, 1) := by decide +kernel
theorem dX6_purse_42 : decode cX6_purse 42 = .ok (.getfield 7, 3) := by decide +kernel
theorem dX6_purse_45 : decode cX6_purse 45 = .ok (.aload_n 0, 1) := by decide +kernel
theorem dX6_purse_46 : decode cX6_purse 46 = .ok (.getfield 45, 3) := by decide +kernel
theorem dX6_purse_49 : decode cX6_purse 49 = .ok (.iload_n 1, 1) := by decide +kernel
theorem dX6_purse_50 : decode cX6_purse 50 = .ok (.iastore, 1) := by decide +kernel
theorem dX6_purse_51 : decode cX6_purse 51 = .ok (.aload_n 0, 1) := by decide +kernel
theorem dX6_purse_52 : decode cX6_purse 52 = .ok (.getfield 13, 3) := by decide +kernel
theorem dX6_purse_55 : decode cX6_purse 55 = .ok (.aload_n 0, 1) := by decide +kernel
theorem dX6_purse_56 : decode cX6_purse 56 = .ok (.getfield 45, 3) := by decide +kernel
theorem dX6_purse_59 : decode cX6_purse 59 = .ok (.iconst 1, 1) := by decide +kernel
theorem dX6_purse_60 : decode cX6_purse 60 = .ok (.iastore, 1) := by decide +kernel
theorem dX6_purse_61 : decode cX6_purse 61 = .ok (.aload_n 0, 1) := by decide +kernel
theorem dX6_purse_62 : decode cX6_purse 62 = .ok (.dup, 1) := by decide +kernel
theorem dX6_purse_63 : decode cX6_purse 63 = .ok (.getfield 45, 3) := by decide +kernel
theorem dX6_purse_66 : decode cX6_purse 66 = .ok (.iconst 1, 1) := by decide +kernel
theorem dX6_purse_67 : decode cX6_purse 67 = .ok (.iadd, 1) := by decide +kernel
theorem dX6_purse_68 : decode cX6_purse 68 = .ok (.putfield 45, 3) := by decide +kernel
theorem dX6_purse_71 : decode cX6_purse 71 = .ok (.aload_n 0, 1) := by decide +kernel
theorem dX6_purse_72 : decode cX6_purse 72 = .ok (.getfield 45, 3) := by decide +kernel
theorem dX6_purse_75 : decode cX6_purse 75 = .ok (.iconst 1, 1) := by decide +kernel
theorem dX6_purse_76 : decode cX6_purse 76 = .ok (.isub, 1) := by decide +kernel
theorem dX6_purse_77 : decode cX6_purse 77 = .ok (.ireturn, 1) := by decide +kernel
theorem dX6_begin_0 : decode cX6_begin 0 = .ok (.aload_n 0, 1) := by decide +kernel
theorem dX6_begin_1 : decode cX6_begin 1 = .ok (.aload_n 0, 1) := by decide +kernel
theorem dX6_begin_2 : decode cX6_begin 2 = .ok (.iload_n 1, 1) := by decide +kernel
theorem dX6_begin_3 : decode cX6_begin 3 = .ok (.invokevirtual 85, 3) := by decide +kernel
theorem dX6_begin_6 : decode cX6_begin 6 = .ok (.ifCond .eq 11, 3) := by decide +kernel
theorem dX6_begin_9 : decode cX6_begin 9 = .ok (.aload_n 0, 1) := by decide +kernel
theorem dX6_begin_10 : decode cX6_begin 10 = .ok (.iload_n 2, 1) := by decide +kernel
theorem dX6_begin_11 : decode cX6_begin 11 = .ok (.invokevirtual 85, 3) := by decide +kernel
theorem dX6_begin_14 : decode cX6_begin 14 = .ok (.ifCond .ne 7, 3) := by decide +kernel
theorem dX6_begin_17 : decode cX6_begin 17 = .ok (.iconst 1, 1) := by decide +kernel
theorem dX6_begin_18 : decode cX6_begin 18 = .ok (.goto 39, 3) := by decide +kernel
theorem dX6_begin_21 : decode cX6_begin 21 = .ok (.iload_n 1, 1) := by decide +kernel
theorem dX6_begin_22 : decode cX6_begin 22 = .ok (.iload_n 2, 1) := by decide +kernel
theorem dX6_begin_23 : decode cX6_begin 23 = .ok (.if_icmp .eq 13, 3) := by decide +kernel
theorem dX6_begin_26 : decode cX6_begin 26 = .ok (.iload_n 3, 1) := by decide +kernel
theorem dX6_begin_27 : decode cX6_begin 27 = .ok (.iconst 1, 1) := by decide +kernel
theorem dX6_begin_28 : decode cX6_begin 28 = .ok (.ldc 89, 2) := by decide +kernel
theorem dX6_begin_30 : decode cX6_begin 30 = .ok (.invokestatic 48, 3) := by decide +kernel
theorem dX6_begin_33 : decode cX6_begin 33 = .ok (.ifCond .ne 7, 3) := by decide +kernel
theorem dX6_begin_36 : decode cX6_begin 36 = .ok (.iconst 2, 1) := by decide +kernel
theorem dX6_begin_37 : decode cX6_begin 37 = .ok (.goto 20, 3) := by decide +kernel
theorem dX6_begin_40 : decode cX6_begin 40 = .ok (.aload_n 0, 1) := by decide +kernel
theorem dX6_begin_41 : decode cX6_begin 41 = .ok (.getfield 59, 3) := by decide +kernel
theorem dX6_begin_44 : decode cX6_begin 44 = .ok (.iconst 2, 1) := by decide +kernel
theorem dX6_begin_45 : decode cX6_begin 45 = .ok (.iadd, 1) := by decide +kernel
theorem dX6_begin_46 : decode cX6_begin 46 = .ok (.sipush 800, 3) := by decide +kernel
theorem dX6_begin_49 : decode cX6_begin 49 = .ok (.if_icmp .le 7, 3) := by decide +kernel
theorem dX6_begin_52 : decode cX6_begin 52 = .ok (.iconst 3, 1) := by decide +kernel
theorem dX6_begin_53 : decode cX6_begin 53 = .ok (.goto 4, 3) := by decide +kernel
theorem dX6_begin_56 : decode cX6_begin 56 = .ok (.iconst 0, 1) := by decide +kernel
theorem dX6_begin_57 : decode cX6_begin 57 = .ok (.putfield 41, 3) := by decide +kernel
theorem dX6_begin_60 : decode cX6_begin 60 = .ok (.aload_n 0, 1) := by decide +kernel
theorem dX6_begin_61 : decode cX6_begin 61 = .ok (.getfield 41, 3) := by decide +kernel
theorem dX6_begin_64 : decode cX6_begin 64 = .ok (.ifCond .le 5, 3) := by decide +kernel
theorem dX6_begin_67 : decode cX6_begin 67 = .ok (.iconst 0, 1) := by decide +kernel
theorem dX6_begin_68 : decode cX6_begin 68 = .ok (.ireturn, 1) := by decide +kernel
theorem dX6_begin_69 : decode cX6_begin 69 = .ok (.aload_n 0, 1) := by decide +kernel
theorem dX6_begin_70 : decode cX6_begin 70 = .ok (.bipush 72, 2) := by decide +kernel
theorem dX6_begin_72 : decode cX6_begin 72 = .ok (.aload_n 0, 1) := by decide +kernel
theorem dX6_begin_73 : decode cX6_begin 73 = .ok (.getfield 59, 3) := by decide +kernel
theorem dX6_begin_76 : decode cX6_begin 76 = .ok (.iadd, 1) := by decide +kernel
theorem dX6_begin_77 : decode cX6_begin 77 = .ok (.iload_n 1, 1) := by decide +kernel
theorem dX6_begin_78 : decode cX6_begin 78 = .ok (.iconst 0, 1) := by decide +kernel
theorem dX6_begin_79 : decode cX6_begin 79 = .ok (.iload_n 2, 1) := by decide +kernel
theorem dX6_begin_80 : decode cX6_begin 80 = .ok (.aload_n 0, 1) := by decide +kernel
theorem dX6_begin_81 : decode cX6_begin 81 = .ok (.getfield 13, 3) := by decide +kernel
theorem dX6_begin_84 : decode cX6_begin 84 = .ok (.iload_n 2, 1) := by decide +kernel
theorem dX6_begin_85 : decode cX6_begin 85 = .ok (.iaload, 1) := by decide +kernel
theorem dX6_begin_86 : decode cX6_begin 86 = .ok (.iload_n 3, 1) := by decide +kernel
theorem dX6_begin_87 : decode cX6_begin 87 = .ok (.invokevirtual 90, 3) := by decide +kernel
theorem dX6_begin_90 : decode cX6_begin 90 = .ok (.aload_n 0, 1) := by decide +kernel
theorem dX6_begin_91 : decode cX6_begin 91 = .ok (.iconst 0, 1) := by decide +kernel
theorem dX6_begin_92 : decode cX6_begin 92 = .ok (.iload_n 1, 1) := by decide +kernel
theorem dX6_begin_93 : decode cX6_begin 93 = .ok (.bipush 72, 2) := by decide +kernel
theorem dX6_begin_95 : decode cX6_begin 95 = .ok (.aload_n 0, 1) := by decide +kernel
theorem dX6_begin_96 : decode cX6_begin 96 = .ok (.getfield 59, 3) := by decide +kernel
theorem dX6_begin_99 : decode cX6_begin 99 = .ok (.iadd, 1) := by decide +kernel
theorem dX6_begin_100 : decode cX6_begin 100 = .ok (.invokevirtual 74, 3) := by decide +kernel
theorem dX6_begin_103 : decode cX6_begin 103 = .ok (.aload_n 0, 1) := by decide +kernel
theorem dX6_begin_104 : decode cX6_begin 104 = .ok (.bipush 72, 2) := by decide +kernel
theorem dX6_begin_106 : decode cX6_begin 106 = .ok (.aload_n 0, 1) := by decide +kernel
theorem dX6_begin_107 : decode cX6_begin 107 = .ok (.getfield 59, 3) := by decide +kernel
theorem dX6_begin_110 : decode cX6_begin 110 = .ok (.iadd, 1) := by decide +kernel
theorem dX6_begin_111 : decode cX6_begin 111 = .ok (.iload_n 1, 1) := by decide +kernel
theorem dX6_begin_112 : decode cX6_begin 112 = .ok (.aload_n 0, 1) := by decide +kernel
theorem dX6_begin_113 : decode cX6_begin 113 = .ok (.getfield 13, 3) := by decide +kernel
theorem dX6_begin_116 : decode cX6_begin 116 = .ok (.iload_n 1, 1) := by decide +kernel
theorem dX6_begin_117 : decode cX6_begin 117 = .ok (.iaload, 1) := by decide +kernel
theorem dX6_begin_118 : decode cX6_begin 118 = .ok (.iload_n 2, 1) := by decide +kernel
theorem dX6_begin_119 : decode cX6_begin 119 = .ok (.iconst 0, 1) := by decide +kernel
theorem dX6_begin_120 : decode cX6_begin 120 = .ok (.iload_n 3, 1) := by decide +kernel
theorem dX6_begin_121 : decode cX6_begin 121 = .ok (.invokevirtual 90, 3) := by decide +kernel
theorem dX6_begin_124 : decode cX6_begin 124 = .ok (.aload_n 0, 1) := by decide +kernel
theorem dX6_begin_125 : decode cX6_begin 125 = .ok (.iconst 1, 1) := by decide +kernel
theorem dX6_begin_126 : decode cX6_begin 126 = .ok (.iload_n 2, 1) := by decide +kernel
theorem dX6_begin_127 : decode cX6_begin 127 = .ok (.bipush 72, 2) := by decide +kernel
theorem dX6_begin_129 : decode cX6_begin 129 = .ok (.aload_n 0, 1) := by decide +kernel
theorem dX6_begin_130 : decode cX6_begin 130 = .ok (.getfield 59, 3) := by decide +kernel
theorem dX6_begin_133 : decode cX6_begin 133 = .ok (.iadd, 1) := by decide +kernel
theorem dX6_begin_134 : decode cX6_begin 134 = .ok (.invokevirtual 74, 3) := by decide +kernel
theorem dX6_begin_137 : decode cX6_begin 137 = .ok (.aload_n 0, 1) := by decide +kernel
theorem dX6_begin_138 : decode cX6_begin 138 = .ok (.getfield 59, 3) := by decide +kernel
theorem dX6_begin_141 : decode cX6_begin 141 = .ok (.iconst 2, 1) := by decide +kernel
theorem dX6_begin_142 : decode cX6_begin 142 = .ok (.isub, 1) := by decide +kernel
theorem dX6_begin_143 : decode cX6_begin 143 = .ok (.ireturn, 1) := by decide +kernel
theorem dX6_deliver_0 : decode cX6_deliver 0 = .ok (.aload_n 0, 1) := by decide +kernel
theorem dX6_deliver_1 : decode cX6_deliver 1 = .ok (.iload_n 1, 1) := by decide +kernel
theorem dX6_deliver_2 : decode cX6_deliver 2 = .ok (.iconst 0, 1) := by decide +kernel
theorem dX6_deliver_3 : decode cX6_deliver 3 = .ok (.aload_n 0, 1) := by decide +kernel
theorem dX6_deliver_4 : decode cX6_deliver 4 = .ok (.getfield 59, 3) := by decide +kernel
theorem dX6_deliver_7 : decode cX6_deliver 7 = .ok (.iconst 1, 1) := by decide +kernel
theorem dX6_deliver_8 : decode cX6_deliver 8 = .ok (.isub, 1) := by decide +kernel
theorem dX6_deliver_9 : decode cX6_deliver 9 = .ok (.invokestatic 48, 3) := by decide +kernel
theorem dX6_deliver_12 : decode cX6_deliver 12 = .ok (.ifCond .eq 7, 3) := by decide +kernel
theorem dX6_deliver_15 : decode cX6_deliver 15 = .ok (.iconst 0, 1) := by decide +kernel
theorem dX6_deliver_16 : decode cX6_deliver 16 = .ok (.goto 4, 3) := by decide +kernel
theorem dX6_deliver_19 : decode cX6_deliver 19 = .ok (.iconst 1, 1) := by decide +kernel
theorem dX6_deliver_20 : decode cX6_deliver 20 = .ok (.putfield 41, 3) := by decide +kernel
theorem dX6_deliver_23 : decode cX6_deliver 23 = .ok (.aload_n 0, 1) := by decide +kernel
theorem dX6_deliver_24 : decode cX6_deliver 24 = .ok (.getfield 41, 3) := by decide +kernel
theorem dX6_deliver_27 : decode cX6_deliver 27 = .ok (.ifCond .le 5, 3) := by decide +kernel
theorem dX6_deliver_30 : decode cX6_deliver 30 = .ok (.iconst 0, 1) := by decide +kernel
theorem dX6_deliver_31 : decode cX6_deliver 31 = .ok (.ireturn, 1) := by decide +kernel
theorem dX6_deliver_32 : decode cX6_deliver 32 = .ok (.aload_n 0, 1) := by decide +kernel
theorem dX6_deliver_33 : decode cX6_deliver 33 = .ok (.getfield 22, 3) := by decide +kernel
theorem dX6_deliver_36 : decode cX6_deliver 36 = .ok (.iload_n 1, 1) := by decide +kernel
theorem dX6_deliver_37 : decode cX6_deliver 37 = .ok (.iaload, 1) := by decide +kernel
theorem dX6_deliver_38 : decode cX6_deliver 38 = .ok (.istore_n 2, 1) := by decide +kernel
theorem dX6_deliver_39 : decode cX6_deliver 39 = .ok (.aload_n 0, 1) := by decide +kernel
theorem dX6_deliver_40 : decode cX6_deliver 40 = .ok (.getfield 25, 3) := by decide +kernel
theorem dX6_deliver_43 : decode cX6_deliver 43 = .ok (.iload_n 1, 1) := by decide +kernel
theorem dX6_deliver_44 : decode cX6_deliver 44 = .ok (.iaload, 1) := by decide +kernel
theorem dX6_deliver_45 : decode cX6_deliver 45 = .ok (.istore_n 3, 1) := by decide +kernel
theorem dX6_deliver_46 : decode cX6_deliver 46 = .ok (.bipush 72, 2) := by decide +kernel
theorem dX6_deliver_48 : decode cX6_deliver 48 = .ok (.iload_n 1, 1) := by decide +kernel
theorem dX6_deliver_49 : decode cX6_deliver 49 = .ok (.iadd, 1) := by decide +kernel
theorem dX6_deliver_50 : decode cX6_deliver 50 = .ok (.istore 4, 2) := by decide +kernel
theorem dX6_deliver_52 : decode cX6_deliver 52 = .ok (.iload_n 2, 1) := by decide +kernel
theorem dX6_deliver_53 : decode cX6_deliver 53 = .ok (.iconst 1, 1) := by decide +kernel
theorem dX6_deliver_54 : decode cX6_deliver 54 = .ok (.if_icmp .eq 35, 3) := by decide +kernel
theorem dX6_deliver_57 : decode cX6_deliver 57 = .ok (.iload_n 2, 1) := by decide +kernel
theorem dX6_deliver_58 : decode cX6_deliver 58 = .ok (.iconst 2, 1) := by decide +kernel
theorem dX6_deliver_59 : decode cX6_deliver 59 = .ok (.if_icmp .ne 14, 3) := by decide +kernel
theorem dX6_deliver_62 : decode cX6_deliver 62 = .ok (.aload_n 0, 1) := by decide +kernel
theorem dX6_deliver_63 : decode cX6_deliver 63 = .ok (.iload_n 3, 1) := by decide +kernel
theorem dX6_deliver_64 : decode cX6_deliver 64 = .ok (.iconst 1, 1) := by decide +kernel
theorem dX6_deliver_65 : decode cX6_deliver 65 = .ok (.iload 4, 2) := by decide +kernel
theorem dX6_deliver_67 : decode cX6_deliver 67 = .ok (.invokevirtual 78, 3) := by decide +kernel
theorem dX6_deliver_70 : decode cX6_deliver 70 = .ok (.ifCond .ne 19, 3) := by decide +kernel
theorem dX6_deliver_73 : decode cX6_deliver 73 = .ok (.iload_n 2, 1) := by decide +kernel
theorem dX6_deliver_74 : decode cX6_deliver 74 = .ok (.iconst 3, 1) := by decide +kernel
theorem dX6_deliver_75 : decode cX6_deliver 75 = .ok (.if_icmp .ne 18, 3) := by decide +kernel
theorem dX6_deliver_78 : decode cX6_deliver 78 = .ok (.aload_n 0, 1) := by decide +kernel
theorem dX6_deliver_79 : decode cX6_deliver 79 = .ok (.iload_n 3, 1) := by decide +kernel
theorem dX6_deliver_80 : decode cX6_deliver 80 = .ok (.iconst 2, 1) := by decide +kernel
theorem dX6_deliver_81 : decode cX6_deliver 81 = .ok (.iload 4, 2) := by decide +kernel
theorem dX6_deliver_83 : decode cX6_deliver 83 = .ok (.invokevirtual 78, 3) := by decide +kernel
theorem dX6_deliver_86 : decode cX6_deliver 86 = .ok (.ifCond .eq 7, 3) := by decide +kernel
theorem dX6_deliver_89 : decode cX6_deliver 89 = .ok (.iconst 1, 1) := by decide +kernel
theorem dX6_deliver_90 : decode cX6_deliver 90 = .ok (.goto 4, 3) := by decide +kernel
theorem dX6_deliver_93 : decode cX6_deliver 93 = .ok (.iconst 0, 1) := by decide +kernel
theorem dX6_deliver_94 : decode cX6_deliver 94 = .ok (.istore 5, 2) := by decide +kernel
theorem dX6_deliver_96 : decode cX6_deliver 96 = .ok (.aload_n 0, 1) := by decide +kernel
theorem dX6_deliver_97 : decode cX6_deliver 97 = .ok (.iload 5, 2) := by decide +kernel
theorem dX6_deliver_99 : decode cX6_deliver 99 = .ok (.ifCond .eq 17, 3) := by decide +kernel
theorem dX6_deliver_102 : decode cX6_deliver 102 = .ok (.aload_n 0, 1) := by decide +kernel
theorem dX6_deliver_103 : decode cX6_deliver 103 = .ok (.getfield 59, 3) := by decide +kernel
theorem dX6_deliver_106 : decode cX6_deliver 106 = .ok (.sipush 800, 3) := by decide +kernel
theorem dX6_deliver_109 : decode cX6_deliver 109 = .ok (.if_icmp .ne 7, 3) := by decide +kernel
theorem dX6_deliver_112 : decode cX6_deliver 112 = .ok (.iconst 2, 1) := by decide +kernel
theorem dX6_deliver_113 : decode cX6_deliver 113 = .ok (.goto 4, 3) := by decide +kernel
theorem dX6_deliver_116 : decode cX6_deliver 116 = .ok (.iconst 0, 1) := by decide +kernel
theorem dX6_deliver_117 : decode cX6_deliver 117 = .ok (.putfield 41, 3) := by decide +kernel
theorem dX6_deliver_120 : decode cX6_deliver 120 = .ok (.aload_n 0, 1) := by decide +kernel
theorem dX6_deliver_121 : decode cX6_deliver 121 = .ok (.getfield 41, 3) := by decide +kernel
theorem dX6_deliver_124 : decode cX6_deliver 124 = .ok (.ifCond .le 5, 3) := by decide +kernel
theorem dX6_deliver_127 : decode cX6_deliver 127 = .ok (.iconst 0, 1) := by decide +kernel
theorem dX6_deliver_128 : decode cX6_deliver 128 = .ok (.ireturn, 1) := by decide +kernel
theorem dX6_deliver_129 : decode cX6_deliver 129 = .ok (.iload_n 2, 1) := by decide +kernel
theorem dX6_deliver_130 : decode cX6_deliver 130 = .ok (.iconst 2, 1) := by decide +kernel
theorem dX6_deliver_131 : decode cX6_deliver 131 = .ok (.if_icmp .ge 20, 3) := by decide +kernel
theorem dX6_deliver_134 : decode cX6_deliver 134 = .ok (.aload_n 0, 1) := by decide +kernel
theorem dX6_deliver_135 : decode cX6_deliver 135 = .ok (.iload_n 3, 1) := by decide +kernel
theorem dX6_deliver_136 : decode cX6_deliver 136 = .ok (.iload 4, 2) := by decide +kernel
theorem dX6_deliver_138 : decode cX6_deliver 138 = .ok (.iload_n 2, 1) := by decide +kernel
theorem dX6_deliver_139 : decode cX6_deliver 139 = .ok (.ifCond .ne 7, 3) := by decide +kernel
theorem dX6_deliver_142 : decode cX6_deliver 142 = .ok (.iconst 1, 1) := by decide +kernel
theorem dX6_deliver_143 : decode cX6_deliver 143 = .ok (.goto 4, 3) := by decide +kernel
theorem dX6_deliver_146 : decode cX6_deliver 146 = .ok (.iconst 0, 1) := by decide +kernel
theorem dX6_deliver_147 : decode cX6_deliver 147 = .ok (.invokevirtual 94, 3) := by decide +kernel
theorem dX6_deliver_150 : decode cX6_deliver 150 = .ok (.ireturn, 1) := by decide +kernel
theorem dX6_deliver_151 : decode cX6_deliver 151 = .ok (.iload_n 2, 1) := by decide +kernel
theorem dX6_deliver_152 : decode cX6_deliver 152 = .ok (.iconst 5, 1) := by decide +kernel
theorem dX6_deliver_153 : decode cX6_deliver 153 = .ok (.if_icmp .ge 14, 3) := by decide +kernel
theorem dX6_deliver_156 : decode cX6_deliver 156 = .ok (.aload_n 0, 1) := by decide +kernel
theorem dX6_deliver_157 : decode cX6_deliver 157 = .ok (.iload_n 3, 1) := by decide +kernel
theorem dX6_deliver_158 : decode cX6_deliver 158 = .ok (.iload_n 2, 1) := by decide +kernel
theorem dX6_deliver_159 : decode cX6_deliver 159 = .ok (.iload 4, 2) := by decide +kernel
theorem dX6_deliver_161 : decode cX6_deliver 161 = .ok (.invokevirtual 98, 3) := by decide +kernel
theorem dX6_deliver_164 : decode cX6_deliver 164 = .ok (.goto 27, 3) := by decide +kernel
theorem dX6_deliver_167 : decode cX6_deliver 167 = .ok (.iload_n 2, 1) := by decide +kernel
theorem dX6_deliver_168 : decode cX6_deliver 168 = .ok (.iconst 5, 1) := by decide +kernel
theorem dX6_deliver_169 : decode cX6_deliver 169 = .ok (.if_icmp .ne 11, 3) := by decide +kernel
theorem dX6_deliver_172 : decode cX6_deliver 172 = .ok (.aload_n 0, 1) := by decide +kernel
theorem dX6_deliver_173 : decode cX6_deliver 173 = .ok (.iload_n 1, 1) := by decide +kernel
theorem dX6_deliver_174 : decode cX6_deliver 174 = .ok (.invokevirtual 101, 3) := by decide +kernel
theorem dX6_deliver_177 : decode cX6_deliver 177 = .ok (.goto 14, 3) := by decide +kernel
theorem dX6_deliver_180 : decode cX6_deliver 180 = .ok (.aload_n 0, 1) := by decide +kernel
theorem dX6_deliver_181 : decode cX6_deliver 181 = .ok (.iload_n 3, 1) := by decide +kernel
theorem dX6_deliver_182 : decode cX6_deliver 182 = .ok (.aload_n 0, 1) := by decide +kernel
theorem dX6_deliver_183 : decode cX6_deliver 183 = .ok (.getfield 28, 3) := by decide +kernel
theorem dX6_deliver_186 : decode cX6_deliver 186 = .ok (.iload_n 1, 1) := by decide +kernel
theorem dX6_deliver_187 : decode cX6_deliver 187 = .ok (.iaload, 1) := by decide +kernel
theorem dX6_deliver_188 : decode cX6_deliver 188 = .ok (.invokevirtual 104, 3) := by decide +kernel
theorem dX6_deliver_191 : decode cX6_deliver 191 = .ok (.ireturn, 1) := by decide +kernel
theorem dX6_abort_0 : decode cX6_abort 0 = .ok (.aload_n 0, 1) := by decide +kernel
theorem dX6_abort_1 : decode cX6_abort 1 = .ok (.aload_n 0, 1) := by decide +kernel
theorem dX6_abort_2 : decode cX6_abort 2 = .ok (.iload_n 1, 1) := by decide +kernel
theorem dX6_abort_3 : decode cX6_abort 3 = .ok (.invokevirtual 85, 3) := by decide +kernel
theorem dX6_abort_6 : decode cX6_abort 6 = .ok (.ifCond .eq 7, 3) := by decide +kernel
theorem dX6_abort_9 : decode cX6_abort 9 = .ok (.iconst 0, 1) := by decide +kernel
theorem dX6_abort_10 : decode cX6_abort 10 = .ok (.goto 4, 3) := by decide +kernel
theorem dX6_abort_13 : decode cX6_abort 13 = .ok (.iconst 1, 1) := by decide +kernel
theorem dX6_abort_14 : decode cX6_abort 14 = .ok (.putfield 41, 3) := by decide +kernel
theorem dX6_abort_17 : decode cX6_abort 17 = .ok (.aload_n 0, 1) := by decide +kernel
theorem dX6_abort_18 : decode cX6_abort 18 = .ok (.getfield 41, 3) := by decide +kernel
theorem dX6_abort_21 : decode cX6_abort 21 = .ok (.ifCond .le 5, 3) := by decide +kernel
theorem dX6_abort_24 : decode cX6_abort 24 = .ok (.iconst 0, 1) := by decide +kernel
theorem dX6_abort_25 : decode cX6_abort 25 = .ok (.ireturn, 1) := by decide +kernel
theorem dX6_abort_26 : decode cX6_abort 26 = .ok (.aload_n 0, 1) := by decide +kernel
theorem dX6_abort_27 : decode cX6_abort 27 = .ok (.getfield 16, 3) := by decide +kernel
theorem dX6_abort_30 : decode cX6_abort 30 = .ok (.iload_n 1, 1) := by decide +kernel
theorem dX6_abort_31 : decode cX6_abort 31 = .ok (.iaload, 1) := by decide +kernel
theorem dX6_abort_32 : decode cX6_abort 32 = .ok (.istore_n 2, 1) := by decide +kernel
theorem dX6_abort_33 : decode cX6_abort 33 = .ok (.aload_n 0, 1) := by decide +kernel
theorem dX6_abort_34 : decode cX6_abort 34 = .ok (.iload_n 1, 1) := by decide +kernel
theorem dX6_abort_35 : decode cX6_abort 35 = .ok (.invokevirtual 66, 3) := by decide +kernel
theorem dX6_abort_38 : decode cX6_abort 38 = .ok (.iload_n 2, 1) := by decide +kernel
theorem dX6_abort_39 : decode cX6_abort 39 = .ok (.ireturn, 1) := by decide +kernel
theorem dX6_readLog_0 : decode cX6_readLog 0 = .ok (.aload_n 0, 1) := by decide +kernel
theorem dX6_readLog_1 : decode cX6_readLog 1 = .ok (.aload_n 0, 1) := by decide +kernel
theorem dX6_readLog_2 : decode cX6_readLog 2 = .ok (.iload_n 1, 1) := by decide +kernel
theorem dX6_readLog_3 : decode cX6_readLog 3 = .ok (.invokevirtual 85, 3) := by decide +kernel
theorem dX6_readLog_6 : decode cX6_readLog 6 = .ok (.ifCond .ne 7, 3) := by decide +kernel
theorem dX6_readLog_9 : decode cX6_readLog 9 = .ok (.iconst 1, 1) := by decide +kernel
theorem dX6_readLog_10 : decode cX6_readLog 10 = .ok (.goto 38, 3) := by decide +kernel
theorem dX6_readLog_13 : decode cX6_readLog 13 = .ok (.aload_n 0, 1) := by decide +kernel
theorem dX6_readLog_14 : decode cX6_readLog 14 = .ok (.getfield 16, 3) := by decide +kernel
theorem dX6_readLog_17 : decode cX6_readLog 17 = .ok (.iload_n 1, 1) := by decide +kernel
theorem dX6_readLog_18 : decode cX6_readLog 18 = .ok (.iaload, 1) := by decide +kernel
theorem dX6_readLog_19 : decode cX6_readLog 19 = .ok (.ifCond .eq 7, 3) := by decide +kernel
theorem dX6_readLog_22 : decode cX6_readLog 22 = .ok (.iconst 2, 1) := by decide +kernel
theorem dX6_readLog_23 : decode cX6_readLog 23 = .ok (.goto 25, 3) := by decide +kernel
theorem dX6_readLog_26 : decode cX6_readLog 26 = .ok (.aload_n 0, 1) := by decide +kernel
theorem dX6_readLog_27 : decode cX6_readLog 27 = .ok (.getfield 59, 3) := by decide +kernel
theorem dX6_readLog_30 : decode cX6_readLog 30 = .ok (.aload_n 0, 1) := by decide +kernel
theorem dX6_readLog_31 : decode cX6_readLog 31 = .ok (.getfield 19, 3) := by decide +kernel
theorem dX6_readLog_34 : decode cX6_readLog 34 = .ok (.iload_n 1, 1) := by decide +kernel
theorem dX6_readLog_35 : decode cX6_readLog 35 = .ok (.iaload, 1) := by decide +kernel
theorem dX6_readLog_36 : decode cX6_readLog 36 = .ok (.iadd, 1) := by decide +kernel
theorem dX6_readLog_37 : decode cX6_readLog 37 = .ok (.sipush 800, 3) := by decide +kernel
theorem dX6_readLog_40 : decode cX6_readLog 40 = .ok (.if_icmp .le 7, 3) := by decide +kernel
theorem dX6_readLog_43 : decode cX6_readLog 43 = .ok (.iconst 3, 1) := by decide +kernel
theorem dX6_readLog_44 : decode cX6_readLog 44 = .ok (.goto 4, 3) := by decide +kernel
theorem dX6_readLog_47 : decode cX6_readLog 47 = .ok (.iconst 0, 1) := by decide +kernel
theorem dX6_readLog_48 : decode cX6_readLog 48 = .ok (.putfield 41, 3) := by decide +kernel
theorem dX6_readLog_51 : decode cX6_readLog 51 = .ok (.aload_n 0, 1) := by decide +kernel
theorem dX6_readLog_52 : decode cX6_readLog 52 = .ok (.getfield 41, 3) := by decide +kernel
theorem dX6_readLog_55 : decode cX6_readLog 55 = .ok (.ifCond .le 5, 3) := by decide +kernel
theorem dX6_readLog_58 : decode cX6_readLog 58 = .ok (.iconst 0, 1) := by decide +kernel
theorem dX6_readLog_59 : decode cX6_readLog 59 = .ok (.ireturn, 1) := by decide +kernel
theorem dX6_readLog_60 : decode cX6_readLog 60 = .ok (.iconst 0, 1) := by decide +kernel
theorem dX6_readLog_61 : decode cX6_readLog 61 = .ok (.istore_n 2, 1) := by decide +kernel
theorem dX6_readLog_62 : decode cX6_readLog 62 = .ok (.iload_n 2, 1) := by decide +kernel
theorem dX6_readLog_63 : decode cX6_readLog 63 = .ok (.aload_n 0, 1) := by decide +kernel
theorem dX6_readLog_64 : decode cX6_readLog 64 = .ok (.getfield 19, 3) := by decide +kernel
theorem dX6_readLog_67 : decode cX6_readLog 67 = .ok (.iload_n 1, 1) := by decide +kernel
theorem dX6_readLog_68 : decode cX6_readLog 68 = .ok (.iaload, 1) := by decide +kernel
theorem dX6_readLog_69 : decode cX6_readLog 69 = .ok (.if_icmp .ge 33, 3) := by decide +kernel
theorem dX6_readLog_72 : decode cX6_readLog 72 = .ok (.aload_n 0, 1) := by decide +kernel
theorem dX6_readLog_73 : decode cX6_readLog 73 = .ok (.getfield 28, 3) := by decide +kernel
theorem dX6_readLog_76 : decode cX6_readLog 76 = .ok (.aload_n 0, 1) := by decide +kernel
theorem dX6_readLog_77 : decode cX6_readLog 77 = .ok (.getfield 59, 3) := by decide +kernel
theorem dX6_readLog_80 : decode cX6_readLog 80 = .ok (.iload_n 1, 1) := by decide +kernel
theorem dX6_readLog_81 : decode cX6_readLog 81 = .ok (.iastore, 1) := by decide +kernel
theorem dX6_readLog_82 : decode cX6_readLog 82 = .ok (.aload_n 0, 1) := by decide +kernel
theorem dX6_readLog_83 : decode cX6_readLog 83 = .ok (.iconst 5, 1) := by decide +kernel
theorem dX6_readLog_84 : decode cX6_readLog 84 = .ok (.iconst (-1), 1) := by decide +kernel
theorem dX6_readLog_85 : decode cX6_readLog 85 = .ok (.bipush 12, 2) := by decide +kernel
theorem dX6_readLog_87 : decode cX6_readLog 87 = .ok (.iconst 5, 1) := by decide +kernel
theorem dX6_readLog_88 : decode cX6_readLog 88 = .ok (.iload_n 1, 1) := by decide +kernel
theorem dX6_readLog_89 : decode cX6_readLog 89 = .ok (.imul, 1) := by decide +kernel
theorem dX6_readLog_90 : decode cX6_readLog 90 = .ok (.iadd, 1) := by decide +kernel
theorem dX6_readLog_91 : decode cX6_readLog 91 = .ok (.iload_n 2, 1) := by decide +kernel
theorem dX6_readLog_92 : decode cX6_readLog 92 = .ok (.iadd, 1) := by decide +kernel
theorem dX6_readLog_93 : decode cX6_readLog 93 = .ok (.invokevirtual 74, 3) := by decide +kernel
theorem dX6_readLog_96 : decode cX6_readLog 96 = .ok (.iinc 2 1, 3) := by decide +kernel
theorem dX6_readLog_99 : decode cX6_readLog 99 = .ok (.goto (-37), 3) := by decide +kernel
theorem dX6_readLog_102 : decode cX6_readLog 102 = .ok (.aload_n 0, 1) := by decide +kernel
theorem dX6_readLog_103 : decode cX6_readLog 103 = .ok (.getfield 19, 3) := by decide +kernel
theorem dX6_readLog_106 : decode cX6_readLog 106 = .ok (.iload_n 1, 1) := by decide +kernel
theorem dX6_readLog_107 : decode cX6_readLog 107 = .ok (.iaload, 1) := by decide +kernel
theorem dX6_readLog_108 : decode cX6_readLog 108 = .ok (.ireturn, 1) := by decide +kernel
theorem dX6_authorise_0 : decode cX6_authorise 0 = .ok (.aload_n 0, 1) := by decide +kernel
theorem dX6_authorise_1 : decode cX6_authorise 1 = .ok (.aload_n 0, 1) := by decide +kernel
theorem dX6_authorise_2 : decode cX6_authorise 2 = .ok (.iload_n 1, 1) := by decide +kernel
theorem dX6_authorise_3 : decode cX6_authorise 3 = .ok (.invokevirtual 85, 3) := by decide +kernel
theorem dX6_authorise_6 : decode cX6_authorise 6 = .ok (.ifCond .eq 7, 3) := by decide +kernel
theorem dX6_authorise_9 : decode cX6_authorise 9 = .ok (.iconst 0, 1) := by decide +kernel
theorem dX6_authorise_10 : decode cX6_authorise 10 = .ok (.goto 4, 3) := by decide +kernel
theorem dX6_authorise_13 : decode cX6_authorise 13 = .ok (.iconst 1, 1) := by decide +kernel
theorem dX6_authorise_14 : decode cX6_authorise 14 = .ok (.putfield 41, 3) := by decide +kernel
theorem dX6_authorise_17 : decode cX6_authorise 17 = .ok (.aload_n 0, 1) := by decide +kernel
theorem dX6_authorise_18 : decode cX6_authorise 18 = .ok (.getfield 41, 3) := by decide +kernel
theorem dX6_authorise_21 : decode cX6_authorise 21 = .ok (.ifCond .le 5, 3) := by decide +kernel
theorem dX6_authorise_24 : decode cX6_authorise 24 = .ok (.iconst 0, 1) := by decide +kernel
theorem dX6_authorise_25 : decode cX6_authorise 25 = .ok (.ireturn, 1) := by decide +kernel
theorem dX6_authorise_26 : decode cX6_authorise 26 = .ok (.iconst 0, 1) := by decide +kernel
theorem dX6_authorise_27 : decode cX6_authorise 27 = .ok (.istore_n 2, 1) := by decide +kernel
theorem dX6_authorise_28 : decode cX6_authorise 28 = .ok (.iconst 0, 1) := by decide +kernel
theorem dX6_authorise_29 : decode cX6_authorise 29 = .ok (.istore_n 3, 1) := by decide +kernel
theorem dX6_authorise_30 : decode cX6_authorise 30 = .ok (.iload_n 3, 1) := by decide +kernel
theorem dX6_authorise_31 : decode cX6_authorise 31 = .ok (.aload_n 0, 1) := by decide +kernel
theorem dX6_authorise_32 : decode cX6_authorise 32 = .ok (.getfield 56, 3) := by decide +kernel
theorem dX6_authorise_35 : decode cX6_authorise 35 = .ok (.if_icmp .ge 29, 3) := by decide +kernel
theorem dX6_authorise_38 : decode cX6_authorise 38 = .ok (.iload_n 2, 1) := by decide +kernel
theorem dX6_authorise_39 : decode cX6_authorise 39 = .ok (.ifCond .ne 13, 3) := by decide +kernel
theorem dX6_authorise_42 : decode cX6_authorise 42 = .ok (.aload_n 0, 1) := by decide +kernel
theorem dX6_authorise_43 : decode cX6_authorise 43 = .ok (.getfield 31, 3) := by decide +kernel
theorem dX6_authorise_46 : decode cX6_authorise 46 = .ok (.iload_n 3, 1) := by decide +kernel
theorem dX6_authorise_47 : decode cX6_authorise 47 = .ok (.iaload, 1) := by decide +kernel
theorem dX6_authorise_48 : decode cX6_authorise 48 = .ok (.iload_n 1, 1) := by decide +kernel
theorem dX6_authorise_49 : decode cX6_authorise 49 = .ok (.if_icmp .ne 7, 3) := by decide +kernel
theorem dX6_authorise_52 : decode cX6_authorise 52 = .ok (.iconst 1, 1) := by decide +kernel
theorem dX6_authorise_53 : decode cX6_authorise 53 = .ok (.goto 4, 3) := by decide +kernel
theorem dX6_authorise_56 : decode cX6_authorise 56 = .ok (.iconst 0, 1) := by decide +kernel
theorem dX6_authorise_57 : decode cX6_authorise 57 = .ok (.istore_n 2, 1) := by decide +kernel
theorem dX6_authorise_58 : decode cX6_authorise 58 = .ok (.iinc 3 1, 3) := by decide +kernel
theorem dX6_authorise_61 : decode cX6_authorise 61 = .ok (.goto (-31), 3) := by decide +kernel
theorem dX6_authorise_64 : decode cX6_authorise 64 = .ok (.aload_n 0, 1) := by decide +kernel
theorem dX6_authorise_65 : decode cX6_authorise 65 = .ok (.iload_n 2, 1) := by decide +kernel
theorem dX6_authorise_66 : decode cX6_authorise 66 = .ok (.ifCond .ne 7, 3) := by decide +kernel
theorem dX6_authorise_69 : decode cX6_authorise 69 = .ok (.iconst 2, 1) := by decide +kernel
theorem dX6_authorise_70 : decode cX6_authorise 70 = .ok (.goto 18, 3) := by decide +kernel
theorem dX6_authorise_73 : decode cX6_authorise 73 = .ok (.aload_n 0, 1) := by decide +kernel
theorem dX6_authorise_74 : decode cX6_authorise 74 = .ok (.getfield 59, 3) := by decide +kernel
theorem dX6_authorise_77 : decode cX6_authorise 77 = .ok (.sipush 800, 3) := by decide +kernel
theorem dX6_authorise_80 : decode cX6_authorise 80 = .ok (.if_icmp .ne 7, 3) := by decide +kernel
theorem dX6_authorise_83 : decode cX6_authorise 83 = .ok (.iconst 3, 1) := by decide +kernel
theorem dX6_authorise_84 : decode cX6_authorise 84 = .ok (.goto 4, 3) := by decide +kernel
theorem dX6_authorise_87 : decode cX6_authorise 87 = .ok (.iconst 0, 1) := by decide +kernel
theorem dX6_authorise_88 : decode cX6_authorise 88 = .ok (.putfield 41, 3) := by decide +kernel
theorem dX6_authorise_91 : decode cX6_authorise 91 = .ok (.aload_n 0, 1) := by decide +kernel
theorem dX6_authorise_92 : decode cX6_authorise 92 = .ok (.getfield 41, 3) := by decide +kernel
theorem dX6_authorise_95 : decode cX6_authorise 95 = .ok (.ifCond .le 5, 3) := by decide +kernel
theorem dX6_authorise_98 : decode cX6_authorise 98 = .ok (.iconst 0, 1) := by decide +kernel
theorem dX6_authorise_99 : decode cX6_authorise 99 = .ok (.ireturn, 1) := by decide +kernel
theorem dX6_authorise_100 : decode cX6_authorise 100 = .ok (.aload_n 0, 1) := by decide +kernel
theorem dX6_authorise_101 : decode cX6_authorise 101 = .ok (.bipush 72, 2) := by decide +kernel
theorem dX6_authorise_103 : decode cX6_authorise 103 = .ok (.aload_n 0, 1) := by decide +kernel
theorem dX6_authorise_104 : decode cX6_authorise 104 = .ok (.getfield 59, 3) := by decide +kernel
theorem dX6_authorise_107 : decode cX6_authorise 107 = .ok (.iadd, 1) := by decide +kernel
theorem dX6_authorise_108 : decode cX6_authorise 108 = .ok (.iconst (-1), 1) := by decide +kernel
theorem dX6_authorise_109 : decode cX6_authorise 109 = .ok (.iconst (-1), 1) := by decide +kernel
theorem dX6_authorise_110 : decode cX6_authorise 110 = .ok (.iconst (-1), 1) := by decide +kernel
theorem dX6_authorise_111 : decode cX6_authorise 111 = .ok (.iconst (-1), 1) := by decide +kernel
theorem dX6_authorise_112 : decode cX6_authorise 112 = .ok (.iconst (-1), 1) := by decide +kernel
theorem dX6_authorise_113 : decode cX6_authorise 113 = .ok (.invokevirtual 90, 3) := by decide +kernel
theorem dX6_authorise_116 : decode cX6_authorise 116 = .ok (.aload_n 0, 1) := by decide +kernel
theorem dX6_authorise_117 : decode cX6_authorise 117 = .ok (.getfield 28, 3) := by decide +kernel
theorem dX6_authorise_120 : decode cX6_authorise 120 = .ok (.aload_n 0, 1) := by decide +kernel
theorem dX6_authorise_121 : decode cX6_authorise 121 = .ok (.getfield 59, 3) := by decide +kernel
theorem dX6_authorise_124 : decode cX6_authorise 124 = .ok (.aload_n 0, 1) := by decide +kernel
theorem dX6_authorise_125 : decode cX6_authorise 125 = .ok (.getfield 56, 3) := by decide +kernel
theorem dX6_authorise_128 : decode cX6_authorise 128 = .ok (.iastore, 1) := by decide +kernel
theorem dX6_authorise_129 : decode cX6_authorise 129 = .ok (.aload_n 0, 1) := by decide +kernel
theorem dX6_authorise_130 : decode cX6_authorise 130 = .ok (.bipush 6, 2) := by decide +kernel
theorem dX6_authorise_132 : decode cX6_authorise 132 = .ok (.iload_n 1, 1) := by decide +kernel
theorem dX6_authorise_133 : decode cX6_authorise 133 = .ok (.bipush 72, 2) := by decide +kernel
theorem dX6_authorise_135 : decode cX6_authorise 135 = .ok (.aload_n 0, 1) := by decide +kernel
theorem dX6_authorise_136 : decode cX6_authorise 136 = .ok (.getfield 59, 3) := by decide +kernel
theorem dX6_authorise_139 : decode cX6_authorise 139 = .ok (.iadd, 1) := by decide +kernel
theorem dX6_authorise_140 : decode cX6_authorise 140 = .ok (.invokevirtual 74, 3) := by decide +kernel
theorem dX6_authorise_143 : decode cX6_authorise 143 = .ok (.aload_n 0, 1) := by decide +kernel
theorem dX6_authorise_144 : decode cX6_authorise 144 = .ok (.getfield 59, 3) := by decide +kernel
theorem dX6_authorise_147 : decode cX6_authorise 147 = .ok (.iconst 1, 1) := by decide +kernel
theorem dX6_authorise_148 : decode cX6_authorise 148 = .ok (.isub, 1) := by decide +kernel
theorem dX6_authorise_149 : decode cX6_authorise 149 = .ok (.ireturn, 1) := by decide +kernel
theorem dX6_refund_0 : decode cX6_refund 0 = .ok (.aload_n 0, 1) := by decide +kernel
theorem dX6_refund_1 : decode cX6_refund 1 = .ok (.iload_n 1, 1) := by decide +kernel
theorem dX6_refund_2 : decode cX6_refund 2 = .ok (.iconst 0, 1) := by decide +kernel
theorem dX6_refund_3 : decode cX6_refund 3 = .ok (.aload_n 0, 1) := by decide +kernel
theorem dX6_refund_4 : decode cX6_refund 4 = .ok (.getfield 56, 3) := by decide +kernel
theorem dX6_refund_7 : decode cX6_refund 7 = .ok (.iconst 1, 1) := by decide +kernel
theorem dX6_refund_8 : decode cX6_refund 8 = .ok (.isub, 1) := by decide +kernel
theorem dX6_refund_9 : decode cX6_refund 9 = .ok (.invokestatic 48, 3) := by decide +kernel
theorem dX6_refund_12 : decode cX6_refund 12 = .ok (.ifCond .eq 7, 3) := by decide +kernel
theorem dX6_refund_15 : decode cX6_refund 15 = .ok (.iconst 0, 1) := by decide +kernel
theorem dX6_refund_16 : decode cX6_refund 16 = .ok (.goto 4, 3) := by decide +kernel
theorem dX6_refund_19 : decode cX6_refund 19 = .ok (.iconst 1, 1) := by decide +kernel
theorem dX6_refund_20 : decode cX6_refund 20 = .ok (.putfield 41, 3) := by decide +kernel
theorem dX6_refund_23 : decode cX6_refund 23 = .ok (.aload_n 0, 1) := by decide +kernel
theorem dX6_refund_24 : decode cX6_refund 24 = .ok (.getfield 41, 3) := by decide +kernel
theorem dX6_refund_27 : decode cX6_refund 27 = .ok (.ifCond .le 5, 3) := by decide +kernel
theorem dX6_refund_30 : decode cX6_refund 30 = .ok (.iconst 0, 1) := by decide +kernel
theorem dX6_refund_31 : decode cX6_refund 31 = .ok (.ireturn, 1) := by decide +kernel
theorem dX6_refund_32 : decode cX6_refund 32 = .ok (.sipush 872, 3) := by decide +kernel
theorem dX6_refund_35 : decode cX6_refund 35 = .ok (.iload_n 1, 1) := by decide +kernel
theorem dX6_refund_36 : decode cX6_refund 36 = .ok (.iadd, 1) := by decide +kernel
theorem dX6_refund_37 : decode cX6_refund 37 = .ok (.istore_n 2, 1) := by decide +kernel
theorem dX6_refund_38 : decode cX6_refund 38 = .ok (.aload_n 0, 1) := by decide +kernel
theorem dX6_refund_39 : decode cX6_refund 39 = .ok (.aload_n 0, 1) := by decide +kernel
theorem dX6_refund_40 : decode cX6_refund 40 = .ok (.iload_n 2, 1) := by decide +kernel
theorem dX6_refund_41 : decode cX6_refund 41 = .ok (.iconst 0, 1) := by decide +kernel
theorem dX6_refund_42 : decode cX6_refund 42 = .ok (.invokevirtual 70, 3) := by decide +kernel
theorem dX6_refund_45 : decode cX6_refund 45 = .ok (.iload_n 2, 1) := by decide +kernel
theorem dX6_refund_46 : decode cX6_refund 46 = .ok (.aload_n 0, 1) := by decide +kernel
theorem dX6_refund_47 : decode cX6_refund 47 = .ok (.getfield 56, 3) := by decide +kernel
theorem dX6_refund_50 : decode cX6_refund 50 = .ok (.invokevirtual 81, 3) := by decide +kernel
theorem dX6_refund_53 : decode cX6_refund 53 = .ok (.ifCond .eq 25, 3) := by decide +kernel
theorem dX6_refund_56 : decode cX6_refund 56 = .ok (.aload_n 0, 1) := by decide +kernel
theorem dX6_refund_57 : decode cX6_refund 57 = .ok (.aload_n 0, 1) := by decide +kernel
theorem dX6_refund_58 : decode cX6_refund 58 = .ok (.iload_n 2, 1) := by decide +kernel
theorem dX6_refund_59 : decode cX6_refund 59 = .ok (.iconst 2, 1) := by decide +kernel
theorem dX6_refund_60 : decode cX6_refund 60 = .ok (.invokevirtual 70, 3) := by decide +kernel
theorem dX6_refund_63 : decode cX6_refund 63 = .ok (.iload_n 2, 1) := by decide +kernel
theorem dX6_refund_64 : decode cX6_refund 64 = .ok (.aload_n 0, 1) := by decide +kernel
theorem dX6_refund_65 : decode cX6_refund 65 = .ok (.getfield 56, 3) := by decide +kernel
theorem dX6_refund_68 : decode cX6_refund 68 = .ok (.invokevirtual 81, 3) := by decide +kernel
theorem dX6_refund_71 : decode cX6_refund 71 = .ok (.ifCond .eq 7, 3) := by decide +kernel
theorem dX6_refund_74 : decode cX6_refund 74 = .ok (.iconst 1, 1) := by decide +kernel
theorem dX6_refund_75 : decode cX6_refund 75 = .ok (.goto 4, 3) := by decide +kernel
theorem dX6_refund_78 : decode cX6_refund 78 = .ok (.iconst 0, 1) := by decide +kernel
theorem dX6_refund_79 : decode cX6_refund 79 = .ok (.istore_n 3, 1) := by decide +kernel
theorem dX6_refund_80 : decode cX6_refund 80 = .ok (.aload_n 0, 1) := by decide +kernel
theorem dX6_refund_81 : decode cX6_refund 81 = .ok (.iload_n 3, 1) := by decide +kernel
theorem dX6_refund_82 : decode cX6_refund 82 = .ok (.ifCond .eq 15, 3) := by decide +kernel
theorem dX6_refund_85 : decode cX6_refund 85 = .ok (.aload_n 0, 1) := by decide +kernel
theorem dX6_refund_86 : decode cX6_refund 86 = .ok (.iload_n 2, 1) := by decide +kernel
theorem dX6_refund_87 : decode cX6_refund 87 = .ok (.invokevirtual 107, 3) := by decide +kernel
theorem dX6_refund_90 : decode cX6_refund 90 = .ok (.ifCond .ne 7, 3) := by decide +kernel
theorem dX6_refund_93 : decode cX6_refund 93 = .ok (.iconst 0, 1) := by decide +kernel
theorem dX6_refund_94 : decode cX6_refund 94 = .ok (.goto 4, 3) := by decide +kernel
theorem dX6_refund_97 : decode cX6_refund 97 = .ok (.iconst 2, 1) := by decide +kernel
theorem dX6_refund_98 : decode cX6_refund 98 = .ok (.putfield 41, 3) := by decide +kernel
theorem dX6_refund_101 : decode cX6_refund 101 = .ok (.aload_n 0, 1) := by decide +kernel
theorem dX6_refund_102 : decode cX6_refund 102 = .ok (.getfield 41, 3) := by decide +kernel
theorem dX6_refund_105 : decode cX6_refund 105 = .ok (.ifCond .le 5, 3) := by decide +kernel
theorem dX6_refund_108 : decode cX6_refund 108 = .ok (.iconst 0, 1) := by decide +kernel
theorem dX6_refund_109 : decode cX6_refund 109 = .ok (.ireturn, 1) := by decide +kernel
theorem dX6_refund_110 : decode cX6_refund 110 = .ok (.aload_n 0, 1) := by decide +kernel
theorem dX6_refund_111 : decode cX6_refund 111 = .ok (.getfield 34, 3) := by decide +kernel
theorem dX6_refund_114 : decode cX6_refund 114 = .ok (.iload_n 1, 1) := by decide +kernel
theorem dX6_refund_115 : decode cX6_refund 115 = .ok (.iconst 1, 1) := by decide +kernel
theorem dX6_refund_116 : decode cX6_refund 116 = .ok (.bastore, 1) := by decide +kernel
theorem dX6_refund_117 : decode cX6_refund 117 = .ok (.aload_n 0, 1) := by decide +kernel
theorem dX6_refund_118 : decode cX6_refund 118 = .ok (.getfield 7, 3) := by decide +kernel
theorem dX6_refund_121 : decode cX6_refund 121 = .ok (.aload_n 0, 1) := by decide +kernel
theorem dX6_refund_122 : decode cX6_refund 122 = .ok (.iload_n 2, 1) := by decide +kernel
theorem dX6_refund_123 : decode cX6_refund 123 = .ok (.iconst 0, 1) := by decide +kernel
theorem dX6_refund_124 : decode cX6_refund 124 = .ok (.invokevirtual 70, 3) := by decide +kernel
theorem dX6_refund_127 : decode cX6_refund 127 = .ok (.dup2, 1) := by decide +kernel
theorem dX6_refund_128 : decode cX6_refund 128 = .ok (.iaload, 1) := by decide +kernel
theorem dX6_refund_129 : decode cX6_refund 129 = .ok (.aload_n 0, 1) := by decide +kernel
theorem dX6_refund_130 : decode cX6_refund 130 = .ok (.iload_n 2, 1) := by decide +kernel
theorem dX6_refund_131 : decode cX6_refund 131 = .ok (.iconst 4, 1) := by decide +kernel
theorem dX6_refund_132 : decode cX6_refund 132 = .ok (.invokevirtual 70, 3) := by decide +kernel
theorem dX6_refund_135 : decode cX6_refund 135 = .ok (.iadd, 1) := by decide +kernel
theorem dX6_refund_136 : decode cX6_refund 136 = .ok (.iastore, 1) := by decide +kernel
theorem dX6_refund_137 : decode cX6_refund 137 = .ok (.aload_n 0, 1) := by decide +kernel
theorem dX6_refund_138 : decode cX6_refund 138 = .ok (.getfield 7, 3) := by decide +kernel
theorem dX6_refund_141 : decode cX6_refund 141 = .ok (.aload_n 0, 1) := by decide +kernel
theorem dX6_refund_142 : decode cX6_refund 142 = .ok (.iload_n 2, 1) := by decide +kernel
theorem dX6_refund_143 : decode cX6_refund 143 = .ok (.iconst 0, 1) := by decide +kernel
theorem dX6_refund_144 : decode cX6_refund 144 = .ok (.invokevirtual 70, 3) := by decide +kernel
theorem dX6_refund_147 : decode cX6_refund 147 = .ok (.iaload, 1) := by decide +kernel
theorem dX6_refund_148 : decode cX6_refund 148 = .ok (.ireturn, 1) := by decide +kernel
theorem dX6_told_0 : decode cX6_told 0 = .ok (.aload_n 0, 1) := by decide +kernel
theorem dX6_told_1 : decode cX6_told 1 = .ok (.aload_n 0, 1) := by decide +kernel
theorem dX6_told_2 : decode cX6_told 2 = .ok (.iload_n 1, 1) := by decide +kernel
theorem dX6_told_3 : decode cX6_told 3 = .ok (.invokevirtual 85, 3) := by decide +kernel
theorem dX6_told_6 : decode cX6_told 6 = .ok (.ifCond .ne 7, 3) := by decide +kernel
theorem dX6_told_9 : decode cX6_told 9 = .ok (.iconst 1, 1) := by decide +kernel
theorem dX6_told_10 : decode cX6_told 10 = .ok (.goto 17, 3) := by decide +kernel
theorem dX6_told_13 : decode cX6_told 13 = .ok (.iload_n 2, 1) := by decide +kernel
theorem dX6_told_14 : decode cX6_told 14 = .ok (.iconst 0, 1) := by decide +kernel
theorem dX6_told_15 : decode cX6_told 15 = .ok (.iconst 3, 1) := by decide +kernel
theorem dX6_told_16 : decode cX6_told 16 = .ok (.invokestatic 48, 3) := by decide +kernel
theorem dX6_told_19 : decode cX6_told 19 = .ok (.ifCond .eq 7, 3) := by decide +kernel
theorem dX6_told_22 : decode cX6_told 22 = .ok (.iconst 0, 1) := by decide +kernel
theorem dX6_told_23 : decode cX6_told 23 = .ok (.goto 4, 3) := by decide +kernel
theorem dX6_told_26 : decode cX6_told 26 = .ok (.iconst 2, 1) := by decide +kernel
theorem dX6_told_27 : decode cX6_told 27 = .ok (.putfield 41, 3) := by decide +kernel
theorem dX6_told_30 : decode cX6_told 30 = .ok (.aload_n 0, 1) := by decide +kernel
theorem dX6_told_31 : decode cX6_told 31 = .ok (.getfield 41, 3) := by decide +kernel
theorem dX6_told_34 : decode cX6_told 34 = .ok (.ifCond .le 5, 3) := by decide +kernel
theorem dX6_told_37 : decode cX6_told 37 = .ok (.iconst 0, 1) := by decide +kernel
theorem dX6_told_38 : decode cX6_told 38 = .ok (.ireturn, 1) := by decide +kernel
theorem dX6_told_39 : decode cX6_told 39 = .ok (.iload_n 2, 1) := by decide +kernel
theorem dX6_told_40 : decode cX6_told 40 = .ok (.ifCond .ne 12, 3) := by decide +kernel
theorem dX6_told_43 : decode cX6_told 43 = .ok (.aload_n 0, 1) := by decide +kernel
theorem dX6_told_44 : decode cX6_told 44 = .ok (.getfield 7, 3) := by decide +kernel
theorem dX6_told_47 : decode cX6_told 47 = .ok (.iload_n 1, 1) := by decide +kernel
theorem dX6_told_48 : decode cX6_told 48 = .ok (.iaload, 1) := by decide +kernel
theorem dX6_told_49 : decode cX6_told 49 = .ok (.goto 37, 3) := by decide +kernel
theorem dX6_told_52 : decode cX6_told 52 = .ok (.iload_n 2, 1) := by decide +kernel
theorem dX6_told_53 : decode cX6_told 53 = .ok (.iconst 1, 1) := by decide +kernel
theorem dX6_told_54 : decode cX6_told 54 = .ok (.if_icmp .ne 12, 3) := by decide +kernel
theorem dX6_told_57 : decode cX6_told 57 = .ok (.aload_n 0, 1) := by decide +kernel
theorem dX6_told_58 : decode cX6_told 58 = .ok (.getfield 13, 3) := by decide +kernel
theorem dX6_told_61 : decode cX6_told 61 = .ok (.iload_n 1, 1) := by decide +kernel
theorem dX6_told_62 : decode cX6_told 62 = .ok (.iaload, 1) := by decide +kernel
theorem dX6_told_63 : decode cX6_told 63 = .ok (.goto 23, 3) := by decide +kernel
theorem dX6_told_66 : decode cX6_told 66 = .ok (.iload_n 2, 1) := by decide +kernel
theorem dX6_told_67 : decode cX6_told 67 = .ok (.iconst 2, 1) := by decide +kernel
theorem dX6_told_68 : decode cX6_told 68 = .ok (.if_icmp .ne 12, 3) := by decide +kernel
theorem dX6_told_71 : decode cX6_told 71 = .ok (.aload_n 0, 1) := by decide +kernel
theorem dX6_told_72 : decode cX6_told 72 = .ok (.getfield 16, 3) := by decide +kernel
theorem dX6_told_75 : decode cX6_told 75 = .ok (.iload_n 1, 1) := by decide +kernel
theorem dX6_told_76 : decode cX6_told 76 = .ok (.iaload, 1) := by decide +kernel
theorem dX6_told_77 : decode cX6_told 77 = .ok (.goto 9, 3) := by decide +kernel
theorem dX6_told_80 : decode cX6_told 80 = .ok (.aload_n 0, 1) := by decide +kernel
theorem dX6_told_81 : decode cX6_told 81 = .ok (.getfield 19, 3) := by decide +kernel
theorem dX6_told_84 : decode cX6_told 84 = .ok (.iload_n 1, 1) := by decide +kernel
theorem dX6_told_85 : decode cX6_told 85 = .ok (.iaload, 1) := by decide +kernel
theorem dX6_told_86 : decode cX6_told 86 = .ok (.ireturn, 1) := by decide +kernel
theorem dX6_transfer_0 : decode cX6_transfer 0 = .ok (.aload_n 0, 1) := by decide +kernel
theorem dX6_transfer_1 : decode cX6_transfer 1 = .ok (.aload_n 0, 1) := by decide +kernel
theorem dX6_transfer_2 : decode cX6_transfer 2 = .ok (.iload_n 1, 1) := by decide +kernel
theorem dX6_transfer_3 : decode cX6_transfer 3 = .ok (.invokevirtual 85, 3) := by decide +kernel
theorem dX6_transfer_6 : decode cX6_transfer 6 = .ok (.ifCond .ne 7, 3) := by decide +kernel
theorem dX6_transfer_9 : decode cX6_transfer 9 = .ok (.iconst 1, 1) := by decide +kernel
theorem dX6_transfer_10 : decode cX6_transfer 10 = .ok (.goto 17, 3) := by decide +kernel
theorem dX6_transfer_13 : decode cX6_transfer 13 = .ok (.iload_n 2, 1) := by decide +kernel
theorem dX6_transfer_14 : decode cX6_transfer 14 = .ok (.iconst 0, 1) := by decide +kernel
theorem dX6_transfer_15 : decode cX6_transfer 15 = .ok (.iconst 4, 1) := by decide +kernel
theorem dX6_transfer_16 : decode cX6_transfer 16 = .ok (.invokestatic 48, 3) := by decide +kernel
theorem dX6_transfer_19 : decode cX6_transfer 19 = .ok (.ifCond .eq 7, 3) := by decide +kernel
theorem dX6_transfer_22 : decode cX6_transfer 22 = .ok (.iconst 0, 1) := by decide +kernel
theorem dX6_transfer_23 : decode cX6_transfer 23 = .ok (.goto 4, 3) := by decide +kernel
theorem dX6_transfer_26 : decode cX6_transfer 26 = .ok (.iconst 2, 1) := by decide +kernel
theorem dX6_transfer_27 : decode cX6_transfer 27 = .ok (.putfield 41, 3) := by decide +kernel
theorem dX6_transfer_30 : decode cX6_transfer 30 = .ok (.aload_n 0, 1) := by decide +kernel
theorem dX6_transfer_31 : decode cX6_transfer 31 = .ok (.getfield 41, 3) := by decide +kernel
theorem dX6_transfer_34 : decode cX6_transfer 34 = .ok (.ifCond .le 7, 3) := by decide +kernel
theorem dX6_transfer_37 : decode cX6_transfer 37 = .ok (.iconst 0, 1) := by decide +kernel
theorem dX6_transfer_38 : decode cX6_transfer 38 = .ok (.goto 22, 3) := by decide +kernel
theorem dX6_transfer_41 : decode cX6_transfer 41 = .ok (.aload_n 0, 1) := by decide +kernel
theorem dX6_transfer_42 : decode cX6_transfer 42 = .ok (.getfield 16, 3) := by decide +kernel
theorem dX6_transfer_45 : decode cX6_transfer 45 = .ok (.iload_n 1, 1) := by decide +kernel
theorem dX6_transfer_46 : decode cX6_transfer 46 = .ok (.iaload, 1) := by decide +kernel
theorem dX6_transfer_47 : decode cX6_transfer 47 = .ok (.ifCond .ne 7, 3) := by decide +kernel
theorem dX6_transfer_50 : decode cX6_transfer 50 = .ok (.iconst (-1), 1) := by decide +kernel
theorem dX6_transfer_51 : decode cX6_transfer 51 = .ok (.goto 9, 3) := by decide +kernel
theorem dX6_transfer_54 : decode cX6_transfer 54 = .ok (.aload_n 0, 1) := by decide +kernel
theorem dX6_transfer_55 : decode cX6_transfer 55 = .ok (.iload_n 1, 1) := by decide +kernel
theorem dX6_transfer_56 : decode cX6_transfer 56 = .ok (.iload_n 2, 1) := by decide +kernel
theorem dX6_transfer_57 : decode cX6_transfer 57 = .ok (.invokevirtual 70, 3) := by decide +kernel
theorem dX6_transfer_60 : decode cX6_transfer 60 = .ok (.ireturn, 1) := by decide +kernel
theorem dX6_log_0 : decode cX6_log 0 = .ok (.aload_n 0, 1) := by decide +kernel
theorem dX6_log_1 : decode cX6_log 1 = .ok (.aload_n 0, 1) := by decide +kernel
theorem dX6_log_2 : decode cX6_log 2 = .ok (.iload_n 1, 1) := by decide +kernel
theorem dX6_log_3 : decode cX6_log 3 = .ok (.invokevirtual 85, 3) := by decide +kernel
theorem dX6_log_6 : decode cX6_log 6 = .ok (.ifCond .ne 7, 3) := by decide +kernel
theorem dX6_log_9 : decode cX6_log 9 = .ok (.iconst 1, 1) := by decide +kernel
theorem dX6_log_10 : decode cX6_log 10 = .ok (.goto 37, 3) := by decide +kernel
theorem dX6_log_13 : decode cX6_log 13 = .ok (.iload_n 2, 1) := by decide +kernel
theorem dX6_log_14 : decode cX6_log 14 = .ok (.iconst 0, 1) := by decide +kernel
theorem dX6_log_15 : decode cX6_log 15 = .ok (.aload_n 0, 1) := by decide +kernel
theorem dX6_log_16 : decode cX6_log 16 = .ok (.getfield 19, 3) := by decide +kernel
theorem dX6_log_19 : decode cX6_log 19 = .ok (.iload_n 1, 1) := by decide +kernel
theorem dX6_log_20 : decode cX6_log 20 = .ok (.iaload, 1) := by decide +kernel
theorem dX6_log_21 : decode cX6_log 21 = .ok (.iconst 1, 1) := by decide +kernel
theorem dX6_log_22 : decode cX6_log 22 = .ok (.isub, 1) := by decide +kernel
theorem dX6_log_23 : decode cX6_log 23 = .ok (.invokestatic 48, 3) := by decide +kernel
theorem dX6_log_26 : decode cX6_log 26 = .ok (.ifCond .ne 7, 3) := by decide +kernel
theorem dX6_log_29 : decode cX6_log 29 = .ok (.iconst 1, 1) := by decide +kernel
theorem dX6_log_30 : decode cX6_log 30 = .ok (.goto 17, 3) := by decide +kernel
theorem dX6_log_33 : decode cX6_log 33 = .ok (.iload_n 3, 1) := by decide +kernel
theorem dX6_log_34 : decode cX6_log 34 = .ok (.iconst 0, 1) := by decide +kernel
theorem dX6_log_35 : decode cX6_log 35 = .ok (.iconst 4, 1) := by decide +kernel
theorem dX6_log_36 : decode cX6_log 36 = .ok (.invokestatic 48, 3) := by decide +kernel
theorem dX6_log_39 : decode cX6_log 39 = .ok (.ifCond .eq 7, 3) := by decide +kernel
theorem dX6_log_42 : decode cX6_log 42 = .ok (.iconst 0, 1) := by decide +kernel
theorem dX6_log_43 : decode cX6_log 43 = .ok (.goto 4, 3) := by decide +kernel
theorem dX6_log_46 : decode cX6_log 46 = .ok (.iconst 2, 1) := by decide +kernel
theorem dX6_log_47 : decode cX6_log 47 = .ok (.putfield 41, 3) := by decide +kernel
theorem dX6_log_50 : decode cX6_log 50 = .ok (.aload_n 0, 1) := by decide +kernel
theorem dX6_log_51 : decode cX6_log 51 = .ok (.getfield 41, 3) := by decide +kernel
theorem dX6_log_54 : decode cX6_log 54 = .ok (.ifCond .le 7, 3) := by decide +kernel
theorem dX6_log_57 : decode cX6_log 57 = .ok (.iconst 0, 1) := by decide +kernel
theorem dX6_log_58 : decode cX6_log 58 = .ok (.goto 16, 3) := by decide +kernel
theorem dX6_log_61 : decode cX6_log 61 = .ok (.aload_n 0, 1) := by decide +kernel
theorem dX6_log_62 : decode cX6_log 62 = .ok (.bipush 12, 2) := by decide +kernel
theorem dX6_log_64 : decode cX6_log 64 = .ok (.iconst 5, 1) := by decide +kernel
theorem dX6_log_65 : decode cX6_log 65 = .ok (.iload_n 1, 1) := by decide +kernel
theorem dX6_log_66 : decode cX6_log 66 = .ok (.imul, 1) := by decide +kernel
theorem dX6_log_67 : decode cX6_log 67 = .ok (.iadd, 1) := by decide +kernel
theorem dX6_log_68 : decode cX6_log 68 = .ok (.iload_n 2, 1) := by decide +kernel
theorem dX6_log_69 : decode cX6_log 69 = .ok (.iadd, 1) := by decide +kernel
theorem dX6_log_70 : decode cX6_log 70 = .ok (.iload_n 3, 1) := by decide +kernel
theorem dX6_log_71 : decode cX6_log 71 = .ok (.invokevirtual 70, 3) := by decide +kernel
theorem dX6_log_74 : decode cX6_log 74 = .ok (.ireturn, 1) := by decide +kernel
theorem dX6_messages_0 : decode cX6_messages 0 = .ok (.aload_n 0, 1) := by decide +kernel
theorem dX6_messages_1 : decode cX6_messages 1 = .ok (.iconst 0, 1) := by decide +kernel
theorem dX6_messages_2 : decode cX6_messages 2 = .ok (.putfield 41, 3) := by decide +kernel
theorem dX6_messages_5 : decode cX6_messages 5 = .ok (.aload_n 0, 1) := by decide +kernel
theorem dX6_messages_6 : decode cX6_messages 6 = .ok (.getfield 59, 3) := by decide +kernel
theorem dX6_messages_9 : decode cX6_messages 9 = .ok (.ireturn, 1) := by decide +kernel
theorem dX6_message_0 : decode cX6_message 0 = .ok (.aload_n 0, 1) := by decide +kernel
theorem dX6_message_1 : decode cX6_message 1 = .ok (.iload_n 1, 1) := by decide +kernel
theorem dX6_message_2 : decode cX6_message 2 = .ok (.iconst 0, 1) := by decide +kernel
theorem dX6_message_3 : decode cX6_message 3 = .ok (.aload_n 0, 1) := by decide +kernel
theorem dX6_message_4 : decode cX6_message 4 = .ok (.getfield 59, 3) := by decide +kernel
theorem dX6_message_7 : decode cX6_message 7 = .ok (.iconst 1, 1) := by decide +kernel
theorem dX6_message_8 : decode cX6_message 8 = .ok (.isub, 1) := by decide +kernel
theorem dX6_message_9 : decode cX6_message 9 = .ok (.invokestatic 48, 3) := by decide +kernel
theorem dX6_message_12 : decode cX6_message 12 = .ok (.ifCond .ne 7, 3) := by decide +kernel
theorem dX6_message_15 : decode cX6_message 15 = .ok (.iconst 1, 1) := by decide +kernel
theorem dX6_message_16 : decode cX6_message 16 = .ok (.goto 18, 3) := by decide +kernel
theorem dX6_message_19 : decode cX6_message 19 = .ok (.iload_n 2, 1) := by decide +kernel
theorem dX6_message_20 : decode cX6_message 20 = .ok (.iconst 0, 1) := by decide +kernel
theorem dX6_message_21 : decode cX6_message 21 = .ok (.bipush 6, 2) := by decide +kernel
theorem dX6_message_23 : decode cX6_message 23 = .ok (.invokestatic 48, 3) := by decide +kernel
theorem dX6_message_26 : decode cX6_message 26 = .ok (.ifCond .eq 7, 3) := by decide +kernel
theorem dX6_message_29 : decode cX6_message 29 = .ok (.iconst 0, 1) := by decide +kernel
theorem dX6_message_30 : decode cX6_message 30 = .ok (.goto 4, 3) := by decide +kernel
theorem dX6_message_33 : decode cX6_message 33 = .ok (.iconst 2, 1) := by decide +kernel
theorem dX6_message_34 : decode cX6_message 34 = .ok (.putfield 41, 3) := by decide +kernel
theorem dX6_message_37 : decode cX6_message 37 = .ok (.aload_n 0, 1) := by decide +kernel
theorem dX6_message_38 : decode cX6_message 38 = .ok (.getfield 41, 3) := by decide +kernel
theorem dX6_message_41 : decode cX6_message 41 = .ok (.ifCond .le 5, 3) := by decide +kernel
theorem dX6_message_44 : decode cX6_message 44 = .ok (.iconst 0, 1) := by decide +kernel
theorem dX6_message_45 : decode cX6_message 45 = .ok (.ireturn, 1) := by decide +kernel
theorem dX6_message_46 : decode cX6_message 46 = .ok (.iload_n 2, 1) := by decide +kernel
theorem dX6_message_47 : decode cX6_message 47 = .ok (.iconst 5, 1) := by decide +kernel
theorem dX6_message_48 : decode cX6_message 48 = .ok (.if_icmp .ge 15, 3) := by decide +kernel
theorem dX6_message_51 : decode cX6_message 51 = .ok (.aload_n 0, 1) := by decide +kernel
theorem dX6_message_52 : decode cX6_message 52 = .ok (.bipush 72, 2) := by decide +kernel
theorem dX6_message_54 : decode cX6_message 54 = .ok (.iload_n 1, 1) := by decide +kernel
theorem dX6_message_55 : decode cX6_message 55 = .ok (.iadd, 1) := by decide +kernel
theorem dX6_message_56 : decode cX6_message 56 = .ok (.iload_n 2, 1) := by decide +kernel
theorem dX6_message_57 : decode cX6_message 57 = .ok (.invokevirtual 70, 3) := by decide +kernel
theorem dX6_message_60 : decode cX6_message 60 = .ok (.goto 23, 3) := by decide +kernel
theorem dX6_message_63 : decode cX6_message 63 = .ok (.iload_n 2, 1) := by decide +kernel
theorem dX6_message_64 : decode cX6_message 64 = .ok (.iconst 5, 1) := by decide +kernel
theorem dX6_message_65 : decode cX6_message 65 = .ok (.if_icmp .ne 12, 3) := by decide +kernel
theorem dX6_message_68 : decode cX6_message 68 = .ok (.aload_n 0, 1) := by decide +kernel
theorem dX6_message_69 : decode cX6_message 69 = .ok (.getfield 22, 3) := by decide +kernel
theorem dX6_message_72 : decode cX6_message 72 = .ok (.iload_n 1, 1) := by decide +kernel
theorem dX6_message_73 : decode cX6_message 73 = .ok (.iaload, 1) := by decide +kernel
theorem dX6_message_74 : decode cX6_message 74 = .ok (.goto 9, 3) := by decide +kernel
theorem dX6_message_77 : decode cX6_message 77 = .ok (.aload_n 0, 1) := by decide +kernel
theorem dX6_message_78 : decode cX6_message 78 = .ok (.getfield 25, 3) := by decide +kernel
theorem dX6_message_81 : decode cX6_message 81 = .ok (.iload_n 1, 1) := by decide +kernel
theorem dX6_message_82 : decode cX6_message 82 = .ok (.iaload, 1) := by decide +kernel
theorem dX6_message_83 : decode cX6_message 83 = .ok (.ireturn, 1) := by decide +kernel
theorem dX6_entries_0 : decode cX6_entries 0 = .ok (.aload_n 0, 1) := by decide +kernel
theorem dX6_entries_1 : decode cX6_entries 1 = .ok (.iconst 0, 1) := by decide +kernel
theorem dX6_entries_2 : decode cX6_entries 2 = .ok (.putfield 41, 3) := by decide +kernel
theorem dX6_entries_5 : decode cX6_entries 5 = .ok (.aload_n 0, 1) := by decide +kernel
theorem dX6_entries_6 : decode cX6_entries 6 = .ok (.getfield 56, 3) := by decide +kernel
theorem dX6_entries_9 : decode cX6_entries 9 = .ok (.ireturn, 1) := by decide +kernel
theorem dX6_entry_0 : decode cX6_entry 0 = .ok (.aload_n 0, 1) := by decide +kernel
theorem dX6_entry_1 : decode cX6_entry 1 = .ok (.iload_n 1, 1) := by decide +kernel
theorem dX6_entry_2 : decode cX6_entry 2 = .ok (.iconst 0, 1) := by decide +kernel
theorem dX6_entry_3 : decode cX6_entry 3 = .ok (.aload_n 0, 1) := by decide +kernel
theorem dX6_entry_4 : decode cX6_entry 4 = .ok (.getfield 56, 3) := by decide +kernel
theorem dX6_entry_7 : decode cX6_entry 7 = .ok (.iconst 1, 1) := by decide +kernel
theorem dX6_entry_8 : decode cX6_entry 8 = .ok (.isub, 1) := by decide +kernel
theorem dX6_entry_9 : decode cX6_entry 9 = .ok (.invokestatic 48, 3) := by decide +kernel
theorem dX6_entry_12 : decode cX6_entry 12 = .ok (.ifCond .ne 7, 3) := by decide +kernel
theorem dX6_entry_15 : decode cX6_entry 15 = .ok (.iconst 1, 1) := by decide +kernel
theorem dX6_entry_16 : decode cX6_entry 16 = .ok (.goto 18, 3) := by decide +kernel
theorem dX6_entry_19 : decode cX6_entry 19 = .ok (.iload_n 2, 1) := by decide +kernel
theorem dX6_entry_20 : decode cX6_entry 20 = .ok (.iconst 0, 1) := by decide +kernel
theorem dX6_entry_21 : decode cX6_entry 21 = .ok (.bipush 6, 2) := by decide +kernel
theorem dX6_entry_23 : decode cX6_entry 23 = .ok (.invokestatic 48, 3) := by decide +kernel
theorem dX6_entry_26 : decode cX6_entry 26 = .ok (.ifCond .eq 7, 3) := by decide +kernel
theorem dX6_entry_29 : decode cX6_entry 29 = .ok (.iconst 0, 1) := by decide +kernel
theorem dX6_entry_30 : decode cX6_entry 30 = .ok (.goto 4, 3) := by decide +kernel
theorem dX6_entry_33 : decode cX6_entry 33 = .ok (.iconst 2, 1) := by decide +kernel
theorem dX6_entry_34 : decode cX6_entry 34 = .ok (.putfield 41, 3) := by decide +kernel
theorem dX6_entry_37 : decode cX6_entry 37 = .ok (.aload_n 0, 1) := by decide +kernel
theorem dX6_entry_38 : decode cX6_entry 38 = .ok (.getfield 41, 3) := by decide +kernel
theorem dX6_entry_41 : decode cX6_entry 41 = .ok (.ifCond .le 5, 3) := by decide +kernel
theorem dX6_entry_44 : decode cX6_entry 44 = .ok (.iconst 0, 1) := by decide +kernel
theorem dX6_entry_45 : decode cX6_entry 45 = .ok (.ireturn, 1) := by decide +kernel
theorem dX6_entry_46 : decode cX6_entry 46 = .ok (.iload_n 2, 1) := by decide +kernel
theorem dX6_entry_47 : decode cX6_entry 47 = .ok (.iconst 5, 1) := by decide +kernel
theorem dX6_entry_48 : decode cX6_entry 48 = .ok (.if_icmp .ge 16, 3) := by decide +kernel
theorem dX6_entry_51 : decode cX6_entry 51 = .ok (.aload_n 0, 1) := by decide +kernel
theorem dX6_entry_52 : decode cX6_entry 52 = .ok (.sipush 872, 3) := by decide +kernel
theorem dX6_entry_55 : decode cX6_entry 55 = .ok (.iload_n 1, 1) := by decide +kernel
theorem dX6_entry_56 : decode cX6_entry 56 = .ok (.iadd, 1) := by decide +kernel
theorem dX6_entry_57 : decode cX6_entry 57 = .ok (.iload_n 2, 1) := by decide +kernel
theorem dX6_entry_58 : decode cX6_entry 58 = .ok (.invokevirtual 70, 3) := by decide +kernel
theorem dX6_entry_61 : decode cX6_entry 61 = .ok (.goto 34, 3) := by decide +kernel
theorem dX6_entry_64 : decode cX6_entry 64 = .ok (.iload_n 2, 1) := by decide +kernel
theorem dX6_entry_65 : decode cX6_entry 65 = .ok (.iconst 5, 1) := by decide +kernel
theorem dX6_entry_66 : decode cX6_entry 66 = .ok (.if_icmp .ne 12, 3) := by decide +kernel
theorem dX6_entry_69 : decode cX6_entry 69 = .ok (.aload_n 0, 1) := by decide +kernel
theorem dX6_entry_70 : decode cX6_entry 70 = .ok (.getfield 31, 3) := by decide +kernel
theorem dX6_entry_73 : decode cX6_entry 73 = .ok (.iload_n 1, 1) := by decide +kernel
theorem dX6_entry_74 : decode cX6_entry 74 = .ok (.iaload, 1) := by decide +kernel
theorem dX6_entry_75 : decode cX6_entry 75 = .ok (.goto 20, 3) := by decide +kernel
theorem dX6_entry_78 : decode cX6_entry 78 = .ok (.aload_n 0, 1) := by decide +kernel
theorem dX6_entry_79 : decode cX6_entry 79 = .ok (.sipush 872, 3) := by decide +kernel
theorem dX6_entry_82 : decode cX6_entry 82 = .ok (.iload_n 1, 1) := by decide +kernel
theorem dX6_entry_83 : decode cX6_entry 83 = .ok (.iadd, 1) := by decide +kernel
theorem dX6_entry_84 : decode cX6_entry 84 = .ok (.invokevirtual 107, 3) := by decide +kernel
theorem dX6_entry_87 : decode cX6_entry 87 = .ok (.ifCond .eq 7, 3) := by decide +kernel
theorem dX6_entry_90 : decode cX6_entry 90 = .ok (.iconst 1, 1) := by decide +kernel
theorem dX6_entry_91 : decode cX6_entry 91 = .ok (.goto 4, 3) := by decide +kernel
theorem dX6_entry_94 : decode cX6_entry 94 = .ok (.iconst 0, 1) := by decide +kernel
theorem dX6_entry_95 : decode cX6_entry 95 = .ok (.ireturn, 1) := by decide +kernel
theorem dX6_balances_0 : decode cX6_balances 0 = .ok (.aload_n 0, 1) := by decide +kernel
theorem dX6_balances_1 : decode cX6_balances 1 = .ok (.iconst 0, 1) := by decide +kernel
theorem dX6_balances_2 : decode cX6_balances 2 = .ok (.putfield 41, 3) := by decide +kernel
theorem dX6_balances_5 : decode cX6_balances 5 = .ok (.lconst 0, 1) := by decide +kernel
theorem dX6_balances_6 : decode cX6_balances 6 = .ok (.lstore_n 1, 1) := by decide +kernel
theorem dX6_balances_7 : decode cX6_balances 7 = .ok (.iconst 0, 1) := by decide +kernel
theorem dX6_balances_8 : decode cX6_balances 8 = .ok (.istore_n 3, 1) := by decide +kernel
theorem dX6_balances_9 : decode cX6_balances 9 = .ok (.iload_n 3, 1) := by decide +kernel
theorem dX6_balances_10 : decode cX6_balances 10 = .ok (.aload_n 0, 1) := by decide +kernel
theorem dX6_balances_11 : decode cX6_balances 11 = .ok (.getfield 45, 3) := by decide +kernel
theorem dX6_balances_14 : decode cX6_balances 14 = .ok (.if_icmp .ge 19, 3) := by decide +kernel
theorem dX6_balances_17 : decode cX6_balances 17 = .ok (.lload_n 1, 1) := by decide +kernel
theorem dX6_balances_18 : decode cX6_balances 18 = .ok (.aload_n 0, 1) := by decide +kernel
theorem dX6_balances_19 : decode cX6_balances 19 = .ok (.getfield 7, 3) := by decide +kernel
theorem dX6_balances_22 : decode cX6_balances 22 = .ok (.iload_n 3, 1) := by decide +kernel
theorem dX6_balances_23 : decode cX6_balances 23 = .ok (.iaload, 1) := by decide +kernel
theorem dX6_balances_24 : decode cX6_balances 24 = .ok (.i2l, 1) := by decide +kernel
theorem dX6_balances_25 : decode cX6_balances 25 = .ok (.ladd, 1) := by decide +kernel
theorem dX6_balances_26 : decode cX6_balances 26 = .ok (.lstore_n 1, 1) := by decide +kernel
theorem dX6_balances_27 : decode cX6_balances 27 = .ok (.iinc 3 1, 3) := by decide +kernel
theorem dX6_balances_30 : decode cX6_balances 30 = .ok (.goto (-21), 3) := by decide +kernel
theorem dX6_balances_33 : decode cX6_balances 33 = .ok (.lload_n 1, 1) := by decide +kernel
theorem dX6_balances_34 : decode cX6_balances 34 = .ok (.lreturn, 1) := by decide +kernel
theorem dX6_holds_0 : decode cX6_holds 0 = .ok (.aload_n 0, 1) := by decide +kernel
theorem dX6_holds_1 : decode cX6_holds 1 = .ok (.getfield 16, 3) := by decide +kernel
theorem dX6_holds_4 : decode cX6_holds 4 = .ok (.iload_n 1, 1) := by decide +kernel
theorem dX6_holds_5 : decode cX6_holds 5 = .ok (.iaload, 1) := by decide +kernel
theorem dX6_holds_6 : decode cX6_holds 6 = .ok (.iconst 2, 1) := by decide +kernel
theorem dX6_holds_7 : decode cX6_holds 7 = .ok (.if_icmp .lt 12, 3) := by decide +kernel
theorem dX6_holds_10 : decode cX6_holds 10 = .ok (.aload_n 0, 1) := by decide +kernel
theorem dX6_holds_11 : decode cX6_holds 11 = .ok (.iload_n 1, 1) := by decide +kernel
theorem dX6_holds_12 : decode cX6_holds 12 = .ok (.iload_n 2, 1) := by decide +kernel
theorem dX6_holds_13 : decode cX6_holds 13 = .ok (.invokevirtual 52, 3) := by decide +kernel
theorem dX6_holds_16 : decode cX6_holds 16 = .ok (.ifCond .ne 25, 3) := by decide +kernel
theorem dX6_holds_19 : decode cX6_holds 19 = .ok (.aload_n 0, 1) := by decide +kernel
theorem dX6_holds_20 : decode cX6_holds 20 = .ok (.iload_n 1, 1) := by decide +kernel
theorem dX6_holds_21 : decode cX6_holds 21 = .ok (.iload_n 2, 1) := by decide +kernel
theorem dX6_holds_22 : decode cX6_holds 22 = .ok (.invokevirtual 110, 3) := by decide +kernel
theorem dX6_holds_25 : decode cX6_holds 25 = .ok (.ifCond .ne 16, 3) := by decide +kernel
theorem dX6_holds_28 : decode cX6_holds 28 = .ok (.aload_n 0, 1) := by decide +kernel
theorem dX6_holds_29 : decode cX6_holds 29 = .ok (.iload_n 1, 1) := by decide +kernel
theorem dX6_holds_30 : decode cX6_holds 30 = .ok (.iload_n 2, 1) := by decide +kernel
theorem dX6_holds_31 : decode cX6_holds 31 = .ok (.aload_n 0, 1) := by decide +kernel
theorem dX6_holds_32 : decode cX6_holds 32 = .ok (.getfield 56, 3) := by decide +kernel
theorem dX6_holds_35 : decode cX6_holds 35 = .ok (.invokevirtual 81, 3) := by decide +kernel
theorem dX6_holds_38 : decode cX6_holds 38 = .ok (.ifCond .eq 7, 3) := by decide +kernel
theorem dX6_holds_41 : decode cX6_holds 41 = .ok (.iconst 1, 1) := by decide +kernel
theorem dX6_holds_42 : decode cX6_holds 42 = .ok (.goto 4, 3) := by decide +kernel
theorem dX6_holds_45 : decode cX6_holds 45 = .ok (.iconst 0, 1) := by decide +kernel
theorem dX6_holds_46 : decode cX6_holds 46 = .ok (.ireturn, 1) := by decide +kernel
theorem dX6_amountOf_0 : decode cX6_amountOf 0 = .ok (.aload_n 0, 1) := by decide +kernel
theorem dX6_amountOf_1 : decode cX6_amountOf 1 = .ok (.iload_n 1, 1) := by decide +kernel
theorem dX6_amountOf_2 : decode cX6_amountOf 2 = .ok (.iconst 0, 1) := by decide +kernel
theorem dX6_amountOf_3 : decode cX6_amountOf 3 = .ok (.invokevirtual 70, 3) := by decide +kernel
theorem dX6_amountOf_6 : decode cX6_amountOf 6 = .ok (.iload_n 2, 1) := by decide +kernel
theorem dX6_amountOf_7 : decode cX6_amountOf 7 = .ok (.if_icmp .ne 29, 3) := by decide +kernel
theorem dX6_amountOf_10 : decode cX6_amountOf 10 = .ok (.aload_n 0, 1) := by decide +kernel
theorem dX6_amountOf_11 : decode cX6_amountOf 11 = .ok (.iload_n 1, 1) := by decide +kernel
theorem dX6_amountOf_12 : decode cX6_amountOf 12 = .ok (.invokevirtual 107, 3) := by decide +kernel
theorem dX6_amountOf_15 : decode cX6_amountOf 15 = .ok (.ifCond .ne 21, 3) := by decide +kernel
theorem dX6_amountOf_18 : decode cX6_amountOf 18 = .ok (.aload_n 0, 1) := by decide +kernel
theorem dX6_amountOf_19 : decode cX6_amountOf 19 = .ok (.aload_n 0, 1) := by decide +kernel
theorem dX6_amountOf_20 : decode cX6_amountOf 20 = .ok (.iload_n 1, 1) := by decide +kernel
theorem dX6_amountOf_21 : decode cX6_amountOf 21 = .ok (.iconst 2, 1) := by decide +kernel
theorem dX6_amountOf_22 : decode cX6_amountOf 22 = .ok (.invokevirtual 70, 3) := by decide +kernel
theorem dX6_amountOf_25 : decode cX6_amountOf 25 = .ok (.iload_n 1, 1) := by decide +kernel
theorem dX6_amountOf_26 : decode cX6_amountOf 26 = .ok (.invokevirtual 113, 3) := by decide +kernel
theorem dX6_amountOf_29 : decode cX6_amountOf 29 = .ok (.ifCond .eq 7, 3) := by decide +kernel
theorem dX6_amountOf_32 : decode cX6_amountOf 32 = .ok (.iconst 1, 1) := by decide +kernel
theorem dX6_amountOf_33 : decode cX6_amountOf 33 = .ok (.goto 4, 3) := by decide +kernel
theorem dX6_amountOf_36 : decode cX6_amountOf 36 = .ok (.iconst 0, 1) := by decide +kernel
theorem dX6_amountOf_37 : decode cX6_amountOf 37 = .ok (.istore_n 3, 1) := by decide +kernel
theorem dX6_amountOf_38 : decode cX6_amountOf 38 = .ok (.iload_n 3, 1) := by decide +kernel
theorem dX6_amountOf_39 : decode cX6_amountOf 39 = .ok (.ifCond .eq 13, 3) := by decide +kernel
theorem dX6_amountOf_42 : decode cX6_amountOf 42 = .ok (.aload_n 0, 1) := by decide +kernel
theorem dX6_amountOf_43 : decode cX6_amountOf 43 = .ok (.iload_n 1, 1) := by decide +kernel
theorem dX6_amountOf_44 : decode cX6_amountOf 44 = .ok (.iconst 4, 1) := by decide +kernel
theorem dX6_amountOf_45 : decode cX6_amountOf 45 = .ok (.invokevirtual 70, 3) := by decide +kernel
theorem dX6_amountOf_48 : decode cX6_amountOf 48 = .ok (.i2l, 1) := by decide +kernel
theorem dX6_amountOf_49 : decode cX6_amountOf 49 = .ok (.goto 4, 3) := by decide +kernel
theorem dX6_amountOf_52 : decode cX6_amountOf 52 = .ok (.lconst 0, 1) := by decide +kernel
theorem dX6_amountOf_53 : decode cX6_amountOf 53 = .ok (.lreturn, 1) := by decide +kernel
theorem dX6_pending_0 : decode cX6_pending 0 = .ok (.aload_n 0, 1) := by decide +kernel
theorem dX6_pending_1 : decode cX6_pending 1 = .ok (.iconst 0, 1) := by decide +kernel
theorem dX6_pending_2 : decode cX6_pending 2 = .ok (.putfield 41, 3) := by decide +kernel
theorem dX6_pending_5 : decode cX6_pending 5 = .ok (.lconst 0, 1) := by decide +kernel
theorem dX6_pending_6 : decode cX6_pending 6 = .ok (.lstore_n 1, 1) := by decide +kernel
theorem dX6_pending_7 : decode cX6_pending 7 = .ok (.iconst 0, 1) := by decide +kernel
theorem dX6_pending_8 : decode cX6_pending 8 = .ok (.istore_n 3, 1) := by decide +kernel
theorem dX6_pending_9 : decode cX6_pending 9 = .ok (.iload_n 3, 1) := by decide +kernel
theorem dX6_pending_10 : decode cX6_pending 10 = .ok (.aload_n 0, 1) := by decide +kernel
theorem dX6_pending_11 : decode cX6_pending 11 = .ok (.getfield 45, 3) := by decide +kernel
theorem dX6_pending_14 : decode cX6_pending 14 = .ok (.if_icmp .ge 69, 3) := by decide +kernel
theorem dX6_pending_17 : decode cX6_pending 17 = .ok (.lload_n 1, 1) := by decide +kernel
theorem dX6_pending_18 : decode cX6_pending 18 = .ok (.aload_n 0, 1) := by decide +kernel
theorem dX6_pending_19 : decode cX6_pending 19 = .ok (.getfield 16, 3) := by decide +kernel
theorem dX6_pending_22 : decode cX6_pending 22 = .ok (.iload_n 3, 1) := by decide +kernel
theorem dX6_pending_23 : decode cX6_pending 23 = .ok (.iaload, 1) := by decide +kernel
theorem dX6_pending_24 : decode cX6_pending 24 = .ok (.iconst 3, 1) := by decide +kernel
theorem dX6_pending_25 : decode cX6_pending 25 = .ok (.if_icmp .ne 12, 3) := by decide +kernel
theorem dX6_pending_28 : decode cX6_pending 28 = .ok (.aload_n 0, 1) := by decide +kernel
theorem dX6_pending_29 : decode cX6_pending 29 = .ok (.iload_n 3, 1) := by decide +kernel
theorem dX6_pending_30 : decode cX6_pending 30 = .ok (.iload_n 3, 1) := by decide +kernel
theorem dX6_pending_31 : decode cX6_pending 31 = .ok (.invokevirtual 116, 3) := by decide +kernel
theorem dX6_pending_34 : decode cX6_pending 34 = .ok (.goto 4, 3) := by decide +kernel
theorem dX6_pending_37 : decode cX6_pending 37 = .ok (.lconst 0, 1) := by decide +kernel
theorem dX6_pending_38 : decode cX6_pending 38 = .ok (.ladd, 1) := by decide +kernel
theorem dX6_pending_39 : decode cX6_pending 39 = .ok (.lstore_n 1, 1) := by decide +kernel
theorem dX6_pending_40 : decode cX6_pending 40 = .ok (.iconst 0, 1) := by decide +kernel
theorem dX6_pending_41 : decode cX6_pending 41 = .ok (.istore 4, 2) := by decide +kernel
theorem dX6_pending_43 : decode cX6_pending 43 = .ok (.iload 4, 2) := by decide +kernel
theorem dX6_pending_45 : decode cX6_pending 45 = .ok (.aload_n 0, 1) := by decide +kernel
theorem dX6_pending_46 : decode cX6_pending 46 = .ok (.getfield 19, 3) := by decide +kernel
theorem dX6_pending_49 : decode cX6_pending 49 = .ok (.iload_n 3, 1) := by decide +kernel
theorem dX6_pending_50 : decode cX6_pending 50 = .ok (.iaload, 1) := by decide +kernel
theorem dX6_pending_51 : decode cX6_pending 51 = .ok (.if_icmp .ge 26, 3) := by decide +kernel
theorem dX6_pending_54 : decode cX6_pending 54 = .ok (.lload_n 1, 1) := by decide +kernel
theorem dX6_pending_55 : decode cX6_pending 55 = .ok (.aload_n 0, 1) := by decide +kernel
theorem dX6_pending_56 : decode cX6_pending 56 = .ok (.bipush 12, 2) := by decide +kernel
theorem dX6_pending_58 : decode cX6_pending 58 = .ok (.iconst 5, 1) := by decide +kernel
theorem dX6_pending_59 : decode cX6_pending 59 = .ok (.iload_n 3, 1) := by decide +kernel
theorem dX6_pending_60 : decode cX6_pending 60 = .ok (.imul, 1) := by decide +kernel
theorem dX6_pending_61 : decode cX6_pending 61 = .ok (.iadd, 1) := by decide +kernel
theorem dX6_pending_62 : decode cX6_pending 62 = .ok (.iload 4, 2) := by decide +kernel
theorem dX6_pending_64 : decode cX6_pending 64 = .ok (.iadd, 1) := by decide +kernel
theorem dX6_pending_65 : decode cX6_pending 65 = .ok (.iload_n 3, 1) := by decide +kernel
theorem dX6_pending_66 : decode cX6_pending 66 = .ok (.invokevirtual 116, 3) := by decide +kernel
theorem dX6_pending_69 : decode cX6_pending 69 = .ok (.ladd, 1) := by decide +kernel
theorem dX6_pending_70 : decode cX6_pending 70 = .ok (.lstore_n 1, 1) := by decide +kernel
theorem dX6_pending_71 : decode cX6_pending 71 = .ok (.iinc 4 1, 3) := by decide +kernel
theorem dX6_pending_74 : decode cX6_pending 74 = .ok (.goto (-31), 3) := by decide +kernel
theorem dX6_pending_77 : decode cX6_pending 77 = .ok (.iinc 3 1, 3) := by decide +kernel
theorem dX6_pending_80 : decode cX6_pending 80 = .ok (.goto (-71), 3) := by decide +kernel
theorem dX6_pending_83 : decode cX6_pending 83 = .ok (.iconst 0, 1) := by decide +kernel
theorem dX6_pending_84 : decode cX6_pending 84 = .ok (.istore_n 3, 1) := by decide +kernel
theorem dX6_pending_85 : decode cX6_pending 85 = .ok (.iload_n 3, 1) := by decide +kernel
theorem dX6_pending_86 : decode cX6_pending 86 = .ok (.aload_n 0, 1) := by decide +kernel
theorem dX6_pending_87 : decode cX6_pending 87 = .ok (.getfield 56, 3) := by decide +kernel
theorem dX6_pending_90 : decode cX6_pending 90 = .ok (.if_icmp .ge 49, 3) := by decide +kernel
theorem dX6_pending_93 : decode cX6_pending 93 = .ok (.lload_n 1, 1) := by decide +kernel
theorem dX6_pending_94 : decode cX6_pending 94 = .ok (.aload_n 0, 1) := by decide +kernel
theorem dX6_pending_95 : decode cX6_pending 95 = .ok (.aload_n 0, 1) := by decide +kernel
theorem dX6_pending_96 : decode cX6_pending 96 = .ok (.getfield 31, 3) := by decide +kernel
theorem dX6_pending_99 : decode cX6_pending 99 = .ok (.iload_n 3, 1) := by decide +kernel
theorem dX6_pending_100 : decode cX6_pending 100 = .ok (.iaload, 1) := by decide +kernel
theorem dX6_pending_101 : decode cX6_pending 101 = .ok (.sipush 872, 3) := by decide +kernel
theorem dX6_pending_104 : decode cX6_pending 104 = .ok (.iload_n 3, 1) := by decide +kernel
theorem dX6_pending_105 : decode cX6_pending 105 = .ok (.iadd, 1) := by decide +kernel
theorem dX6_pending_106 : decode cX6_pending 106 = .ok (.invokevirtual 110, 3) := by decide +kernel
theorem dX6_pending_109 : decode cX6_pending 109 = .ok (.ifCond .eq 7, 3) := by decide +kernel
theorem dX6_pending_112 : decode cX6_pending 112 = .ok (.lconst 0, 1) := by decide +kernel
theorem dX6_pending_113 : decode cX6_pending 113 = .ok (.goto 18, 3) := by decide +kernel
theorem dX6_pending_116 : decode cX6_pending 116 = .ok (.aload_n 0, 1) := by decide +kernel
theorem dX6_pending_117 : decode cX6_pending 117 = .ok (.sipush 872, 3) := by decide +kernel
theorem dX6_pending_120 : decode cX6_pending 120 = .ok (.iload_n 3, 1) := by decide +kernel
theorem dX6_pending_121 : decode cX6_pending 121 = .ok (.iadd, 1) := by decide +kernel
theorem dX6_pending_122 : decode cX6_pending 122 = .ok (.aload_n 0, 1) := by decide +kernel
theorem dX6_pending_123 : decode cX6_pending 123 = .ok (.getfield 31, 3) := by decide +kernel
theorem dX6_pending_126 : decode cX6_pending 126 = .ok (.iload_n 3, 1) := by decide +kernel
theorem dX6_pending_127 : decode cX6_pending 127 = .ok (.iaload, 1) := by decide +kernel
theorem dX6_pending_128 : decode cX6_pending 128 = .ok (.invokevirtual 116, 3) := by decide +kernel
theorem dX6_pending_131 : decode cX6_pending 131 = .ok (.ladd, 1) := by decide +kernel
theorem dX6_pending_132 : decode cX6_pending 132 = .ok (.lstore_n 1, 1) := by decide +kernel
theorem dX6_pending_133 : decode cX6_pending 133 = .ok (.iinc 3 1, 3) := by decide +kernel
theorem dX6_pending_136 : decode cX6_pending 136 = .ok (.goto (-51), 3) := by decide +kernel
theorem dX6_pending_139 : decode cX6_pending 139 = .ok (.lload_n 1, 1) := by decide +kernel
theorem dX6_pending_140 : decode cX6_pending 140 = .ok (.lreturn, 1) := by decide +kernel
theorem dX6_purses_0 : decode cX6_purses 0 = .ok (.aload_n 0, 1) := by decide +kernel
theorem dX6_purses_1 : decode cX6_purses 1 = .ok (.iconst 0, 1) := by decide +kernel
theorem dX6_purses_2 : decode cX6_purses 2 = .ok (.putfield 41, 3) := by decide +kernel
theorem dX6_purses_5 : decode cX6_purses 5 = .ok (.aload_n 0, 1) := by decide +kernel
theorem dX6_purses_6 : decode cX6_purses 6 = .ok (.getfield 45, 3) := by decide +kernel
theorem dX6_purses_9 : decode cX6_purses 9 = .ok (.ireturn, 1) := by decide +kernel

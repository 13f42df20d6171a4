theorem dX5_init_0 : decode cX5_init 0 = .ok (.aload_n 0, 1) := by decide +kernel
theorem dX5_init_1 : decode cX5_init 1 = .ok (.invokespecial 1, 3) := by decide +kernel
theorem dX5_init_4 : decode cX5_init 4 = .ok (.aload_n 0, 1) := by decide +kernel
theorem dX5_init_5 : decode cX5_init 5 = .ok (.new 7, 3) := by decide +kernel
theorem dX5_init_8 : decode cX5_init 8 = .ok (.dup, 1) := by decide +kernel
theorem dX5_init_9 : decode cX5_init 9 = .ok (.iconst (-1), 1) := by decide +kernel
theorem dX5_init_10 : decode cX5_init 10 = .ok (.iconst (-1), 1) := by decide +kernel
theorem dX5_init_11 : decode cX5_init 11 = .ok (.iconst (-1), 1) := by decide +kernel
theorem dX5_init_12 : decode cX5_init 12 = .ok (.iconst (-1), 1) := by decide +kernel
theorem dX5_init_13 : decode cX5_init 13 = .ok (.iconst (-1), 1) := by decide +kernel
theorem dX5_init_14 : decode cX5_init 14 = .ok (.invokespecial 11, 3) := by decide +kernel
theorem dX5_init_17 : decode cX5_init 17 = .ok (.putfield 14, 3) := by decide +kernel
theorem dX5_init_20 : decode cX5_init 20 = .ok (.aload_n 0, 1) := by decide +kernel
theorem dX5_init_21 : decode cX5_init 21 = .ok (.new 18, 3) := by decide +kernel
theorem dX5_init_24 : decode cX5_init 24 = .ok (.dup, 1) := by decide +kernel
theorem dX5_init_25 : decode cX5_init 25 = .ok (.invokespecial 20, 3) := by decide +kernel
theorem dX5_init_28 : decode cX5_init 28 = .ok (.putfield 21, 3) := by decide +kernel
theorem dX5_init_31 : decode cX5_init 31 = .ok (.aload_n 0, 1) := by decide +kernel
theorem dX5_init_32 : decode cX5_init 32 = .ok (.new 18, 3) := by decide +kernel
theorem dX5_init_35 : decode cX5_init 35 = .ok (.dup, 1) := by decide +kernel
theorem dX5_init_36 : decode cX5_init 36 = .ok (.invokespecial 20, 3) := by decide +kernel
theorem dX5_init_39 : decode cX5_init 39 = .ok (.putfield 25, 3) := by decide +kernel
theorem dX5_init_42 : decode cX5_init 42 = .ok (.aload_n 0, 1) := by decide +kernel
theorem dX5_init_43 : decode cX5_init 43 = .ok (.new 28, 3) := by decide +kernel
theorem dX5_init_46 : decode cX5_init 46 = .ok (.dup, 1) := by decide +kernel
theorem dX5_init_47 : decode cX5_init 47 = .ok (.invokespecial 30, 3) := by decide +kernel
theorem dX5_init_50 : decode cX5_init 50 = .ok (.putfield 31, 3) := by decide +kernel
theorem dX5_init_53 : decode cX5_init 53 = .ok (.return_, 1) := by decide +kernel
theorem dX5_purse_0 : decode cX5_purse 0 = .ok (.iload_n 1, 1) := by decide +kernel
theorem dX5_purse_1 : decode cX5_purse 1 = .ok (.ifCond .lt 9, 3) := by decide +kernel
theorem dX5_purse_4 : decode cX5_purse 4 = .ok (.iload_n 1, 1) := by decide +kernel
theorem dX5_purse_5 : decode cX5_purse 5 = .ok (.ldc 35, 2) := by decide +kernel
theorem dX5_purse_7 : decode cX5_purse 7 = .ok (.if_icmp .le 13, 3) := by decide +kernel
theorem dX5_purse_10 : decode cX5_purse 10 = .ok (.new 36, 3) := by decide +kernel
theorem dX5_purse_13 : decode cX5_purse 13 = .ok (.dup, 1) := by decide +kernel
theorem dX5_purse_14 : decode cX5_purse 14 = .ok (.ldc 38, 2) := by decide +kernel
theorem dX5_purse_16 : decode cX5_purse 16 = .ok (.invokespecial 40, 3) := by decide +kernel
theorem dX5_purse_19 : decode cX5_purse 19 = .ok (.athrow, 1) := by decide +kernel
theorem dX5_purse_20 : decode cX5_purse 20 = .ok (.aload_n 0, 1) := by decide +kernel
theorem dX5_purse_21 : decode cX5_purse 21 = .ok (.getfield 21, 3) := by decide +kernel
theorem dX5_purse_24 : decode cX5_purse 24 = .ok (.invokevirtual 43, 3) := by decide +kernel
theorem dX5_purse_27 : decode cX5_purse 27 = .ok (.bipush 12, 2) := by decide +kernel
theorem dX5_purse_29 : decode cX5_purse 29 = .ok (.if_icmp .lt 13, 3) := by decide +kernel
theorem dX5_purse_32 : decode cX5_purse 32 = .ok (.new 47, 3) := by decide +kernel
theorem dX5_purse_35 : decode cX5_purse 35 = .ok (.dup, 1) := by decide +kernel
theorem dX5_purse_36 : decode cX5_purse 36 = .ok (.ldc 49, 2) := by decide +kernel
theorem dX5_purse_38 : decode cX5_purse 38 = .ok (.invokespecial 51, 3) := by decide +kernel
theorem dX5_purse_41 : decode cX5_purse 41 = .ok (.athrow, 1) := by decide +kernel
theorem dX5_purse_42 : decode cX5_purse 42 = .ok (.aload_n 0, 1) := by decide +kernel
theorem dX5_purse_43 : decode cX5_purse 43 = .ok (.getfield 21, 3) := by decide +kernel
theorem dX5_purse_46 : decode cX5_purse 46 = .ok (.invokevirtual 43, 3) := by decide +kernel
theorem dX5_purse_49 : decode cX5_purse 49 = .ok (.istore_n 2, 1) := by decide +kernel
theorem dX5_purse_50 : decode cX5_purse 50 = .ok (.aload_n 0, 1) := by decide +kernel
theorem dX5_purse_51 : decode cX5_purse 51 = .ok (.getfield 21, 3) := by decide +kernel
theorem dX5_purse_54 : decode cX5_purse 54 = .ok (.new 52, 3) := by decide +kernel
theorem dX5_purse_57 : decode cX5_purse 57 = .ok (.dup, 1) := by decide +kernel
theorem dX5_purse_58 : decode cX5_purse 58 = .ok (.iload_n 2, 1) := by decide +kernel
theorem dX5_purse_59 : decode cX5_purse 59 = .ok (.iload_n 1, 1) := by decide +kernel
theorem dX5_purse_60 : decode cX5_purse 60 = .ok (.aload_n 0, 1) := by decide +kernel
theorem dX5_purse_61 : decode cX5_purse 61 = .ok (.getfield 14, 3) := by decide +kernel
theorem dX5_purse_64 : decode cX5_purse 64 = .ok (.invokespecial 54, 3) := by decide +kernel
theorem dX5_purse_67 : decode cX5_purse 67 = .ok (.invokevirtual 57, 3) := by decide +kernel
theorem dX5_purse_70 : decode cX5_purse 70 = .ok (.pop, 1) := by decide +kernel
theorem dX5_purse_71 : decode cX5_purse 71 = .ok (.iload_n 2, 1) := by decide +kernel
theorem dX5_purse_72 : decode cX5_purse 72 = .ok (.ireturn, 1) := by decide +kernel
theorem dX5_begin_0 : decode cX5_begin 0 = .ok (.aload_n 0, 1) := by decide +kernel
theorem dX5_begin_1 : decode cX5_begin 1 = .ok (.iload_n 1, 1) := by decide +kernel
theorem dX5_begin_2 : decode cX5_begin 2 = .ok (.invokevirtual 61, 3) := by decide +kernel
theorem dX5_begin_5 : decode cX5_begin 5 = .ok (.astore 4, 2) := by decide +kernel
theorem dX5_begin_7 : decode cX5_begin 7 = .ok (.aload_n 0, 1) := by decide +kernel
theorem dX5_begin_8 : decode cX5_begin 8 = .ok (.iload_n 2, 1) := by decide +kernel
theorem dX5_begin_9 : decode cX5_begin 9 = .ok (.invokevirtual 61, 3) := by decide +kernel
theorem dX5_begin_12 : decode cX5_begin 12 = .ok (.astore 5, 2) := by decide +kernel
theorem dX5_begin_14 : decode cX5_begin 14 = .ok (.iload_n 1, 1) := by decide +kernel
theorem dX5_begin_15 : decode cX5_begin 15 = .ok (.iload_n 2, 1) := by decide +kernel
theorem dX5_begin_16 : decode cX5_begin 16 = .ok (.if_icmp .ne 13, 3) := by decide +kernel
theorem dX5_begin_19 : decode cX5_begin 19 = .ok (.new 36, 3) := by decide +kernel
theorem dX5_begin_22 : decode cX5_begin 22 = .ok (.dup, 1) := by decide +kernel
theorem dX5_begin_23 : decode cX5_begin 23 = .ok (.ldc 65, 2) := by decide +kernel
theorem dX5_begin_25 : decode cX5_begin 25 = .ok (.invokespecial 40, 3) := by decide +kernel
theorem dX5_begin_28 : decode cX5_begin 28 = .ok (.athrow, 1) := by decide +kernel
theorem dX5_begin_29 : decode cX5_begin 29 = .ok (.iload_n 3, 1) := by decide +kernel
theorem dX5_begin_30 : decode cX5_begin 30 = .ok (.iconst 1, 1) := by decide +kernel
theorem dX5_begin_31 : decode cX5_begin 31 = .ok (.if_icmp .lt 9, 3) := by decide +kernel
theorem dX5_begin_34 : decode cX5_begin 34 = .ok (.iload_n 3, 1) := by decide +kernel
theorem dX5_begin_35 : decode cX5_begin 35 = .ok (.ldc 67, 2) := by decide +kernel
theorem dX5_begin_37 : decode cX5_begin 37 = .ok (.if_icmp .le 13, 3) := by decide +kernel
theorem dX5_begin_40 : decode cX5_begin 40 = .ok (.new 36, 3) := by decide +kernel
theorem dX5_begin_43 : decode cX5_begin 43 = .ok (.dup, 1) := by decide +kernel
theorem dX5_begin_44 : decode cX5_begin 44 = .ok (.ldc 68, 2) := by decide +kernel
theorem dX5_begin_46 : decode cX5_begin 46 = .ok (.invokespecial 40, 3) := by decide +kernel
theorem dX5_begin_49 : decode cX5_begin 49 = .ok (.athrow, 1) := by decide +kernel
theorem dX5_begin_50 : decode cX5_begin 50 = .ok (.aload_n 0, 1) := by decide +kernel
theorem dX5_begin_51 : decode cX5_begin 51 = .ok (.iconst 2, 1) := by decide +kernel
theorem dX5_begin_52 : decode cX5_begin 52 = .ok (.invokevirtual 70, 3) := by decide +kernel
theorem dX5_begin_55 : decode cX5_begin 55 = .ok (.aload_n 0, 1) := by decide +kernel
theorem dX5_begin_56 : decode cX5_begin 56 = .ok (.iconst 0, 1) := by decide +kernel
theorem dX5_begin_57 : decode cX5_begin 57 = .ok (.iload_n 1, 1) := by decide +kernel
theorem dX5_begin_58 : decode cX5_begin 58 = .ok (.new 7, 3) := by decide +kernel
theorem dX5_begin_61 : decode cX5_begin 61 = .ok (.dup, 1) := by decide +kernel
theorem dX5_begin_62 : decode cX5_begin 62 = .ok (.iload_n 1, 1) := by decide +kernel
theorem dX5_begin_63 : decode cX5_begin 63 = .ok (.iconst 0, 1) := by decide +kernel
theorem dX5_begin_64 : decode cX5_begin 64 = .ok (.iload_n 2, 1) := by decide +kernel
theorem dX5_begin_65 : decode cX5_begin 65 = .ok (.aload 5, 2) := by decide +kernel
theorem dX5_begin_67 : decode cX5_begin 67 = .ok (.getfield 74, 3) := by decide +kernel
theorem dX5_begin_70 : decode cX5_begin 70 = .ok (.iload_n 3, 1) := by decide +kernel
theorem dX5_begin_71 : decode cX5_begin 71 = .ok (.invokespecial 11, 3) := by decide +kernel
theorem dX5_begin_74 : decode cX5_begin 74 = .ok (.invokevirtual 78, 3) := by decide +kernel
theorem dX5_begin_77 : decode cX5_begin 77 = .ok (.istore 6, 2) := by decide +kernel
theorem dX5_begin_79 : decode cX5_begin 79 = .ok (.aload_n 0, 1) := by decide +kernel
theorem dX5_begin_80 : decode cX5_begin 80 = .ok (.iconst 1, 1) := by decide +kernel
theorem dX5_begin_81 : decode cX5_begin 81 = .ok (.iload_n 2, 1) := by decide +kernel
theorem dX5_begin_82 : decode cX5_begin 82 = .ok (.new 7, 3) := by decide +kernel
theorem dX5_begin_85 : decode cX5_begin 85 = .ok (.dup, 1) := by decide +kernel
theorem dX5_begin_86 : decode cX5_begin 86 = .ok (.iload_n 1, 1) := by decide +kernel
theorem dX5_begin_87 : decode cX5_begin 87 = .ok (.aload 4, 2) := by decide +kernel
theorem dX5_begin_89 : decode cX5_begin 89 = .ok (.getfield 74, 3) := by decide +kernel
theorem dX5_begin_92 : decode cX5_begin 92 = .ok (.iload_n 2, 1) := by decide +kernel
theorem dX5_begin_93 : decode cX5_begin 93 = .ok (.iconst 0, 1) := by decide +kernel
theorem dX5_begin_94 : decode cX5_begin 94 = .ok (.iload_n 3, 1) := by decide +kernel
theorem dX5_begin_95 : decode cX5_begin 95 = .ok (.invokespecial 11, 3) := by decide +kernel
theorem dX5_begin_98 : decode cX5_begin 98 = .ok (.invokevirtual 78, 3) := by decide +kernel
theorem dX5_begin_101 : decode cX5_begin 101 = .ok (.pop, 1) := by decide +kernel
theorem dX5_begin_102 : decode cX5_begin 102 = .ok (.iload 6, 2) := by decide +kernel
theorem dX5_begin_104 : decode cX5_begin 104 = .ok (.ireturn, 1) := by decide +kernel
theorem dX5_deliver_0 : decode cX5_deliver 0 = .ok (.aload_n 0, 1) := by decide +kernel
theorem dX5_deliver_1 : decode cX5_deliver 1 = .ok (.iload_n 1, 1) := by decide +kernel
theorem dX5_deliver_2 : decode cX5_deliver 2 = .ok (.invokevirtual 82, 3) := by decide +kernel
theorem dX5_deliver_5 : decode cX5_deliver 5 = .ok (.astore_n 2, 1) := by decide +kernel
theorem dX5_deliver_6 : decode cX5_deliver 6 = .ok (.aload_n 0, 1) := by decide +kernel
theorem dX5_deliver_7 : decode cX5_deliver 7 = .ok (.aload_n 2, 1) := by decide +kernel
theorem dX5_deliver_8 : decode cX5_deliver 8 = .ok (.invokevirtual 86, 3) := by decide +kernel
theorem dX5_deliver_11 : decode cX5_deliver 11 = .ok (.ifCond .eq 8, 3) := by decide +kernel
theorem dX5_deliver_14 : decode cX5_deliver 14 = .ok (.aload_n 0, 1) := by decide +kernel
theorem dX5_deliver_15 : decode cX5_deliver 15 = .ok (.iconst 1, 1) := by decide +kernel
theorem dX5_deliver_16 : decode cX5_deliver 16 = .ok (.invokevirtual 70, 3) := by decide +kernel
theorem dX5_deliver_19 : decode cX5_deliver 19 = .ok (.aload_n 2, 1) := by decide +kernel
theorem dX5_deliver_20 : decode cX5_deliver 20 = .ok (.getfield 90, 3) := by decide +kernel
theorem dX5_deliver_23 : decode cX5_deliver 23 = .ok (.tableswitch 83 0 5 #[37, 43, 49, 55, 61, 67], 37) := by decide +kernel
theorem dX5_deliver_60 : decode cX5_deliver 60 = .ok (.aload_n 0, 1) := by decide +kernel
theorem dX5_deliver_61 : decode cX5_deliver 61 = .ok (.aload_n 2, 1) := by decide +kernel
theorem dX5_deliver_62 : decode cX5_deliver 62 = .ok (.invokevirtual 95, 3) := by decide +kernel
theorem dX5_deliver_65 : decode cX5_deliver 65 = .ok (.ireturn, 1) := by decide +kernel
theorem dX5_deliver_66 : decode cX5_deliver 66 = .ok (.aload_n 0, 1) := by decide +kernel
theorem dX5_deliver_67 : decode cX5_deliver 67 = .ok (.aload_n 2, 1) := by decide +kernel
theorem dX5_deliver_68 : decode cX5_deliver 68 = .ok (.invokevirtual 98, 3) := by decide +kernel
theorem dX5_deliver_71 : decode cX5_deliver 71 = .ok (.ireturn, 1) := by decide +kernel
theorem dX5_deliver_72 : decode cX5_deliver 72 = .ok (.aload_n 0, 1) := by decide +kernel
theorem dX5_deliver_73 : decode cX5_deliver 73 = .ok (.aload_n 2, 1) := by decide +kernel
theorem dX5_deliver_74 : decode cX5_deliver 74 = .ok (.invokevirtual 101, 3) := by decide +kernel
theorem dX5_deliver_77 : decode cX5_deliver 77 = .ok (.ireturn, 1) := by decide +kernel
theorem dX5_deliver_78 : decode cX5_deliver 78 = .ok (.aload_n 0, 1) := by decide +kernel
theorem dX5_deliver_79 : decode cX5_deliver 79 = .ok (.aload_n 2, 1) := by decide +kernel
theorem dX5_deliver_80 : decode cX5_deliver 80 = .ok (.invokevirtual 104, 3) := by decide +kernel
theorem dX5_deliver_83 : decode cX5_deliver 83 = .ok (.ireturn, 1) := by decide +kernel
theorem dX5_deliver_84 : decode cX5_deliver 84 = .ok (.aload_n 0, 1) := by decide +kernel
theorem dX5_deliver_85 : decode cX5_deliver 85 = .ok (.aload_n 2, 1) := by decide +kernel
theorem dX5_deliver_86 : decode cX5_deliver 86 = .ok (.invokevirtual 107, 3) := by decide +kernel
theorem dX5_deliver_89 : decode cX5_deliver 89 = .ok (.ireturn, 1) := by decide +kernel
theorem dX5_deliver_90 : decode cX5_deliver 90 = .ok (.aload_n 0, 1) := by decide +kernel
theorem dX5_deliver_91 : decode cX5_deliver 91 = .ok (.getfield 31, 3) := by decide +kernel
theorem dX5_deliver_94 : decode cX5_deliver 94 = .ok (.aload_n 2, 1) := by decide +kernel
theorem dX5_deliver_95 : decode cX5_deliver 95 = .ok (.getfield 110, 3) := by decide +kernel
theorem dX5_deliver_98 : decode cX5_deliver 98 = .ok (.aload_n 2, 1) := by decide +kernel
theorem dX5_deliver_99 : decode cX5_deliver 99 = .ok (.getfield 113, 3) := by decide +kernel
theorem dX5_deliver_102 : decode cX5_deliver 102 = .ok (.invokevirtual 116, 3) := by decide +kernel
theorem dX5_deliver_105 : decode cX5_deliver 105 = .ok (.ireturn, 1) := by decide +kernel
theorem dX5_deliver_106 : decode cX5_deliver 106 = .ok (.aload_n 0, 1) := by decide +kernel
theorem dX5_deliver_107 : decode cX5_deliver 107 = .ok (.aload_n 2, 1) := by decide +kernel
theorem dX5_deliver_108 : decode cX5_deliver 108 = .ok (.invokevirtual 120, 3) := by decide +kernel
theorem dX5_deliver_111 : decode cX5_deliver 111 = .ok (.ireturn, 1) := by decide +kernel
theorem dX5_abort_0 : decode cX5_abort 0 = .ok (.aload_n 0, 1) := by decide +kernel
theorem dX5_abort_1 : decode cX5_abort 1 = .ok (.iload_n 1, 1) := by decide +kernel
theorem dX5_abort_2 : decode cX5_abort 2 = .ok (.invokevirtual 61, 3) := by decide +kernel
theorem dX5_abort_5 : decode cX5_abort 5 = .ok (.astore_n 2, 1) := by decide +kernel
theorem dX5_abort_6 : decode cX5_abort 6 = .ok (.aload_n 2, 1) := by decide +kernel
theorem dX5_abort_7 : decode cX5_abort 7 = .ok (.getfield 123, 3) := by decide +kernel
theorem dX5_abort_10 : decode cX5_abort 10 = .ok (.istore_n 3, 1) := by decide +kernel
theorem dX5_abort_11 : decode cX5_abort 11 = .ok (.aload_n 2, 1) := by decide +kernel
theorem dX5_abort_12 : decode cX5_abort 12 = .ok (.invokevirtual 126, 3) := by decide +kernel
theorem dX5_abort_15 : decode cX5_abort 15 = .ok (.iload_n 3, 1) := by decide +kernel
theorem dX5_abort_16 : decode cX5_abort 16 = .ok (.ireturn, 1) := by decide +kernel
theorem dX5_readLog_0 : decode cX5_readLog 0 = .ok (.aload_n 0, 1) := by decide +kernel
theorem dX5_readLog_1 : decode cX5_readLog 1 = .ok (.iload_n 1, 1) := by decide +kernel
theorem dX5_readLog_2 : decode cX5_readLog 2 = .ok (.invokevirtual 61, 3) := by decide +kernel
theorem dX5_readLog_5 : decode cX5_readLog 5 = .ok (.astore_n 2, 1) := by decide +kernel
theorem dX5_readLog_6 : decode cX5_readLog 6 = .ok (.aload_n 2, 1) := by decide +kernel
theorem dX5_readLog_7 : decode cX5_readLog 7 = .ok (.getfield 123, 3) := by decide +kernel
theorem dX5_readLog_10 : decode cX5_readLog 10 = .ok (.ifCond .eq 13, 3) := by decide +kernel
theorem dX5_readLog_13 : decode cX5_readLog 13 = .ok (.new 129, 3) := by decide +kernel
theorem dX5_readLog_16 : decode cX5_readLog 16 = .ok (.dup, 1) := by decide +kernel
theorem dX5_readLog_17 : decode cX5_readLog 17 = .ok (.ldc 131, 2) := by decide +kernel
theorem dX5_readLog_19 : decode cX5_readLog 19 = .ok (.invokespecial 133, 3) := by decide +kernel
theorem dX5_readLog_22 : decode cX5_readLog 22 = .ok (.athrow, 1) := by decide +kernel
theorem dX5_readLog_23 : decode cX5_readLog 23 = .ok (.aload_n 2, 1) := by decide +kernel
theorem dX5_readLog_24 : decode cX5_readLog 24 = .ok (.getfield 134, 3) := by decide +kernel
theorem dX5_readLog_27 : decode cX5_readLog 27 = .ok (.invokevirtual 43, 3) := by decide +kernel
theorem dX5_readLog_30 : decode cX5_readLog 30 = .ok (.istore_n 3, 1) := by decide +kernel
theorem dX5_readLog_31 : decode cX5_readLog 31 = .ok (.aload_n 0, 1) := by decide +kernel
theorem dX5_readLog_32 : decode cX5_readLog 32 = .ok (.iload_n 3, 1) := by decide +kernel
theorem dX5_readLog_33 : decode cX5_readLog 33 = .ok (.invokevirtual 70, 3) := by decide +kernel
theorem dX5_readLog_36 : decode cX5_readLog 36 = .ok (.iconst 0, 1) := by decide +kernel
theorem dX5_readLog_37 : decode cX5_readLog 37 = .ok (.istore 4, 2) := by decide +kernel
theorem dX5_readLog_39 : decode cX5_readLog 39 = .ok (.iload 4, 2) := by decide +kernel
theorem dX5_readLog_41 : decode cX5_readLog 41 = .ok (.iload_n 3, 1) := by decide +kernel
theorem dX5_readLog_42 : decode cX5_readLog 42 = .ok (.if_icmp .ge 40, 3) := by decide +kernel
theorem dX5_readLog_45 : decode cX5_readLog 45 = .ok (.aload_n 0, 1) := by decide +kernel
theorem dX5_readLog_46 : decode cX5_readLog 46 = .ok (.getfield 25, 3) := by decide +kernel
theorem dX5_readLog_49 : decode cX5_readLog 49 = .ok (.new 91, 3) := by decide +kernel
theorem dX5_readLog_52 : decode cX5_readLog 52 = .ok (.dup, 1) := by decide +kernel
theorem dX5_readLog_53 : decode cX5_readLog 53 = .ok (.iconst 5, 1) := by decide +kernel
theorem dX5_readLog_54 : decode cX5_readLog 54 = .ok (.iconst (-1), 1) := by decide +kernel
theorem dX5_readLog_55 : decode cX5_readLog 55 = .ok (.aload_n 2, 1) := by decide +kernel
theorem dX5_readLog_56 : decode cX5_readLog 56 = .ok (.getfield 134, 3) := by decide +kernel
theorem dX5_readLog_59 : decode cX5_readLog 59 = .ok (.iload 4, 2) := by decide +kernel
theorem dX5_readLog_61 : decode cX5_readLog 61 = .ok (.invokevirtual 137, 3) := by decide +kernel
theorem dX5_readLog_64 : decode cX5_readLog 64 = .ok (.checkcast 7, 3) := by decide +kernel
theorem dX5_readLog_67 : decode cX5_readLog 67 = .ok (.iload_n 1, 1) := by decide +kernel
theorem dX5_readLog_68 : decode cX5_readLog 68 = .ok (.iconst 0, 1) := by decide +kernel
theorem dX5_readLog_69 : decode cX5_readLog 69 = .ok (.invokespecial 141, 3) := by decide +kernel
theorem dX5_readLog_72 : decode cX5_readLog 72 = .ok (.invokevirtual 57, 3) := by decide +kernel
theorem dX5_readLog_75 : decode cX5_readLog 75 = .ok (.pop, 1) := by decide +kernel
theorem dX5_readLog_76 : decode cX5_readLog 76 = .ok (.iinc 4 1, 3) := by decide +kernel
theorem dX5_readLog_79 : decode cX5_readLog 79 = .ok (.goto (-40), 3) := by decide +kernel
theorem dX5_readLog_82 : decode cX5_readLog 82 = .ok (.iload_n 3, 1) := by decide +kernel
theorem dX5_readLog_83 : decode cX5_readLog 83 = .ok (.ireturn, 1) := by decide +kernel
theorem dX5_authorise_0 : decode cX5_authorise 0 = .ok (.aload_n 0, 1) := by decide +kernel
theorem dX5_authorise_1 : decode cX5_authorise 1 = .ok (.iload_n 1, 1) := by decide +kernel
theorem dX5_authorise_2 : decode cX5_authorise 2 = .ok (.invokevirtual 61, 3) := by decide +kernel
theorem dX5_authorise_5 : decode cX5_authorise 5 = .ok (.pop, 1) := by decide +kernel
theorem dX5_authorise_6 : decode cX5_authorise 6 = .ok (.aload_n 0, 1) := by decide +kernel
theorem dX5_authorise_7 : decode cX5_authorise 7 = .ok (.getfield 31, 3) := by decide +kernel
theorem dX5_authorise_10 : decode cX5_authorise 10 = .ok (.iload_n 1, 1) := by decide +kernel
theorem dX5_authorise_11 : decode cX5_authorise 11 = .ok (.invokevirtual 144, 3) := by decide +kernel
theorem dX5_authorise_14 : decode cX5_authorise 14 = .ok (.ifCond .ne 13, 3) := by decide +kernel
theorem dX5_authorise_17 : decode cX5_authorise 17 = .ok (.new 129, 3) := by decide +kernel
theorem dX5_authorise_20 : decode cX5_authorise 20 = .ok (.dup, 1) := by decide +kernel
theorem dX5_authorise_21 : decode cX5_authorise 21 = .ok (.ldc 148, 2) := by decide +kernel
theorem dX5_authorise_23 : decode cX5_authorise 23 = .ok (.invokespecial 133, 3) := by decide +kernel
theorem dX5_authorise_26 : decode cX5_authorise 26 = .ok (.athrow, 1) := by decide +kernel
theorem dX5_authorise_27 : decode cX5_authorise 27 = .ok (.aload_n 0, 1) := by decide +kernel
theorem dX5_authorise_28 : decode cX5_authorise 28 = .ok (.iconst 1, 1) := by decide +kernel
theorem dX5_authorise_29 : decode cX5_authorise 29 = .ok (.invokevirtual 70, 3) := by decide +kernel
theorem dX5_authorise_32 : decode cX5_authorise 32 = .ok (.aload_n 0, 1) := by decide +kernel
theorem dX5_authorise_33 : decode cX5_authorise 33 = .ok (.getfield 25, 3) := by decide +kernel
theorem dX5_authorise_36 : decode cX5_authorise 36 = .ok (.invokevirtual 43, 3) := by decide +kernel
theorem dX5_authorise_39 : decode cX5_authorise 39 = .ok (.istore_n 2, 1) := by decide +kernel
theorem dX5_authorise_40 : decode cX5_authorise 40 = .ok (.aload_n 0, 1) := by decide +kernel
theorem dX5_authorise_41 : decode cX5_authorise 41 = .ok (.getfield 25, 3) := by decide +kernel
theorem dX5_authorise_44 : decode cX5_authorise 44 = .ok (.new 91, 3) := by decide +kernel
theorem dX5_authorise_47 : decode cX5_authorise 47 = .ok (.dup, 1) := by decide +kernel
theorem dX5_authorise_48 : decode cX5_authorise 48 = .ok (.bipush 6, 2) := by decide +kernel
theorem dX5_authorise_50 : decode cX5_authorise 50 = .ok (.iload_n 1, 1) := by decide +kernel
theorem dX5_authorise_51 : decode cX5_authorise 51 = .ok (.aload_n 0, 1) := by decide +kernel
theorem dX5_authorise_52 : decode cX5_authorise 52 = .ok (.getfield 14, 3) := by decide +kernel
theorem dX5_authorise_55 : decode cX5_authorise 55 = .ok (.iconst (-1), 1) := by decide +kernel
theorem dX5_authorise_56 : decode cX5_authorise 56 = .ok (.aload_n 0, 1) := by decide +kernel
theorem dX5_authorise_57 : decode cX5_authorise 57 = .ok (.getfield 31, 3) := by decide +kernel
theorem dX5_authorise_60 : decode cX5_authorise 60 = .ok (.invokevirtual 150, 3) := by decide +kernel
theorem dX5_authorise_63 : decode cX5_authorise 63 = .ok (.invokespecial 141, 3) := by decide +kernel
theorem dX5_authorise_66 : decode cX5_authorise 66 = .ok (.invokevirtual 57, 3) := by decide +kernel
theorem dX5_authorise_69 : decode cX5_authorise 69 = .ok (.pop, 1) := by decide +kernel
theorem dX5_authorise_70 : decode cX5_authorise 70 = .ok (.iload_n 2, 1) := by decide +kernel
theorem dX5_authorise_71 : decode cX5_authorise 71 = .ok (.ireturn, 1) := by decide +kernel
theorem dX5_refund_0 : decode cX5_refund 0 = .ok (.aload_n 0, 1) := by decide +kernel
theorem dX5_refund_1 : decode cX5_refund 1 = .ok (.iload_n 1, 1) := by decide +kernel
theorem dX5_refund_2 : decode cX5_refund 2 = .ok (.invokevirtual 151, 3) := by decide +kernel
theorem dX5_refund_5 : decode cX5_refund 5 = .ok (.astore_n 2, 1) := by decide +kernel
theorem dX5_refund_6 : decode cX5_refund 6 = .ok (.aload_n 0, 1) := by decide +kernel
theorem dX5_refund_7 : decode cX5_refund 7 = .ok (.getfield 31, 3) := by decide +kernel
theorem dX5_refund_10 : decode cX5_refund 10 = .ok (.aload_n 2, 1) := by decide +kernel
theorem dX5_refund_11 : decode cX5_refund 11 = .ok (.getfield 155, 3) := by decide +kernel
theorem dX5_refund_14 : decode cX5_refund 14 = .ok (.getfield 158, 3) := by decide +kernel
theorem dX5_refund_17 : decode cX5_refund 17 = .ok (.aload_n 2, 1) := by decide +kernel
theorem dX5_refund_18 : decode cX5_refund 18 = .ok (.getfield 155, 3) := by decide +kernel
theorem dX5_refund_21 : decode cX5_refund 21 = .ok (.invokevirtual 161, 3) := by decide +kernel
theorem dX5_refund_24 : decode cX5_refund 24 = .ok (.ifCond .eq 24, 3) := by decide +kernel
theorem dX5_refund_27 : decode cX5_refund 27 = .ok (.aload_n 0, 1) := by decide +kernel
theorem dX5_refund_28 : decode cX5_refund 28 = .ok (.getfield 31, 3) := by decide +kernel
theorem dX5_refund_31 : decode cX5_refund 31 = .ok (.aload_n 2, 1) := by decide +kernel
theorem dX5_refund_32 : decode cX5_refund 32 = .ok (.getfield 155, 3) := by decide +kernel
theorem dX5_refund_35 : decode cX5_refund 35 = .ok (.getfield 164, 3) := by decide +kernel
theorem dX5_refund_38 : decode cX5_refund 38 = .ok (.aload_n 2, 1) := by decide +kernel
theorem dX5_refund_39 : decode cX5_refund 39 = .ok (.getfield 155, 3) := by decide +kernel
theorem dX5_refund_42 : decode cX5_refund 42 = .ok (.invokevirtual 161, 3) := by decide +kernel
theorem dX5_refund_45 : decode cX5_refund 45 = .ok (.ifCond .ne 13, 3) := by decide +kernel
theorem dX5_refund_48 : decode cX5_refund 48 = .ok (.new 129, 3) := by decide +kernel
theorem dX5_refund_51 : decode cX5_refund 51 = .ok (.dup, 1) := by decide +kernel
theorem dX5_refund_52 : decode cX5_refund 52 = .ok (.ldc 167, 2) := by decide +kernel
theorem dX5_refund_54 : decode cX5_refund 54 = .ok (.invokespecial 133, 3) := by decide +kernel
theorem dX5_refund_57 : decode cX5_refund 57 = .ok (.athrow, 1) := by decide +kernel
theorem dX5_refund_58 : decode cX5_refund 58 = .ok (.aload_n 2, 1) := by decide +kernel
theorem dX5_refund_59 : decode cX5_refund 59 = .ok (.getfield 169, 3) := by decide +kernel
theorem dX5_refund_62 : decode cX5_refund 62 = .ok (.ifCond .eq 13, 3) := by decide +kernel
theorem dX5_refund_65 : decode cX5_refund 65 = .ok (.new 129, 3) := by decide +kernel
theorem dX5_refund_68 : decode cX5_refund 68 = .ok (.dup, 1) := by decide +kernel
theorem dX5_refund_69 : decode cX5_refund 69 = .ok (.ldc 173, 2) := by decide +kernel
theorem dX5_refund_71 : decode cX5_refund 71 = .ok (.invokespecial 133, 3) := by decide +kernel
theorem dX5_refund_74 : decode cX5_refund 74 = .ok (.athrow, 1) := by decide +kernel
theorem dX5_refund_75 : decode cX5_refund 75 = .ok (.aload_n 0, 1) := by decide +kernel
theorem dX5_refund_76 : decode cX5_refund 76 = .ok (.getfield 31, 3) := by decide +kernel
theorem dX5_refund_79 : decode cX5_refund 79 = .ok (.aload_n 2, 1) := by decide +kernel
theorem dX5_refund_80 : decode cX5_refund 80 = .ok (.getfield 155, 3) := by decide +kernel
theorem dX5_refund_83 : decode cX5_refund 83 = .ok (.invokevirtual 175, 3) := by decide +kernel
theorem dX5_refund_86 : decode cX5_refund 86 = .ok (.aload_n 0, 1) := by decide +kernel
theorem dX5_refund_87 : decode cX5_refund 87 = .ok (.aload_n 2, 1) := by decide +kernel
theorem dX5_refund_88 : decode cX5_refund 88 = .ok (.getfield 155, 3) := by decide +kernel
theorem dX5_refund_91 : decode cX5_refund 91 = .ok (.getfield 158, 3) := by decide +kernel
theorem dX5_refund_94 : decode cX5_refund 94 = .ok (.invokevirtual 61, 3) := by decide +kernel
theorem dX5_refund_97 : decode cX5_refund 97 = .ok (.astore_n 3, 1) := by decide +kernel
theorem dX5_refund_98 : decode cX5_refund 98 = .ok (.aload_n 3, 1) := by decide +kernel
theorem dX5_refund_99 : decode cX5_refund 99 = .ok (.dup, 1) := by decide +kernel
theorem dX5_refund_100 : decode cX5_refund 100 = .ok (.getfield 179, 3) := by decide +kernel
theorem dX5_refund_103 : decode cX5_refund 103 = .ok (.aload_n 2, 1) := by decide +kernel
theorem dX5_refund_104 : decode cX5_refund 104 = .ok (.getfield 155, 3) := by decide +kernel
theorem dX5_refund_107 : decode cX5_refund 107 = .ok (.getfield 182, 3) := by decide +kernel
theorem dX5_refund_110 : decode cX5_refund 110 = .ok (.iadd, 1) := by decide +kernel
theorem dX5_refund_111 : decode cX5_refund 111 = .ok (.putfield 179, 3) := by decide +kernel
theorem dX5_refund_114 : decode cX5_refund 114 = .ok (.aload_n 3, 1) := by decide +kernel
theorem dX5_refund_115 : decode cX5_refund 115 = .ok (.getfield 179, 3) := by decide +kernel
theorem dX5_refund_118 : decode cX5_refund 118 = .ok (.ireturn, 1) := by decide +kernel
theorem dX5_told_0 : decode cX5_told 0 = .ok (.aload_n 0, 1) := by decide +kernel
theorem dX5_told_1 : decode cX5_told 1 = .ok (.iload_n 1, 1) := by decide +kernel
theorem dX5_told_2 : decode cX5_told 2 = .ok (.invokevirtual 61, 3) := by decide +kernel
theorem dX5_told_5 : decode cX5_told 5 = .ok (.astore_n 3, 1) := by decide +kernel
theorem dX5_told_6 : decode cX5_told 6 = .ok (.iload_n 2, 1) := by decide +kernel
theorem dX5_told_7 : decode cX5_told 7 = .ok (.tableswitch 52 0 3 #[29, 34, 39, 44], 29) := by decide +kernel
theorem dX5_told_36 : decode cX5_told 36 = .ok (.aload_n 3, 1) := by decide +kernel
theorem dX5_told_37 : decode cX5_told 37 = .ok (.getfield 179, 3) := by decide +kernel
theorem dX5_told_40 : decode cX5_told 40 = .ok (.ireturn, 1) := by decide +kernel
theorem dX5_told_41 : decode cX5_told 41 = .ok (.aload_n 3, 1) := by decide +kernel
theorem dX5_told_42 : decode cX5_told 42 = .ok (.getfield 74, 3) := by decide +kernel
theorem dX5_told_45 : decode cX5_told 45 = .ok (.ireturn, 1) := by decide +kernel
theorem dX5_told_46 : decode cX5_told 46 = .ok (.aload_n 3, 1) := by decide +kernel
theorem dX5_told_47 : decode cX5_told 47 = .ok (.getfield 123, 3) := by decide +kernel
theorem dX5_told_50 : decode cX5_told 50 = .ok (.ireturn, 1) := by decide +kernel
theorem dX5_told_51 : decode cX5_told 51 = .ok (.aload_n 3, 1) := by decide +kernel
theorem dX5_told_52 : decode cX5_told 52 = .ok (.getfield 134, 3) := by decide +kernel
theorem dX5_told_55 : decode cX5_told 55 = .ok (.invokevirtual 43, 3) := by decide +kernel
theorem dX5_told_58 : decode cX5_told 58 = .ok (.ireturn, 1) := by decide +kernel
theorem dX5_told_59 : decode cX5_told 59 = .ok (.new 36, 3) := by decide +kernel
theorem dX5_told_62 : decode cX5_told 62 = .ok (.dup, 1) := by decide +kernel
theorem dX5_told_63 : decode cX5_told 63 = .ok (.ldc 185, 2) := by decide +kernel
theorem dX5_told_65 : decode cX5_told 65 = .ok (.invokespecial 40, 3) := by decide +kernel
theorem dX5_told_68 : decode cX5_told 68 = .ok (.athrow, 1) := by decide +kernel
theorem dX5_transfer_0 : decode cX5_transfer 0 = .ok (.aload_n 0, 1) := by decide +kernel
theorem dX5_transfer_1 : decode cX5_transfer 1 = .ok (.iload_n 1, 1) := by decide +kernel
theorem dX5_transfer_2 : decode cX5_transfer 2 = .ok (.invokevirtual 61, 3) := by decide +kernel
theorem dX5_transfer_5 : decode cX5_transfer 5 = .ok (.getfield 187, 3) := by decide +kernel
theorem dX5_transfer_8 : decode cX5_transfer 8 = .ok (.iload_n 2, 1) := by decide +kernel
theorem dX5_transfer_9 : decode cX5_transfer 9 = .ok (.invokestatic 190, 3) := by decide +kernel
theorem dX5_transfer_12 : decode cX5_transfer 12 = .ok (.ireturn, 1) := by decide +kernel
theorem dX5_log_0 : decode cX5_log 0 = .ok (.aload_n 0, 1) := by decide +kernel
theorem dX5_log_1 : decode cX5_log 1 = .ok (.iload_n 1, 1) := by decide +kernel
theorem dX5_log_2 : decode cX5_log 2 = .ok (.invokevirtual 61, 3) := by decide +kernel
theorem dX5_log_5 : decode cX5_log 5 = .ok (.astore 4, 2) := by decide +kernel
theorem dX5_log_7 : decode cX5_log 7 = .ok (.iload_n 2, 1) := by decide +kernel
theorem dX5_log_8 : decode cX5_log 8 = .ok (.ifCond .lt 15, 3) := by decide +kernel
theorem dX5_log_11 : decode cX5_log 11 = .ok (.iload_n 2, 1) := by decide +kernel
theorem dX5_log_12 : decode cX5_log 12 = .ok (.aload 4, 2) := by decide +kernel
theorem dX5_log_14 : decode cX5_log 14 = .ok (.getfield 134, 3) := by decide +kernel
theorem dX5_log_17 : decode cX5_log 17 = .ok (.invokevirtual 43, 3) := by decide +kernel
theorem dX5_log_20 : decode cX5_log 20 = .ok (.if_icmp .lt 13, 3) := by decide +kernel
theorem dX5_log_23 : decode cX5_log 23 = .ok (.new 194, 3) := by decide +kernel
theorem dX5_log_26 : decode cX5_log 26 = .ok (.dup, 1) := by decide +kernel
theorem dX5_log_27 : decode cX5_log 27 = .ok (.ldc 196, 2) := by decide +kernel
theorem dX5_log_29 : decode cX5_log 29 = .ok (.invokespecial 198, 3) := by decide +kernel
theorem dX5_log_32 : decode cX5_log 32 = .ok (.athrow, 1) := by decide +kernel
theorem dX5_log_33 : decode cX5_log 33 = .ok (.aload 4, 2) := by decide +kernel
theorem dX5_log_35 : decode cX5_log 35 = .ok (.getfield 134, 3) := by decide +kernel
theorem dX5_log_38 : decode cX5_log 38 = .ok (.iload_n 2, 1) := by decide +kernel
theorem dX5_log_39 : decode cX5_log 39 = .ok (.invokevirtual 137, 3) := by decide +kernel
theorem dX5_log_42 : decode cX5_log 42 = .ok (.checkcast 7, 3) := by decide +kernel
theorem dX5_log_45 : decode cX5_log 45 = .ok (.iload_n 3, 1) := by decide +kernel
theorem dX5_log_46 : decode cX5_log 46 = .ok (.invokestatic 190, 3) := by decide +kernel
theorem dX5_log_49 : decode cX5_log 49 = .ok (.ireturn, 1) := by decide +kernel
theorem dX5_messages_0 : decode cX5_messages 0 = .ok (.aload_n 0, 1) := by decide +kernel
theorem dX5_messages_1 : decode cX5_messages 1 = .ok (.getfield 25, 3) := by decide +kernel
theorem dX5_messages_4 : decode cX5_messages 4 = .ok (.invokevirtual 43, 3) := by decide +kernel
theorem dX5_messages_7 : decode cX5_messages 7 = .ok (.ireturn, 1) := by decide +kernel
theorem dX5_message_0 : decode cX5_message 0 = .ok (.aload_n 0, 1) := by decide +kernel
theorem dX5_message_1 : decode cX5_message 1 = .ok (.iload_n 1, 1) := by decide +kernel
theorem dX5_message_2 : decode cX5_message 2 = .ok (.invokevirtual 82, 3) := by decide +kernel
theorem dX5_message_5 : decode cX5_message 5 = .ok (.astore_n 3, 1) := by decide +kernel
theorem dX5_message_6 : decode cX5_message 6 = .ok (.iload_n 2, 1) := by decide +kernel
theorem dX5_message_7 : decode cX5_message 7 = .ok (.lookupswitch 35 #[(5, 25), (6, 30)], 25) := by decide +kernel
theorem dX5_message_32 : decode cX5_message 32 = .ok (.aload_n 3, 1) := by decide +kernel
theorem dX5_message_33 : decode cX5_message 33 = .ok (.getfield 90, 3) := by decide +kernel
theorem dX5_message_36 : decode cX5_message 36 = .ok (.ireturn, 1) := by decide +kernel
theorem dX5_message_37 : decode cX5_message 37 = .ok (.aload_n 3, 1) := by decide +kernel
theorem dX5_message_38 : decode cX5_message 38 = .ok (.getfield 199, 3) := by decide +kernel
theorem dX5_message_41 : decode cX5_message 41 = .ok (.ireturn, 1) := by decide +kernel
theorem dX5_message_42 : decode cX5_message 42 = .ok (.aload_n 3, 1) := by decide +kernel
theorem dX5_message_43 : decode cX5_message 43 = .ok (.getfield 113, 3) := by decide +kernel
theorem dX5_message_46 : decode cX5_message 46 = .ok (.iload_n 2, 1) := by decide +kernel
theorem dX5_message_47 : decode cX5_message 47 = .ok (.invokestatic 190, 3) := by decide +kernel
theorem dX5_message_50 : decode cX5_message 50 = .ok (.ireturn, 1) := by decide +kernel
theorem dX5_entries_0 : decode cX5_entries 0 = .ok (.aload_n 0, 1) := by decide +kernel
theorem dX5_entries_1 : decode cX5_entries 1 = .ok (.getfield 31, 3) := by decide +kernel
theorem dX5_entries_4 : decode cX5_entries 4 = .ok (.invokevirtual 150, 3) := by decide +kernel
theorem dX5_entries_7 : decode cX5_entries 7 = .ok (.ireturn, 1) := by decide +kernel
theorem dX5_entry_0 : decode cX5_entry 0 = .ok (.aload_n 0, 1) := by decide +kernel
theorem dX5_entry_1 : decode cX5_entry 1 = .ok (.iload_n 1, 1) := by decide +kernel
theorem dX5_entry_2 : decode cX5_entry 2 = .ok (.invokevirtual 151, 3) := by decide +kernel
theorem dX5_entry_5 : decode cX5_entry 5 = .ok (.astore_n 3, 1) := by decide +kernel
theorem dX5_entry_6 : decode cX5_entry 6 = .ok (.iload_n 2, 1) := by decide +kernel
theorem dX5_entry_7 : decode cX5_entry 7 = .ok (.lookupswitch 43 #[(5, 25), (6, 30)], 25) := by decide +kernel
theorem dX5_entry_32 : decode cX5_entry 32 = .ok (.aload_n 3, 1) := by decide +kernel
theorem dX5_entry_33 : decode cX5_entry 33 = .ok (.getfield 202, 3) := by decide +kernel
theorem dX5_entry_36 : decode cX5_entry 36 = .ok (.ireturn, 1) := by decide +kernel
theorem dX5_entry_37 : decode cX5_entry 37 = .ok (.aload_n 3, 1) := by decide +kernel
theorem dX5_entry_38 : decode cX5_entry 38 = .ok (.getfield 169, 3) := by decide +kernel
theorem dX5_entry_41 : decode cX5_entry 41 = .ok (.ifCond .eq 7, 3) := by decide +kernel
theorem dX5_entry_44 : decode cX5_entry 44 = .ok (.iconst 1, 1) := by decide +kernel
theorem dX5_entry_45 : decode cX5_entry 45 = .ok (.goto 4, 3) := by decide +kernel
theorem dX5_entry_48 : decode cX5_entry 48 = .ok (.iconst 0, 1) := by decide +kernel
theorem dX5_entry_49 : decode cX5_entry 49 = .ok (.ireturn, 1) := by decide +kernel
theorem dX5_entry_50 : decode cX5_entry 50 = .ok (.aload_n 3, 1) := by decide +kernel
theorem dX5_entry_51 : decode cX5_entry 51 = .ok (.getfield 155, 3) := by decide +kernel
theorem dX5_entry_54 : decode cX5_entry 54 = .ok (.iload_n 2, 1) := by decide +kernel
theorem dX5_entry_55 : decode cX5_entry 55 = .ok (.invokestatic 190, 3) := by decide +kernel
theorem dX5_entry_58 : decode cX5_entry 58 = .ok (.ireturn, 1) := by decide +kernel
theorem dX5_balances_0 : decode cX5_balances 0 = .ok (.lconst 0, 1) := by decide +kernel
theorem dX5_balances_1 : decode cX5_balances 1 = .ok (.lstore_n 1, 1) := by decide +kernel
theorem dX5_balances_2 : decode cX5_balances 2 = .ok (.iconst 0, 1) := by decide +kernel
theorem dX5_balances_3 : decode cX5_balances 3 = .ok (.istore_n 3, 1) := by decide +kernel
theorem dX5_balances_4 : decode cX5_balances 4 = .ok (.iload_n 3, 1) := by decide +kernel
theorem dX5_balances_5 : decode cX5_balances 5 = .ok (.aload_n 0, 1) := by decide +kernel
theorem dX5_balances_6 : decode cX5_balances 6 = .ok (.getfield 21, 3) := by decide +kernel
theorem dX5_balances_9 : decode cX5_balances 9 = .ok (.invokevirtual 43, 3) := by decide +kernel
theorem dX5_balances_12 : decode cX5_balances 12 = .ok (.if_icmp .ge 27, 3) := by decide +kernel
theorem dX5_balances_15 : decode cX5_balances 15 = .ok (.lload_n 1, 1) := by decide +kernel
theorem dX5_balances_16 : decode cX5_balances 16 = .ok (.aload_n 0, 1) := by decide +kernel
theorem dX5_balances_17 : decode cX5_balances 17 = .ok (.getfield 21, 3) := by decide +kernel
theorem dX5_balances_20 : decode cX5_balances 20 = .ok (.iload_n 3, 1) := by decide +kernel
theorem dX5_balances_21 : decode cX5_balances 21 = .ok (.invokevirtual 137, 3) := by decide +kernel
theorem dX5_balances_24 : decode cX5_balances 24 = .ok (.checkcast 52, 3) := by decide +kernel
theorem dX5_balances_27 : decode cX5_balances 27 = .ok (.getfield 179, 3) := by decide +kernel
theorem dX5_balances_30 : decode cX5_balances 30 = .ok (.i2l, 1) := by decide +kernel
theorem dX5_balances_31 : decode cX5_balances 31 = .ok (.ladd, 1) := by decide +kernel
theorem dX5_balances_32 : decode cX5_balances 32 = .ok (.lstore_n 1, 1) := by decide +kernel
theorem dX5_balances_33 : decode cX5_balances 33 = .ok (.iinc 3 1, 3) := by decide +kernel
theorem dX5_balances_36 : decode cX5_balances 36 = .ok (.goto (-32), 3) := by decide +kernel
theorem dX5_balances_39 : decode cX5_balances 39 = .ok (.lload_n 1, 1) := by decide +kernel
theorem dX5_balances_40 : decode cX5_balances 40 = .ok (.lreturn, 1) := by decide +kernel
theorem dX5_pending_0 : decode cX5_pending 0 = .ok (.lconst 0, 1) := by decide +kernel
theorem dX5_pending_1 : decode cX5_pending 1 = .ok (.lstore_n 1, 1) := by decide +kernel
theorem dX5_pending_2 : decode cX5_pending 2 = .ok (.iconst 0, 1) := by decide +kernel
theorem dX5_pending_3 : decode cX5_pending 3 = .ok (.istore_n 3, 1) := by decide +kernel
theorem dX5_pending_4 : decode cX5_pending 4 = .ok (.iload_n 3, 1) := by decide +kernel
theorem dX5_pending_5 : decode cX5_pending 5 = .ok (.aload_n 0, 1) := by decide +kernel
theorem dX5_pending_6 : decode cX5_pending 6 = .ok (.getfield 21, 3) := by decide +kernel
theorem dX5_pending_9 : decode cX5_pending 9 = .ok (.invokevirtual 43, 3) := by decide +kernel
theorem dX5_pending_12 : decode cX5_pending 12 = .ok (.if_icmp .ge 27, 3) := by decide +kernel
theorem dX5_pending_15 : decode cX5_pending 15 = .ok (.lload_n 1, 1) := by decide +kernel
theorem dX5_pending_16 : decode cX5_pending 16 = .ok (.aload_n 0, 1) := by decide +kernel
theorem dX5_pending_17 : decode cX5_pending 17 = .ok (.aload_n 0, 1) := by decide +kernel
theorem dX5_pending_18 : decode cX5_pending 18 = .ok (.getfield 21, 3) := by decide +kernel
theorem dX5_pending_21 : decode cX5_pending 21 = .ok (.iload_n 3, 1) := by decide +kernel
theorem dX5_pending_22 : decode cX5_pending 22 = .ok (.invokevirtual 137, 3) := by decide +kernel
theorem dX5_pending_25 : decode cX5_pending 25 = .ok (.checkcast 52, 3) := by decide +kernel
theorem dX5_pending_28 : decode cX5_pending 28 = .ok (.invokevirtual 203, 3) := by decide +kernel
theorem dX5_pending_31 : decode cX5_pending 31 = .ok (.ladd, 1) := by decide +kernel
theorem dX5_pending_32 : decode cX5_pending 32 = .ok (.lstore_n 1, 1) := by decide +kernel
theorem dX5_pending_33 : decode cX5_pending 33 = .ok (.iinc 3 1, 3) := by decide +kernel
theorem dX5_pending_36 : decode cX5_pending 36 = .ok (.goto (-32), 3) := by decide +kernel
theorem dX5_pending_39 : decode cX5_pending 39 = .ok (.iconst 0, 1) := by decide +kernel
theorem dX5_pending_40 : decode cX5_pending 40 = .ok (.istore_n 3, 1) := by decide +kernel
theorem dX5_pending_41 : decode cX5_pending 41 = .ok (.iload_n 3, 1) := by decide +kernel
theorem dX5_pending_42 : decode cX5_pending 42 = .ok (.aload_n 0, 1) := by decide +kernel
theorem dX5_pending_43 : decode cX5_pending 43 = .ok (.getfield 31, 3) := by decide +kernel
theorem dX5_pending_46 : decode cX5_pending 46 = .ok (.invokevirtual 150, 3) := by decide +kernel
theorem dX5_pending_49 : decode cX5_pending 49 = .ok (.if_icmp .ge 53, 3) := by decide +kernel
theorem dX5_pending_52 : decode cX5_pending 52 = .ok (.aload_n 0, 1) := by decide +kernel
theorem dX5_pending_53 : decode cX5_pending 53 = .ok (.getfield 31, 3) := by decide +kernel
theorem dX5_pending_56 : decode cX5_pending 56 = .ok (.getfield 207, 3) := by decide +kernel
theorem dX5_pending_59 : decode cX5_pending 59 = .ok (.iload_n 3, 1) := by decide +kernel
theorem dX5_pending_60 : decode cX5_pending 60 = .ok (.invokevirtual 137, 3) := by decide +kernel
theorem dX5_pending_63 : decode cX5_pending 63 = .ok (.checkcast 156, 3) := by decide +kernel
theorem dX5_pending_66 : decode cX5_pending 66 = .ok (.astore 4, 2) := by decide +kernel
theorem dX5_pending_68 : decode cX5_pending 68 = .ok (.aload 4, 2) := by decide +kernel
theorem dX5_pending_70 : decode cX5_pending 70 = .ok (.getfield 202, 3) := by decide +kernel
theorem dX5_pending_73 : decode cX5_pending 73 = .ok (.aload 4, 2) := by decide +kernel
theorem dX5_pending_75 : decode cX5_pending 75 = .ok (.getfield 155, 3) := by decide +kernel
theorem dX5_pending_78 : decode cX5_pending 78 = .ok (.getfield 158, 3) := by decide +kernel
theorem dX5_pending_81 : decode cX5_pending 81 = .ok (.if_icmp .ne 15, 3) := by decide +kernel
theorem dX5_pending_84 : decode cX5_pending 84 = .ok (.lload_n 1, 1) := by decide +kernel
theorem dX5_pending_85 : decode cX5_pending 85 = .ok (.aload_n 0, 1) := by decide +kernel
theorem dX5_pending_86 : decode cX5_pending 86 = .ok (.aload 4, 2) := by decide +kernel
theorem dX5_pending_88 : decode cX5_pending 88 = .ok (.getfield 155, 3) := by decide +kernel
theorem dX5_pending_91 : decode cX5_pending 91 = .ok (.invokevirtual 210, 3) := by decide +kernel
theorem dX5_pending_94 : decode cX5_pending 94 = .ok (.ladd, 1) := by decide +kernel
theorem dX5_pending_95 : decode cX5_pending 95 = .ok (.lstore_n 1, 1) := by decide +kernel
theorem dX5_pending_96 : decode cX5_pending 96 = .ok (.iinc 3 1, 3) := by decide +kernel
theorem dX5_pending_99 : decode cX5_pending 99 = .ok (.goto (-58), 3) := by decide +kernel
theorem dX5_pending_102 : decode cX5_pending 102 = .ok (.lload_n 1, 1) := by decide +kernel
theorem dX5_pending_103 : decode cX5_pending 103 = .ok (.lreturn, 1) := by decide +kernel
theorem dX5_purses_0 : decode cX5_purses 0 = .ok (.aload_n 0, 1) := by decide +kernel
theorem dX5_purses_1 : decode cX5_purses 1 = .ok (.getfield 21, 3) := by decide +kernel
theorem dX5_purses_4 : decode cX5_purses 4 = .ok (.invokevirtual 43, 3) := by decide +kernel
theorem dX5_purses_7 : decode cX5_purses 7 = .ok (.ireturn, 1) := by decide +kernel
theorem dX5_purseAt_0 : decode cX5_purseAt 0 = .ok (.iload_n 1, 1) := by decide +kernel
theorem dX5_purseAt_1 : decode cX5_purseAt 1 = .ok (.ifCond .lt 14, 3) := by decide +kernel
theorem dX5_purseAt_4 : decode cX5_purseAt 4 = .ok (.iload_n 1, 1) := by decide +kernel
theorem dX5_purseAt_5 : decode cX5_purseAt 5 = .ok (.aload_n 0, 1) := by decide +kernel
theorem dX5_purseAt_6 : decode cX5_purseAt 6 = .ok (.getfield 21, 3) := by decide +kernel
theorem dX5_purseAt_9 : decode cX5_purseAt 9 = .ok (.invokevirtual 43, 3) := by decide +kernel
theorem dX5_purseAt_12 : decode cX5_purseAt 12 = .ok (.if_icmp .lt 13, 3) := by decide +kernel
theorem dX5_purseAt_15 : decode cX5_purseAt 15 = .ok (.new 194, 3) := by decide +kernel
theorem dX5_purseAt_18 : decode cX5_purseAt 18 = .ok (.dup, 1) := by decide +kernel
theorem dX5_purseAt_19 : decode cX5_purseAt 19 = .ok (.ldc 214, 2) := by decide +kernel
theorem dX5_purseAt_21 : decode cX5_purseAt 21 = .ok (.invokespecial 198, 3) := by decide +kernel
theorem dX5_purseAt_24 : decode cX5_purseAt 24 = .ok (.athrow, 1) := by decide +kernel
theorem dX5_purseAt_25 : decode cX5_purseAt 25 = .ok (.aload_n 0, 1) := by decide +kernel
theorem dX5_purseAt_26 : decode cX5_purseAt 26 = .ok (.getfield 21, 3) := by decide +kernel
theorem dX5_purseAt_29 : decode cX5_purseAt 29 = .ok (.iload_n 1, 1) := by decide +kernel
theorem dX5_purseAt_30 : decode cX5_purseAt 30 = .ok (.invokevirtual 137, 3) := by decide +kernel
theorem dX5_purseAt_33 : decode cX5_purseAt 33 = .ok (.checkcast 52, 3) := by decide +kernel
theorem dX5_purseAt_36 : decode cX5_purseAt 36 = .ok (.areturn, 1) := by decide +kernel
theorem dX5_messageAt_0 : decode cX5_messageAt 0 = .ok (.iload_n 1, 1) := by decide +kernel
theorem dX5_messageAt_1 : decode cX5_messageAt 1 = .ok (.ifCond .lt 14, 3) := by decide +kernel
theorem dX5_messageAt_4 : decode cX5_messageAt 4 = .ok (.iload_n 1, 1) := by decide +kernel
theorem dX5_messageAt_5 : decode cX5_messageAt 5 = .ok (.aload_n 0, 1) := by decide +kernel
theorem dX5_messageAt_6 : decode cX5_messageAt 6 = .ok (.getfield 25, 3) := by decide +kernel
theorem dX5_messageAt_9 : decode cX5_messageAt 9 = .ok (.invokevirtual 43, 3) := by decide +kernel
theorem dX5_messageAt_12 : decode cX5_messageAt 12 = .ok (.if_icmp .lt 13, 3) := by decide +kernel
theorem dX5_messageAt_15 : decode cX5_messageAt 15 = .ok (.new 194, 3) := by decide +kernel
theorem dX5_messageAt_18 : decode cX5_messageAt 18 = .ok (.dup, 1) := by decide +kernel
theorem dX5_messageAt_19 : decode cX5_messageAt 19 = .ok (.ldc 216, 2) := by decide +kernel
theorem dX5_messageAt_21 : decode cX5_messageAt 21 = .ok (.invokespecial 198, 3) := by decide +kernel
theorem dX5_messageAt_24 : decode cX5_messageAt 24 = .ok (.athrow, 1) := by decide +kernel
theorem dX5_messageAt_25 : decode cX5_messageAt 25 = .ok (.aload_n 0, 1) := by decide +kernel
theorem dX5_messageAt_26 : decode cX5_messageAt 26 = .ok (.getfield 25, 3) := by decide +kernel
theorem dX5_messageAt_29 : decode cX5_messageAt 29 = .ok (.iload_n 1, 1) := by decide +kernel
theorem dX5_messageAt_30 : decode cX5_messageAt 30 = .ok (.invokevirtual 137, 3) := by decide +kernel
theorem dX5_messageAt_33 : decode cX5_messageAt 33 = .ok (.checkcast 91, 3) := by decide +kernel
theorem dX5_messageAt_36 : decode cX5_messageAt 36 = .ok (.areturn, 1) := by decide +kernel
theorem dX5_entryAt_0 : decode cX5_entryAt 0 = .ok (.iload_n 1, 1) := by decide +kernel
theorem dX5_entryAt_1 : decode cX5_entryAt 1 = .ok (.ifCond .lt 14, 3) := by decide +kernel
theorem dX5_entryAt_4 : decode cX5_entryAt 4 = .ok (.iload_n 1, 1) := by decide +kernel
theorem dX5_entryAt_5 : decode cX5_entryAt 5 = .ok (.aload_n 0, 1) := by decide +kernel
theorem dX5_entryAt_6 : decode cX5_entryAt 6 = .ok (.getfield 31, 3) := by decide +kernel
theorem dX5_entryAt_9 : decode cX5_entryAt 9 = .ok (.invokevirtual 150, 3) := by decide +kernel
theorem dX5_entryAt_12 : decode cX5_entryAt 12 = .ok (.if_icmp .lt 13, 3) := by decide +kernel
theorem dX5_entryAt_15 : decode cX5_entryAt 15 = .ok (.new 194, 3) := by decide +kernel
theorem dX5_entryAt_18 : decode cX5_entryAt 18 = .ok (.dup, 1) := by decide +kernel
theorem dX5_entryAt_19 : decode cX5_entryAt 19 = .ok (.ldc 218, 2) := by decide +kernel
theorem dX5_entryAt_21 : decode cX5_entryAt 21 = .ok (.invokespecial 198, 3) := by decide +kernel
theorem dX5_entryAt_24 : decode cX5_entryAt 24 = .ok (.athrow, 1) := by decide +kernel
theorem dX5_entryAt_25 : decode cX5_entryAt 25 = .ok (.aload_n 0, 1) := by decide +kernel
theorem dX5_entryAt_26 : decode cX5_entryAt 26 = .ok (.getfield 31, 3) := by decide +kernel
theorem dX5_entryAt_29 : decode cX5_entryAt 29 = .ok (.getfield 207, 3) := by decide +kernel
theorem dX5_entryAt_32 : decode cX5_entryAt 32 = .ok (.iload_n 1, 1) := by decide +kernel
theorem dX5_entryAt_33 : decode cX5_entryAt 33 = .ok (.invokevirtual 137, 3) := by decide +kernel
theorem dX5_entryAt_36 : decode cX5_entryAt 36 = .ok (.checkcast 156, 3) := by decide +kernel
theorem dX5_entryAt_39 : decode cX5_entryAt 39 = .ok (.areturn, 1) := by decide +kernel
theorem dX5_partOf_0 : decode cX5_partOf 0 = .ok (.iload_n 1, 1) := by decide +kernel
theorem dX5_partOf_1 : decode cX5_partOf 1 = .ok (.tableswitch 60 0 4 #[35, 40, 45, 50, 55], 35) := by decide +kernel
theorem dX5_partOf_36 : decode cX5_partOf 36 = .ok (.aload_n 0, 1) := by decide +kernel
theorem dX5_partOf_37 : decode cX5_partOf 37 = .ok (.getfield 158, 3) := by decide +kernel
theorem dX5_partOf_40 : decode cX5_partOf 40 = .ok (.ireturn, 1) := by decide +kernel
theorem dX5_partOf_41 : decode cX5_partOf 41 = .ok (.aload_n 0, 1) := by decide +kernel
theorem dX5_partOf_42 : decode cX5_partOf 42 = .ok (.getfield 220, 3) := by decide +kernel
theorem dX5_partOf_45 : decode cX5_partOf 45 = .ok (.ireturn, 1) := by decide +kernel
theorem dX5_partOf_46 : decode cX5_partOf 46 = .ok (.aload_n 0, 1) := by decide +kernel
theorem dX5_partOf_47 : decode cX5_partOf 47 = .ok (.getfield 164, 3) := by decide +kernel
theorem dX5_partOf_50 : decode cX5_partOf 50 = .ok (.ireturn, 1) := by decide +kernel
theorem dX5_partOf_51 : decode cX5_partOf 51 = .ok (.aload_n 0, 1) := by decide +kernel
theorem dX5_partOf_52 : decode cX5_partOf 52 = .ok (.getfield 223, 3) := by decide +kernel
theorem dX5_partOf_55 : decode cX5_partOf 55 = .ok (.ireturn, 1) := by decide +kernel
theorem dX5_partOf_56 : decode cX5_partOf 56 = .ok (.aload_n 0, 1) := by decide +kernel
theorem dX5_partOf_57 : decode cX5_partOf 57 = .ok (.getfield 182, 3) := by decide +kernel
theorem dX5_partOf_60 : decode cX5_partOf 60 = .ok (.ireturn, 1) := by decide +kernel
theorem dX5_partOf_61 : decode cX5_partOf 61 = .ok (.new 36, 3) := by decide +kernel
theorem dX5_partOf_64 : decode cX5_partOf 64 = .ok (.dup, 1) := by decide +kernel
theorem dX5_partOf_65 : decode cX5_partOf 65 = .ok (.ldc 226, 2) := by decide +kernel
theorem dX5_partOf_67 : decode cX5_partOf 67 = .ok (.invokespecial 40, 3) := by decide +kernel
theorem dX5_partOf_70 : decode cX5_partOf 70 = .ok (.athrow, 1) := by decide +kernel
theorem dX5_needRoomFor_0 : decode cX5_needRoomFor 0 = .ok (.aload_n 0, 1) := by decide +kernel
theorem dX5_needRoomFor_1 : decode cX5_needRoomFor 1 = .ok (.getfield 25, 3) := by decide +kernel
theorem dX5_needRoomFor_4 : decode cX5_needRoomFor 4 = .ok (.invokevirtual 43, 3) := by decide +kernel
theorem dX5_needRoomFor_7 : decode cX5_needRoomFor 7 = .ok (.iload_n 1, 1) := by decide +kernel
theorem dX5_needRoomFor_8 : decode cX5_needRoomFor 8 = .ok (.iadd, 1) := by decide +kernel
theorem dX5_needRoomFor_9 : decode cX5_needRoomFor 9 = .ok (.sipush 800, 3) := by decide +kernel
theorem dX5_needRoomFor_12 : decode cX5_needRoomFor 12 = .ok (.if_icmp .le 13, 3) := by decide +kernel
theorem dX5_needRoomFor_15 : decode cX5_needRoomFor 15 = .ok (.new 47, 3) := by decide +kernel
theorem dX5_needRoomFor_18 : decode cX5_needRoomFor 18 = .ok (.dup, 1) := by decide +kernel
theorem dX5_needRoomFor_19 : decode cX5_needRoomFor 19 = .ok (.ldc 228, 2) := by decide +kernel
theorem dX5_needRoomFor_21 : decode cX5_needRoomFor 21 = .ok (.invokespecial 51, 3) := by decide +kernel
theorem dX5_needRoomFor_24 : decode cX5_needRoomFor 24 = .ok (.athrow, 1) := by decide +kernel
theorem dX5_needRoomFor_25 : decode cX5_needRoomFor 25 = .ok (.return_, 1) := by decide +kernel
theorem dX5_send_0 : decode cX5_send 0 = .ok (.aload_n 0, 1) := by decide +kernel
theorem dX5_send_1 : decode cX5_send 1 = .ok (.getfield 25, 3) := by decide +kernel
theorem dX5_send_4 : decode cX5_send 4 = .ok (.invokevirtual 43, 3) := by decide +kernel
theorem dX5_send_7 : decode cX5_send 7 = .ok (.istore 4, 2) := by decide +kernel
theorem dX5_send_9 : decode cX5_send 9 = .ok (.aload_n 0, 1) := by decide +kernel
theorem dX5_send_10 : decode cX5_send 10 = .ok (.getfield 25, 3) := by decide +kernel
theorem dX5_send_13 : decode cX5_send 13 = .ok (.new 91, 3) := by decide +kernel
theorem dX5_send_16 : decode cX5_send 16 = .ok (.dup, 1) := by decide +kernel
theorem dX5_send_17 : decode cX5_send 17 = .ok (.iload_n 1, 1) := by decide +kernel
theorem dX5_send_18 : decode cX5_send 18 = .ok (.iload_n 2, 1) := by decide +kernel
theorem dX5_send_19 : decode cX5_send 19 = .ok (.aload_n 3, 1) := by decide +kernel
theorem dX5_send_20 : decode cX5_send 20 = .ok (.iconst (-1), 1) := by decide +kernel
theorem dX5_send_21 : decode cX5_send 21 = .ok (.iconst 0, 1) := by decide +kernel
theorem dX5_send_22 : decode cX5_send 22 = .ok (.invokespecial 141, 3) := by decide +kernel
theorem dX5_send_25 : decode cX5_send 25 = .ok (.invokevirtual 57, 3) := by decide +kernel
theorem dX5_send_28 : decode cX5_send 28 = .ok (.pop, 1) := by decide +kernel
theorem dX5_send_29 : decode cX5_send 29 = .ok (.iload 4, 2) := by decide +kernel
theorem dX5_send_31 : decode cX5_send 31 = .ok (.ireturn, 1) := by decide +kernel
theorem dX5_mayBeAnswered_0 : decode cX5_mayBeAnswered 0 = .ok (.aload_n 1, 1) := by decide +kernel
theorem dX5_mayBeAnswered_1 : decode cX5_mayBeAnswered 1 = .ok (.getfield 90, 3) := by decide +kernel
theorem dX5_mayBeAnswered_4 : decode cX5_mayBeAnswered 4 = .ok (.tableswitch 64 1 3 #[28, 30, 47], 28) := by decide +kernel
theorem dX5_mayBeAnswered_32 : decode cX5_mayBeAnswered 32 = .ok (.iconst 1, 1) := by decide +kernel
theorem dX5_mayBeAnswered_33 : decode cX5_mayBeAnswered 33 = .ok (.ireturn, 1) := by decide +kernel
theorem dX5_mayBeAnswered_34 : decode cX5_mayBeAnswered 34 = .ok (.aload_n 0, 1) := by decide +kernel
theorem dX5_mayBeAnswered_35 : decode cX5_mayBeAnswered 35 = .ok (.aload_n 1, 1) := by decide +kernel
theorem dX5_mayBeAnswered_36 : decode cX5_mayBeAnswered 36 = .ok (.getfield 199, 3) := by decide +kernel
theorem dX5_mayBeAnswered_39 : decode cX5_mayBeAnswered 39 = .ok (.invokevirtual 61, 3) := by decide +kernel
theorem dX5_mayBeAnswered_42 : decode cX5_mayBeAnswered 42 = .ok (.iconst 1, 1) := by decide +kernel
theorem dX5_mayBeAnswered_43 : decode cX5_mayBeAnswered 43 = .ok (.aload_n 1, 1) := by decide +kernel
theorem dX5_mayBeAnswered_44 : decode cX5_mayBeAnswered 44 = .ok (.getfield 113, 3) := by decide +kernel
theorem dX5_mayBeAnswered_47 : decode cX5_mayBeAnswered 47 = .ok (.invokevirtual 230, 3) := by decide +kernel
theorem dX5_mayBeAnswered_50 : decode cX5_mayBeAnswered 50 = .ok (.ireturn, 1) := by decide +kernel
theorem dX5_mayBeAnswered_51 : decode cX5_mayBeAnswered 51 = .ok (.aload_n 0, 1) := by decide +kernel
theorem dX5_mayBeAnswered_52 : decode cX5_mayBeAnswered 52 = .ok (.aload_n 1, 1) := by decide +kernel
theorem dX5_mayBeAnswered_53 : decode cX5_mayBeAnswered 53 = .ok (.getfield 199, 3) := by decide +kernel
theorem dX5_mayBeAnswered_56 : decode cX5_mayBeAnswered 56 = .ok (.invokevirtual 61, 3) := by decide +kernel
theorem dX5_mayBeAnswered_59 : decode cX5_mayBeAnswered 59 = .ok (.iconst 2, 1) := by decide +kernel
theorem dX5_mayBeAnswered_60 : decode cX5_mayBeAnswered 60 = .ok (.aload_n 1, 1) := by decide +kernel
theorem dX5_mayBeAnswered_61 : decode cX5_mayBeAnswered 61 = .ok (.getfield 113, 3) := by decide +kernel
theorem dX5_mayBeAnswered_64 : decode cX5_mayBeAnswered 64 = .ok (.invokevirtual 230, 3) := by decide +kernel
theorem dX5_mayBeAnswered_67 : decode cX5_mayBeAnswered 67 = .ok (.ireturn, 1) := by decide +kernel
theorem dX5_mayBeAnswered_68 : decode cX5_mayBeAnswered 68 = .ok (.iconst 0, 1) := by decide +kernel
theorem dX5_mayBeAnswered_69 : decode cX5_mayBeAnswered 69 = .ok (.ireturn, 1) := by decide +kernel
theorem dX5_takePay_0 : decode cX5_takePay 0 = .ok (.aload_n 0, 1) := by decide +kernel
theorem dX5_takePay_1 : decode cX5_takePay 1 = .ok (.aload_n 1, 1) := by decide +kernel
theorem dX5_takePay_2 : decode cX5_takePay 2 = .ok (.getfield 199, 3) := by decide +kernel
theorem dX5_takePay_5 : decode cX5_takePay 5 = .ok (.invokevirtual 61, 3) := by decide +kernel
theorem dX5_takePay_8 : decode cX5_takePay 8 = .ok (.astore_n 2, 1) := by decide +kernel
theorem dX5_takePay_9 : decode cX5_takePay 9 = .ok (.aload_n 1, 1) := by decide +kernel
theorem dX5_takePay_10 : decode cX5_takePay 10 = .ok (.getfield 113, 3) := by decide +kernel
theorem dX5_takePay_13 : decode cX5_takePay 13 = .ok (.astore_n 3, 1) := by decide +kernel
theorem dX5_takePay_14 : decode cX5_takePay 14 = .ok (.aload_n 2, 1) := by decide +kernel
theorem dX5_takePay_15 : decode cX5_takePay 15 = .ok (.invokevirtual 126, 3) := by decide +kernel
theorem dX5_takePay_18 : decode cX5_takePay 18 = .ok (.aload_n 2, 1) := by decide +kernel
theorem dX5_takePay_19 : decode cX5_takePay 19 = .ok (.invokevirtual 233, 3) := by decide +kernel
theorem dX5_takePay_22 : decode cX5_takePay 22 = .ok (.ifCond .ne 14, 3) := by decide +kernel
theorem dX5_takePay_25 : decode cX5_takePay 25 = .ok (.aload_n 2, 1) := by decide +kernel
theorem dX5_takePay_26 : decode cX5_takePay 26 = .ok (.getfield 179, 3) := by decide +kernel
theorem dX5_takePay_29 : decode cX5_takePay 29 = .ok (.aload_n 3, 1) := by decide +kernel
theorem dX5_takePay_30 : decode cX5_takePay 30 = .ok (.getfield 182, 3) := by decide +kernel
theorem dX5_takePay_33 : decode cX5_takePay 33 = .ok (.if_icmp .ge 5, 3) := by decide +kernel
theorem dX5_takePay_36 : decode cX5_takePay 36 = .ok (.iconst 0, 1) := by decide +kernel
theorem dX5_takePay_37 : decode cX5_takePay 37 = .ok (.ireturn, 1) := by decide +kernel
theorem dX5_takePay_38 : decode cX5_takePay 38 = .ok (.aload_n 2, 1) := by decide +kernel
theorem dX5_takePay_39 : decode cX5_takePay 39 = .ok (.iconst 1, 1) := by decide +kernel
theorem dX5_takePay_40 : decode cX5_takePay 40 = .ok (.new 7, 3) := by decide +kernel
theorem dX5_takePay_43 : decode cX5_takePay 43 = .ok (.dup, 1) := by decide +kernel
theorem dX5_takePay_44 : decode cX5_takePay 44 = .ok (.aload_n 2, 1) := by decide +kernel
theorem dX5_takePay_45 : decode cX5_takePay 45 = .ok (.getfield 237, 3) := by decide +kernel
theorem dX5_takePay_48 : decode cX5_takePay 48 = .ok (.aload_n 2, 1) := by decide +kernel
theorem dX5_takePay_49 : decode cX5_takePay 49 = .ok (.getfield 74, 3) := by decide +kernel
theorem dX5_takePay_52 : decode cX5_takePay 52 = .ok (.aload_n 3, 1) := by decide +kernel
theorem dX5_takePay_53 : decode cX5_takePay 53 = .ok (.getfield 164, 3) := by decide +kernel
theorem dX5_takePay_56 : decode cX5_takePay 56 = .ok (.aload_n 3, 1) := by decide +kernel
theorem dX5_takePay_57 : decode cX5_takePay 57 = .ok (.getfield 223, 3) := by decide +kernel
theorem dX5_takePay_60 : decode cX5_takePay 60 = .ok (.aload_n 3, 1) := by decide +kernel
theorem dX5_takePay_61 : decode cX5_takePay 61 = .ok (.getfield 182, 3) := by decide +kernel
theorem dX5_takePay_64 : decode cX5_takePay 64 = .ok (.invokespecial 11, 3) := by decide +kernel
theorem dX5_takePay_67 : decode cX5_takePay 67 = .ok (.invokevirtual 240, 3) := by decide +kernel
theorem dX5_takePay_70 : decode cX5_takePay 70 = .ok (.iconst 1, 1) := by decide +kernel
theorem dX5_takePay_71 : decode cX5_takePay 71 = .ok (.ireturn, 1) := by decide +kernel
theorem dX5_takeEarn_0 : decode cX5_takeEarn 0 = .ok (.aload_n 0, 1) := by decide +kernel
theorem dX5_takeEarn_1 : decode cX5_takeEarn 1 = .ok (.aload_n 1, 1) := by decide +kernel
theorem dX5_takeEarn_2 : decode cX5_takeEarn 2 = .ok (.getfield 199, 3) := by decide +kernel
theorem dX5_takeEarn_5 : decode cX5_takeEarn 5 = .ok (.invokevirtual 61, 3) := by decide +kernel
theorem dX5_takeEarn_8 : decode cX5_takeEarn 8 = .ok (.astore_n 2, 1) := by decide +kernel
theorem dX5_takeEarn_9 : decode cX5_takeEarn 9 = .ok (.aload_n 1, 1) := by decide +kernel
theorem dX5_takeEarn_10 : decode cX5_takeEarn 10 = .ok (.getfield 113, 3) := by decide +kernel
theorem dX5_takeEarn_13 : decode cX5_takeEarn 13 = .ok (.astore_n 3, 1) := by decide +kernel
theorem dX5_takeEarn_14 : decode cX5_takeEarn 14 = .ok (.aload_n 2, 1) := by decide +kernel
theorem dX5_takeEarn_15 : decode cX5_takeEarn 15 = .ok (.invokevirtual 126, 3) := by decide +kernel
theorem dX5_takeEarn_18 : decode cX5_takeEarn 18 = .ok (.aload_n 2, 1) := by decide +kernel
theorem dX5_takeEarn_19 : decode cX5_takeEarn 19 = .ok (.invokevirtual 233, 3) := by decide +kernel
theorem dX5_takeEarn_22 : decode cX5_takeEarn 22 = .ok (.ifCond .eq 5, 3) := by decide +kernel
theorem dX5_takeEarn_25 : decode cX5_takeEarn 25 = .ok (.iconst 0, 1) := by decide +kernel
theorem dX5_takeEarn_26 : decode cX5_takeEarn 26 = .ok (.ireturn, 1) := by decide +kernel
theorem dX5_takeEarn_27 : decode cX5_takeEarn 27 = .ok (.aload_n 2, 1) := by decide +kernel
theorem dX5_takeEarn_28 : decode cX5_takeEarn 28 = .ok (.iconst 2, 1) := by decide +kernel
theorem dX5_takeEarn_29 : decode cX5_takeEarn 29 = .ok (.new 7, 3) := by decide +kernel
theorem dX5_takeEarn_32 : decode cX5_takeEarn 32 = .ok (.dup, 1) := by decide +kernel
theorem dX5_takeEarn_33 : decode cX5_takeEarn 33 = .ok (.aload_n 3, 1) := by decide +kernel
theorem dX5_takeEarn_34 : decode cX5_takeEarn 34 = .ok (.getfield 158, 3) := by decide +kernel
theorem dX5_takeEarn_37 : decode cX5_takeEarn 37 = .ok (.aload_n 3, 1) := by decide +kernel
theorem dX5_takeEarn_38 : decode cX5_takeEarn 38 = .ok (.getfield 220, 3) := by decide +kernel
theorem dX5_takeEarn_41 : decode cX5_takeEarn 41 = .ok (.aload_n 2, 1) := by decide +kernel
theorem dX5_takeEarn_42 : decode cX5_takeEarn 42 = .ok (.getfield 237, 3) := by decide +kernel
theorem dX5_takeEarn_45 : decode cX5_takeEarn 45 = .ok (.aload_n 2, 1) := by decide +kernel
theorem dX5_takeEarn_46 : decode cX5_takeEarn 46 = .ok (.getfield 74, 3) := by decide +kernel
theorem dX5_takeEarn_49 : decode cX5_takeEarn 49 = .ok (.aload_n 3, 1) := by decide +kernel
theorem dX5_takeEarn_50 : decode cX5_takeEarn 50 = .ok (.getfield 182, 3) := by decide +kernel
theorem dX5_takeEarn_53 : decode cX5_takeEarn 53 = .ok (.invokespecial 11, 3) := by decide +kernel
theorem dX5_takeEarn_56 : decode cX5_takeEarn 56 = .ok (.invokevirtual 240, 3) := by decide +kernel
theorem dX5_takeEarn_59 : decode cX5_takeEarn 59 = .ok (.aload_n 0, 1) := by decide +kernel
theorem dX5_takeEarn_60 : decode cX5_takeEarn 60 = .ok (.iconst 2, 1) := by decide +kernel
theorem dX5_takeEarn_61 : decode cX5_takeEarn 61 = .ok (.aload_n 3, 1) := by decide +kernel
theorem dX5_takeEarn_62 : decode cX5_takeEarn 62 = .ok (.getfield 158, 3) := by decide +kernel
theorem dX5_takeEarn_65 : decode cX5_takeEarn 65 = .ok (.aload_n 2, 1) := by decide +kernel
theorem dX5_takeEarn_66 : decode cX5_takeEarn 66 = .ok (.getfield 187, 3) := by decide +kernel
theorem dX5_takeEarn_69 : decode cX5_takeEarn 69 = .ok (.invokevirtual 78, 3) := by decide +kernel
theorem dX5_takeEarn_72 : decode cX5_takeEarn 72 = .ok (.pop, 1) := by decide +kernel
theorem dX5_takeEarn_73 : decode cX5_takeEarn 73 = .ok (.iconst 1, 1) := by decide +kernel
theorem dX5_takeEarn_74 : decode cX5_takeEarn 74 = .ok (.ireturn, 1) := by decide +kernel
theorem dX5_takeAsk_0 : decode cX5_takeAsk 0 = .ok (.aload_n 0, 1) := by decide +kernel
theorem dX5_takeAsk_1 : decode cX5_takeAsk 1 = .ok (.aload_n 1, 1) := by decide +kernel
theorem dX5_takeAsk_2 : decode cX5_takeAsk 2 = .ok (.getfield 199, 3) := by decide +kernel
theorem dX5_takeAsk_5 : decode cX5_takeAsk 5 = .ok (.invokevirtual 61, 3) := by decide +kernel
theorem dX5_takeAsk_8 : decode cX5_takeAsk 8 = .ok (.astore_n 2, 1) := by decide +kernel
theorem dX5_takeAsk_9 : decode cX5_takeAsk 9 = .ok (.aload_n 2, 1) := by decide +kernel
theorem dX5_takeAsk_10 : decode cX5_takeAsk 10 = .ok (.iconst 1, 1) := by decide +kernel
theorem dX5_takeAsk_11 : decode cX5_takeAsk 11 = .ok (.aload_n 1, 1) := by decide +kernel
theorem dX5_takeAsk_12 : decode cX5_takeAsk 12 = .ok (.getfield 113, 3) := by decide +kernel
theorem dX5_takeAsk_15 : decode cX5_takeAsk 15 = .ok (.invokevirtual 230, 3) := by decide +kernel
theorem dX5_takeAsk_18 : decode cX5_takeAsk 18 = .ok (.ifCond .ne 5, 3) := by decide +kernel
theorem dX5_takeAsk_21 : decode cX5_takeAsk 21 = .ok (.iconst 0, 1) := by decide +kernel
theorem dX5_takeAsk_22 : decode cX5_takeAsk 22 = .ok (.ireturn, 1) := by decide +kernel
theorem dX5_takeAsk_23 : decode cX5_takeAsk 23 = .ok (.aload_n 2, 1) := by decide +kernel
theorem dX5_takeAsk_24 : decode cX5_takeAsk 24 = .ok (.dup, 1) := by decide +kernel
theorem dX5_takeAsk_25 : decode cX5_takeAsk 25 = .ok (.getfield 179, 3) := by decide +kernel
theorem dX5_takeAsk_28 : decode cX5_takeAsk 28 = .ok (.aload_n 1, 1) := by decide +kernel
theorem dX5_takeAsk_29 : decode cX5_takeAsk 29 = .ok (.getfield 113, 3) := by decide +kernel
theorem dX5_takeAsk_32 : decode cX5_takeAsk 32 = .ok (.getfield 182, 3) := by decide +kernel
theorem dX5_takeAsk_35 : decode cX5_takeAsk 35 = .ok (.isub, 1) := by decide +kernel
theorem dX5_takeAsk_36 : decode cX5_takeAsk 36 = .ok (.putfield 179, 3) := by decide +kernel
theorem dX5_takeAsk_39 : decode cX5_takeAsk 39 = .ok (.aload_n 2, 1) := by decide +kernel
theorem dX5_takeAsk_40 : decode cX5_takeAsk 40 = .ok (.iconst 3, 1) := by decide +kernel
theorem dX5_takeAsk_41 : decode cX5_takeAsk 41 = .ok (.putfield 123, 3) := by decide +kernel
theorem dX5_takeAsk_44 : decode cX5_takeAsk 44 = .ok (.aload_n 0, 1) := by decide +kernel
theorem dX5_takeAsk_45 : decode cX5_takeAsk 45 = .ok (.iconst 3, 1) := by decide +kernel
theorem dX5_takeAsk_46 : decode cX5_takeAsk 46 = .ok (.aload_n 1, 1) := by decide +kernel
theorem dX5_takeAsk_47 : decode cX5_takeAsk 47 = .ok (.getfield 113, 3) := by decide +kernel
theorem dX5_takeAsk_50 : decode cX5_takeAsk 50 = .ok (.getfield 164, 3) := by decide +kernel
theorem dX5_takeAsk_53 : decode cX5_takeAsk 53 = .ok (.aload_n 1, 1) := by decide +kernel
theorem dX5_takeAsk_54 : decode cX5_takeAsk 54 = .ok (.getfield 113, 3) := by decide +kernel
theorem dX5_takeAsk_57 : decode cX5_takeAsk 57 = .ok (.invokevirtual 78, 3) := by decide +kernel
theorem dX5_takeAsk_60 : decode cX5_takeAsk 60 = .ok (.pop, 1) := by decide +kernel
theorem dX5_takeAsk_61 : decode cX5_takeAsk 61 = .ok (.iconst 1, 1) := by decide +kernel
theorem dX5_takeAsk_62 : decode cX5_takeAsk 62 = .ok (.ireturn, 1) := by decide +kernel
theorem dX5_takeValue_0 : decode cX5_takeValue 0 = .ok (.aload_n 0, 1) := by decide +kernel
theorem dX5_takeValue_1 : decode cX5_takeValue 1 = .ok (.aload_n 1, 1) := by decide +kernel
theorem dX5_takeValue_2 : decode cX5_takeValue 2 = .ok (.getfield 199, 3) := by decide +kernel
theorem dX5_takeValue_5 : decode cX5_takeValue 5 = .ok (.invokevirtual 61, 3) := by decide +kernel
theorem dX5_takeValue_8 : decode cX5_takeValue 8 = .ok (.astore_n 2, 1) := by decide +kernel
theorem dX5_takeValue_9 : decode cX5_takeValue 9 = .ok (.aload_n 2, 1) := by decide +kernel
theorem dX5_takeValue_10 : decode cX5_takeValue 10 = .ok (.iconst 2, 1) := by decide +kernel
theorem dX5_takeValue_11 : decode cX5_takeValue 11 = .ok (.aload_n 1, 1) := by decide +kernel
theorem dX5_takeValue_12 : decode cX5_takeValue 12 = .ok (.getfield 113, 3) := by decide +kernel
theorem dX5_takeValue_15 : decode cX5_takeValue 15 = .ok (.invokevirtual 230, 3) := by decide +kernel
theorem dX5_takeValue_18 : decode cX5_takeValue 18 = .ok (.ifCond .ne 5, 3) := by decide +kernel
theorem dX5_takeValue_21 : decode cX5_takeValue 21 = .ok (.iconst 0, 1) := by decide +kernel
theorem dX5_takeValue_22 : decode cX5_takeValue 22 = .ok (.ireturn, 1) := by decide +kernel
theorem dX5_takeValue_23 : decode cX5_takeValue 23 = .ok (.aload_n 2, 1) := by decide +kernel
theorem dX5_takeValue_24 : decode cX5_takeValue 24 = .ok (.dup, 1) := by decide +kernel
theorem dX5_takeValue_25 : decode cX5_takeValue 25 = .ok (.getfield 179, 3) := by decide +kernel
theorem dX5_takeValue_28 : decode cX5_takeValue 28 = .ok (.aload_n 1, 1) := by decide +kernel
theorem dX5_takeValue_29 : decode cX5_takeValue 29 = .ok (.getfield 113, 3) := by decide +kernel
theorem dX5_takeValue_32 : decode cX5_takeValue 32 = .ok (.getfield 182, 3) := by decide +kernel
theorem dX5_takeValue_35 : decode cX5_takeValue 35 = .ok (.iadd, 1) := by decide +kernel
theorem dX5_takeValue_36 : decode cX5_takeValue 36 = .ok (.putfield 179, 3) := by decide +kernel
theorem dX5_takeValue_39 : decode cX5_takeValue 39 = .ok (.aload_n 2, 1) := by decide +kernel
theorem dX5_takeValue_40 : decode cX5_takeValue 40 = .ok (.invokevirtual 244, 3) := by decide +kernel
theorem dX5_takeValue_43 : decode cX5_takeValue 43 = .ok (.aload_n 0, 1) := by decide +kernel
theorem dX5_takeValue_44 : decode cX5_takeValue 44 = .ok (.iconst 4, 1) := by decide +kernel
theorem dX5_takeValue_45 : decode cX5_takeValue 45 = .ok (.aload_n 1, 1) := by decide +kernel
theorem dX5_takeValue_46 : decode cX5_takeValue 46 = .ok (.getfield 113, 3) := by decide +kernel
theorem dX5_takeValue_49 : decode cX5_takeValue 49 = .ok (.getfield 158, 3) := by decide +kernel
theorem dX5_takeValue_52 : decode cX5_takeValue 52 = .ok (.aload_n 1, 1) := by decide +kernel
theorem dX5_takeValue_53 : decode cX5_takeValue 53 = .ok (.getfield 113, 3) := by decide +kernel
theorem dX5_takeValue_56 : decode cX5_takeValue 56 = .ok (.invokevirtual 78, 3) := by decide +kernel
theorem dX5_takeValue_59 : decode cX5_takeValue 59 = .ok (.pop, 1) := by decide +kernel
theorem dX5_takeValue_60 : decode cX5_takeValue 60 = .ok (.iconst 1, 1) := by decide +kernel
theorem dX5_takeValue_61 : decode cX5_takeValue 61 = .ok (.ireturn, 1) := by decide +kernel
theorem dX5_takeThanks_0 : decode cX5_takeThanks 0 = .ok (.aload_n 0, 1) := by decide +kernel
theorem dX5_takeThanks_1 : decode cX5_takeThanks 1 = .ok (.aload_n 1, 1) := by decide +kernel
theorem dX5_takeThanks_2 : decode cX5_takeThanks 2 = .ok (.getfield 199, 3) := by decide +kernel
theorem dX5_takeThanks_5 : decode cX5_takeThanks 5 = .ok (.invokevirtual 61, 3) := by decide +kernel
theorem dX5_takeThanks_8 : decode cX5_takeThanks 8 = .ok (.astore_n 2, 1) := by decide +kernel
theorem dX5_takeThanks_9 : decode cX5_takeThanks 9 = .ok (.aload_n 2, 1) := by decide +kernel
theorem dX5_takeThanks_10 : decode cX5_takeThanks 10 = .ok (.iconst 3, 1) := by decide +kernel
theorem dX5_takeThanks_11 : decode cX5_takeThanks 11 = .ok (.aload_n 1, 1) := by decide +kernel
theorem dX5_takeThanks_12 : decode cX5_takeThanks 12 = .ok (.getfield 113, 3) := by decide +kernel
theorem dX5_takeThanks_15 : decode cX5_takeThanks 15 = .ok (.invokevirtual 230, 3) := by decide +kernel
theorem dX5_takeThanks_18 : decode cX5_takeThanks 18 = .ok (.ifCond .ne 5, 3) := by decide +kernel
theorem dX5_takeThanks_21 : decode cX5_takeThanks 21 = .ok (.iconst 0, 1) := by decide +kernel
theorem dX5_takeThanks_22 : decode cX5_takeThanks 22 = .ok (.ireturn, 1) := by decide +kernel
theorem dX5_takeThanks_23 : decode cX5_takeThanks 23 = .ok (.aload_n 2, 1) := by decide +kernel
theorem dX5_takeThanks_24 : decode cX5_takeThanks 24 = .ok (.invokevirtual 244, 3) := by decide +kernel
theorem dX5_takeThanks_27 : decode cX5_takeThanks 27 = .ok (.iconst 1, 1) := by decide +kernel
theorem dX5_takeThanks_28 : decode cX5_takeThanks 28 = .ok (.ireturn, 1) := by decide +kernel
theorem dX5_takeClear_0 : decode cX5_takeClear 0 = .ok (.aload_n 0, 1) := by decide +kernel
theorem dX5_takeClear_1 : decode cX5_takeClear 1 = .ok (.aload_n 1, 1) := by decide +kernel
theorem dX5_takeClear_2 : decode cX5_takeClear 2 = .ok (.getfield 199, 3) := by decide +kernel
theorem dX5_takeClear_5 : decode cX5_takeClear 5 = .ok (.invokevirtual 61, 3) := by decide +kernel
theorem dX5_takeClear_8 : decode cX5_takeClear 8 = .ok (.astore_n 2, 1) := by decide +kernel
theorem dX5_takeClear_9 : decode cX5_takeClear 9 = .ok (.aload_n 2, 1) := by decide +kernel
theorem dX5_takeClear_10 : decode cX5_takeClear 10 = .ok (.getfield 123, 3) := by decide +kernel
theorem dX5_takeClear_13 : decode cX5_takeClear 13 = .ok (.ifCond .ne 13, 3) := by decide +kernel
theorem dX5_takeClear_16 : decode cX5_takeClear 16 = .ok (.aload_n 2, 1) := by decide +kernel
theorem dX5_takeClear_17 : decode cX5_takeClear 17 = .ok (.getfield 134, 3) := by decide +kernel
theorem dX5_takeClear_20 : decode cX5_takeClear 20 = .ok (.invokevirtual 247, 3) := by decide +kernel
theorem dX5_takeClear_23 : decode cX5_takeClear 23 = .ok (.ifCond .eq 5, 3) := by decide +kernel
theorem dX5_takeClear_26 : decode cX5_takeClear 26 = .ok (.iconst 0, 1) := by decide +kernel
theorem dX5_takeClear_27 : decode cX5_takeClear 27 = .ok (.ireturn, 1) := by decide +kernel
theorem dX5_takeClear_28 : decode cX5_takeClear 28 = .ok (.iconst 0, 1) := by decide +kernel
theorem dX5_takeClear_29 : decode cX5_takeClear 29 = .ok (.istore_n 3, 1) := by decide +kernel
theorem dX5_takeClear_30 : decode cX5_takeClear 30 = .ok (.iload_n 3, 1) := by decide +kernel
theorem dX5_takeClear_31 : decode cX5_takeClear 31 = .ok (.aload_n 2, 1) := by decide +kernel
theorem dX5_takeClear_32 : decode cX5_takeClear 32 = .ok (.getfield 134, 3) := by decide +kernel
theorem dX5_takeClear_35 : decode cX5_takeClear 35 = .ok (.invokevirtual 43, 3) := by decide +kernel
theorem dX5_takeClear_38 : decode cX5_takeClear 38 = .ok (.if_icmp .ge 40, 3) := by decide +kernel
theorem dX5_takeClear_41 : decode cX5_takeClear 41 = .ok (.aload_n 0, 1) := by decide +kernel
theorem dX5_takeClear_42 : decode cX5_takeClear 42 = .ok (.getfield 31, 3) := by decide +kernel
theorem dX5_takeClear_45 : decode cX5_takeClear 45 = .ok (.aload_n 1, 1) := by decide +kernel
theorem dX5_takeClear_46 : decode cX5_takeClear 46 = .ok (.getfield 250, 3) := by decide +kernel
theorem dX5_takeClear_49 : decode cX5_takeClear 49 = .ok (.aload_n 2, 1) := by decide +kernel
theorem dX5_takeClear_50 : decode cX5_takeClear 50 = .ok (.getfield 237, 3) := by decide +kernel
theorem dX5_takeClear_53 : decode cX5_takeClear 53 = .ok (.aload_n 2, 1) := by decide +kernel
theorem dX5_takeClear_54 : decode cX5_takeClear 54 = .ok (.getfield 134, 3) := by decide +kernel
theorem dX5_takeClear_57 : decode cX5_takeClear 57 = .ok (.iload_n 3, 1) := by decide +kernel
theorem dX5_takeClear_58 : decode cX5_takeClear 58 = .ok (.invokevirtual 137, 3) := by decide +kernel
theorem dX5_takeClear_61 : decode cX5_takeClear 61 = .ok (.checkcast 7, 3) := by decide +kernel
theorem dX5_takeClear_64 : decode cX5_takeClear 64 = .ok (.invokevirtual 253, 3) := by decide +kernel
theorem dX5_takeClear_67 : decode cX5_takeClear 67 = .ok (.ifCond .ne 5, 3) := by decide +kernel
theorem dX5_takeClear_70 : decode cX5_takeClear 70 = .ok (.iconst 0, 1) := by decide +kernel
theorem dX5_takeClear_71 : decode cX5_takeClear 71 = .ok (.ireturn, 1) := by decide +kernel
theorem dX5_takeClear_72 : decode cX5_takeClear 72 = .ok (.iinc 3 1, 3) := by decide +kernel
theorem dX5_takeClear_75 : decode cX5_takeClear 75 = .ok (.goto (-45), 3) := by decide +kernel
theorem dX5_takeClear_78 : decode cX5_takeClear 78 = .ok (.aload_n 2, 1) := by decide +kernel
theorem dX5_takeClear_79 : decode cX5_takeClear 79 = .ok (.getfield 134, 3) := by decide +kernel
theorem dX5_takeClear_82 : decode cX5_takeClear 82 = .ok (.invokevirtual 257, 3) := by decide +kernel
theorem dX5_takeClear_85 : decode cX5_takeClear 85 = .ok (.iconst 1, 1) := by decide +kernel
theorem dX5_takeClear_86 : decode cX5_takeClear 86 = .ok (.ireturn, 1) := by decide +kernel
theorem dX5_pendingOfPayer_0 : decode cX5_pendingOfPayer 0 = .ok (.aload_n 1, 1) := by decide +kernel
theorem dX5_pendingOfPayer_1 : decode cX5_pendingOfPayer 1 = .ok (.getfield 123, 3) := by decide +kernel
theorem dX5_pendingOfPayer_4 : decode cX5_pendingOfPayer 4 = .ok (.iconst 3, 1) := by decide +kernel
theorem dX5_pendingOfPayer_5 : decode cX5_pendingOfPayer 5 = .ok (.if_icmp .ne 14, 3) := by decide +kernel
theorem dX5_pendingOfPayer_8 : decode cX5_pendingOfPayer 8 = .ok (.aload_n 0, 1) := by decide +kernel
theorem dX5_pendingOfPayer_9 : decode cX5_pendingOfPayer 9 = .ok (.aload_n 1, 1) := by decide +kernel
theorem dX5_pendingOfPayer_10 : decode cX5_pendingOfPayer 10 = .ok (.getfield 187, 3) := by decide +kernel
theorem dX5_pendingOfPayer_13 : decode cX5_pendingOfPayer 13 = .ok (.invokevirtual 210, 3) := by decide +kernel
theorem dX5_pendingOfPayer_16 : decode cX5_pendingOfPayer 16 = .ok (.goto 4, 3) := by decide +kernel
theorem dX5_pendingOfPayer_19 : decode cX5_pendingOfPayer 19 = .ok (.lconst 0, 1) := by decide +kernel
theorem dX5_pendingOfPayer_20 : decode cX5_pendingOfPayer 20 = .ok (.lstore_n 2, 1) := by decide +kernel
theorem dX5_pendingOfPayer_21 : decode cX5_pendingOfPayer 21 = .ok (.iconst 0, 1) := by decide +kernel
theorem dX5_pendingOfPayer_22 : decode cX5_pendingOfPayer 22 = .ok (.istore 4, 2) := by decide +kernel
theorem dX5_pendingOfPayer_24 : decode cX5_pendingOfPayer 24 = .ok (.iload 4, 2) := by decide +kernel
theorem dX5_pendingOfPayer_26 : decode cX5_pendingOfPayer 26 = .ok (.aload_n 1, 1) := by decide +kernel
theorem dX5_pendingOfPayer_27 : decode cX5_pendingOfPayer 27 = .ok (.getfield 134, 3) := by decide +kernel
theorem dX5_pendingOfPayer_30 : decode cX5_pendingOfPayer 30 = .ok (.invokevirtual 43, 3) := by decide +kernel
theorem dX5_pendingOfPayer_33 : decode cX5_pendingOfPayer 33 = .ok (.if_icmp .ge 60, 3) := by decide +kernel
theorem dX5_pendingOfPayer_36 : decode cX5_pendingOfPayer 36 = .ok (.aload_n 1, 1) := by decide +kernel
theorem dX5_pendingOfPayer_37 : decode cX5_pendingOfPayer 37 = .ok (.getfield 134, 3) := by decide +kernel
theorem dX5_pendingOfPayer_40 : decode cX5_pendingOfPayer 40 = .ok (.iload 4, 2) := by decide +kernel
theorem dX5_pendingOfPayer_42 : decode cX5_pendingOfPayer 42 = .ok (.invokevirtual 137, 3) := by decide +kernel
theorem dX5_pendingOfPayer_45 : decode cX5_pendingOfPayer 45 = .ok (.checkcast 7, 3) := by decide +kernel
theorem dX5_pendingOfPayer_48 : decode cX5_pendingOfPayer 48 = .ok (.astore 5, 2) := by decide +kernel
theorem dX5_pendingOfPayer_50 : decode cX5_pendingOfPayer 50 = .ok (.aload 5, 2) := by decide +kernel
theorem dX5_pendingOfPayer_52 : decode cX5_pendingOfPayer 52 = .ok (.getfield 158, 3) := by decide +kernel
theorem dX5_pendingOfPayer_55 : decode cX5_pendingOfPayer 55 = .ok (.aload_n 1, 1) := by decide +kernel
theorem dX5_pendingOfPayer_56 : decode cX5_pendingOfPayer 56 = .ok (.getfield 237, 3) := by decide +kernel
theorem dX5_pendingOfPayer_59 : decode cX5_pendingOfPayer 59 = .ok (.if_icmp .ne 28, 3) := by decide +kernel
theorem dX5_pendingOfPayer_62 : decode cX5_pendingOfPayer 62 = .ok (.aload_n 0, 1) := by decide +kernel
theorem dX5_pendingOfPayer_63 : decode cX5_pendingOfPayer 63 = .ok (.getfield 31, 3) := by decide +kernel
theorem dX5_pendingOfPayer_66 : decode cX5_pendingOfPayer 66 = .ok (.aload_n 1, 1) := by decide +kernel
theorem dX5_pendingOfPayer_67 : decode cX5_pendingOfPayer 67 = .ok (.getfield 237, 3) := by decide +kernel
theorem dX5_pendingOfPayer_70 : decode cX5_pendingOfPayer 70 = .ok (.aload 5, 2) := by decide +kernel
theorem dX5_pendingOfPayer_72 : decode cX5_pendingOfPayer 72 = .ok (.invokevirtual 161, 3) := by decide +kernel
theorem dX5_pendingOfPayer_75 : decode cX5_pendingOfPayer 75 = .ok (.ifCond .ne 12, 3) := by decide +kernel
theorem dX5_pendingOfPayer_78 : decode cX5_pendingOfPayer 78 = .ok (.lload_n 2, 1) := by decide +kernel
theorem dX5_pendingOfPayer_79 : decode cX5_pendingOfPayer 79 = .ok (.aload_n 0, 1) := by decide +kernel
theorem dX5_pendingOfPayer_80 : decode cX5_pendingOfPayer 80 = .ok (.aload 5, 2) := by decide +kernel
theorem dX5_pendingOfPayer_82 : decode cX5_pendingOfPayer 82 = .ok (.invokevirtual 210, 3) := by decide +kernel
theorem dX5_pendingOfPayer_85 : decode cX5_pendingOfPayer 85 = .ok (.ladd, 1) := by decide +kernel
theorem dX5_pendingOfPayer_86 : decode cX5_pendingOfPayer 86 = .ok (.lstore_n 2, 1) := by decide +kernel
theorem dX5_pendingOfPayer_87 : decode cX5_pendingOfPayer 87 = .ok (.iinc 4 1, 3) := by decide +kernel
theorem dX5_pendingOfPayer_90 : decode cX5_pendingOfPayer 90 = .ok (.goto (-66), 3) := by decide +kernel
theorem dX5_pendingOfPayer_93 : decode cX5_pendingOfPayer 93 = .ok (.lload_n 2, 1) := by decide +kernel
theorem dX5_pendingOfPayer_94 : decode cX5_pendingOfPayer 94 = .ok (.lreturn, 1) := by decide +kernel
theorem dX5_amountIfPayeeWaits_0 : decode cX5_amountIfPayeeWaits 0 = .ok (.aload_n 0, 1) := by decide +kernel
theorem dX5_amountIfPayeeWaits_1 : decode cX5_amountIfPayeeWaits 1 = .ok (.aload_n 1, 1) := by decide +kernel
theorem dX5_amountIfPayeeWaits_2 : decode cX5_amountIfPayeeWaits 2 = .ok (.getfield 164, 3) := by decide +kernel
theorem dX5_amountIfPayeeWaits_5 : decode cX5_amountIfPayeeWaits 5 = .ok (.invokevirtual 61, 3) := by decide +kernel
theorem dX5_amountIfPayeeWaits_8 : decode cX5_amountIfPayeeWaits 8 = .ok (.astore_n 2, 1) := by decide +kernel
theorem dX5_amountIfPayeeWaits_9 : decode cX5_amountIfPayeeWaits 9 = .ok (.aload_n 2, 1) := by decide +kernel
theorem dX5_amountIfPayeeWaits_10 : decode cX5_amountIfPayeeWaits 10 = .ok (.iconst 2, 1) := by decide +kernel
theorem dX5_amountIfPayeeWaits_11 : decode cX5_amountIfPayeeWaits 11 = .ok (.aload_n 1, 1) := by decide +kernel
theorem dX5_amountIfPayeeWaits_12 : decode cX5_amountIfPayeeWaits 12 = .ok (.invokevirtual 230, 3) := by decide +kernel
theorem dX5_amountIfPayeeWaits_15 : decode cX5_amountIfPayeeWaits 15 = .ok (.ifCond .ne 26, 3) := by decide +kernel
theorem dX5_amountIfPayeeWaits_18 : decode cX5_amountIfPayeeWaits 18 = .ok (.aload_n 2, 1) := by decide +kernel
theorem dX5_amountIfPayeeWaits_19 : decode cX5_amountIfPayeeWaits 19 = .ok (.aload_n 1, 1) := by decide +kernel
theorem dX5_amountIfPayeeWaits_20 : decode cX5_amountIfPayeeWaits 20 = .ok (.invokevirtual 260, 3) := by decide +kernel
theorem dX5_amountIfPayeeWaits_23 : decode cX5_amountIfPayeeWaits 23 = .ok (.ifCond .ne 18, 3) := by decide +kernel
theorem dX5_amountIfPayeeWaits_26 : decode cX5_amountIfPayeeWaits 26 = .ok (.aload_n 0, 1) := by decide +kernel
theorem dX5_amountIfPayeeWaits_27 : decode cX5_amountIfPayeeWaits 27 = .ok (.getfield 31, 3) := by decide +kernel
theorem dX5_amountIfPayeeWaits_30 : decode cX5_amountIfPayeeWaits 30 = .ok (.aload_n 1, 1) := by decide +kernel
theorem dX5_amountIfPayeeWaits_31 : decode cX5_amountIfPayeeWaits 31 = .ok (.getfield 164, 3) := by decide +kernel
theorem dX5_amountIfPayeeWaits_34 : decode cX5_amountIfPayeeWaits 34 = .ok (.aload_n 1, 1) := by decide +kernel
theorem dX5_amountIfPayeeWaits_35 : decode cX5_amountIfPayeeWaits 35 = .ok (.invokevirtual 161, 3) := by decide +kernel
theorem dX5_amountIfPayeeWaits_38 : decode cX5_amountIfPayeeWaits 38 = .ok (.ifCond .eq 7, 3) := by decide +kernel
theorem dX5_amountIfPayeeWaits_41 : decode cX5_amountIfPayeeWaits 41 = .ok (.iconst 1, 1) := by decide +kernel
theorem dX5_amountIfPayeeWaits_42 : decode cX5_amountIfPayeeWaits 42 = .ok (.goto 4, 3) := by decide +kernel
theorem dX5_amountIfPayeeWaits_45 : decode cX5_amountIfPayeeWaits 45 = .ok (.iconst 0, 1) := by decide +kernel
theorem dX5_amountIfPayeeWaits_46 : decode cX5_amountIfPayeeWaits 46 = .ok (.istore_n 3, 1) := by decide +kernel
theorem dX5_amountIfPayeeWaits_47 : decode cX5_amountIfPayeeWaits 47 = .ok (.iload_n 3, 1) := by decide +kernel
theorem dX5_amountIfPayeeWaits_48 : decode cX5_amountIfPayeeWaits 48 = .ok (.ifCond .eq 22, 3) := by decide +kernel
theorem dX5_amountIfPayeeWaits_51 : decode cX5_amountIfPayeeWaits 51 = .ok (.aload_n 0, 1) := by decide +kernel
theorem dX5_amountIfPayeeWaits_52 : decode cX5_amountIfPayeeWaits 52 = .ok (.getfield 31, 3) := by decide +kernel
theorem dX5_amountIfPayeeWaits_55 : decode cX5_amountIfPayeeWaits 55 = .ok (.aload_n 1, 1) := by decide +kernel
theorem dX5_amountIfPayeeWaits_56 : decode cX5_amountIfPayeeWaits 56 = .ok (.invokevirtual 264, 3) := by decide +kernel
theorem dX5_amountIfPayeeWaits_59 : decode cX5_amountIfPayeeWaits 59 = .ok (.ifCond .ne 11, 3) := by decide +kernel
theorem dX5_amountIfPayeeWaits_62 : decode cX5_amountIfPayeeWaits 62 = .ok (.aload_n 1, 1) := by decide +kernel
theorem dX5_amountIfPayeeWaits_63 : decode cX5_amountIfPayeeWaits 63 = .ok (.getfield 182, 3) := by decide +kernel
theorem dX5_amountIfPayeeWaits_66 : decode cX5_amountIfPayeeWaits 66 = .ok (.i2l, 1) := by decide +kernel
theorem dX5_amountIfPayeeWaits_67 : decode cX5_amountIfPayeeWaits 67 = .ok (.goto 4, 3) := by decide +kernel
theorem dX5_amountIfPayeeWaits_70 : decode cX5_amountIfPayeeWaits 70 = .ok (.lconst 0, 1) := by decide +kernel
theorem dX5_amountIfPayeeWaits_71 : decode cX5_amountIfPayeeWaits 71 = .ok (.lreturn, 1) := by decide +kernel

theorem dX8_init_0 : decode cX8_init 0 = .ok (.aload_n 0, 1) := by decide +kernel
theorem dX8_init_1 : decode cX8_init 1 = .ok (.invokespecial 3, 3) := by decide +kernel
theorem dX8_init_4 : decode cX8_init 4 = .ok (.return_, 1) := by decide +kernel
theorem dX8_take_0 : decode cX8_take 0 = .ok (.iload_n 1, 1) := by decide +kernel
theorem dX8_take_1 : decode cX8_take 1 = .ok (.ifCond .lt 14, 3) := by decide +kernel
theorem dX8_take_4 : decode cX8_take 4 = .ok (.iload_n 1, 1) := by decide +kernel
theorem dX8_take_5 : decode cX8_take 5 = .ok (.sipush 1024, 3) := by decide +kernel
theorem dX8_take_8 : decode cX8_take 8 = .ok (.if_icmp .ge 7, 3) := by decide +kernel
theorem dX8_take_11 : decode cX8_take 11 = .ok (.iconst 1, 1) := by decide +kernel
theorem dX8_take_12 : decode cX8_take 12 = .ok (.goto 4, 3) := by decide +kernel
theorem dX8_take_15 : decode cX8_take 15 = .ok (.iconst 0, 1) := by decide +kernel
theorem dX8_take_16 : decode cX8_take 16 = .ok (.istore_n 3, 1) := by decide +kernel
theorem dX8_take_17 : decode cX8_take 17 = .ok (.iload_n 3, 1) := by decide +kernel
theorem dX8_take_18 : decode cX8_take 18 = .ok (.ifCond .eq 9, 3) := by decide +kernel
theorem dX8_take_21 : decode cX8_take 21 = .ok (.aload_n 2, 1) := by decide +kernel
theorem dX8_take_22 : decode cX8_take 22 = .ok (.iload_n 1, 1) := by decide +kernel
theorem dX8_take_23 : decode cX8_take 23 = .ok (.iaload, 1) := by decide +kernel
theorem dX8_take_24 : decode cX8_take 24 = .ok (.goto 4, 3) := by decide +kernel
theorem dX8_take_27 : decode cX8_take 27 = .ok (.iconst 0, 1) := by decide +kernel
theorem dX8_take_28 : decode cX8_take 28 = .ok (.istore 4, 2) := by decide +kernel
theorem dX8_take_30 : decode cX8_take 30 = .ok (.aload_n 0, 1) := by decide +kernel
theorem dX8_take_31 : decode cX8_take 31 = .ok (.iload_n 1, 1) := by decide +kernel
theorem dX8_take_32 : decode cX8_take 32 = .ok (.putfield 9, 3) := by decide +kernel
theorem dX8_take_35 : decode cX8_take 35 = .ok (.aload_n 0, 1) := by decide +kernel
theorem dX8_take_36 : decode cX8_take 36 = .ok (.iload_n 3, 1) := by decide +kernel
theorem dX8_take_37 : decode cX8_take 37 = .ok (.ifCond .eq 11, 3) := by decide +kernel
theorem dX8_take_40 : decode cX8_take 40 = .ok (.iload 4, 2) := by decide +kernel
theorem dX8_take_42 : decode cX8_take 42 = .ok (.bipush 26, 2) := by decide +kernel
theorem dX8_take_44 : decode cX8_take 44 = .ok (.iushr, 1) := by decide +kernel
theorem dX8_take_45 : decode cX8_take 45 = .ok (.goto 5, 3) := by decide +kernel
theorem dX8_take_48 : decode cX8_take 48 = .ok (.bipush 64, 2) := by decide +kernel
theorem dX8_take_50 : decode cX8_take 50 = .ok (.putfield 15, 3) := by decide +kernel
theorem dX8_take_53 : decode cX8_take 53 = .ok (.aload_n 0, 1) := by decide +kernel
theorem dX8_take_54 : decode cX8_take 54 = .ok (.iload 4, 2) := by decide +kernel
theorem dX8_take_56 : decode cX8_take 56 = .ok (.bipush 22, 2) := by decide +kernel
theorem dX8_take_58 : decode cX8_take 58 = .ok (.iushr, 1) := by decide +kernel
theorem dX8_take_59 : decode cX8_take 59 = .ok (.bipush 15, 2) := by decide +kernel
theorem dX8_take_61 : decode cX8_take 61 = .ok (.iand, 1) := by decide +kernel
theorem dX8_take_62 : decode cX8_take 62 = .ok (.putfield 18, 3) := by decide +kernel
theorem dX8_take_65 : decode cX8_take 65 = .ok (.aload_n 0, 1) := by decide +kernel
theorem dX8_take_66 : decode cX8_take 66 = .ok (.iload 4, 2) := by decide +kernel
theorem dX8_take_68 : decode cX8_take 68 = .ok (.bipush 18, 2) := by decide +kernel
theorem dX8_take_70 : decode cX8_take 70 = .ok (.iushr, 1) := by decide +kernel
theorem dX8_take_71 : decode cX8_take 71 = .ok (.bipush 15, 2) := by decide +kernel
theorem dX8_take_73 : decode cX8_take 73 = .ok (.iand, 1) := by decide +kernel
theorem dX8_take_74 : decode cX8_take 74 = .ok (.putfield 21, 3) := by decide +kernel
theorem dX8_take_77 : decode cX8_take 77 = .ok (.aload_n 0, 1) := by decide +kernel
theorem dX8_take_78 : decode cX8_take 78 = .ok (.iload 4, 2) := by decide +kernel
theorem dX8_take_80 : decode cX8_take 80 = .ok (.bipush 14, 2) := by decide +kernel
theorem dX8_take_82 : decode cX8_take 82 = .ok (.iushr, 1) := by decide +kernel
theorem dX8_take_83 : decode cX8_take 83 = .ok (.bipush 15, 2) := by decide +kernel
theorem dX8_take_85 : decode cX8_take 85 = .ok (.iand, 1) := by decide +kernel
theorem dX8_take_86 : decode cX8_take 86 = .ok (.putfield 24, 3) := by decide +kernel
theorem dX8_take_89 : decode cX8_take 89 = .ok (.aload_n 0, 1) := by decide +kernel
theorem dX8_take_90 : decode cX8_take 90 = .ok (.iload 4, 2) := by decide +kernel
theorem dX8_take_92 : decode cX8_take 92 = .ok (.bipush 18, 2) := by decide +kernel
theorem dX8_take_94 : decode cX8_take 94 = .ok (.ishl, 1) := by decide +kernel
theorem dX8_take_95 : decode cX8_take 95 = .ok (.bipush 18, 2) := by decide +kernel
theorem dX8_take_97 : decode cX8_take 97 = .ok (.ishr, 1) := by decide +kernel
theorem dX8_take_98 : decode cX8_take 98 = .ok (.putfield 27, 3) := by decide +kernel
theorem dX8_take_101 : decode cX8_take 101 = .ok (.return_, 1) := by decide +kernel
theorem dX8_isOfTwo_0 : decode cX8_isOfTwo 0 = .ok (.aload_n 0, 1) := by decide +kernel
theorem dX8_isOfTwo_1 : decode cX8_isOfTwo 1 = .ok (.getfield 15, 3) := by decide +kernel
theorem dX8_isOfTwo_4 : decode cX8_isOfTwo 4 = .ok (.bipush 12, 2) := by decide +kernel
theorem dX8_isOfTwo_6 : decode cX8_isOfTwo 6 = .ok (.if_icmp .gt 7, 3) := by decide +kernel
theorem dX8_isOfTwo_9 : decode cX8_isOfTwo 9 = .ok (.iconst 1, 1) := by decide +kernel
theorem dX8_isOfTwo_10 : decode cX8_isOfTwo 10 = .ok (.goto 4, 3) := by decide +kernel
theorem dX8_isOfTwo_13 : decode cX8_isOfTwo 13 = .ok (.iconst 0, 1) := by decide +kernel
theorem dX8_isOfTwo_14 : decode cX8_isOfTwo 14 = .ok (.ireturn, 1) := by decide +kernel
theorem dX8_isWithNumber_0 : decode cX8_isWithNumber 0 = .ok (.aload_n 0, 1) := by decide +kernel
theorem dX8_isWithNumber_1 : decode cX8_isWithNumber 1 = .ok (.getfield 15, 3) := by decide +kernel
theorem dX8_isWithNumber_4 : decode cX8_isWithNumber 4 = .ok (.bipush 16, 2) := by decide +kernel
theorem dX8_isWithNumber_6 : decode cX8_isWithNumber 6 = .ok (.if_icmp .lt 16, 3) := by decide +kernel
theorem dX8_isWithNumber_9 : decode cX8_isWithNumber 9 = .ok (.aload_n 0, 1) := by decide +kernel
theorem dX8_isWithNumber_10 : decode cX8_isWithNumber 10 = .ok (.getfield 15, 3) := by decide +kernel
theorem dX8_isWithNumber_13 : decode cX8_isWithNumber 13 = .ok (.bipush 25, 2) := by decide +kernel
theorem dX8_isWithNumber_15 : decode cX8_isWithNumber 15 = .ok (.if_icmp .gt 7, 3) := by decide +kernel
theorem dX8_isWithNumber_18 : decode cX8_isWithNumber 18 = .ok (.iconst 1, 1) := by decide +kernel
theorem dX8_isWithNumber_19 : decode cX8_isWithNumber 19 = .ok (.goto 4, 3) := by decide +kernel
theorem dX8_isWithNumber_22 : decode cX8_isWithNumber 22 = .ok (.iconst 0, 1) := by decide +kernel
theorem dX8_isWithNumber_23 : decode cX8_isWithNumber 23 = .ok (.ireturn, 1) := by decide +kernel
theorem dX8_isAccess_0 : decode cX8_isAccess 0 = .ok (.aload_n 0, 1) := by decide +kernel
theorem dX8_isAccess_1 : decode cX8_isAccess 1 = .ok (.getfield 15, 3) := by decide +kernel
theorem dX8_isAccess_4 : decode cX8_isAccess 4 = .ok (.bipush 32, 2) := by decide +kernel
theorem dX8_isAccess_6 : decode cX8_isAccess 6 = .ok (.if_icmp .eq 12, 3) := by decide +kernel
theorem dX8_isAccess_9 : decode cX8_isAccess 9 = .ok (.aload_n 0, 1) := by decide +kernel
theorem dX8_isAccess_10 : decode cX8_isAccess 10 = .ok (.getfield 15, 3) := by decide +kernel
theorem dX8_isAccess_13 : decode cX8_isAccess 13 = .ok (.bipush 33, 2) := by decide +kernel
theorem dX8_isAccess_15 : decode cX8_isAccess 15 = .ok (.if_icmp .ne 7, 3) := by decide +kernel
theorem dX8_isAccess_18 : decode cX8_isAccess 18 = .ok (.iconst 1, 1) := by decide +kernel
theorem dX8_isAccess_19 : decode cX8_isAccess 19 = .ok (.goto 4, 3) := by decide +kernel
theorem dX8_isAccess_22 : decode cX8_isAccess 22 = .ok (.iconst 0, 1) := by decide +kernel
theorem dX8_isAccess_23 : decode cX8_isAccess 23 = .ok (.ireturn, 1) := by decide +kernel
theorem dX8_isBranch_0 : decode cX8_isBranch 0 = .ok (.aload_n 0, 1) := by decide +kernel
theorem dX8_isBranch_1 : decode cX8_isBranch 1 = .ok (.getfield 15, 3) := by decide +kernel
theorem dX8_isBranch_4 : decode cX8_isBranch 4 = .ok (.bipush 40, 2) := by decide +kernel
theorem dX8_isBranch_6 : decode cX8_isBranch 6 = .ok (.if_icmp .lt 16, 3) := by decide +kernel
theorem dX8_isBranch_9 : decode cX8_isBranch 9 = .ok (.aload_n 0, 1) := by decide +kernel
theorem dX8_isBranch_10 : decode cX8_isBranch 10 = .ok (.getfield 15, 3) := by decide +kernel
theorem dX8_isBranch_13 : decode cX8_isBranch 13 = .ok (.bipush 43, 2) := by decide +kernel
theorem dX8_isBranch_15 : decode cX8_isBranch 15 = .ok (.if_icmp .gt 7, 3) := by decide +kernel
theorem dX8_isBranch_18 : decode cX8_isBranch 18 = .ok (.iconst 1, 1) := by decide +kernel
theorem dX8_isBranch_19 : decode cX8_isBranch 19 = .ok (.goto 4, 3) := by decide +kernel
theorem dX8_isBranch_22 : decode cX8_isBranch 22 = .ok (.iconst 0, 1) := by decide +kernel
theorem dX8_isBranch_23 : decode cX8_isBranch 23 = .ok (.ireturn, 1) := by decide +kernel
theorem dX8_isJump_0 : decode cX8_isJump 0 = .ok (.aload_n 0, 1) := by decide +kernel
theorem dX8_isJump_1 : decode cX8_isJump 1 = .ok (.getfield 15, 3) := by decide +kernel
theorem dX8_isJump_4 : decode cX8_isJump 4 = .ok (.bipush 44, 2) := by decide +kernel
theorem dX8_isJump_6 : decode cX8_isJump 6 = .ok (.if_icmp .eq 12, 3) := by decide +kernel
theorem dX8_isJump_9 : decode cX8_isJump 9 = .ok (.aload_n 0, 1) := by decide +kernel
theorem dX8_isJump_10 : decode cX8_isJump 10 = .ok (.getfield 15, 3) := by decide +kernel
theorem dX8_isJump_13 : decode cX8_isJump 13 = .ok (.bipush 45, 2) := by decide +kernel
theorem dX8_isJump_15 : decode cX8_isJump 15 = .ok (.if_icmp .ne 7, 3) := by decide +kernel
theorem dX8_isJump_18 : decode cX8_isJump 18 = .ok (.iconst 1, 1) := by decide +kernel
theorem dX8_isJump_19 : decode cX8_isJump 19 = .ok (.goto 4, 3) := by decide +kernel
theorem dX8_isJump_22 : decode cX8_isJump 22 = .ok (.iconst 0, 1) := by decide +kernel
theorem dX8_isJump_23 : decode cX8_isJump 23 = .ok (.ireturn, 1) := by decide +kernel
theorem dX8_isCall_0 : decode cX8_isCall 0 = .ok (.aload_n 0, 1) := by decide +kernel
theorem dX8_isCall_1 : decode cX8_isCall 1 = .ok (.invokevirtual 30, 3) := by decide +kernel
theorem dX8_isCall_4 : decode cX8_isCall 4 = .ok (.ifCond .eq 16, 3) := by decide +kernel
theorem dX8_isCall_7 : decode cX8_isCall 7 = .ok (.aload_n 0, 1) := by decide +kernel
theorem dX8_isCall_8 : decode cX8_isCall 8 = .ok (.getfield 18, 3) := by decide +kernel
theorem dX8_isCall_11 : decode cX8_isCall 11 = .ok (.bipush 15, 2) := by decide +kernel
theorem dX8_isCall_13 : decode cX8_isCall 13 = .ok (.if_icmp .ne 7, 3) := by decide +kernel
theorem dX8_isCall_16 : decode cX8_isCall 16 = .ok (.iconst 1, 1) := by decide +kernel
theorem dX8_isCall_17 : decode cX8_isCall 17 = .ok (.goto 4, 3) := by decide +kernel
theorem dX8_isCall_20 : decode cX8_isCall 20 = .ok (.iconst 0, 1) := by decide +kernel
theorem dX8_isCall_21 : decode cX8_isCall 21 = .ok (.ireturn, 1) := by decide +kernel
theorem dX8_isReturn_0 : decode cX8_isReturn 0 = .ok (.aload_n 0, 1) := by decide +kernel
theorem dX8_isReturn_1 : decode cX8_isReturn 1 = .ok (.getfield 15, 3) := by decide +kernel
theorem dX8_isReturn_4 : decode cX8_isReturn 4 = .ok (.bipush 45, 2) := by decide +kernel
theorem dX8_isReturn_6 : decode cX8_isReturn 6 = .ok (.if_icmp .ne 23, 3) := by decide +kernel
theorem dX8_isReturn_9 : decode cX8_isReturn 9 = .ok (.aload_n 0, 1) := by decide +kernel
theorem dX8_isReturn_10 : decode cX8_isReturn 10 = .ok (.getfield 21, 3) := by decide +kernel
theorem dX8_isReturn_13 : decode cX8_isReturn 13 = .ok (.bipush 15, 2) := by decide +kernel
theorem dX8_isReturn_15 : decode cX8_isReturn 15 = .ok (.if_icmp .ne 14, 3) := by decide +kernel
theorem dX8_isReturn_18 : decode cX8_isReturn 18 = .ok (.aload_n 0, 1) := by decide +kernel
theorem dX8_isReturn_19 : decode cX8_isReturn 19 = .ok (.getfield 18, 3) := by decide +kernel
theorem dX8_isReturn_22 : decode cX8_isReturn 22 = .ok (.ifCond .ne 7, 3) := by decide +kernel
theorem dX8_isReturn_25 : decode cX8_isReturn 25 = .ok (.iconst 1, 1) := by decide +kernel
theorem dX8_isReturn_26 : decode cX8_isReturn 26 = .ok (.goto 4, 3) := by decide +kernel
theorem dX8_isReturn_29 : decode cX8_isReturn 29 = .ok (.iconst 0, 1) := by decide +kernel
theorem dX8_isReturn_30 : decode cX8_isReturn 30 = .ok (.ireturn, 1) := by decide +kernel
theorem dX8_readsA_0 : decode cX8_readsA 0 = .ok (.aload_n 0, 1) := by decide +kernel
theorem dX8_readsA_1 : decode cX8_readsA 1 = .ok (.invokevirtual 34, 3) := by decide +kernel
theorem dX8_readsA_4 : decode cX8_readsA 4 = .ok (.ifCond .ne 42, 3) := by decide +kernel
theorem dX8_readsA_7 : decode cX8_readsA 7 = .ok (.aload_n 0, 1) := by decide +kernel
theorem dX8_readsA_8 : decode cX8_readsA 8 = .ok (.invokevirtual 37, 3) := by decide +kernel
theorem dX8_readsA_11 : decode cX8_readsA 11 = .ok (.ifCond .ne 35, 3) := by decide +kernel
theorem dX8_readsA_14 : decode cX8_readsA 14 = .ok (.aload_n 0, 1) := by decide +kernel
theorem dX8_readsA_15 : decode cX8_readsA 15 = .ok (.invokevirtual 40, 3) := by decide +kernel
theorem dX8_readsA_18 : decode cX8_readsA 18 = .ok (.ifCond .ne 28, 3) := by decide +kernel
theorem dX8_readsA_21 : decode cX8_readsA 21 = .ok (.aload_n 0, 1) := by decide +kernel
theorem dX8_readsA_22 : decode cX8_readsA 22 = .ok (.invokevirtual 43, 3) := by decide +kernel
theorem dX8_readsA_25 : decode cX8_readsA 25 = .ok (.ifCond .ne 21, 3) := by decide +kernel
theorem dX8_readsA_28 : decode cX8_readsA 28 = .ok (.aload_n 0, 1) := by decide +kernel
theorem dX8_readsA_29 : decode cX8_readsA 29 = .ok (.getfield 15, 3) := by decide +kernel
theorem dX8_readsA_32 : decode cX8_readsA 32 = .ok (.bipush 45, 2) := by decide +kernel
theorem dX8_readsA_34 : decode cX8_readsA 34 = .ok (.if_icmp .eq 12, 3) := by decide +kernel
theorem dX8_readsA_37 : decode cX8_readsA 37 = .ok (.aload_n 0, 1) := by decide +kernel
theorem dX8_readsA_38 : decode cX8_readsA 38 = .ok (.getfield 15, 3) := by decide +kernel
theorem dX8_readsA_41 : decode cX8_readsA 41 = .ok (.bipush 49, 2) := by decide +kernel
theorem dX8_readsA_43 : decode cX8_readsA 43 = .ok (.if_icmp .ne 7, 3) := by decide +kernel
theorem dX8_readsA_46 : decode cX8_readsA 46 = .ok (.iconst 1, 1) := by decide +kernel
theorem dX8_readsA_47 : decode cX8_readsA 47 = .ok (.goto 4, 3) := by decide +kernel
theorem dX8_readsA_50 : decode cX8_readsA 50 = .ok (.iconst 0, 1) := by decide +kernel
theorem dX8_readsA_51 : decode cX8_readsA 51 = .ok (.ireturn, 1) := by decide +kernel
theorem dX8_readsB_0 : decode cX8_readsB 0 = .ok (.aload_n 0, 1) := by decide +kernel
theorem dX8_readsB_1 : decode cX8_readsB 1 = .ok (.invokevirtual 34, 3) := by decide +kernel
theorem dX8_readsB_4 : decode cX8_readsB 4 = .ok (.ifCond .ne 10, 3) := by decide +kernel
theorem dX8_readsB_7 : decode cX8_readsB 7 = .ok (.aload_n 0, 1) := by decide +kernel
theorem dX8_readsB_8 : decode cX8_readsB 8 = .ok (.invokevirtual 43, 3) := by decide +kernel
theorem dX8_readsB_11 : decode cX8_readsB 11 = .ok (.ifCond .eq 7, 3) := by decide +kernel
theorem dX8_readsB_14 : decode cX8_readsB 14 = .ok (.iconst 1, 1) := by decide +kernel
theorem dX8_readsB_15 : decode cX8_readsB 15 = .ok (.goto 4, 3) := by decide +kernel
theorem dX8_readsB_18 : decode cX8_readsB 18 = .ok (.iconst 0, 1) := by decide +kernel
theorem dX8_readsB_19 : decode cX8_readsB 19 = .ok (.ireturn, 1) := by decide +kernel
theorem dX8_getsD_0 : decode cX8_getsD 0 = .ok (.aload_n 0, 1) := by decide +kernel
theorem dX8_getsD_1 : decode cX8_getsD 1 = .ok (.invokevirtual 34, 3) := by decide +kernel
theorem dX8_getsD_4 : decode cX8_getsD 4 = .ok (.ifCond .ne 35, 3) := by decide +kernel
theorem dX8_getsD_7 : decode cX8_getsD 7 = .ok (.aload_n 0, 1) := by decide +kernel
theorem dX8_getsD_8 : decode cX8_getsD 8 = .ok (.invokevirtual 37, 3) := by decide +kernel
theorem dX8_getsD_11 : decode cX8_getsD 11 = .ok (.ifCond .ne 28, 3) := by decide +kernel
theorem dX8_getsD_14 : decode cX8_getsD 14 = .ok (.aload_n 0, 1) := by decide +kernel
theorem dX8_getsD_15 : decode cX8_getsD 15 = .ok (.getfield 15, 3) := by decide +kernel
theorem dX8_getsD_18 : decode cX8_getsD 18 = .ok (.bipush 26, 2) := by decide +kernel
theorem dX8_getsD_20 : decode cX8_getsD 20 = .ok (.if_icmp .eq 19, 3) := by decide +kernel
theorem dX8_getsD_23 : decode cX8_getsD 23 = .ok (.aload_n 0, 1) := by decide +kernel
theorem dX8_getsD_24 : decode cX8_getsD 24 = .ok (.getfield 15, 3) := by decide +kernel
theorem dX8_getsD_27 : decode cX8_getsD 27 = .ok (.bipush 32, 2) := by decide +kernel
theorem dX8_getsD_29 : decode cX8_getsD 29 = .ok (.if_icmp .eq 10, 3) := by decide +kernel
theorem dX8_getsD_32 : decode cX8_getsD 32 = .ok (.aload_n 0, 1) := by decide +kernel
theorem dX8_getsD_33 : decode cX8_getsD 33 = .ok (.invokevirtual 30, 3) := by decide +kernel
theorem dX8_getsD_36 : decode cX8_getsD 36 = .ok (.ifCond .eq 7, 3) := by decide +kernel
theorem dX8_getsD_39 : decode cX8_getsD 39 = .ok (.iconst 1, 1) := by decide +kernel
theorem dX8_getsD_40 : decode cX8_getsD 40 = .ok (.goto 4, 3) := by decide +kernel
theorem dX8_getsD_43 : decode cX8_getsD 43 = .ok (.iconst 0, 1) := by decide +kernel
theorem dX8_getsD_44 : decode cX8_getsD 44 = .ok (.ireturn, 1) := by decide +kernel
theorem dX8_cyclesInX_0 : decode cX8_cyclesInX 0 = .ok (.aload_n 0, 1) := by decide +kernel
theorem dX8_cyclesInX_1 : decode cX8_cyclesInX 1 = .ok (.getfield 15, 3) := by decide +kernel
theorem dX8_cyclesInX_4 : decode cX8_cyclesInX 4 = .ok (.tableswitch 33 10 12 #[28, 30, 30], 28) := by decide +kernel
theorem dX8_cyclesInX_32 : decode cX8_cyclesInX 32 = .ok (.iconst 3, 1) := by decide +kernel
theorem dX8_cyclesInX_33 : decode cX8_cyclesInX 33 = .ok (.ireturn, 1) := by decide +kernel
theorem dX8_cyclesInX_34 : decode cX8_cyclesInX 34 = .ok (.bipush 12, 2) := by decide +kernel
theorem dX8_cyclesInX_36 : decode cX8_cyclesInX 36 = .ok (.ireturn, 1) := by decide +kernel
theorem dX8_cyclesInX_37 : decode cX8_cyclesInX 37 = .ok (.iconst 1, 1) := by decide +kernel
theorem dX8_cyclesInX_38 : decode cX8_cyclesInX 38 = .ok (.ireturn, 1) := by decide +kernel
theorem dX0_init_0 : decode cX0_init 0 = .ok (.aload_n 0, 1) := by decide +kernel
theorem dX0_init_1 : decode cX0_init 1 = .ok (.invokespecial 1, 3) := by decide +kernel
theorem dX0_init_4 : decode cX0_init 4 = .ok (.aload_n 0, 1) := by decide +kernel
theorem dX0_init_5 : decode cX0_init 5 = .ok (.bipush 8, 2) := by decide +kernel
theorem dX0_init_7 : decode cX0_init 7 = .ok (.newarray .int, 2) := by decide +kernel
theorem dX0_init_9 : decode cX0_init 9 = .ok (.putfield 9, 3) := by decide +kernel
theorem dX0_init_12 : decode cX0_init 12 = .ok (.return_, 1) := by decide +kernel
theorem dX0_top_0 : decode cX0_top 0 = .ok (.aload_n 0, 1) := by decide +kernel
theorem dX0_top_1 : decode cX0_top 1 = .ok (.getfield 9, 3) := by decide +kernel
theorem dX0_top_4 : decode cX0_top 4 = .ok (.aload_n 0, 1) := by decide +kernel
theorem dX0_top_5 : decode cX0_top 5 = .ok (.getfield 13, 3) := by decide +kernel
theorem dX0_top_8 : decode cX0_top 8 = .ok (.iaload, 1) := by decide +kernel
theorem dX0_top_9 : decode cX0_top 9 = .ok (.ireturn, 1) := by decide +kernel
theorem dX0_push_0 : decode cX0_push 0 = .ok (.aload_n 0, 1) := by decide +kernel
theorem dX0_push_1 : decode cX0_push 1 = .ok (.aload_n 0, 1) := by decide +kernel
theorem dX0_push_2 : decode cX0_push 2 = .ok (.getfield 13, 3) := by decide +kernel
theorem dX0_push_5 : decode cX0_push 5 = .ok (.iconst 1, 1) := by decide +kernel
theorem dX0_push_6 : decode cX0_push 6 = .ok (.iadd, 1) := by decide +kernel
theorem dX0_push_7 : decode cX0_push 7 = .ok (.bipush 7, 2) := by decide +kernel
theorem dX0_push_9 : decode cX0_push 9 = .ok (.iand, 1) := by decide +kernel
theorem dX0_push_10 : decode cX0_push 10 = .ok (.putfield 13, 3) := by decide +kernel
theorem dX0_push_13 : decode cX0_push 13 = .ok (.aload_n 0, 1) := by decide +kernel
theorem dX0_push_14 : decode cX0_push 14 = .ok (.getfield 9, 3) := by decide +kernel
theorem dX0_push_17 : decode cX0_push 17 = .ok (.aload_n 0, 1) := by decide +kernel
theorem dX0_push_18 : decode cX0_push 18 = .ok (.getfield 13, 3) := by decide +kernel
theorem dX0_push_21 : decode cX0_push 21 = .ok (.iload_n 1, 1) := by decide +kernel
theorem dX0_push_22 : decode cX0_push 22 = .ok (.iastore, 1) := by decide +kernel
theorem dX0_push_23 : decode cX0_push 23 = .ok (.aload_n 0, 1) := by decide +kernel
theorem dX0_push_24 : decode cX0_push 24 = .ok (.getfield 17, 3) := by decide +kernel
theorem dX0_push_27 : decode cX0_push 27 = .ok (.bipush 8, 2) := by decide +kernel
theorem dX0_push_29 : decode cX0_push 29 = .ok (.if_icmp .ge 13, 3) := by decide +kernel
theorem dX0_push_32 : decode cX0_push 32 = .ok (.aload_n 0, 1) := by decide +kernel
theorem dX0_push_33 : decode cX0_push 33 = .ok (.dup, 1) := by decide +kernel
theorem dX0_push_34 : decode cX0_push 34 = .ok (.getfield 17, 3) := by decide +kernel
theorem dX0_push_37 : decode cX0_push 37 = .ok (.iconst 1, 1) := by decide +kernel
theorem dX0_push_38 : decode cX0_push 38 = .ok (.iadd, 1) := by decide +kernel
theorem dX0_push_39 : decode cX0_push 39 = .ok (.putfield 17, 3) := by decide +kernel
theorem dX0_push_42 : decode cX0_push 42 = .ok (.return_, 1) := by decide +kernel
theorem dX0_pop_0 : decode cX0_pop 0 = .ok (.aload_n 0, 1) := by decide +kernel
theorem dX0_pop_1 : decode cX0_pop 1 = .ok (.getfield 17, 3) := by decide +kernel
theorem dX0_pop_4 : decode cX0_pop 4 = .ok (.ifCond .le 26, 3) := by decide +kernel
theorem dX0_pop_7 : decode cX0_pop 7 = .ok (.aload_n 0, 1) := by decide +kernel
theorem dX0_pop_8 : decode cX0_pop 8 = .ok (.aload_n 0, 1) := by decide +kernel
theorem dX0_pop_9 : decode cX0_pop 9 = .ok (.getfield 13, 3) := by decide +kernel
theorem dX0_pop_12 : decode cX0_pop 12 = .ok (.iconst 1, 1) := by decide +kernel
theorem dX0_pop_13 : decode cX0_pop 13 = .ok (.isub, 1) := by decide +kernel
theorem dX0_pop_14 : decode cX0_pop 14 = .ok (.bipush 7, 2) := by decide +kernel
theorem dX0_pop_16 : decode cX0_pop 16 = .ok (.iand, 1) := by decide +kernel
theorem dX0_pop_17 : decode cX0_pop 17 = .ok (.putfield 13, 3) := by decide +kernel
theorem dX0_pop_20 : decode cX0_pop 20 = .ok (.aload_n 0, 1) := by decide +kernel
theorem dX0_pop_21 : decode cX0_pop 21 = .ok (.dup, 1) := by decide +kernel
theorem dX0_pop_22 : decode cX0_pop 22 = .ok (.getfield 17, 3) := by decide +kernel
theorem dX0_pop_25 : decode cX0_pop 25 = .ok (.iconst 1, 1) := by decide +kernel
theorem dX0_pop_26 : decode cX0_pop 26 = .ok (.isub, 1) := by decide +kernel
theorem dX0_pop_27 : decode cX0_pop 27 = .ok (.putfield 17, 3) := by decide +kernel
theorem dX0_pop_30 : decode cX0_pop 30 = .ok (.return_, 1) := by decide +kernel
theorem dX3_init_0 : decode cX3_init 0 = .ok (.aload_n 0, 1) := by decide +kernel
theorem dX3_init_1 : decode cX3_init 1 = .ok (.invokespecial 1, 3) := by decide +kernel
theorem dX3_init_4 : decode cX3_init 4 = .ok (.aload_n 0, 1) := by decide +kernel
theorem dX3_init_5 : decode cX3_init 5 = .ok (.bipush 16, 2) := by decide +kernel
theorem dX3_init_7 : decode cX3_init 7 = .ok (.newarray .int, 2) := by decide +kernel
theorem dX3_init_9 : decode cX3_init 9 = .ok (.putfield 9, 3) := by decide +kernel
theorem dX3_init_12 : decode cX3_init 12 = .ok (.return_, 1) := by decide +kernel
theorem dX3_clear_0 : decode cX3_clear 0 = .ok (.aload_n 0, 1) := by decide +kernel
theorem dX3_clear_1 : decode cX3_clear 1 = .ok (.getfield 9, 3) := by decide +kernel
theorem dX3_clear_4 : decode cX3_clear 4 = .ok (.iconst (-1), 1) := by decide +kernel
theorem dX3_clear_5 : decode cX3_clear 5 = .ok (.invokestatic 13, 3) := by decide +kernel
theorem dX3_clear_8 : decode cX3_clear 8 = .ok (.return_, 1) := by decide +kernel
theorem dX3_miss_0 : decode cX3_miss 0 = .ok (.iload_n 1, 1) := by decide +kernel
theorem dX3_miss_1 : decode cX3_miss 1 = .ok (.iconst 2, 1) := by decide +kernel
theorem dX3_miss_2 : decode cX3_miss 2 = .ok (.iushr, 1) := by decide +kernel
theorem dX3_miss_3 : decode cX3_miss 3 = .ok (.istore_n 2, 1) := by decide +kernel
theorem dX3_miss_4 : decode cX3_miss 4 = .ok (.iload_n 2, 1) := by decide +kernel
theorem dX3_miss_5 : decode cX3_miss 5 = .ok (.bipush 15, 2) := by decide +kernel
theorem dX3_miss_7 : decode cX3_miss 7 = .ok (.iand, 1) := by decide +kernel
theorem dX3_miss_8 : decode cX3_miss 8 = .ok (.istore_n 3, 1) := by decide +kernel
theorem dX3_miss_9 : decode cX3_miss 9 = .ok (.aload_n 0, 1) := by decide +kernel
theorem dX3_miss_10 : decode cX3_miss 10 = .ok (.getfield 9, 3) := by decide +kernel
theorem dX3_miss_13 : decode cX3_miss 13 = .ok (.iload_n 3, 1) := by decide +kernel
theorem dX3_miss_14 : decode cX3_miss 14 = .ok (.iaload, 1) := by decide +kernel
theorem dX3_miss_15 : decode cX3_miss 15 = .ok (.iload_n 2, 1) := by decide +kernel
theorem dX3_miss_16 : decode cX3_miss 16 = .ok (.if_icmp .eq 7, 3) := by decide +kernel
theorem dX3_miss_19 : decode cX3_miss 19 = .ok (.iconst 1, 1) := by decide +kernel
theorem dX3_miss_20 : decode cX3_miss 20 = .ok (.goto 4, 3) := by decide +kernel
theorem dX3_miss_23 : decode cX3_miss 23 = .ok (.iconst 0, 1) := by decide +kernel
theorem dX3_miss_24 : decode cX3_miss 24 = .ok (.istore 4, 2) := by decide +kernel
theorem dX3_miss_26 : decode cX3_miss 26 = .ok (.aload_n 0, 1) := by decide +kernel
theorem dX3_miss_27 : decode cX3_miss 27 = .ok (.getfield 9, 3) := by decide +kernel
theorem dX3_miss_30 : decode cX3_miss 30 = .ok (.iload_n 3, 1) := by decide +kernel
theorem dX3_miss_31 : decode cX3_miss 31 = .ok (.iload_n 2, 1) := by decide +kernel
theorem dX3_miss_32 : decode cX3_miss 32 = .ok (.iastore, 1) := by decide +kernel
theorem dX3_miss_33 : decode cX3_miss 33 = .ok (.iload 4, 2) := by decide +kernel
theorem dX3_miss_35 : decode cX3_miss 35 = .ok (.ireturn, 1) := by decide +kernel
theorem dX5_init_0 : decode cX5_init 0 = .ok (.aload_n 0, 1) := by decide +kernel
theorem dX5_init_1 : decode cX5_init 1 = .ok (.invokespecial 1, 3) := by decide +kernel
theorem dX5_init_4 : decode cX5_init 4 = .ok (.aload_n 0, 1) := by decide +kernel
theorem dX5_init_5 : decode cX5_init 5 = .ok (.sipush 1000, 3) := by decide +kernel
theorem dX5_init_8 : decode cX5_init 8 = .ok (.newarray .int, 2) := by decide +kernel
theorem dX5_init_10 : decode cX5_init 10 = .ok (.putfield 9, 3) := by decide +kernel
theorem dX5_init_13 : decode cX5_init 13 = .ok (.return_, 1) := by decide +kernel
theorem dX5_kept_0 : decode cX5_kept 0 = .ok (.aload_n 0, 1) := by decide +kernel
theorem dX5_kept_1 : decode cX5_kept 1 = .ok (.getfield 13, 3) := by decide +kernel
theorem dX5_kept_4 : decode cX5_kept 4 = .ok (.sipush 1000, 3) := by decide +kernel
theorem dX5_kept_7 : decode cX5_kept 7 = .ok (.invokestatic 17, 3) := by decide +kernel
theorem dX5_kept_10 : decode cX5_kept 10 = .ok (.ireturn, 1) := by decide +kernel
theorem dX5_put_0 : decode cX5_put 0 = .ok (.aload_n 0, 1) := by decide +kernel
theorem dX5_put_1 : decode cX5_put 1 = .ok (.getfield 13, 3) := by decide +kernel
theorem dX5_put_4 : decode cX5_put 4 = .ok (.sipush 1000, 3) := by decide +kernel
theorem dX5_put_7 : decode cX5_put 7 = .ok (.if_icmp .ge 13, 3) := by decide +kernel
theorem dX5_put_10 : decode cX5_put 10 = .ok (.aload_n 0, 1) := by decide +kernel
theorem dX5_put_11 : decode cX5_put 11 = .ok (.getfield 9, 3) := by decide +kernel
theorem dX5_put_14 : decode cX5_put 14 = .ok (.aload_n 0, 1) := by decide +kernel
theorem dX5_put_15 : decode cX5_put 15 = .ok (.getfield 13, 3) := by decide +kernel
theorem dX5_put_18 : decode cX5_put 18 = .ok (.iload_n 1, 1) := by decide +kernel
theorem dX5_put_19 : decode cX5_put 19 = .ok (.iastore, 1) := by decide +kernel
theorem dX5_put_20 : decode cX5_put 20 = .ok (.aload_n 0, 1) := by decide +kernel
theorem dX5_put_21 : decode cX5_put 21 = .ok (.dup, 1) := by decide +kernel
theorem dX5_put_22 : decode cX5_put 22 = .ok (.getfield 13, 3) := by decide +kernel
theorem dX5_put_25 : decode cX5_put 25 = .ok (.iconst 1, 1) := by decide +kernel
theorem dX5_put_26 : decode cX5_put 26 = .ok (.iadd, 1) := by decide +kernel
theorem dX5_put_27 : decode cX5_put 27 = .ok (.putfield 13, 3) := by decide +kernel
theorem dX5_put_30 : decode cX5_put 30 = .ok (.return_, 1) := by decide +kernel
theorem dX7_init_0 : decode cX7_init 0 = .ok (.aload_n 0, 1) := by decide +kernel
theorem dX7_init_1 : decode cX7_init 1 = .ok (.invokespecial 3, 3) := by decide +kernel
theorem dX7_init_4 : decode cX7_init 4 = .ok (.return_, 1) := by decide +kernel
theorem dX7_clear_0 : decode cX7_clear 0 = .ok (.aload_n 0, 1) := by decide +kernel
theorem dX7_clear_1 : decode cX7_clear 1 = .ok (.iconst 0, 1) := by decide +kernel
theorem dX7_clear_2 : decode cX7_clear 2 = .ok (.putfield 9, 3) := by decide +kernel
theorem dX7_clear_5 : decode cX7_clear 5 = .ok (.aload_n 0, 1) := by decide +kernel
theorem dX7_clear_6 : decode cX7_clear 6 = .ok (.iconst 0, 1) := by decide +kernel
theorem dX7_clear_7 : decode cX7_clear 7 = .ok (.putfield 15, 3) := by decide +kernel
theorem dX7_clear_10 : decode cX7_clear 10 = .ok (.aload_n 0, 1) := by decide +kernel
theorem dX7_clear_11 : decode cX7_clear 11 = .ok (.iconst (-1), 1) := by decide +kernel
theorem dX7_clear_12 : decode cX7_clear 12 = .ok (.putfield 18, 3) := by decide +kernel
theorem dX7_clear_15 : decode cX7_clear 15 = .ok (.aload_n 0, 1) := by decide +kernel
theorem dX7_clear_16 : decode cX7_clear 16 = .ok (.iconst 0, 1) := by decide +kernel
theorem dX7_clear_17 : decode cX7_clear 17 = .ok (.putfield 21, 3) := by decide +kernel
theorem dX7_clear_20 : decode cX7_clear 20 = .ok (.aload_n 0, 1) := by decide +kernel
theorem dX7_clear_21 : decode cX7_clear 21 = .ok (.iconst 0, 1) := by decide +kernel
theorem dX7_clear_22 : decode cX7_clear 22 = .ok (.putfield 24, 3) := by decide +kernel
theorem dX7_clear_25 : decode cX7_clear 25 = .ok (.aload_n 0, 1) := by decide +kernel
theorem dX7_clear_26 : decode cX7_clear 26 = .ok (.iconst 0, 1) := by decide +kernel
theorem dX7_clear_27 : decode cX7_clear 27 = .ok (.putfield 27, 3) := by decide +kernel
theorem dX7_clear_30 : decode cX7_clear 30 = .ok (.aload_n 0, 1) := by decide +kernel
theorem dX7_clear_31 : decode cX7_clear 31 = .ok (.iconst 0, 1) := by decide +kernel
theorem dX7_clear_32 : decode cX7_clear 32 = .ok (.putfield 30, 3) := by decide +kernel
theorem dX7_clear_35 : decode cX7_clear 35 = .ok (.return_, 1) := by decide +kernel
theorem dX7_add_0 : decode cX7_add 0 = .ok (.aload_n 0, 1) := by decide +kernel
theorem dX7_add_1 : decode cX7_add 1 = .ok (.dup, 1) := by decide +kernel
theorem dX7_add_2 : decode cX7_add 2 = .ok (.getfield 21, 3) := by decide +kernel
theorem dX7_add_5 : decode cX7_add 5 = .ok (.iconst 1, 1) := by decide +kernel
theorem dX7_add_6 : decode cX7_add 6 = .ok (.iadd, 1) := by decide +kernel
theorem dX7_add_7 : decode cX7_add 7 = .ok (.putfield 21, 3) := by decide +kernel
theorem dX7_add_10 : decode cX7_add 10 = .ok (.iload_n 1, 1) := by decide +kernel
theorem dX7_add_11 : decode cX7_add 11 = .ok (.ifCond .ne 13, 3) := by decide +kernel
theorem dX7_add_14 : decode cX7_add 14 = .ok (.aload_n 0, 1) := by decide +kernel
theorem dX7_add_15 : decode cX7_add 15 = .ok (.dup, 1) := by decide +kernel
theorem dX7_add_16 : decode cX7_add 16 = .ok (.getfield 24, 3) := by decide +kernel
theorem dX7_add_19 : decode cX7_add 19 = .ok (.iconst 1, 1) := by decide +kernel
theorem dX7_add_20 : decode cX7_add 20 = .ok (.iadd, 1) := by decide +kernel
theorem dX7_add_21 : decode cX7_add 21 = .ok (.putfield 24, 3) := by decide +kernel
theorem dX7_add_24 : decode cX7_add 24 = .ok (.iload_n 2, 1) := by decide +kernel
theorem dX7_add_25 : decode cX7_add 25 = .ok (.ifCond .eq 13, 3) := by decide +kernel
theorem dX7_add_28 : decode cX7_add 28 = .ok (.aload_n 0, 1) := by decide +kernel
theorem dX7_add_29 : decode cX7_add 29 = .ok (.dup, 1) := by decide +kernel
theorem dX7_add_30 : decode cX7_add 30 = .ok (.getfield 27, 3) := by decide +kernel
theorem dX7_add_33 : decode cX7_add 33 = .ok (.iconst 1, 1) := by decide +kernel
theorem dX7_add_34 : decode cX7_add 34 = .ok (.iadd, 1) := by decide +kernel
theorem dX7_add_35 : decode cX7_add 35 = .ok (.putfield 27, 3) := by decide +kernel
theorem dX7_add_38 : decode cX7_add 38 = .ok (.iload_n 3, 1) := by decide +kernel
theorem dX7_add_39 : decode cX7_add 39 = .ok (.ifCond .eq 13, 3) := by decide +kernel
theorem dX7_add_42 : decode cX7_add 42 = .ok (.aload_n 0, 1) := by decide +kernel
theorem dX7_add_43 : decode cX7_add 43 = .ok (.dup, 1) := by decide +kernel
theorem dX7_add_44 : decode cX7_add 44 = .ok (.getfield 30, 3) := by decide +kernel
theorem dX7_add_47 : decode cX7_add 47 = .ok (.iconst 1, 1) := by decide +kernel
theorem dX7_add_48 : decode cX7_add 48 = .ok (.iadd, 1) := by decide +kernel
theorem dX7_add_49 : decode cX7_add 49 = .ok (.putfield 30, 3) := by decide +kernel
theorem dX7_add_52 : decode cX7_add 52 = .ok (.return_, 1) := by decide +kernel
theorem dX1_init_0 : decode cX1_init 0 = .ok (.aload_n 0, 1) := by decide +kernel
theorem dX1_init_1 : decode cX1_init 1 = .ok (.invokespecial 3, 3) := by decide +kernel
theorem dX1_init_4 : decode cX1_init 4 = .ok (.return_, 1) := by decide +kernel
theorem dX1_work_0 : decode cX1_work 0 = .ok (.aload_n 2, 1) := by decide +kernel
theorem dX1_work_1 : decode cX1_work 1 = .ok (.aload_n 1, 1) := by decide +kernel
theorem dX1_work_2 : decode cX1_work 2 = .ok (.getfield 9, 3) := by decide +kernel
theorem dX1_work_5 : decode cX1_work 5 = .ok (.iaload, 1) := by decide +kernel
theorem dX1_work_6 : decode cX1_work 6 = .ok (.istore 4, 2) := by decide +kernel
theorem dX1_work_8 : decode cX1_work 8 = .ok (.aload_n 2, 1) := by decide +kernel
theorem dX1_work_9 : decode cX1_work 9 = .ok (.aload_n 1, 1) := by decide +kernel
theorem dX1_work_10 : decode cX1_work 10 = .ok (.getfield 15, 3) := by decide +kernel
theorem dX1_work_13 : decode cX1_work 13 = .ok (.iaload, 1) := by decide +kernel
theorem dX1_work_14 : decode cX1_work 14 = .ok (.istore 5, 2) := by decide +kernel
theorem dX1_work_16 : decode cX1_work 16 = .ok (.aload_n 0, 1) := by decide +kernel
theorem dX1_work_17 : decode cX1_work 17 = .ok (.aload_n 1, 1) := by decide +kernel
theorem dX1_work_18 : decode cX1_work 18 = .ok (.getfield 18, 3) := by decide +kernel
theorem dX1_work_21 : decode cX1_work 21 = .ok (.iconst 1, 1) := by decide +kernel
theorem dX1_work_22 : decode cX1_work 22 = .ok (.iadd, 1) := by decide +kernel
theorem dX1_work_23 : decode cX1_work 23 = .ok (.putfield 21, 3) := by decide +kernel
theorem dX1_work_26 : decode cX1_work 26 = .ok (.aload_n 0, 1) := by decide +kernel
theorem dX1_work_27 : decode cX1_work 27 = .ok (.iconst 0, 1) := by decide +kernel
theorem dX1_work_28 : decode cX1_work 28 = .ok (.putfield 26, 3) := by decide +kernel
theorem dX1_work_31 : decode cX1_work 31 = .ok (.aload_n 0, 1) := by decide +kernel
theorem dX1_work_32 : decode cX1_work 32 = .ok (.iconst 0, 1) := by decide +kernel
theorem dX1_work_33 : decode cX1_work 33 = .ok (.putfield 29, 3) := by decide +kernel
theorem dX1_work_36 : decode cX1_work 36 = .ok (.aload_n 0, 1) := by decide +kernel
theorem dX1_work_37 : decode cX1_work 37 = .ok (.iconst 0, 1) := by decide +kernel
theorem dX1_work_38 : decode cX1_work 38 = .ok (.putfield 32, 3) := by decide +kernel
theorem dX1_work_41 : decode cX1_work 41 = .ok (.aload_n 0, 1) := by decide +kernel
theorem dX1_work_42 : decode cX1_work 42 = .ok (.iconst 0, 1) := by decide +kernel
theorem dX1_work_43 : decode cX1_work 43 = .ok (.putfield 36, 3) := by decide +kernel
theorem dX1_work_46 : decode cX1_work 46 = .ok (.aload_n 0, 1) := by decide +kernel
theorem dX1_work_47 : decode cX1_work 47 = .ok (.iconst 0, 1) := by decide +kernel
theorem dX1_work_48 : decode cX1_work 48 = .ok (.putfield 39, 3) := by decide +kernel
theorem dX1_work_51 : decode cX1_work 51 = .ok (.aload_n 1, 1) := by decide +kernel
theorem dX1_work_52 : decode cX1_work 52 = .ok (.invokevirtual 42, 3) := by decide +kernel
theorem dX1_work_55 : decode cX1_work 55 = .ok (.ifCond .eq 21, 3) := by decide +kernel
theorem dX1_work_58 : decode cX1_work 58 = .ok (.aload_n 0, 1) := by decide +kernel
theorem dX1_work_59 : decode cX1_work 59 = .ok (.aload_n 1, 1) := by decide +kernel
theorem dX1_work_60 : decode cX1_work 60 = .ok (.getfield 46, 3) := by decide +kernel
theorem dX1_work_63 : decode cX1_work 63 = .ok (.iload 4, 2) := by decide +kernel
theorem dX1_work_65 : decode cX1_work 65 = .ok (.iload 5, 2) := by decide +kernel
theorem dX1_work_67 : decode cX1_work 67 = .ok (.invokestatic 49, 3) := by decide +kernel
theorem dX1_work_70 : decode cX1_work 70 = .ok (.putfield 26, 3) := by decide +kernel
theorem dX1_work_73 : decode cX1_work 73 = .ok (.goto 79, 3) := by decide +kernel
theorem dX1_work_76 : decode cX1_work 76 = .ok (.aload_n 1, 1) := by decide +kernel
theorem dX1_work_77 : decode cX1_work 77 = .ok (.invokevirtual 53, 3) := by decide +kernel
theorem dX1_work_80 : decode cX1_work 80 = .ok (.ifCond .eq 26, 3) := by decide +kernel
theorem dX1_work_83 : decode cX1_work 83 = .ok (.aload_n 0, 1) := by decide +kernel
theorem dX1_work_84 : decode cX1_work 84 = .ok (.aload_n 1, 1) := by decide +kernel
theorem dX1_work_85 : decode cX1_work 85 = .ok (.getfield 46, 3) := by decide +kernel
theorem dX1_work_88 : decode cX1_work 88 = .ok (.bipush 16, 2) := by decide +kernel
theorem dX1_work_90 : decode cX1_work 90 = .ok (.isub, 1) := by decide +kernel
theorem dX1_work_91 : decode cX1_work 91 = .ok (.iload 4, 2) := by decide +kernel
theorem dX1_work_93 : decode cX1_work 93 = .ok (.aload_n 1, 1) := by decide +kernel
theorem dX1_work_94 : decode cX1_work 94 = .ok (.getfield 56, 3) := by decide +kernel
theorem dX1_work_97 : decode cX1_work 97 = .ok (.invokestatic 49, 3) := by decide +kernel
theorem dX1_work_100 : decode cX1_work 100 = .ok (.putfield 26, 3) := by decide +kernel
theorem dX1_work_103 : decode cX1_work 103 = .ok (.goto 49, 3) := by decide +kernel
theorem dX1_work_106 : decode cX1_work 106 = .ok (.aload_n 1, 1) := by decide +kernel
theorem dX1_work_107 : decode cX1_work 107 = .ok (.invokevirtual 59, 3) := by decide +kernel
theorem dX1_work_110 : decode cX1_work 110 = .ok (.ifCond .eq 16, 3) := by decide +kernel
theorem dX1_work_113 : decode cX1_work 113 = .ok (.aload_n 0, 1) := by decide +kernel
theorem dX1_work_114 : decode cX1_work 114 = .ok (.aload_n 1, 1) := by decide +kernel
theorem dX1_work_115 : decode cX1_work 115 = .ok (.iload 4, 2) := by decide +kernel
theorem dX1_work_117 : decode cX1_work 117 = .ok (.iload 5, 2) := by decide +kernel
theorem dX1_work_119 : decode cX1_work 119 = .ok (.aload_n 3, 1) := by decide +kernel
theorem dX1_work_120 : decode cX1_work 120 = .ok (.invokevirtual 62, 3) := by decide +kernel
theorem dX1_work_123 : decode cX1_work 123 = .ok (.goto 29, 3) := by decide +kernel
theorem dX1_work_126 : decode cX1_work 126 = .ok (.aload_n 1, 1) := by decide +kernel
theorem dX1_work_127 : decode cX1_work 127 = .ok (.invokevirtual 66, 3) := by decide +kernel
theorem dX1_work_130 : decode cX1_work 130 = .ok (.ifCond .eq 15, 3) := by decide +kernel
theorem dX1_work_133 : decode cX1_work 133 = .ok (.aload_n 0, 1) := by decide +kernel
theorem dX1_work_134 : decode cX1_work 134 = .ok (.aload_n 1, 1) := by decide +kernel
theorem dX1_work_135 : decode cX1_work 135 = .ok (.iload 4, 2) := by decide +kernel
theorem dX1_work_137 : decode cX1_work 137 = .ok (.iload 5, 2) := by decide +kernel
theorem dX1_work_139 : decode cX1_work 139 = .ok (.invokevirtual 69, 3) := by decide +kernel
theorem dX1_work_142 : decode cX1_work 142 = .ok (.goto 10, 3) := by decide +kernel
theorem dX1_work_145 : decode cX1_work 145 = .ok (.aload_n 0, 1) := by decide +kernel
theorem dX1_work_146 : decode cX1_work 146 = .ok (.aload_n 1, 1) := by decide +kernel
theorem dX1_work_147 : decode cX1_work 147 = .ok (.iload 4, 2) := by decide +kernel
theorem dX1_work_149 : decode cX1_work 149 = .ok (.invokevirtual 73, 3) := by decide +kernel
theorem dX1_work_152 : decode cX1_work 152 = .ok (.return_, 1) := by decide +kernel
theorem dX1_isLoad_0 : decode cX1_isLoad 0 = .ok (.aload_n 1, 1) := by decide +kernel
theorem dX1_isLoad_1 : decode cX1_isLoad 1 = .ok (.getfield 46, 3) := by decide +kernel
theorem dX1_isLoad_4 : decode cX1_isLoad 4 = .ok (.bipush 32, 2) := by decide +kernel
theorem dX1_isLoad_6 : decode cX1_isLoad 6 = .ok (.if_icmp .ne 14, 3) := by decide +kernel
theorem dX1_isLoad_9 : decode cX1_isLoad 9 = .ok (.aload_n 0, 1) := by decide +kernel
theorem dX1_isLoad_10 : decode cX1_isLoad 10 = .ok (.getfield 36, 3) := by decide +kernel
theorem dX1_isLoad_13 : decode cX1_isLoad 13 = .ok (.ifCond .ne 7, 3) := by decide +kernel
theorem dX1_isLoad_16 : decode cX1_isLoad 16 = .ok (.iconst 1, 1) := by decide +kernel
theorem dX1_isLoad_17 : decode cX1_isLoad 17 = .ok (.goto 4, 3) := by decide +kernel
theorem dX1_isLoad_20 : decode cX1_isLoad 20 = .ok (.iconst 0, 1) := by decide +kernel
theorem dX1_isLoad_21 : decode cX1_isLoad 21 = .ok (.ireturn, 1) := by decide +kernel
theorem dX1_isStore_0 : decode cX1_isStore 0 = .ok (.aload_n 1, 1) := by decide +kernel
theorem dX1_isStore_1 : decode cX1_isStore 1 = .ok (.getfield 46, 3) := by decide +kernel
theorem dX1_isStore_4 : decode cX1_isStore 4 = .ok (.bipush 33, 2) := by decide +kernel
theorem dX1_isStore_6 : decode cX1_isStore 6 = .ok (.if_icmp .ne 14, 3) := by decide +kernel
theorem dX1_isStore_9 : decode cX1_isStore 9 = .ok (.aload_n 0, 1) := by decide +kernel
theorem dX1_isStore_10 : decode cX1_isStore 10 = .ok (.getfield 36, 3) := by decide +kernel
theorem dX1_isStore_13 : decode cX1_isStore 13 = .ok (.ifCond .ne 7, 3) := by decide +kernel
theorem dX1_isStore_16 : decode cX1_isStore 16 = .ok (.iconst 1, 1) := by decide +kernel
theorem dX1_isStore_17 : decode cX1_isStore 17 = .ok (.goto 4, 3) := by decide +kernel
theorem dX1_isStore_20 : decode cX1_isStore 20 = .ok (.iconst 0, 1) := by decide +kernel
theorem dX1_isStore_21 : decode cX1_isStore 21 = .ok (.ireturn, 1) := by decide +kernel
theorem dX1_reach_0 : decode cX1_reach 0 = .ok (.iload_n 2, 1) := by decide +kernel
theorem dX1_reach_1 : decode cX1_reach 1 = .ok (.aload_n 1, 1) := by decide +kernel
theorem dX1_reach_2 : decode cX1_reach 2 = .ok (.getfield 56, 3) := by decide +kernel
theorem dX1_reach_5 : decode cX1_reach 5 = .ok (.iadd, 1) := by decide +kernel
theorem dX1_reach_6 : decode cX1_reach 6 = .ok (.istore 5, 2) := by decide +kernel
theorem dX1_reach_8 : decode cX1_reach 8 = .ok (.iload 5, 2) := by decide +kernel
theorem dX1_reach_10 : decode cX1_reach 10 = .ok (.ifCond .lt 11, 3) := by decide +kernel
theorem dX1_reach_13 : decode cX1_reach 13 = .ok (.iload 5, 2) := by decide +kernel
theorem dX1_reach_15 : decode cX1_reach 15 = .ok (.sipush 1024, 3) := by decide +kernel
theorem dX1_reach_18 : decode cX1_reach 18 = .ok (.if_icmp .lt 10, 3) := by decide +kernel
theorem dX1_reach_21 : decode cX1_reach 21 = .ok (.aload_n 0, 1) := by decide +kernel
theorem dX1_reach_22 : decode cX1_reach 22 = .ok (.iconst 2, 1) := by decide +kernel
theorem dX1_reach_23 : decode cX1_reach 23 = .ok (.iconst 2, 1) := by decide +kernel
theorem dX1_reach_24 : decode cX1_reach 24 = .ok (.invokevirtual 77, 3) := by decide +kernel
theorem dX1_reach_27 : decode cX1_reach 27 = .ok (.return_, 1) := by decide +kernel
theorem dX1_reach_28 : decode cX1_reach 28 = .ok (.aload_n 0, 1) := by decide +kernel
theorem dX1_reach_29 : decode cX1_reach 29 = .ok (.iload 5, 2) := by decide +kernel
theorem dX1_reach_31 : decode cX1_reach 31 = .ok (.putfield 29, 3) := by decide +kernel
theorem dX1_reach_34 : decode cX1_reach 34 = .ok (.aload_n 0, 1) := by decide +kernel
theorem dX1_reach_35 : decode cX1_reach 35 = .ok (.aload_n 1, 1) := by decide +kernel
theorem dX1_reach_36 : decode cX1_reach 36 = .ok (.getfield 46, 3) := by decide +kernel
theorem dX1_reach_39 : decode cX1_reach 39 = .ok (.bipush 32, 2) := by decide +kernel
theorem dX1_reach_41 : decode cX1_reach 41 = .ok (.if_icmp .ne 11, 3) := by decide +kernel
theorem dX1_reach_44 : decode cX1_reach 44 = .ok (.aload 4, 2) := by decide +kernel
theorem dX1_reach_46 : decode cX1_reach 46 = .ok (.iload 5, 2) := by decide +kernel
theorem dX1_reach_48 : decode cX1_reach 48 = .ok (.iaload, 1) := by decide +kernel
theorem dX1_reach_49 : decode cX1_reach 49 = .ok (.goto 4, 3) := by decide +kernel
theorem dX1_reach_52 : decode cX1_reach 52 = .ok (.iload_n 3, 1) := by decide +kernel
theorem dX1_reach_53 : decode cX1_reach 53 = .ok (.putfield 26, 3) := by decide +kernel
theorem dX1_reach_56 : decode cX1_reach 56 = .ok (.return_, 1) := by decide +kernel
theorem dX1_branch_0 : decode cX1_branch 0 = .ok (.aload_n 0, 1) := by decide +kernel
theorem dX1_branch_1 : decode cX1_branch 1 = .ok (.aload_n 1, 1) := by decide +kernel
theorem dX1_branch_2 : decode cX1_branch 2 = .ok (.getfield 46, 3) := by decide +kernel
theorem dX1_branch_5 : decode cX1_branch 5 = .ok (.iload_n 2, 1) := by decide +kernel
theorem dX1_branch_6 : decode cX1_branch 6 = .ok (.iload_n 3, 1) := by decide +kernel
theorem dX1_branch_7 : decode cX1_branch 7 = .ok (.invokestatic 81, 3) := by decide +kernel
theorem dX1_branch_10 : decode cX1_branch 10 = .ok (.putfield 32, 3) := by decide +kernel
theorem dX1_branch_13 : decode cX1_branch 13 = .ok (.aload_n 0, 1) := by decide +kernel
theorem dX1_branch_14 : decode cX1_branch 14 = .ok (.getfield 32, 3) := by decide +kernel
theorem dX1_branch_17 : decode cX1_branch 17 = .ok (.ifCond .eq 16, 3) := by decide +kernel
theorem dX1_branch_20 : decode cX1_branch 20 = .ok (.aload_n 0, 1) := by decide +kernel
theorem dX1_branch_21 : decode cX1_branch 21 = .ok (.aload_n 1, 1) := by decide +kernel
theorem dX1_branch_22 : decode cX1_branch 22 = .ok (.getfield 18, 3) := by decide +kernel
theorem dX1_branch_25 : decode cX1_branch 25 = .ok (.aload_n 1, 1) := by decide +kernel
theorem dX1_branch_26 : decode cX1_branch 26 = .ok (.getfield 56, 3) := by decide +kernel
theorem dX1_branch_29 : decode cX1_branch 29 = .ok (.iadd, 1) := by decide +kernel
theorem dX1_branch_30 : decode cX1_branch 30 = .ok (.putfield 21, 3) := by decide +kernel
theorem dX1_branch_33 : decode cX1_branch 33 = .ok (.return_, 1) := by decide +kernel
theorem dX1_workOther_0 : decode cX1_workOther 0 = .ok (.aload_n 1, 1) := by decide +kernel
theorem dX1_workOther_1 : decode cX1_workOther 1 = .ok (.getfield 46, 3) := by decide +kernel
theorem dX1_workOther_4 : decode cX1_workOther 4 = .ok (.lookupswitch 149 #[(26, 60), (44, 74), (45, 100), (48, 123), (49, 132), (64, 140)], 60) := by decide +kernel
theorem dX1_workOther_64 : decode cX1_workOther 64 = .ok (.aload_n 0, 1) := by decide +kernel
theorem dX1_workOther_65 : decode cX1_workOther 65 = .ok (.aload_n 1, 1) := by decide +kernel
theorem dX1_workOther_66 : decode cX1_workOther 66 = .ok (.getfield 56, 3) := by decide +kernel
theorem dX1_workOther_69 : decode cX1_workOther 69 = .ok (.bipush 18, 2) := by decide +kernel
theorem dX1_workOther_71 : decode cX1_workOther 71 = .ok (.ishl, 1) := by decide +kernel
theorem dX1_workOther_72 : decode cX1_workOther 72 = .ok (.putfield 26, 3) := by decide +kernel
theorem dX1_workOther_75 : decode cX1_workOther 75 = .ok (.goto 84, 3) := by decide +kernel
theorem dX1_workOther_78 : decode cX1_workOther 78 = .ok (.aload_n 0, 1) := by decide +kernel
theorem dX1_workOther_79 : decode cX1_workOther 79 = .ok (.aload_n 1, 1) := by decide +kernel
theorem dX1_workOther_80 : decode cX1_workOther 80 = .ok (.getfield 18, 3) := by decide +kernel
theorem dX1_workOther_83 : decode cX1_workOther 83 = .ok (.iconst 1, 1) := by decide +kernel
theorem dX1_workOther_84 : decode cX1_workOther 84 = .ok (.iadd, 1) := by decide +kernel
theorem dX1_workOther_85 : decode cX1_workOther 85 = .ok (.putfield 26, 3) := by decide +kernel
theorem dX1_workOther_88 : decode cX1_workOther 88 = .ok (.aload_n 0, 1) := by decide +kernel
theorem dX1_workOther_89 : decode cX1_workOther 89 = .ok (.aload_n 1, 1) := by decide +kernel
theorem dX1_workOther_90 : decode cX1_workOther 90 = .ok (.getfield 18, 3) := by decide +kernel
theorem dX1_workOther_93 : decode cX1_workOther 93 = .ok (.aload_n 1, 1) := by decide +kernel
theorem dX1_workOther_94 : decode cX1_workOther 94 = .ok (.getfield 56, 3) := by decide +kernel
theorem dX1_workOther_97 : decode cX1_workOther 97 = .ok (.iadd, 1) := by decide +kernel
theorem dX1_workOther_98 : decode cX1_workOther 98 = .ok (.putfield 21, 3) := by decide +kernel
theorem dX1_workOther_101 : decode cX1_workOther 101 = .ok (.goto 58, 3) := by decide +kernel
theorem dX1_workOther_104 : decode cX1_workOther 104 = .ok (.aload_n 0, 1) := by decide +kernel
theorem dX1_workOther_105 : decode cX1_workOther 105 = .ok (.aload_n 1, 1) := by decide +kernel
theorem dX1_workOther_106 : decode cX1_workOther 106 = .ok (.getfield 18, 3) := by decide +kernel
theorem dX1_workOther_109 : decode cX1_workOther 109 = .ok (.iconst 1, 1) := by decide +kernel
theorem dX1_workOther_110 : decode cX1_workOther 110 = .ok (.iadd, 1) := by decide +kernel
theorem dX1_workOther_111 : decode cX1_workOther 111 = .ok (.putfield 26, 3) := by decide +kernel
theorem dX1_workOther_114 : decode cX1_workOther 114 = .ok (.aload_n 0, 1) := by decide +kernel
theorem dX1_workOther_115 : decode cX1_workOther 115 = .ok (.iload_n 2, 1) := by decide +kernel
theorem dX1_workOther_116 : decode cX1_workOther 116 = .ok (.aload_n 1, 1) := by decide +kernel
theorem dX1_workOther_117 : decode cX1_workOther 117 = .ok (.getfield 56, 3) := by decide +kernel
theorem dX1_workOther_120 : decode cX1_workOther 120 = .ok (.iadd, 1) := by decide +kernel
theorem dX1_workOther_121 : decode cX1_workOther 121 = .ok (.putfield 21, 3) := by decide +kernel
theorem dX1_workOther_124 : decode cX1_workOther 124 = .ok (.goto 35, 3) := by decide +kernel
theorem dX1_workOther_127 : decode cX1_workOther 127 = .ok (.aload_n 0, 1) := by decide +kernel
theorem dX1_workOther_128 : decode cX1_workOther 128 = .ok (.iconst 1, 1) := by decide +kernel
theorem dX1_workOther_129 : decode cX1_workOther 129 = .ok (.iconst 0, 1) := by decide +kernel
theorem dX1_workOther_130 : decode cX1_workOther 130 = .ok (.invokevirtual 77, 3) := by decide +kernel
theorem dX1_workOther_133 : decode cX1_workOther 133 = .ok (.goto 26, 3) := by decide +kernel
theorem dX1_workOther_136 : decode cX1_workOther 136 = .ok (.aload_n 0, 1) := by decide +kernel
theorem dX1_workOther_137 : decode cX1_workOther 137 = .ok (.iload_n 2, 1) := by decide +kernel
theorem dX1_workOther_138 : decode cX1_workOther 138 = .ok (.putfield 26, 3) := by decide +kernel
theorem dX1_workOther_141 : decode cX1_workOther 141 = .ok (.goto 18, 3) := by decide +kernel
theorem dX1_workOther_144 : decode cX1_workOther 144 = .ok (.aload_n 0, 1) := by decide +kernel
theorem dX1_workOther_145 : decode cX1_workOther 145 = .ok (.iconst 2, 1) := by decide +kernel
theorem dX1_workOther_146 : decode cX1_workOther 146 = .ok (.iconst 3, 1) := by decide +kernel
theorem dX1_workOther_147 : decode cX1_workOther 147 = .ok (.invokevirtual 77, 3) := by decide +kernel
theorem dX1_workOther_150 : decode cX1_workOther 150 = .ok (.goto 9, 3) := by decide +kernel
theorem dX1_workOther_153 : decode cX1_workOther 153 = .ok (.aload_n 0, 1) := by decide +kernel
theorem dX1_workOther_154 : decode cX1_workOther 154 = .ok (.iconst 2, 1) := by decide +kernel
theorem dX1_workOther_155 : decode cX1_workOther 155 = .ok (.iconst 1, 1) := by decide +kernel
theorem dX1_workOther_156 : decode cX1_workOther 156 = .ok (.invokevirtual 77, 3) := by decide +kernel
theorem dX1_workOther_159 : decode cX1_workOther 159 = .ok (.return_, 1) := by decide +kernel
theorem dX1_stop_0 : decode cX1_stop 0 = .ok (.aload_n 0, 1) := by decide +kernel
theorem dX1_stop_1 : decode cX1_stop 1 = .ok (.iload_n 1, 1) := by decide +kernel
theorem dX1_stop_2 : decode cX1_stop 2 = .ok (.putfield 36, 3) := by decide +kernel
theorem dX1_stop_5 : decode cX1_stop 5 = .ok (.aload_n 0, 1) := by decide +kernel
theorem dX1_stop_6 : decode cX1_stop 6 = .ok (.iload_n 2, 1) := by decide +kernel
theorem dX1_stop_7 : decode cX1_stop 7 = .ok (.putfield 39, 3) := by decide +kernel
theorem dX1_stop_10 : decode cX1_stop 10 = .ok (.return_, 1) := by decide +kernel
theorem dX1_holds_0 : decode cX1_holds 0 = .ok (.iload_n 0, 1) := by decide +kernel
theorem dX1_holds_1 : decode cX1_holds 1 = .ok (.tableswitch 60 40 42 #[27, 38, 49], 27) := by decide +kernel
theorem dX1_holds_28 : decode cX1_holds 28 = .ok (.iload_n 1, 1) := by decide +kernel
theorem dX1_holds_29 : decode cX1_holds 29 = .ok (.iload_n 2, 1) := by decide +kernel
theorem dX1_holds_30 : decode cX1_holds 30 = .ok (.if_icmp .ne 7, 3) := by decide +kernel
theorem dX1_holds_33 : decode cX1_holds 33 = .ok (.iconst 1, 1) := by decide +kernel
theorem dX1_holds_34 : decode cX1_holds 34 = .ok (.goto 4, 3) := by decide +kernel
theorem dX1_holds_37 : decode cX1_holds 37 = .ok (.iconst 0, 1) := by decide +kernel
theorem dX1_holds_38 : decode cX1_holds 38 = .ok (.ireturn, 1) := by decide +kernel
theorem dX1_holds_39 : decode cX1_holds 39 = .ok (.iload_n 1, 1) := by decide +kernel
theorem dX1_holds_40 : decode cX1_holds 40 = .ok (.iload_n 2, 1) := by decide +kernel
theorem dX1_holds_41 : decode cX1_holds 41 = .ok (.if_icmp .eq 7, 3) := by decide +kernel
theorem dX1_holds_44 : decode cX1_holds 44 = .ok (.iconst 1, 1) := by decide +kernel
theorem dX1_holds_45 : decode cX1_holds 45 = .ok (.goto 4, 3) := by decide +kernel
theorem dX1_holds_48 : decode cX1_holds 48 = .ok (.iconst 0, 1) := by decide +kernel
theorem dX1_holds_49 : decode cX1_holds 49 = .ok (.ireturn, 1) := by decide +kernel
theorem dX1_holds_50 : decode cX1_holds 50 = .ok (.iload_n 1, 1) := by decide +kernel
theorem dX1_holds_51 : decode cX1_holds 51 = .ok (.iload_n 2, 1) := by decide +kernel
theorem dX1_holds_52 : decode cX1_holds 52 = .ok (.if_icmp .ge 7, 3) := by decide +kernel
theorem dX1_holds_55 : decode cX1_holds 55 = .ok (.iconst 1, 1) := by decide +kernel
theorem dX1_holds_56 : decode cX1_holds 56 = .ok (.goto 4, 3) := by decide +kernel
theorem dX1_holds_59 : decode cX1_holds 59 = .ok (.iconst 0, 1) := by decide +kernel
theorem dX1_holds_60 : decode cX1_holds 60 = .ok (.ireturn, 1) := by decide +kernel
theorem dX1_holds_61 : decode cX1_holds 61 = .ok (.iload_n 1, 1) := by decide +kernel
theorem dX1_holds_62 : decode cX1_holds 62 = .ok (.iload_n 2, 1) := by decide +kernel
theorem dX1_holds_63 : decode cX1_holds 63 = .ok (.if_icmp .lt 7, 3) := by decide +kernel
theorem dX1_holds_66 : decode cX1_holds 66 = .ok (.iconst 1, 1) := by decide +kernel
theorem dX1_holds_67 : decode cX1_holds 67 = .ok (.goto 4, 3) := by decide +kernel
theorem dX1_holds_70 : decode cX1_holds 70 = .ok (.iconst 0, 1) := by decide +kernel
theorem dX1_holds_71 : decode cX1_holds 71 = .ok (.ireturn, 1) := by decide +kernel
theorem dX1_compute_0 : decode cX1_compute 0 = .ok (.iload_n 0, 1) := by decide +kernel
theorem dX1_compute_1 : decode cX1_compute 1 = .ok (.tableswitch 148 0 11 #[63, 67, 71, 75, 79, 83, 90, 97, 104, 115, 132, 136], 63) := by decide +kernel
theorem dX1_compute_64 : decode cX1_compute 64 = .ok (.iload_n 1, 1) := by decide +kernel
theorem dX1_compute_65 : decode cX1_compute 65 = .ok (.iload_n 2, 1) := by decide +kernel
theorem dX1_compute_66 : decode cX1_compute 66 = .ok (.iadd, 1) := by decide +kernel
theorem dX1_compute_67 : decode cX1_compute 67 = .ok (.ireturn, 1) := by decide +kernel
theorem dX1_compute_68 : decode cX1_compute 68 = .ok (.iload_n 1, 1) := by decide +kernel
theorem dX1_compute_69 : decode cX1_compute 69 = .ok (.iload_n 2, 1) := by decide +kernel
theorem dX1_compute_70 : decode cX1_compute 70 = .ok (.isub, 1) := by decide +kernel
theorem dX1_compute_71 : decode cX1_compute 71 = .ok (.ireturn, 1) := by decide +kernel
theorem dX1_compute_72 : decode cX1_compute 72 = .ok (.iload_n 1, 1) := by decide +kernel
theorem dX1_compute_73 : decode cX1_compute 73 = .ok (.iload_n 2, 1) := by decide +kernel
theorem dX1_compute_74 : decode cX1_compute 74 = .ok (.iand, 1) := by decide +kernel
theorem dX1_compute_75 : decode cX1_compute 75 = .ok (.ireturn, 1) := by decide +kernel
theorem dX1_compute_76 : decode cX1_compute 76 = .ok (.iload_n 1, 1) := by decide +kernel
theorem dX1_compute_77 : decode cX1_compute 77 = .ok (.iload_n 2, 1) := by decide +kernel
theorem dX1_compute_78 : decode cX1_compute 78 = .ok (.ior, 1) := by decide +kernel
theorem dX1_compute_79 : decode cX1_compute 79 = .ok (.ireturn, 1) := by decide +kernel
theorem dX1_compute_80 : decode cX1_compute 80 = .ok (.iload_n 1, 1) := by decide +kernel
theorem dX1_compute_81 : decode cX1_compute 81 = .ok (.iload_n 2, 1) := by decide +kernel
theorem dX1_compute_82 : decode cX1_compute 82 = .ok (.ixor, 1) := by decide +kernel
theorem dX1_compute_83 : decode cX1_compute 83 = .ok (.ireturn, 1) := by decide +kernel
theorem dX1_compute_84 : decode cX1_compute 84 = .ok (.iload_n 1, 1) := by decide +kernel
theorem dX1_compute_85 : decode cX1_compute 85 = .ok (.iload_n 2, 1) := by decide +kernel
theorem dX1_compute_86 : decode cX1_compute 86 = .ok (.bipush 31, 2) := by decide +kernel
theorem dX1_compute_88 : decode cX1_compute 88 = .ok (.iand, 1) := by decide +kernel
theorem dX1_compute_89 : decode cX1_compute 89 = .ok (.ishl, 1) := by decide +kernel
theorem dX1_compute_90 : decode cX1_compute 90 = .ok (.ireturn, 1) := by decide +kernel
theorem dX1_compute_91 : decode cX1_compute 91 = .ok (.iload_n 1, 1) := by decide +kernel
theorem dX1_compute_92 : decode cX1_compute 92 = .ok (.iload_n 2, 1) := by decide +kernel
theorem dX1_compute_93 : decode cX1_compute 93 = .ok (.bipush 31, 2) := by decide +kernel
theorem dX1_compute_95 : decode cX1_compute 95 = .ok (.iand, 1) := by decide +kernel
theorem dX1_compute_96 : decode cX1_compute 96 = .ok (.iushr, 1) := by decide +kernel
theorem dX1_compute_97 : decode cX1_compute 97 = .ok (.ireturn, 1) := by decide +kernel
theorem dX1_compute_98 : decode cX1_compute 98 = .ok (.iload_n 1, 1) := by decide +kernel
theorem dX1_compute_99 : decode cX1_compute 99 = .ok (.iload_n 2, 1) := by decide +kernel
theorem dX1_compute_100 : decode cX1_compute 100 = .ok (.bipush 31, 2) := by decide +kernel
theorem dX1_compute_102 : decode cX1_compute 102 = .ok (.iand, 1) := by decide +kernel
theorem dX1_compute_103 : decode cX1_compute 103 = .ok (.ishr, 1) := by decide +kernel
theorem dX1_compute_104 : decode cX1_compute 104 = .ok (.ireturn, 1) := by decide +kernel
theorem dX1_compute_105 : decode cX1_compute 105 = .ok (.iload_n 1, 1) := by decide +kernel
theorem dX1_compute_106 : decode cX1_compute 106 = .ok (.iload_n 2, 1) := by decide +kernel
theorem dX1_compute_107 : decode cX1_compute 107 = .ok (.if_icmp .ge 7, 3) := by decide +kernel
theorem dX1_compute_110 : decode cX1_compute 110 = .ok (.iconst 1, 1) := by decide +kernel
theorem dX1_compute_111 : decode cX1_compute 111 = .ok (.goto 4, 3) := by decide +kernel
theorem dX1_compute_114 : decode cX1_compute 114 = .ok (.iconst 0, 1) := by decide +kernel
theorem dX1_compute_115 : decode cX1_compute 115 = .ok (.ireturn, 1) := by decide +kernel
theorem dX1_compute_116 : decode cX1_compute 116 = .ok (.iload_n 1, 1) := by decide +kernel
theorem dX1_compute_117 : decode cX1_compute 117 = .ok (.ldc 85, 2) := by decide +kernel
theorem dX1_compute_119 : decode cX1_compute 119 = .ok (.ixor, 1) := by decide +kernel
theorem dX1_compute_120 : decode cX1_compute 120 = .ok (.iload_n 2, 1) := by decide +kernel
theorem dX1_compute_121 : decode cX1_compute 121 = .ok (.ldc 85, 2) := by decide +kernel
theorem dX1_compute_123 : decode cX1_compute 123 = .ok (.ixor, 1) := by decide +kernel
theorem dX1_compute_124 : decode cX1_compute 124 = .ok (.if_icmp .ge 7, 3) := by decide +kernel
theorem dX1_compute_127 : decode cX1_compute 127 = .ok (.iconst 1, 1) := by decide +kernel
theorem dX1_compute_128 : decode cX1_compute 128 = .ok (.goto 4, 3) := by decide +kernel
theorem dX1_compute_131 : decode cX1_compute 131 = .ok (.iconst 0, 1) := by decide +kernel
theorem dX1_compute_132 : decode cX1_compute 132 = .ok (.ireturn, 1) := by decide +kernel
theorem dX1_compute_133 : decode cX1_compute 133 = .ok (.iload_n 1, 1) := by decide +kernel
theorem dX1_compute_134 : decode cX1_compute 134 = .ok (.iload_n 2, 1) := by decide +kernel
theorem dX1_compute_135 : decode cX1_compute 135 = .ok (.imul, 1) := by decide +kernel
theorem dX1_compute_136 : decode cX1_compute 136 = .ok (.ireturn, 1) := by decide +kernel
theorem dX1_compute_137 : decode cX1_compute 137 = .ok (.iload_n 2, 1) := by decide +kernel
theorem dX1_compute_138 : decode cX1_compute 138 = .ok (.ifCond .ne 7, 3) := by decide +kernel
theorem dX1_compute_141 : decode cX1_compute 141 = .ok (.iconst (-1), 1) := by decide +kernel
theorem dX1_compute_142 : decode cX1_compute 142 = .ok (.goto 6, 3) := by decide +kernel
theorem dX1_compute_145 : decode cX1_compute 145 = .ok (.iload_n 1, 1) := by decide +kernel
theorem dX1_compute_146 : decode cX1_compute 146 = .ok (.iload_n 2, 1) := by decide +kernel
theorem dX1_compute_147 : decode cX1_compute 147 = .ok (.idiv, 1) := by decide +kernel
theorem dX1_compute_148 : decode cX1_compute 148 = .ok (.ireturn, 1) := by decide +kernel
theorem dX1_compute_149 : decode cX1_compute 149 = .ok (.iload_n 2, 1) := by decide +kernel
theorem dX1_compute_150 : decode cX1_compute 150 = .ok (.ifCond .ne 7, 3) := by decide +kernel
theorem dX1_compute_153 : decode cX1_compute 153 = .ok (.iload_n 1, 1) := by decide +kernel
theorem dX1_compute_154 : decode cX1_compute 154 = .ok (.goto 6, 3) := by decide +kernel
theorem dX1_compute_157 : decode cX1_compute 157 = .ok (.iload_n 1, 1) := by decide +kernel
theorem dX1_compute_158 : decode cX1_compute 158 = .ok (.iload_n 2, 1) := by decide +kernel
theorem dX1_compute_159 : decode cX1_compute 159 = .ok (.irem, 1) := by decide +kernel
theorem dX1_compute_160 : decode cX1_compute 160 = .ok (.ireturn, 1) := by decide +kernel

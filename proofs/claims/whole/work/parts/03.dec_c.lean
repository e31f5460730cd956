/-! decode rows, printed by the kit's program -/
theorem dX4_init_0 : decode cX4_init 0 = .ok (.aload_n 0, 1) := by decide +kernel
theorem dX4_init_1 : decode cX4_init 1 = .ok (.invokespecial 1, 3) := by decide +kernel
theorem dX4_init_4 : decode cX4_init 4 = .ok (.aload_n 0, 1) := by decide +kernel
theorem dX4_init_5 : decode cX4_init 5 = .ok (.sipush 480, 3) := by decide +kernel
theorem dX4_init_8 : decode cX4_init 8 = .ok (.newarray .int, 2) := by decide +kernel
theorem dX4_init_10 : decode cX4_init 10 = .ok (.putfield 7, 3) := by decide +kernel
theorem dX4_init_13 : decode cX4_init 13 = .ok (.aload_n 0, 1) := by decide +kernel
theorem dX4_init_14 : decode cX4_init 14 = .ok (.iconst 4, 1) := by decide +kernel
theorem dX4_init_15 : decode cX4_init 15 = .ok (.newarray .int, 2) := by decide +kernel
theorem dX4_init_17 : decode cX4_init 17 = .ok (.putfield 13, 3) := by decide +kernel
theorem dX4_init_20 : decode cX4_init 20 = .ok (.aload_n 0, 1) := by decide +kernel
theorem dX4_init_21 : decode cX4_init 21 = .ok (.bipush 64, 2) := by decide +kernel
theorem dX4_init_23 : decode cX4_init 23 = .ok (.newarray .int, 2) := by decide +kernel
theorem dX4_init_25 : decode cX4_init 25 = .ok (.putfield 16, 3) := by decide +kernel
theorem dX4_init_28 : decode cX4_init 28 = .ok (.aload_n 0, 1) := by decide +kernel
theorem dX4_init_29 : decode cX4_init 29 = .ok (.iconst 4, 1) := by decide +kernel
theorem dX4_init_30 : decode cX4_init 30 = .ok (.newarray .int, 2) := by decide +kernel
theorem dX4_init_32 : decode cX4_init 32 = .ok (.putfield 19, 3) := by decide +kernel
theorem dX4_init_35 : decode cX4_init 35 = .ok (.aload_n 0, 1) := by decide +kernel
theorem dX4_init_36 : decode cX4_init 36 = .ok (.sipush 960, 3) := by decide +kernel
theorem dX4_init_39 : decode cX4_init 39 = .ok (.newarray .int, 2) := by decide +kernel
theorem dX4_init_41 : decode cX4_init 41 = .ok (.putfield 22, 3) := by decide +kernel
theorem dX4_init_44 : decode cX4_init 44 = .ok (.aload_n 0, 1) := by decide +kernel
theorem dX4_init_45 : decode cX4_init 45 = .ok (.iconst 4, 1) := by decide +kernel
theorem dX4_init_46 : decode cX4_init 46 = .ok (.newarray .int, 2) := by decide +kernel
theorem dX4_init_48 : decode cX4_init 48 = .ok (.putfield 25, 3) := by decide +kernel
theorem dX4_init_51 : decode cX4_init 51 = .ok (.aload_n 0, 1) := by decide +kernel
theorem dX4_init_52 : decode cX4_init 52 = .ok (.iconst 4, 1) := by decide +kernel
theorem dX4_init_53 : decode cX4_init 53 = .ok (.newarray .int, 2) := by decide +kernel
theorem dX4_init_55 : decode cX4_init 55 = .ok (.putfield 28, 3) := by decide +kernel
theorem dX4_init_58 : decode cX4_init 58 = .ok (.aload_n 0, 1) := by decide +kernel
theorem dX4_init_59 : decode cX4_init 59 = .ok (.iconst 4, 1) := by decide +kernel
theorem dX4_init_60 : decode cX4_init 60 = .ok (.newarray .int, 2) := by decide +kernel
theorem dX4_init_62 : decode cX4_init 62 = .ok (.putfield 31, 3) := by decide +kernel
theorem dX4_init_65 : decode cX4_init 65 = .ok (.aload_n 0, 1) := by decide +kernel
theorem dX4_init_66 : decode cX4_init 66 = .ok (.iconst 4, 1) := by decide +kernel
theorem dX4_init_67 : decode cX4_init 67 = .ok (.newarray .int, 2) := by decide +kernel
theorem dX4_init_69 : decode cX4_init 69 = .ok (.putfield 34, 3) := by decide +kernel
theorem dX4_init_72 : decode cX4_init 72 = .ok (.aload_n 0, 1) := by decide +kernel
theorem dX4_init_73 : decode cX4_init 73 = .ok (.iconst 4, 1) := by decide +kernel
theorem dX4_init_74 : decode cX4_init 74 = .ok (.newarray .long, 2) := by decide +kernel
theorem dX4_init_76 : decode cX4_init 76 = .ok (.putfield 37, 3) := by decide +kernel
theorem dX4_init_79 : decode cX4_init 79 = .ok (.aload_n 0, 1) := by decide +kernel
theorem dX4_init_80 : decode cX4_init 80 = .ok (.iconst 4, 1) := by decide +kernel
theorem dX4_init_81 : decode cX4_init 81 = .ok (.newarray .boolean, 2) := by decide +kernel
theorem dX4_init_83 : decode cX4_init 83 = .ok (.putfield 41, 3) := by decide +kernel
theorem dX4_init_86 : decode cX4_init 86 = .ok (.aload_n 0, 1) := by decide +kernel
theorem dX4_init_87 : decode cX4_init 87 = .ok (.iconst 4, 1) := by decide +kernel
theorem dX4_init_88 : decode cX4_init 88 = .ok (.newarray .int, 2) := by decide +kernel
theorem dX4_init_90 : decode cX4_init 90 = .ok (.putfield 45, 3) := by decide +kernel
theorem dX4_init_93 : decode cX4_init 93 = .ok (.aload_n 0, 1) := by decide +kernel
theorem dX4_init_94 : decode cX4_init 94 = .ok (.iconst 4, 1) := by decide +kernel
theorem dX4_init_95 : decode cX4_init 95 = .ok (.newarray .int, 2) := by decide +kernel
theorem dX4_init_97 : decode cX4_init 97 = .ok (.putfield 48, 3) := by decide +kernel
theorem dX4_init_100 : decode cX4_init 100 = .ok (.iconst 0, 1) := by decide +kernel
theorem dX4_init_101 : decode cX4_init 101 = .ok (.istore_n 1, 1) := by decide +kernel
theorem dX4_init_102 : decode cX4_init 102 = .ok (.iload_n 1, 1) := by decide +kernel
theorem dX4_init_103 : decode cX4_init 103 = .ok (.iconst 4, 1) := by decide +kernel
theorem dX4_init_104 : decode cX4_init 104 = .ok (.if_icmp .ge 16, 3) := by decide +kernel
theorem dX4_init_107 : decode cX4_init 107 = .ok (.aload_n 0, 1) := by decide +kernel
theorem dX4_init_108 : decode cX4_init 108 = .ok (.getfield 19, 3) := by decide +kernel
theorem dX4_init_111 : decode cX4_init 111 = .ok (.iload_n 1, 1) := by decide +kernel
theorem dX4_init_112 : decode cX4_init 112 = .ok (.iconst (-1), 1) := by decide +kernel
theorem dX4_init_113 : decode cX4_init 113 = .ok (.iastore, 1) := by decide +kernel
theorem dX4_init_114 : decode cX4_init 114 = .ok (.iinc 1 1, 3) := by decide +kernel
theorem dX4_init_117 : decode cX4_init 117 = .ok (.goto (-15), 3) := by decide +kernel
theorem dX4_init_120 : decode cX4_init 120 = .ok (.return_, 1) := by decide +kernel
theorem dX4_thrown_0 : decode cX4_thrown 0 = .ok (.aload_n 0, 1) := by decide +kernel
theorem dX4_thrown_1 : decode cX4_thrown 1 = .ok (.getfield 51, 3) := by decide +kernel
theorem dX4_thrown_4 : decode cX4_thrown 4 = .ok (.ireturn, 1) := by decide +kernel
theorem dX4_isThrown_0 : decode cX4_isThrown 0 = .ok (.aload_n 0, 1) := by decide +kernel
theorem dX4_isThrown_1 : decode cX4_isThrown 1 = .ok (.iload_n 1, 1) := by decide +kernel
theorem dX4_isThrown_2 : decode cX4_isThrown 2 = .ok (.ifCond .eq 7, 3) := by decide +kernel
theorem dX4_isThrown_5 : decode cX4_isThrown 5 = .ok (.iload_n 2, 1) := by decide +kernel
theorem dX4_isThrown_6 : decode cX4_isThrown 6 = .ok (.goto 4, 3) := by decide +kernel
theorem dX4_isThrown_9 : decode cX4_isThrown 9 = .ok (.iconst 0, 1) := by decide +kernel
theorem dX4_isThrown_10 : decode cX4_isThrown 10 = .ok (.putfield 51, 3) := by decide +kernel
theorem dX4_isThrown_13 : decode cX4_isThrown 13 = .ok (.iload_n 1, 1) := by decide +kernel
theorem dX4_isThrown_14 : decode cX4_isThrown 14 = .ok (.ireturn, 1) := by decide +kernel
theorem dX4_lies_0 : decode cX4_lies 0 = .ok (.iload_n 1, 1) := by decide +kernel
theorem dX4_lies_1 : decode cX4_lies 1 = .ok (.iload_n 0, 1) := by decide +kernel
theorem dX4_lies_2 : decode cX4_lies 2 = .ok (.if_icmp .gt 12, 3) := by decide +kernel
theorem dX4_lies_5 : decode cX4_lies 5 = .ok (.iload_n 0, 1) := by decide +kernel
theorem dX4_lies_6 : decode cX4_lies 6 = .ok (.iload_n 2, 1) := by decide +kernel
theorem dX4_lies_7 : decode cX4_lies 7 = .ok (.if_icmp .gt 7, 3) := by decide +kernel
theorem dX4_lies_10 : decode cX4_lies 10 = .ok (.iconst 1, 1) := by decide +kernel
theorem dX4_lies_11 : decode cX4_lies 11 = .ok (.goto 4, 3) := by decide +kernel
theorem dX4_lies_14 : decode cX4_lies 14 = .ok (.iconst 0, 1) := by decide +kernel
theorem dX4_lies_15 : decode cX4_lies 15 = .ok (.ireturn, 1) := by decide +kernel
theorem dX4_isNo_0 : decode cX4_isNo 0 = .ok (.aload_n 0, 1) := by decide +kernel
theorem dX4_isNo_1 : decode cX4_isNo 1 = .ok (.iload_n 1, 1) := by decide +kernel
theorem dX4_isNo_2 : decode cX4_isNo 2 = .ok (.iconst 0, 1) := by decide +kernel
theorem dX4_isNo_3 : decode cX4_isNo 3 = .ok (.iconst 3, 1) := by decide +kernel
theorem dX4_isNo_4 : decode cX4_isNo 4 = .ok (.invokestatic 55, 3) := by decide +kernel
theorem dX4_isNo_7 : decode cX4_isNo 7 = .ok (.ifCond .ne 7, 3) := by decide +kernel
theorem dX4_isNo_10 : decode cX4_isNo 10 = .ok (.iconst 1, 1) := by decide +kernel
theorem dX4_isNo_11 : decode cX4_isNo 11 = .ok (.goto 4, 3) := by decide +kernel
theorem dX4_isNo_14 : decode cX4_isNo 14 = .ok (.iconst 0, 1) := by decide +kernel
theorem dX4_isNo_15 : decode cX4_isNo 15 = .ok (.iconst 1, 1) := by decide +kernel
theorem dX4_isNo_16 : decode cX4_isNo 16 = .ok (.invokevirtual 59, 3) := by decide +kernel
theorem dX4_isNo_19 : decode cX4_isNo 19 = .ok (.ireturn, 1) := by decide +kernel
theorem dX4_isShut_0 : decode cX4_isShut 0 = .ok (.aload_n 0, 1) := by decide +kernel
theorem dX4_isShut_1 : decode cX4_isShut 1 = .ok (.aload_n 0, 1) := by decide +kernel
theorem dX4_isShut_2 : decode cX4_isShut 2 = .ok (.getfield 19, 3) := by decide +kernel
theorem dX4_isShut_5 : decode cX4_isShut 5 = .ok (.iload_n 1, 1) := by decide +kernel
theorem dX4_isShut_6 : decode cX4_isShut 6 = .ok (.iaload, 1) := by decide +kernel
theorem dX4_isShut_7 : decode cX4_isShut 7 = .ok (.iconst (-1), 1) := by decide +kernel
theorem dX4_isShut_8 : decode cX4_isShut 8 = .ok (.if_icmp .ne 7, 3) := by decide +kernel
theorem dX4_isShut_11 : decode cX4_isShut 11 = .ok (.iconst 1, 1) := by decide +kernel
theorem dX4_isShut_12 : decode cX4_isShut 12 = .ok (.goto 4, 3) := by decide +kernel
theorem dX4_isShut_15 : decode cX4_isShut 15 = .ok (.iconst 0, 1) := by decide +kernel
theorem dX4_isShut_16 : decode cX4_isShut 16 = .ok (.iload_n 2, 1) := by decide +kernel
theorem dX4_isShut_17 : decode cX4_isShut 17 = .ok (.invokevirtual 59, 3) := by decide +kernel
theorem dX4_isShut_20 : decode cX4_isShut 20 = .ok (.ireturn, 1) := by decide +kernel
theorem dX4_hasLine_0 : decode cX4_hasLine 0 = .ok (.iload_n 0, 1) := by decide +kernel
theorem dX4_hasLine_1 : decode cX4_hasLine 1 = .ok (.iconst 2, 1) := by decide +kernel
theorem dX4_hasLine_2 : decode cX4_hasLine 2 = .ok (.if_icmp .eq 14, 3) := by decide +kernel
theorem dX4_hasLine_5 : decode cX4_hasLine 5 = .ok (.iload_n 0, 1) := by decide +kernel
theorem dX4_hasLine_6 : decode cX4_hasLine 6 = .ok (.iconst 5, 1) := by decide +kernel
theorem dX4_hasLine_7 : decode cX4_hasLine 7 = .ok (.if_icmp .eq 9, 3) := by decide +kernel
theorem dX4_hasLine_10 : decode cX4_hasLine 10 = .ok (.iload_n 0, 1) := by decide +kernel
theorem dX4_hasLine_11 : decode cX4_hasLine 11 = .ok (.bipush 6, 2) := by decide +kernel
theorem dX4_hasLine_13 : decode cX4_hasLine 13 = .ok (.if_icmp .ne 7, 3) := by decide +kernel
theorem dX4_hasLine_16 : decode cX4_hasLine 16 = .ok (.iconst 1, 1) := by decide +kernel
theorem dX4_hasLine_17 : decode cX4_hasLine 17 = .ok (.goto 4, 3) := by decide +kernel
theorem dX4_hasLine_20 : decode cX4_hasLine 20 = .ok (.iconst 0, 1) := by decide +kernel
theorem dX4_hasLine_21 : decode cX4_hasLine 21 = .ok (.ireturn, 1) := by decide +kernel
theorem dX4_hasCheck_0 : decode cX4_hasCheck 0 = .ok (.iload_n 0, 1) := by decide +kernel
theorem dX4_hasCheck_1 : decode cX4_hasCheck 1 = .ok (.iconst 3, 1) := by decide +kernel
theorem dX4_hasCheck_2 : decode cX4_hasCheck 2 = .ok (.if_icmp .eq 9, 3) := by decide +kernel
theorem dX4_hasCheck_5 : decode cX4_hasCheck 5 = .ok (.iload_n 0, 1) := by decide +kernel
theorem dX4_hasCheck_6 : decode cX4_hasCheck 6 = .ok (.bipush 6, 2) := by decide +kernel
theorem dX4_hasCheck_8 : decode cX4_hasCheck 8 = .ok (.if_icmp .ne 7, 3) := by decide +kernel
theorem dX4_hasCheck_11 : decode cX4_hasCheck 11 = .ok (.iconst 1, 1) := by decide +kernel
theorem dX4_hasCheck_12 : decode cX4_hasCheck 12 = .ok (.goto 4, 3) := by decide +kernel
theorem dX4_hasCheck_15 : decode cX4_hasCheck 15 = .ok (.iconst 0, 1) := by decide +kernel
theorem dX4_hasCheck_16 : decode cX4_hasCheck 16 = .ok (.ireturn, 1) := by decide +kernel
theorem dX4_canGoBack_0 : decode cX4_canGoBack 0 = .ok (.iload_n 0, 1) := by decide +kernel
theorem dX4_canGoBack_1 : decode cX4_canGoBack 1 = .ok (.ifCond .eq 19, 3) := by decide +kernel
theorem dX4_canGoBack_4 : decode cX4_canGoBack 4 = .ok (.iload_n 0, 1) := by decide +kernel
theorem dX4_canGoBack_5 : decode cX4_canGoBack 5 = .ok (.iconst 2, 1) := by decide +kernel
theorem dX4_canGoBack_6 : decode cX4_canGoBack 6 = .ok (.if_icmp .eq 14, 3) := by decide +kernel
theorem dX4_canGoBack_9 : decode cX4_canGoBack 9 = .ok (.iload_n 0, 1) := by decide +kernel
theorem dX4_canGoBack_10 : decode cX4_canGoBack 10 = .ok (.iconst 3, 1) := by decide +kernel
theorem dX4_canGoBack_11 : decode cX4_canGoBack 11 = .ok (.if_icmp .eq 9, 3) := by decide +kernel
theorem dX4_canGoBack_14 : decode cX4_canGoBack 14 = .ok (.iload_n 0, 1) := by decide +kernel
theorem dX4_canGoBack_15 : decode cX4_canGoBack 15 = .ok (.bipush 6, 2) := by decide +kernel
theorem dX4_canGoBack_17 : decode cX4_canGoBack 17 = .ok (.if_icmp .ne 7, 3) := by decide +kernel
theorem dX4_canGoBack_20 : decode cX4_canGoBack 20 = .ok (.iconst 1, 1) := by decide +kernel
theorem dX4_canGoBack_21 : decode cX4_canGoBack 21 = .ok (.goto 4, 3) := by decide +kernel
theorem dX4_canGoBack_24 : decode cX4_canGoBack 24 = .ok (.iconst 0, 1) := by decide +kernel
theorem dX4_canGoBack_25 : decode cX4_canGoBack 25 = .ok (.ireturn, 1) := by decide +kernel
theorem dX4_isOfTwo_0 : decode cX4_isOfTwo 0 = .ok (.iload_n 0, 1) := by decide +kernel
theorem dX4_isOfTwo_1 : decode cX4_isOfTwo 1 = .ok (.iconst 4, 1) := by decide +kernel
theorem dX4_isOfTwo_2 : decode cX4_isOfTwo 2 = .ok (.if_icmp .eq 14, 3) := by decide +kernel
theorem dX4_isOfTwo_5 : decode cX4_isOfTwo 5 = .ok (.iload_n 0, 1) := by decide +kernel
theorem dX4_isOfTwo_6 : decode cX4_isOfTwo 6 = .ok (.iconst 5, 1) := by decide +kernel
theorem dX4_isOfTwo_7 : decode cX4_isOfTwo 7 = .ok (.if_icmp .eq 9, 3) := by decide +kernel
theorem dX4_isOfTwo_10 : decode cX4_isOfTwo 10 = .ok (.iload_n 0, 1) := by decide +kernel
theorem dX4_isOfTwo_11 : decode cX4_isOfTwo 11 = .ok (.bipush 7, 2) := by decide +kernel
theorem dX4_isOfTwo_13 : decode cX4_isOfTwo 13 = .ok (.if_icmp .ne 7, 3) := by decide +kernel
theorem dX4_isOfTwo_16 : decode cX4_isOfTwo 16 = .ok (.iconst 1, 1) := by decide +kernel
theorem dX4_isOfTwo_17 : decode cX4_isOfTwo 17 = .ok (.goto 4, 3) := by decide +kernel
theorem dX4_isOfTwo_20 : decode cX4_isOfTwo 20 = .ok (.iconst 0, 1) := by decide +kernel
theorem dX4_isOfTwo_21 : decode cX4_isOfTwo 21 = .ok (.ireturn, 1) := by decide +kernel
theorem dX4_at_0 : decode cX4_at 0 = .ok (.aload_n 0, 1) := by decide +kernel
theorem dX4_at_1 : decode cX4_at 1 = .ok (.getfield 7, 3) := by decide +kernel
theorem dX4_at_4 : decode cX4_at 4 = .ok (.bipush 120, 2) := by decide +kernel
theorem dX4_at_6 : decode cX4_at 6 = .ok (.iload_n 1, 1) := by decide +kernel
theorem dX4_at_7 : decode cX4_at 7 = .ok (.imul, 1) := by decide +kernel
theorem dX4_at_8 : decode cX4_at 8 = .ok (.iload_n 2, 1) := by decide +kernel
theorem dX4_at_9 : decode cX4_at 9 = .ok (.iadd, 1) := by decide +kernel
theorem dX4_at_10 : decode cX4_at 10 = .ok (.iaload, 1) := by decide +kernel
theorem dX4_at_11 : decode cX4_at 11 = .ok (.ireturn, 1) := by decide +kernel
theorem dX4_adds_0 : decode cX4_adds 0 = .ok (.aload_n 0, 1) := by decide +kernel
theorem dX4_adds_1 : decode cX4_adds 1 = .ok (.getfield 7, 3) := by decide +kernel
theorem dX4_adds_4 : decode cX4_adds 4 = .ok (.bipush 120, 2) := by decide +kernel
theorem dX4_adds_6 : decode cX4_adds 6 = .ok (.iload_n 1, 1) := by decide +kernel
theorem dX4_adds_7 : decode cX4_adds 7 = .ok (.imul, 1) := by decide +kernel
theorem dX4_adds_8 : decode cX4_adds 8 = .ok (.aload_n 0, 1) := by decide +kernel
theorem dX4_adds_9 : decode cX4_adds 9 = .ok (.getfield 13, 3) := by decide +kernel
theorem dX4_adds_12 : decode cX4_adds 12 = .ok (.iload_n 1, 1) := by decide +kernel
theorem dX4_adds_13 : decode cX4_adds 13 = .ok (.iaload, 1) := by decide +kernel
theorem dX4_adds_14 : decode cX4_adds 14 = .ok (.iadd, 1) := by decide +kernel
theorem dX4_adds_15 : decode cX4_adds 15 = .ok (.iload_n 2, 1) := by decide +kernel
theorem dX4_adds_16 : decode cX4_adds 16 = .ok (.iastore, 1) := by decide +kernel
theorem dX4_adds_17 : decode cX4_adds 17 = .ok (.aload_n 0, 1) := by decide +kernel
theorem dX4_adds_18 : decode cX4_adds 18 = .ok (.getfield 13, 3) := by decide +kernel
theorem dX4_adds_21 : decode cX4_adds 21 = .ok (.iload_n 1, 1) := by decide +kernel
theorem dX4_adds_22 : decode cX4_adds 22 = .ok (.dup2, 1) := by decide +kernel
theorem dX4_adds_23 : decode cX4_adds 23 = .ok (.iaload, 1) := by decide +kernel
theorem dX4_adds_24 : decode cX4_adds 24 = .ok (.iconst 1, 1) := by decide +kernel
theorem dX4_adds_25 : decode cX4_adds 25 = .ok (.iadd, 1) := by decide +kernel
theorem dX4_adds_26 : decode cX4_adds 26 = .ok (.iastore, 1) := by decide +kernel
theorem dX4_adds_27 : decode cX4_adds 27 = .ok (.return_, 1) := by decide +kernel
theorem dX4_type_0 : decode cX4_type 0 = .ok (.aload_n 0, 1) := by decide +kernel
theorem dX4_type_1 : decode cX4_type 1 = .ok (.iload_n 1, 1) := by decide +kernel
theorem dX4_type_2 : decode cX4_type 2 = .ok (.invokevirtual 63, 3) := by decide +kernel
theorem dX4_type_5 : decode cX4_type 5 = .ok (.ifCond .ne 51, 3) := by decide +kernel
theorem dX4_type_8 : decode cX4_type 8 = .ok (.aload_n 0, 1) := by decide +kernel
theorem dX4_type_9 : decode cX4_type 9 = .ok (.iload_n 2, 1) := by decide +kernel
theorem dX4_type_10 : decode cX4_type 10 = .ok (.iconst 0, 1) := by decide +kernel
theorem dX4_type_11 : decode cX4_type 11 = .ok (.sipush 255, 3) := by decide +kernel
theorem dX4_type_14 : decode cX4_type 14 = .ok (.invokestatic 55, 3) := by decide +kernel
theorem dX4_type_17 : decode cX4_type 17 = .ok (.ifCond .ne 7, 3) := by decide +kernel
theorem dX4_type_20 : decode cX4_type 20 = .ok (.iconst 1, 1) := by decide +kernel
theorem dX4_type_21 : decode cX4_type 21 = .ok (.goto 4, 3) := by decide +kernel
theorem dX4_type_24 : decode cX4_type 24 = .ok (.iconst 0, 1) := by decide +kernel
theorem dX4_type_25 : decode cX4_type 25 = .ok (.iconst 2, 1) := by decide +kernel
theorem dX4_type_26 : decode cX4_type 26 = .ok (.invokevirtual 59, 3) := by decide +kernel
theorem dX4_type_29 : decode cX4_type 29 = .ok (.ifCond .ne 27, 3) := by decide +kernel
theorem dX4_type_32 : decode cX4_type 32 = .ok (.aload_n 0, 1) := by decide +kernel
theorem dX4_type_33 : decode cX4_type 33 = .ok (.aload_n 0, 1) := by decide +kernel
theorem dX4_type_34 : decode cX4_type 34 = .ok (.getfield 13, 3) := by decide +kernel
theorem dX4_type_37 : decode cX4_type 37 = .ok (.iload_n 1, 1) := by decide +kernel
theorem dX4_type_38 : decode cX4_type 38 = .ok (.iaload, 1) := by decide +kernel
theorem dX4_type_39 : decode cX4_type 39 = .ok (.bipush 120, 2) := by decide +kernel
theorem dX4_type_41 : decode cX4_type 41 = .ok (.if_icmp .ne 7, 3) := by decide +kernel
theorem dX4_type_44 : decode cX4_type 44 = .ok (.iconst 1, 1) := by decide +kernel
theorem dX4_type_45 : decode cX4_type 45 = .ok (.goto 4, 3) := by decide +kernel
theorem dX4_type_48 : decode cX4_type 48 = .ok (.iconst 0, 1) := by decide +kernel
theorem dX4_type_49 : decode cX4_type 49 = .ok (.iconst 3, 1) := by decide +kernel
theorem dX4_type_50 : decode cX4_type 50 = .ok (.invokevirtual 59, 3) := by decide +kernel
theorem dX4_type_53 : decode cX4_type 53 = .ok (.ifCond .eq 5, 3) := by decide +kernel
theorem dX4_type_56 : decode cX4_type 56 = .ok (.iconst 0, 1) := by decide +kernel
theorem dX4_type_57 : decode cX4_type 57 = .ok (.ireturn, 1) := by decide +kernel
theorem dX4_type_58 : decode cX4_type 58 = .ok (.aload_n 0, 1) := by decide +kernel
theorem dX4_type_59 : decode cX4_type 59 = .ok (.iload_n 1, 1) := by decide +kernel
theorem dX4_type_60 : decode cX4_type 60 = .ok (.iload_n 2, 1) := by decide +kernel
theorem dX4_type_61 : decode cX4_type 61 = .ok (.invokevirtual 67, 3) := by decide +kernel
theorem dX4_type_64 : decode cX4_type 64 = .ok (.aload_n 0, 1) := by decide +kernel
theorem dX4_type_65 : decode cX4_type 65 = .ok (.getfield 13, 3) := by decide +kernel
theorem dX4_type_68 : decode cX4_type 68 = .ok (.iload_n 1, 1) := by decide +kernel
theorem dX4_type_69 : decode cX4_type 69 = .ok (.iaload, 1) := by decide +kernel
theorem dX4_type_70 : decode cX4_type 70 = .ok (.ireturn, 1) := by decide +kernel
theorem dX4_typeMany_0 : decode cX4_typeMany 0 = .ok (.aload_n 0, 1) := by decide +kernel
theorem dX4_typeMany_1 : decode cX4_typeMany 1 = .ok (.iload_n 1, 1) := by decide +kernel
theorem dX4_typeMany_2 : decode cX4_typeMany 2 = .ok (.invokevirtual 63, 3) := by decide +kernel
theorem dX4_typeMany_5 : decode cX4_typeMany 5 = .ok (.ifCond .ne 63, 3) := by decide +kernel
theorem dX4_typeMany_8 : decode cX4_typeMany 8 = .ok (.aload_n 0, 1) := by decide +kernel
theorem dX4_typeMany_9 : decode cX4_typeMany 9 = .ok (.iload_n 2, 1) := by decide +kernel
theorem dX4_typeMany_10 : decode cX4_typeMany 10 = .ok (.iconst 0, 1) := by decide +kernel
theorem dX4_typeMany_11 : decode cX4_typeMany 11 = .ok (.sipush 255, 3) := by decide +kernel
theorem dX4_typeMany_14 : decode cX4_typeMany 14 = .ok (.invokestatic 55, 3) := by decide +kernel
theorem dX4_typeMany_17 : decode cX4_typeMany 17 = .ok (.ifCond .eq 13, 3) := by decide +kernel
theorem dX4_typeMany_20 : decode cX4_typeMany 20 = .ok (.iload_n 3, 1) := by decide +kernel
theorem dX4_typeMany_21 : decode cX4_typeMany 21 = .ok (.iconst 0, 1) := by decide +kernel
theorem dX4_typeMany_22 : decode cX4_typeMany 22 = .ok (.bipush 60, 2) := by decide +kernel
theorem dX4_typeMany_24 : decode cX4_typeMany 24 = .ok (.invokestatic 55, 3) := by decide +kernel
theorem dX4_typeMany_27 : decode cX4_typeMany 27 = .ok (.ifCond .ne 7, 3) := by decide +kernel
theorem dX4_typeMany_30 : decode cX4_typeMany 30 = .ok (.iconst 1, 1) := by decide +kernel
theorem dX4_typeMany_31 : decode cX4_typeMany 31 = .ok (.goto 4, 3) := by decide +kernel
theorem dX4_typeMany_34 : decode cX4_typeMany 34 = .ok (.iconst 0, 1) := by decide +kernel
theorem dX4_typeMany_35 : decode cX4_typeMany 35 = .ok (.iconst 2, 1) := by decide +kernel
theorem dX4_typeMany_36 : decode cX4_typeMany 36 = .ok (.invokevirtual 59, 3) := by decide +kernel
theorem dX4_typeMany_39 : decode cX4_typeMany 39 = .ok (.ifCond .ne 29, 3) := by decide +kernel
theorem dX4_typeMany_42 : decode cX4_typeMany 42 = .ok (.aload_n 0, 1) := by decide +kernel
theorem dX4_typeMany_43 : decode cX4_typeMany 43 = .ok (.aload_n 0, 1) := by decide +kernel
theorem dX4_typeMany_44 : decode cX4_typeMany 44 = .ok (.getfield 13, 3) := by decide +kernel
theorem dX4_typeMany_47 : decode cX4_typeMany 47 = .ok (.iload_n 1, 1) := by decide +kernel
theorem dX4_typeMany_48 : decode cX4_typeMany 48 = .ok (.iaload, 1) := by decide +kernel
theorem dX4_typeMany_49 : decode cX4_typeMany 49 = .ok (.iload_n 3, 1) := by decide +kernel
theorem dX4_typeMany_50 : decode cX4_typeMany 50 = .ok (.iadd, 1) := by decide +kernel
theorem dX4_typeMany_51 : decode cX4_typeMany 51 = .ok (.bipush 120, 2) := by decide +kernel
theorem dX4_typeMany_53 : decode cX4_typeMany 53 = .ok (.if_icmp .le 7, 3) := by decide +kernel
theorem dX4_typeMany_56 : decode cX4_typeMany 56 = .ok (.iconst 1, 1) := by decide +kernel
theorem dX4_typeMany_57 : decode cX4_typeMany 57 = .ok (.goto 4, 3) := by decide +kernel
theorem dX4_typeMany_60 : decode cX4_typeMany 60 = .ok (.iconst 0, 1) := by decide +kernel
theorem dX4_typeMany_61 : decode cX4_typeMany 61 = .ok (.iconst 3, 1) := by decide +kernel
theorem dX4_typeMany_62 : decode cX4_typeMany 62 = .ok (.invokevirtual 59, 3) := by decide +kernel
theorem dX4_typeMany_65 : decode cX4_typeMany 65 = .ok (.ifCond .eq 5, 3) := by decide +kernel
theorem dX4_typeMany_68 : decode cX4_typeMany 68 = .ok (.iconst 0, 1) := by decide +kernel
theorem dX4_typeMany_69 : decode cX4_typeMany 69 = .ok (.ireturn, 1) := by decide +kernel
theorem dX4_typeMany_70 : decode cX4_typeMany 70 = .ok (.iconst 0, 1) := by decide +kernel
theorem dX4_typeMany_71 : decode cX4_typeMany 71 = .ok (.istore 4, 2) := by decide +kernel
theorem dX4_typeMany_73 : decode cX4_typeMany 73 = .ok (.iload 4, 2) := by decide +kernel
theorem dX4_typeMany_75 : decode cX4_typeMany 75 = .ok (.iload_n 3, 1) := by decide +kernel
theorem dX4_typeMany_76 : decode cX4_typeMany 76 = .ok (.if_icmp .ge 15, 3) := by decide +kernel
theorem dX4_typeMany_79 : decode cX4_typeMany 79 = .ok (.aload_n 0, 1) := by decide +kernel
theorem dX4_typeMany_80 : decode cX4_typeMany 80 = .ok (.iload_n 1, 1) := by decide +kernel
theorem dX4_typeMany_81 : decode cX4_typeMany 81 = .ok (.iload_n 2, 1) := by decide +kernel
theorem dX4_typeMany_82 : decode cX4_typeMany 82 = .ok (.invokevirtual 67, 3) := by decide +kernel
theorem dX4_typeMany_85 : decode cX4_typeMany 85 = .ok (.iinc 4 1, 3) := by decide +kernel
theorem dX4_typeMany_88 : decode cX4_typeMany 88 = .ok (.goto (-15), 3) := by decide +kernel
theorem dX4_typeMany_91 : decode cX4_typeMany 91 = .ok (.aload_n 0, 1) := by decide +kernel
theorem dX4_typeMany_92 : decode cX4_typeMany 92 = .ok (.getfield 13, 3) := by decide +kernel
theorem dX4_typeMany_95 : decode cX4_typeMany 95 = .ok (.iload_n 1, 1) := by decide +kernel
theorem dX4_typeMany_96 : decode cX4_typeMany 96 = .ok (.iaload, 1) := by decide +kernel
theorem dX4_typeMany_97 : decode cX4_typeMany 97 = .ok (.ireturn, 1) := by decide +kernel
theorem dX4_cut_0 : decode cX4_cut 0 = .ok (.aload_n 0, 1) := by decide +kernel
theorem dX4_cut_1 : decode cX4_cut 1 = .ok (.iload_n 1, 1) := by decide +kernel
theorem dX4_cut_2 : decode cX4_cut 2 = .ok (.invokevirtual 63, 3) := by decide +kernel
theorem dX4_cut_5 : decode cX4_cut 5 = .ok (.ifCond .ne 25, 3) := by decide +kernel
theorem dX4_cut_8 : decode cX4_cut 8 = .ok (.aload_n 0, 1) := by decide +kernel
theorem dX4_cut_9 : decode cX4_cut 9 = .ok (.aload_n 0, 1) := by decide +kernel
theorem dX4_cut_10 : decode cX4_cut 10 = .ok (.getfield 13, 3) := by decide +kernel
theorem dX4_cut_13 : decode cX4_cut 13 = .ok (.iload_n 1, 1) := by decide +kernel
theorem dX4_cut_14 : decode cX4_cut 14 = .ok (.iaload, 1) := by decide +kernel
theorem dX4_cut_15 : decode cX4_cut 15 = .ok (.ifCond .ne 7, 3) := by decide +kernel
theorem dX4_cut_18 : decode cX4_cut 18 = .ok (.iconst 1, 1) := by decide +kernel
theorem dX4_cut_19 : decode cX4_cut 19 = .ok (.goto 4, 3) := by decide +kernel
theorem dX4_cut_22 : decode cX4_cut 22 = .ok (.iconst 0, 1) := by decide +kernel
theorem dX4_cut_23 : decode cX4_cut 23 = .ok (.iconst 2, 1) := by decide +kernel
theorem dX4_cut_24 : decode cX4_cut 24 = .ok (.invokevirtual 59, 3) := by decide +kernel
theorem dX4_cut_27 : decode cX4_cut 27 = .ok (.ifCond .eq 5, 3) := by decide +kernel
theorem dX4_cut_30 : decode cX4_cut 30 = .ok (.iconst 0, 1) := by decide +kernel
theorem dX4_cut_31 : decode cX4_cut 31 = .ok (.ireturn, 1) := by decide +kernel
theorem dX4_cut_32 : decode cX4_cut 32 = .ok (.aload_n 0, 1) := by decide +kernel
theorem dX4_cut_33 : decode cX4_cut 33 = .ok (.getfield 13, 3) := by decide +kernel
theorem dX4_cut_36 : decode cX4_cut 36 = .ok (.iload_n 1, 1) := by decide +kernel
theorem dX4_cut_37 : decode cX4_cut 37 = .ok (.dup2, 1) := by decide +kernel
theorem dX4_cut_38 : decode cX4_cut 38 = .ok (.iaload, 1) := by decide +kernel
theorem dX4_cut_39 : decode cX4_cut 39 = .ok (.iconst 1, 1) := by decide +kernel
theorem dX4_cut_40 : decode cX4_cut 40 = .ok (.isub, 1) := by decide +kernel
theorem dX4_cut_41 : decode cX4_cut 41 = .ok (.iastore, 1) := by decide +kernel
theorem dX4_cut_42 : decode cX4_cut 42 = .ok (.aload_n 0, 1) := by decide +kernel
theorem dX4_cut_43 : decode cX4_cut 43 = .ok (.iload_n 1, 1) := by decide +kernel
theorem dX4_cut_44 : decode cX4_cut 44 = .ok (.aload_n 0, 1) := by decide +kernel
theorem dX4_cut_45 : decode cX4_cut 45 = .ok (.getfield 13, 3) := by decide +kernel
theorem dX4_cut_48 : decode cX4_cut 48 = .ok (.iload_n 1, 1) := by decide +kernel
theorem dX4_cut_49 : decode cX4_cut 49 = .ok (.iaload, 1) := by decide +kernel
theorem dX4_cut_50 : decode cX4_cut 50 = .ok (.invokevirtual 71, 3) := by decide +kernel
theorem dX4_cut_53 : decode cX4_cut 53 = .ok (.ireturn, 1) := by decide +kernel
theorem dX4_clear_0 : decode cX4_clear 0 = .ok (.aload_n 0, 1) := by decide +kernel
theorem dX4_clear_1 : decode cX4_clear 1 = .ok (.iload_n 1, 1) := by decide +kernel
theorem dX4_clear_2 : decode cX4_clear 2 = .ok (.invokevirtual 63, 3) := by decide +kernel
theorem dX4_clear_5 : decode cX4_clear 5 = .ok (.ifCond .eq 5, 3) := by decide +kernel
theorem dX4_clear_8 : decode cX4_clear 8 = .ok (.iconst 0, 1) := by decide +kernel
theorem dX4_clear_9 : decode cX4_clear 9 = .ok (.ireturn, 1) := by decide +kernel
theorem dX4_clear_10 : decode cX4_clear 10 = .ok (.aload_n 0, 1) := by decide +kernel
theorem dX4_clear_11 : decode cX4_clear 11 = .ok (.getfield 13, 3) := by decide +kernel
theorem dX4_clear_14 : decode cX4_clear 14 = .ok (.iload_n 1, 1) := by decide +kernel
theorem dX4_clear_15 : decode cX4_clear 15 = .ok (.iaload, 1) := by decide +kernel
theorem dX4_clear_16 : decode cX4_clear 16 = .ok (.istore_n 2, 1) := by decide +kernel
theorem dX4_clear_17 : decode cX4_clear 17 = .ok (.aload_n 0, 1) := by decide +kernel
theorem dX4_clear_18 : decode cX4_clear 18 = .ok (.getfield 13, 3) := by decide +kernel
theorem dX4_clear_21 : decode cX4_clear 21 = .ok (.iload_n 1, 1) := by decide +kernel
theorem dX4_clear_22 : decode cX4_clear 22 = .ok (.iconst 0, 1) := by decide +kernel
theorem dX4_clear_23 : decode cX4_clear 23 = .ok (.iastore, 1) := by decide +kernel
theorem dX4_clear_24 : decode cX4_clear 24 = .ok (.iload_n 2, 1) := by decide +kernel
theorem dX4_clear_25 : decode cX4_clear 25 = .ok (.ireturn, 1) := by decide +kernel
theorem dX4_length_0 : decode cX4_length 0 = .ok (.aload_n 0, 1) := by decide +kernel
theorem dX4_length_1 : decode cX4_length 1 = .ok (.iload_n 1, 1) := by decide +kernel
theorem dX4_length_2 : decode cX4_length 2 = .ok (.invokevirtual 63, 3) := by decide +kernel
theorem dX4_length_5 : decode cX4_length 5 = .ok (.ifCond .eq 7, 3) := by decide +kernel
theorem dX4_length_8 : decode cX4_length 8 = .ok (.iconst 0, 1) := by decide +kernel
theorem dX4_length_9 : decode cX4_length 9 = .ok (.goto 9, 3) := by decide +kernel
theorem dX4_length_12 : decode cX4_length 12 = .ok (.aload_n 0, 1) := by decide +kernel
theorem dX4_length_13 : decode cX4_length 13 = .ok (.getfield 13, 3) := by decide +kernel
theorem dX4_length_16 : decode cX4_length 16 = .ok (.iload_n 1, 1) := by decide +kernel
theorem dX4_length_17 : decode cX4_length 17 = .ok (.iaload, 1) := by decide +kernel
theorem dX4_length_18 : decode cX4_length 18 = .ok (.ireturn, 1) := by decide +kernel
theorem dX4_byteAt_0 : decode cX4_byteAt 0 = .ok (.aload_n 0, 1) := by decide +kernel
theorem dX4_byteAt_1 : decode cX4_byteAt 1 = .ok (.iload_n 1, 1) := by decide +kernel
theorem dX4_byteAt_2 : decode cX4_byteAt 2 = .ok (.invokevirtual 63, 3) := by decide +kernel
theorem dX4_byteAt_5 : decode cX4_byteAt 5 = .ok (.ifCond .ne 32, 3) := by decide +kernel
theorem dX4_byteAt_8 : decode cX4_byteAt 8 = .ok (.aload_n 0, 1) := by decide +kernel
theorem dX4_byteAt_9 : decode cX4_byteAt 9 = .ok (.iload_n 2, 1) := by decide +kernel
theorem dX4_byteAt_10 : decode cX4_byteAt 10 = .ok (.iconst 0, 1) := by decide +kernel
theorem dX4_byteAt_11 : decode cX4_byteAt 11 = .ok (.aload_n 0, 1) := by decide +kernel
theorem dX4_byteAt_12 : decode cX4_byteAt 12 = .ok (.getfield 13, 3) := by decide +kernel
theorem dX4_byteAt_15 : decode cX4_byteAt 15 = .ok (.iload_n 1, 1) := by decide +kernel
theorem dX4_byteAt_16 : decode cX4_byteAt 16 = .ok (.iaload, 1) := by decide +kernel
theorem dX4_byteAt_17 : decode cX4_byteAt 17 = .ok (.iconst 1, 1) := by decide +kernel
theorem dX4_byteAt_18 : decode cX4_byteAt 18 = .ok (.isub, 1) := by decide +kernel
theorem dX4_byteAt_19 : decode cX4_byteAt 19 = .ok (.invokestatic 55, 3) := by decide +kernel
theorem dX4_byteAt_22 : decode cX4_byteAt 22 = .ok (.ifCond .ne 7, 3) := by decide +kernel
theorem dX4_byteAt_25 : decode cX4_byteAt 25 = .ok (.iconst 1, 1) := by decide +kernel
theorem dX4_byteAt_26 : decode cX4_byteAt 26 = .ok (.goto 4, 3) := by decide +kernel
theorem dX4_byteAt_29 : decode cX4_byteAt 29 = .ok (.iconst 0, 1) := by decide +kernel
theorem dX4_byteAt_30 : decode cX4_byteAt 30 = .ok (.iconst 1, 1) := by decide +kernel
theorem dX4_byteAt_31 : decode cX4_byteAt 31 = .ok (.invokevirtual 59, 3) := by decide +kernel
theorem dX4_byteAt_34 : decode cX4_byteAt 34 = .ok (.ifCond .eq 7, 3) := by decide +kernel
theorem dX4_byteAt_37 : decode cX4_byteAt 37 = .ok (.iconst 0, 1) := by decide +kernel
theorem dX4_byteAt_38 : decode cX4_byteAt 38 = .ok (.goto 9, 3) := by decide +kernel
theorem dX4_byteAt_41 : decode cX4_byteAt 41 = .ok (.aload_n 0, 1) := by decide +kernel
theorem dX4_byteAt_42 : decode cX4_byteAt 42 = .ok (.iload_n 1, 1) := by decide +kernel
theorem dX4_byteAt_43 : decode cX4_byteAt 43 = .ok (.iload_n 2, 1) := by decide +kernel
theorem dX4_byteAt_44 : decode cX4_byteAt 44 = .ok (.invokevirtual 71, 3) := by decide +kernel
theorem dX4_byteAt_47 : decode cX4_byteAt 47 = .ok (.ireturn, 1) := by decide +kernel
theorem dX4_endsOf_0 : decode cX4_endsOf 0 = .ok (.iconst 0, 1) := by decide +kernel
theorem dX4_endsOf_1 : decode cX4_endsOf 1 = .ok (.istore_n 2, 1) := by decide +kernel
theorem dX4_endsOf_2 : decode cX4_endsOf 2 = .ok (.iconst 0, 1) := by decide +kernel
theorem dX4_endsOf_3 : decode cX4_endsOf 3 = .ok (.istore_n 3, 1) := by decide +kernel
theorem dX4_endsOf_4 : decode cX4_endsOf 4 = .ok (.iload_n 3, 1) := by decide +kernel
theorem dX4_endsOf_5 : decode cX4_endsOf 5 = .ok (.aload_n 0, 1) := by decide +kernel
theorem dX4_endsOf_6 : decode cX4_endsOf 6 = .ok (.getfield 13, 3) := by decide +kernel
theorem dX4_endsOf_9 : decode cX4_endsOf 9 = .ok (.iload_n 1, 1) := by decide +kernel
theorem dX4_endsOf_10 : decode cX4_endsOf 10 = .ok (.iaload, 1) := by decide +kernel
theorem dX4_endsOf_11 : decode cX4_endsOf 11 = .ok (.if_icmp .ge 68, 3) := by decide +kernel
theorem dX4_endsOf_14 : decode cX4_endsOf 14 = .ok (.iload_n 3, 1) := by decide +kernel
theorem dX4_endsOf_15 : decode cX4_endsOf 15 = .ok (.ifCond .le 20, 3) := by decide +kernel
theorem dX4_endsOf_18 : decode cX4_endsOf 18 = .ok (.aload_n 0, 1) := by decide +kernel
theorem dX4_endsOf_19 : decode cX4_endsOf 19 = .ok (.iload_n 1, 1) := by decide +kernel
theorem dX4_endsOf_20 : decode cX4_endsOf 20 = .ok (.iload_n 3, 1) := by decide +kernel
theorem dX4_endsOf_21 : decode cX4_endsOf 21 = .ok (.iconst 1, 1) := by decide +kernel
theorem dX4_endsOf_22 : decode cX4_endsOf 22 = .ok (.isub, 1) := by decide +kernel
theorem dX4_endsOf_23 : decode cX4_endsOf 23 = .ok (.invokevirtual 71, 3) := by decide +kernel
theorem dX4_endsOf_26 : decode cX4_endsOf 26 = .ok (.bipush 13, 2) := by decide +kernel
theorem dX4_endsOf_28 : decode cX4_endsOf 28 = .ok (.if_icmp .ne 7, 3) := by decide +kernel
theorem dX4_endsOf_31 : decode cX4_endsOf 31 = .ok (.iconst 1, 1) := by decide +kernel
theorem dX4_endsOf_32 : decode cX4_endsOf 32 = .ok (.goto 4, 3) := by decide +kernel
theorem dX4_endsOf_35 : decode cX4_endsOf 35 = .ok (.iconst 0, 1) := by decide +kernel
theorem dX4_endsOf_36 : decode cX4_endsOf 36 = .ok (.istore 4, 2) := by decide +kernel
theorem dX4_endsOf_38 : decode cX4_endsOf 38 = .ok (.iload_n 2, 1) := by decide +kernel
theorem dX4_endsOf_39 : decode cX4_endsOf 39 = .ok (.aload_n 0, 1) := by decide +kernel
theorem dX4_endsOf_40 : decode cX4_endsOf 40 = .ok (.iload_n 1, 1) := by decide +kernel
theorem dX4_endsOf_41 : decode cX4_endsOf 41 = .ok (.iload_n 3, 1) := by decide +kernel
theorem dX4_endsOf_42 : decode cX4_endsOf 42 = .ok (.invokevirtual 71, 3) := by decide +kernel
theorem dX4_endsOf_45 : decode cX4_endsOf 45 = .ok (.bipush 13, 2) := by decide +kernel
theorem dX4_endsOf_47 : decode cX4_endsOf 47 = .ok (.if_icmp .eq 19, 3) := by decide +kernel
theorem dX4_endsOf_50 : decode cX4_endsOf 50 = .ok (.aload_n 0, 1) := by decide +kernel
theorem dX4_endsOf_51 : decode cX4_endsOf 51 = .ok (.iload_n 1, 1) := by decide +kernel
theorem dX4_endsOf_52 : decode cX4_endsOf 52 = .ok (.iload_n 3, 1) := by decide +kernel
theorem dX4_endsOf_53 : decode cX4_endsOf 53 = .ok (.invokevirtual 71, 3) := by decide +kernel
theorem dX4_endsOf_56 : decode cX4_endsOf 56 = .ok (.bipush 10, 2) := by decide +kernel
theorem dX4_endsOf_58 : decode cX4_endsOf 58 = .ok (.if_icmp .ne 12, 3) := by decide +kernel
theorem dX4_endsOf_61 : decode cX4_endsOf 61 = .ok (.iload 4, 2) := by decide +kernel
theorem dX4_endsOf_63 : decode cX4_endsOf 63 = .ok (.ifCond .ne 7, 3) := by decide +kernel
theorem dX4_endsOf_66 : decode cX4_endsOf 66 = .ok (.iconst 1, 1) := by decide +kernel
theorem dX4_endsOf_67 : decode cX4_endsOf 67 = .ok (.goto 4, 3) := by decide +kernel
theorem dX4_endsOf_70 : decode cX4_endsOf 70 = .ok (.iconst 0, 1) := by decide +kernel
theorem dX4_endsOf_71 : decode cX4_endsOf 71 = .ok (.iadd, 1) := by decide +kernel
theorem dX4_endsOf_72 : decode cX4_endsOf 72 = .ok (.istore_n 2, 1) := by decide +kernel
theorem dX4_endsOf_73 : decode cX4_endsOf 73 = .ok (.iinc 3 1, 3) := by decide +kernel
theorem dX4_endsOf_76 : decode cX4_endsOf 76 = .ok (.goto (-72), 3) := by decide +kernel
theorem dX4_endsOf_79 : decode cX4_endsOf 79 = .ok (.iload_n 2, 1) := by decide +kernel
theorem dX4_endsOf_80 : decode cX4_endsOf 80 = .ok (.ireturn, 1) := by decide +kernel
theorem dX4_ends_0 : decode cX4_ends 0 = .ok (.aload_n 0, 1) := by decide +kernel
theorem dX4_ends_1 : decode cX4_ends 1 = .ok (.iload_n 1, 1) := by decide +kernel
theorem dX4_ends_2 : decode cX4_ends 2 = .ok (.invokevirtual 63, 3) := by decide +kernel
theorem dX4_ends_5 : decode cX4_ends 5 = .ok (.ifCond .eq 7, 3) := by decide +kernel
theorem dX4_ends_8 : decode cX4_ends 8 = .ok (.iconst 0, 1) := by decide +kernel
theorem dX4_ends_9 : decode cX4_ends 9 = .ok (.goto 8, 3) := by decide +kernel
theorem dX4_ends_12 : decode cX4_ends 12 = .ok (.aload_n 0, 1) := by decide +kernel
theorem dX4_ends_13 : decode cX4_ends 13 = .ok (.iload_n 1, 1) := by decide +kernel
theorem dX4_ends_14 : decode cX4_ends 14 = .ok (.invokevirtual 75, 3) := by decide +kernel
theorem dX4_ends_17 : decode cX4_ends 17 = .ok (.ireturn, 1) := by decide +kernel
theorem dX4_comes_0 : decode cX4_comes 0 = .ok (.aload_n 0, 1) := by decide +kernel
theorem dX4_comes_1 : decode cX4_comes 1 = .ok (.getfield 22, 3) := by decide +kernel
theorem dX4_comes_4 : decode cX4_comes 4 = .ok (.sipush 240, 3) := by decide +kernel
theorem dX4_comes_7 : decode cX4_comes 7 = .ok (.iload_n 1, 1) := by decide +kernel
theorem dX4_comes_8 : decode cX4_comes 8 = .ok (.imul, 1) := by decide +kernel
theorem dX4_comes_9 : decode cX4_comes 9 = .ok (.aload_n 0, 1) := by decide +kernel
theorem dX4_comes_10 : decode cX4_comes 10 = .ok (.getfield 25, 3) := by decide +kernel
theorem dX4_comes_13 : decode cX4_comes 13 = .ok (.iload_n 1, 1) := by decide +kernel
theorem dX4_comes_14 : decode cX4_comes 14 = .ok (.iaload, 1) := by decide +kernel
theorem dX4_comes_15 : decode cX4_comes 15 = .ok (.iadd, 1) := by decide +kernel
theorem dX4_comes_16 : decode cX4_comes 16 = .ok (.iload_n 2, 1) := by decide +kernel
theorem dX4_comes_17 : decode cX4_comes 17 = .ok (.iastore, 1) := by decide +kernel
theorem dX4_comes_18 : decode cX4_comes 18 = .ok (.aload_n 0, 1) := by decide +kernel
theorem dX4_comes_19 : decode cX4_comes 19 = .ok (.getfield 25, 3) := by decide +kernel
theorem dX4_comes_22 : decode cX4_comes 22 = .ok (.iload_n 1, 1) := by decide +kernel
theorem dX4_comes_23 : decode cX4_comes 23 = .ok (.dup2, 1) := by decide +kernel
theorem dX4_comes_24 : decode cX4_comes 24 = .ok (.iaload, 1) := by decide +kernel
theorem dX4_comes_25 : decode cX4_comes 25 = .ok (.iconst 1, 1) := by decide +kernel
theorem dX4_comes_26 : decode cX4_comes 26 = .ok (.iadd, 1) := by decide +kernel
theorem dX4_comes_27 : decode cX4_comes 27 = .ok (.iastore, 1) := by decide +kernel
theorem dX4_comes_28 : decode cX4_comes 28 = .ok (.return_, 1) := by decide +kernel
theorem dX4_goesIn_0 : decode cX4_goesIn 0 = .ok (.iload 4, 2) := by decide +kernel
theorem dX4_goesIn_2 : decode cX4_goesIn 2 = .ok (.istore 5, 2) := by decide +kernel
theorem dX4_goesIn_4 : decode cX4_goesIn 4 = .ok (.iconst 0, 1) := by decide +kernel
theorem dX4_goesIn_5 : decode cX4_goesIn 5 = .ok (.istore 6, 2) := by decide +kernel
theorem dX4_goesIn_7 : decode cX4_goesIn 7 = .ok (.iload 6, 2) := by decide +kernel
theorem dX4_goesIn_9 : decode cX4_goesIn 9 = .ok (.aload_n 0, 1) := by decide +kernel
theorem dX4_goesIn_10 : decode cX4_goesIn 10 = .ok (.getfield 13, 3) := by decide +kernel
theorem dX4_goesIn_13 : decode cX4_goesIn 13 = .ok (.iload_n 2, 1) := by decide +kernel
theorem dX4_goesIn_14 : decode cX4_goesIn 14 = .ok (.iaload, 1) := by decide +kernel
theorem dX4_goesIn_15 : decode cX4_goesIn 15 = .ok (.if_icmp .ge 74, 3) := by decide +kernel
theorem dX4_goesIn_18 : decode cX4_goesIn 18 = .ok (.aload_n 0, 1) := by decide +kernel
theorem dX4_goesIn_19 : decode cX4_goesIn 19 = .ok (.iload_n 2, 1) := by decide +kernel
theorem dX4_goesIn_20 : decode cX4_goesIn 20 = .ok (.iload 6, 2) := by decide +kernel
theorem dX4_goesIn_22 : decode cX4_goesIn 22 = .ok (.invokevirtual 71, 3) := by decide +kernel
theorem dX4_goesIn_25 : decode cX4_goesIn 25 = .ok (.istore 7, 2) := by decide +kernel
theorem dX4_goesIn_27 : decode cX4_goesIn 27 = .ok (.iload_n 3, 1) := by decide +kernel
theorem dX4_goesIn_28 : decode cX4_goesIn 28 = .ok (.ifCond .ne 13, 3) := by decide +kernel
theorem dX4_goesIn_31 : decode cX4_goesIn 31 = .ok (.aload_n 0, 1) := by decide +kernel
theorem dX4_goesIn_32 : decode cX4_goesIn 32 = .ok (.iload_n 1, 1) := by decide +kernel
theorem dX4_goesIn_33 : decode cX4_goesIn 33 = .ok (.iload 7, 2) := by decide +kernel
theorem dX4_goesIn_35 : decode cX4_goesIn 35 = .ok (.invokevirtual 79, 3) := by decide +kernel
theorem dX4_goesIn_38 : decode cX4_goesIn 38 = .ok (.goto 41, 3) := by decide +kernel
theorem dX4_goesIn_41 : decode cX4_goesIn 41 = .ok (.iload 7, 2) := by decide +kernel
theorem dX4_goesIn_43 : decode cX4_goesIn 43 = .ok (.bipush 13, 2) := by decide +kernel
theorem dX4_goesIn_45 : decode cX4_goesIn 45 = .ok (.if_icmp .ne 13, 3) := by decide +kernel
theorem dX4_goesIn_48 : decode cX4_goesIn 48 = .ok (.aload_n 0, 1) := by decide +kernel
theorem dX4_goesIn_49 : decode cX4_goesIn 49 = .ok (.iload_n 1, 1) := by decide +kernel
theorem dX4_goesIn_50 : decode cX4_goesIn 50 = .ok (.bipush 10, 2) := by decide +kernel
theorem dX4_goesIn_52 : decode cX4_goesIn 52 = .ok (.invokevirtual 79, 3) := by decide +kernel
theorem dX4_goesIn_55 : decode cX4_goesIn 55 = .ok (.goto 24, 3) := by decide +kernel
theorem dX4_goesIn_58 : decode cX4_goesIn 58 = .ok (.iload 7, 2) := by decide +kernel
theorem dX4_goesIn_60 : decode cX4_goesIn 60 = .ok (.bipush 10, 2) := by decide +kernel
theorem dX4_goesIn_62 : decode cX4_goesIn 62 = .ok (.if_icmp .ne 10, 3) := by decide +kernel
theorem dX4_goesIn_65 : decode cX4_goesIn 65 = .ok (.iload 5, 2) := by decide +kernel
theorem dX4_goesIn_67 : decode cX4_goesIn 67 = .ok (.bipush 13, 2) := by decide +kernel
theorem dX4_goesIn_69 : decode cX4_goesIn 69 = .ok (.if_icmp .eq 10, 3) := by decide +kernel
theorem dX4_goesIn_72 : decode cX4_goesIn 72 = .ok (.aload_n 0, 1) := by decide +kernel
theorem dX4_goesIn_73 : decode cX4_goesIn 73 = .ok (.iload_n 1, 1) := by decide +kernel
theorem dX4_goesIn_74 : decode cX4_goesIn 74 = .ok (.iload 7, 2) := by decide +kernel
theorem dX4_goesIn_76 : decode cX4_goesIn 76 = .ok (.invokevirtual 79, 3) := by decide +kernel
theorem dX4_goesIn_79 : decode cX4_goesIn 79 = .ok (.iload 7, 2) := by decide +kernel
theorem dX4_goesIn_81 : decode cX4_goesIn 81 = .ok (.istore 5, 2) := by decide +kernel
theorem dX4_goesIn_83 : decode cX4_goesIn 83 = .ok (.iinc 6 1, 3) := by decide +kernel
theorem dX4_goesIn_86 : decode cX4_goesIn 86 = .ok (.goto (-79), 3) := by decide +kernel
theorem dX4_goesIn_89 : decode cX4_goesIn 89 = .ok (.iload 5, 2) := by decide +kernel
theorem dX4_goesIn_91 : decode cX4_goesIn 91 = .ok (.ireturn, 1) := by decide +kernel
theorem dX4_open_0 : decode cX4_open 0 = .ok (.aload_n 0, 1) := by decide +kernel
theorem dX4_open_1 : decode cX4_open 1 = .ok (.iload_n 1, 1) := by decide +kernel
theorem dX4_open_2 : decode cX4_open 2 = .ok (.invokevirtual 63, 3) := by decide +kernel
theorem dX4_open_5 : decode cX4_open 5 = .ok (.ifCond .ne 43, 3) := by decide +kernel
theorem dX4_open_8 : decode cX4_open 8 = .ok (.aload_n 0, 1) := by decide +kernel
theorem dX4_open_9 : decode cX4_open 9 = .ok (.iload_n 3, 1) := by decide +kernel
theorem dX4_open_10 : decode cX4_open 10 = .ok (.invokevirtual 63, 3) := by decide +kernel
theorem dX4_open_13 : decode cX4_open 13 = .ok (.ifCond .ne 35, 3) := by decide +kernel
theorem dX4_open_16 : decode cX4_open 16 = .ok (.aload_n 0, 1) := by decide +kernel
theorem dX4_open_17 : decode cX4_open 17 = .ok (.iload 4, 2) := by decide +kernel
theorem dX4_open_19 : decode cX4_open 19 = .ok (.invokevirtual 63, 3) := by decide +kernel
theorem dX4_open_22 : decode cX4_open 22 = .ok (.ifCond .ne 26, 3) := by decide +kernel
theorem dX4_open_25 : decode cX4_open 25 = .ok (.aload_n 0, 1) := by decide +kernel
theorem dX4_open_26 : decode cX4_open 26 = .ok (.iload_n 2, 1) := by decide +kernel
theorem dX4_open_27 : decode cX4_open 27 = .ok (.iconst 0, 1) := by decide +kernel
theorem dX4_open_28 : decode cX4_open 28 = .ok (.bipush 7, 2) := by decide +kernel
theorem dX4_open_30 : decode cX4_open 30 = .ok (.invokestatic 55, 3) := by decide +kernel
theorem dX4_open_33 : decode cX4_open 33 = .ok (.ifCond .ne 7, 3) := by decide +kernel
theorem dX4_open_36 : decode cX4_open 36 = .ok (.iconst 1, 1) := by decide +kernel
theorem dX4_open_37 : decode cX4_open 37 = .ok (.goto 4, 3) := by decide +kernel
theorem dX4_open_40 : decode cX4_open 40 = .ok (.iconst 0, 1) := by decide +kernel
theorem dX4_open_41 : decode cX4_open 41 = .ok (.iconst 2, 1) := by decide +kernel
theorem dX4_open_42 : decode cX4_open 42 = .ok (.invokevirtual 59, 3) := by decide +kernel
theorem dX4_open_45 : decode cX4_open 45 = .ok (.ifCond .eq 5, 3) := by decide +kernel
theorem dX4_open_48 : decode cX4_open 48 = .ok (.iconst 0, 1) := by decide +kernel
theorem dX4_open_49 : decode cX4_open 49 = .ok (.ireturn, 1) := by decide +kernel
theorem dX4_open_50 : decode cX4_open 50 = .ok (.iload_n 2, 1) := by decide +kernel
theorem dX4_open_51 : decode cX4_open 51 = .ok (.invokestatic 82, 3) := by decide +kernel
theorem dX4_open_54 : decode cX4_open 54 = .ok (.ifCond .ne 9, 3) := by decide +kernel
theorem dX4_open_57 : decode cX4_open 57 = .ok (.iload_n 2, 1) := by decide +kernel
theorem dX4_open_58 : decode cX4_open 58 = .ok (.bipush 7, 2) := by decide +kernel
theorem dX4_open_60 : decode cX4_open 60 = .ok (.if_icmp .ne 7, 3) := by decide +kernel
theorem dX4_open_63 : decode cX4_open 63 = .ok (.iconst 1, 1) := by decide +kernel
theorem dX4_open_64 : decode cX4_open 64 = .ok (.goto 4, 3) := by decide +kernel
theorem dX4_open_67 : decode cX4_open 67 = .ok (.iconst 0, 1) := by decide +kernel
theorem dX4_open_68 : decode cX4_open 68 = .ok (.istore 5, 2) := by decide +kernel
theorem dX4_open_70 : decode cX4_open 70 = .ok (.aload_n 0, 1) := by decide +kernel
theorem dX4_open_71 : decode cX4_open 71 = .ok (.getfield 19, 3) := by decide +kernel
theorem dX4_open_74 : decode cX4_open 74 = .ok (.iload_n 1, 1) := by decide +kernel
theorem dX4_open_75 : decode cX4_open 75 = .ok (.iload_n 2, 1) := by decide +kernel
theorem dX4_open_76 : decode cX4_open 76 = .ok (.iastore, 1) := by decide +kernel
theorem dX4_open_77 : decode cX4_open 77 = .ok (.aload_n 0, 1) := by decide +kernel
theorem dX4_open_78 : decode cX4_open 78 = .ok (.getfield 25, 3) := by decide +kernel
theorem dX4_open_81 : decode cX4_open 81 = .ok (.iload_n 1, 1) := by decide +kernel
theorem dX4_open_82 : decode cX4_open 82 = .ok (.iconst 0, 1) := by decide +kernel
theorem dX4_open_83 : decode cX4_open 83 = .ok (.iastore, 1) := by decide +kernel
theorem dX4_open_84 : decode cX4_open 84 = .ok (.aload_n 0, 1) := by decide +kernel
theorem dX4_open_85 : decode cX4_open 85 = .ok (.iload_n 1, 1) := by decide +kernel
theorem dX4_open_86 : decode cX4_open 86 = .ok (.iload_n 3, 1) := by decide +kernel
theorem dX4_open_87 : decode cX4_open 87 = .ok (.iload 5, 2) := by decide +kernel
theorem dX4_open_89 : decode cX4_open 89 = .ok (.iconst 0, 1) := by decide +kernel
theorem dX4_open_90 : decode cX4_open 90 = .ok (.invokevirtual 85, 3) := by decide +kernel
theorem dX4_open_93 : decode cX4_open 93 = .ok (.istore 6, 2) := by decide +kernel
theorem dX4_open_95 : decode cX4_open 95 = .ok (.aload_n 0, 1) := by decide +kernel
theorem dX4_open_96 : decode cX4_open 96 = .ok (.getfield 28, 3) := by decide +kernel
theorem dX4_open_99 : decode cX4_open 99 = .ok (.iload_n 1, 1) := by decide +kernel
theorem dX4_open_100 : decode cX4_open 100 = .ok (.aload_n 0, 1) := by decide +kernel
theorem dX4_open_101 : decode cX4_open 101 = .ok (.getfield 25, 3) := by decide +kernel
theorem dX4_open_104 : decode cX4_open 104 = .ok (.iload_n 1, 1) := by decide +kernel
theorem dX4_open_105 : decode cX4_open 105 = .ok (.iaload, 1) := by decide +kernel
theorem dX4_open_106 : decode cX4_open 106 = .ok (.iastore, 1) := by decide +kernel
theorem dX4_open_107 : decode cX4_open 107 = .ok (.iload_n 2, 1) := by decide +kernel
theorem dX4_open_108 : decode cX4_open 108 = .ok (.invokestatic 89, 3) := by decide +kernel
theorem dX4_open_111 : decode cX4_open 111 = .ok (.ifCond .eq 25, 3) := by decide +kernel
theorem dX4_open_114 : decode cX4_open 114 = .ok (.aload_n 0, 1) := by decide +kernel
theorem dX4_open_115 : decode cX4_open 115 = .ok (.iload_n 1, 1) := by decide +kernel
theorem dX4_open_116 : decode cX4_open 116 = .ok (.iload 4, 2) := by decide +kernel
theorem dX4_open_118 : decode cX4_open 118 = .ok (.iload 5, 2) := by decide +kernel
theorem dX4_open_120 : decode cX4_open 120 = .ok (.iload_n 2, 1) := by decide +kernel
theorem dX4_open_121 : decode cX4_open 121 = .ok (.iconst 5, 1) := by decide +kernel
theorem dX4_open_122 : decode cX4_open 122 = .ok (.if_icmp .ne 8, 3) := by decide +kernel
theorem dX4_open_125 : decode cX4_open 125 = .ok (.iload 6, 2) := by decide +kernel
theorem dX4_open_127 : decode cX4_open 127 = .ok (.goto 4, 3) := by decide +kernel
theorem dX4_open_130 : decode cX4_open 130 = .ok (.iconst 0, 1) := by decide +kernel
theorem dX4_open_131 : decode cX4_open 131 = .ok (.invokevirtual 85, 3) := by decide +kernel
theorem dX4_open_134 : decode cX4_open 134 = .ok (.istore 6, 2) := by decide +kernel
theorem dX4_open_136 : decode cX4_open 136 = .ok (.aload_n 0, 1) := by decide +kernel
theorem dX4_open_137 : decode cX4_open 137 = .ok (.getfield 31, 3) := by decide +kernel
theorem dX4_open_140 : decode cX4_open 140 = .ok (.iload_n 1, 1) := by decide +kernel
theorem dX4_open_141 : decode cX4_open 141 = .ok (.iconst 0, 1) := by decide +kernel
theorem dX4_open_142 : decode cX4_open 142 = .ok (.iastore, 1) := by decide +kernel
theorem dX4_open_143 : decode cX4_open 143 = .ok (.aload_n 0, 1) := by decide +kernel
theorem dX4_open_144 : decode cX4_open 144 = .ok (.getfield 34, 3) := by decide +kernel
theorem dX4_open_147 : decode cX4_open 147 = .ok (.iload_n 1, 1) := by decide +kernel
theorem dX4_open_148 : decode cX4_open 148 = .ok (.iconst 0, 1) := by decide +kernel
theorem dX4_open_149 : decode cX4_open 149 = .ok (.iastore, 1) := by decide +kernel
theorem dX4_open_150 : decode cX4_open 150 = .ok (.aload_n 0, 1) := by decide +kernel
theorem dX4_open_151 : decode cX4_open 151 = .ok (.getfield 37, 3) := by decide +kernel
theorem dX4_open_154 : decode cX4_open 154 = .ok (.iload_n 1, 1) := by decide +kernel
theorem dX4_open_155 : decode cX4_open 155 = .ok (.ldc2_w 92, 3) := by decide +kernel
theorem dX4_open_158 : decode cX4_open 158 = .ok (.lastore, 1) := by decide +kernel
theorem dX4_open_159 : decode cX4_open 159 = .ok (.aload_n 0, 1) := by decide +kernel
theorem dX4_open_160 : decode cX4_open 160 = .ok (.getfield 41, 3) := by decide +kernel
theorem dX4_open_163 : decode cX4_open 163 = .ok (.iload_n 1, 1) := by decide +kernel
theorem dX4_open_164 : decode cX4_open 164 = .ok (.iconst 0, 1) := by decide +kernel
theorem dX4_open_165 : decode cX4_open 165 = .ok (.bastore, 1) := by decide +kernel
theorem dX4_open_166 : decode cX4_open 166 = .ok (.iload_n 2, 1) := by decide +kernel
theorem dX4_open_167 : decode cX4_open 167 = .ok (.invokestatic 89, 3) := by decide +kernel
theorem dX4_open_170 : decode cX4_open 170 = .ok (.ifCond .eq 20, 3) := by decide +kernel
theorem dX4_open_173 : decode cX4_open 173 = .ok (.aload_n 0, 1) := by decide +kernel
theorem dX4_open_174 : decode cX4_open 174 = .ok (.getfield 13, 3) := by decide +kernel
theorem dX4_open_177 : decode cX4_open 177 = .ok (.iload_n 3, 1) := by decide +kernel
theorem dX4_open_178 : decode cX4_open 178 = .ok (.iaload, 1) := by decide +kernel
theorem dX4_open_179 : decode cX4_open 179 = .ok (.aload_n 0, 1) := by decide +kernel
theorem dX4_open_180 : decode cX4_open 180 = .ok (.getfield 13, 3) := by decide +kernel
theorem dX4_open_183 : decode cX4_open 183 = .ok (.iload 4, 2) := by decide +kernel
theorem dX4_open_185 : decode cX4_open 185 = .ok (.iaload, 1) := by decide +kernel
theorem dX4_open_186 : decode cX4_open 186 = .ok (.iadd, 1) := by decide +kernel
theorem dX4_open_187 : decode cX4_open 187 = .ok (.goto 9, 3) := by decide +kernel
theorem dX4_open_190 : decode cX4_open 190 = .ok (.aload_n 0, 1) := by decide +kernel
theorem dX4_open_191 : decode cX4_open 191 = .ok (.getfield 13, 3) := by decide +kernel
theorem dX4_open_194 : decode cX4_open 194 = .ok (.iload_n 3, 1) := by decide +kernel
theorem dX4_open_195 : decode cX4_open 195 = .ok (.iaload, 1) := by decide +kernel
theorem dX4_open_196 : decode cX4_open 196 = .ok (.ireturn, 1) := by decide +kernel
theorem dX4_kind_0 : decode cX4_kind 0 = .ok (.aload_n 0, 1) := by decide +kernel
theorem dX4_kind_1 : decode cX4_kind 1 = .ok (.iload_n 1, 1) := by decide +kernel
theorem dX4_kind_2 : decode cX4_kind 2 = .ok (.invokevirtual 63, 3) := by decide +kernel
theorem dX4_kind_5 : decode cX4_kind 5 = .ok (.ifCond .eq 7, 3) := by decide +kernel
theorem dX4_kind_8 : decode cX4_kind 8 = .ok (.iconst 0, 1) := by decide +kernel
theorem dX4_kind_9 : decode cX4_kind 9 = .ok (.goto 9, 3) := by decide +kernel
theorem dX4_kind_12 : decode cX4_kind 12 = .ok (.aload_n 0, 1) := by decide +kernel
theorem dX4_kind_13 : decode cX4_kind 13 = .ok (.getfield 19, 3) := by decide +kernel
theorem dX4_kind_16 : decode cX4_kind 16 = .ok (.iload_n 1, 1) := by decide +kernel
theorem dX4_kind_17 : decode cX4_kind 17 = .ok (.iaload, 1) := by decide +kernel
theorem dX4_kind_18 : decode cX4_kind 18 = .ok (.ireturn, 1) := by decide +kernel
theorem dX4_mixed_0 : decode cX4_mixed 0 = .ok (.lload_n 0, 1) := by decide +kernel
theorem dX4_mixed_1 : decode cX4_mixed 1 = .ok (.iload_n 2, 1) := by decide +kernel
theorem dX4_mixed_2 : decode cX4_mixed 2 = .ok (.i2l, 1) := by decide +kernel
theorem dX4_mixed_3 : decode cX4_mixed 3 = .ok (.lxor, 1) := by decide +kernel
theorem dX4_mixed_4 : decode cX4_mixed 4 = .ok (.lstore_n 3, 1) := by decide +kernel
theorem dX4_mixed_5 : decode cX4_mixed 5 = .ok (.iconst 0, 1) := by decide +kernel
theorem dX4_mixed_6 : decode cX4_mixed 6 = .ok (.istore 5, 2) := by decide +kernel
theorem dX4_mixed_8 : decode cX4_mixed 8 = .ok (.iload 5, 2) := by decide +kernel
theorem dX4_mixed_10 : decode cX4_mixed 10 = .ok (.bipush 8, 2) := by decide +kernel
theorem dX4_mixed_12 : decode cX4_mixed 12 = .ok (.if_icmp .ge 38, 3) := by decide +kernel
theorem dX4_mixed_15 : decode cX4_mixed 15 = .ok (.lload_n 3, 1) := by decide +kernel
theorem dX4_mixed_16 : decode cX4_mixed 16 = .ok (.ldc2_w 94, 3) := by decide +kernel
theorem dX4_mixed_19 : decode cX4_mixed 19 = .ok (.ldiv, 1) := by decide +kernel
theorem dX4_mixed_20 : decode cX4_mixed 20 = .ok (.lstore 6, 2) := by decide +kernel
theorem dX4_mixed_22 : decode cX4_mixed 22 = .ok (.lload_n 3, 1) := by decide +kernel
theorem dX4_mixed_23 : decode cX4_mixed 23 = .ok (.ldc2_w 94, 3) := by decide +kernel
theorem dX4_mixed_26 : decode cX4_mixed 26 = .ok (.lrem, 1) := by decide +kernel
theorem dX4_mixed_27 : decode cX4_mixed 27 = .ok (.lconst 1, 1) := by decide +kernel
theorem dX4_mixed_28 : decode cX4_mixed 28 = .ok (.lcmp, 1) := by decide +kernel
theorem dX4_mixed_29 : decode cX4_mixed 29 = .ok (.ifCond .ne 12, 3) := by decide +kernel
theorem dX4_mixed_32 : decode cX4_mixed 32 = .ok (.lload 6, 2) := by decide +kernel
theorem dX4_mixed_34 : decode cX4_mixed 34 = .ok (.ldc2_w 96, 3) := by decide +kernel
theorem dX4_mixed_37 : decode cX4_mixed 37 = .ok (.lxor, 1) := by decide +kernel
theorem dX4_mixed_38 : decode cX4_mixed 38 = .ok (.goto 5, 3) := by decide +kernel
theorem dX4_mixed_41 : decode cX4_mixed 41 = .ok (.lload 6, 2) := by decide +kernel
theorem dX4_mixed_43 : decode cX4_mixed 43 = .ok (.lstore_n 3, 1) := by decide +kernel
theorem dX4_mixed_44 : decode cX4_mixed 44 = .ok (.iinc 5 1, 3) := by decide +kernel
theorem dX4_mixed_47 : decode cX4_mixed 47 = .ok (.goto (-39), 3) := by decide +kernel
theorem dX4_mixed_50 : decode cX4_mixed 50 = .ok (.lload_n 3, 1) := by decide +kernel
theorem dX4_mixed_51 : decode cX4_mixed 51 = .ok (.lreturn, 1) := by decide +kernel
theorem dX4_leftOf_0 : decode cX4_leftOf 0 = .ok (.aload_n 0, 1) := by decide +kernel
theorem dX4_leftOf_1 : decode cX4_leftOf 1 = .ok (.getfield 25, 3) := by decide +kernel
theorem dX4_leftOf_4 : decode cX4_leftOf 4 = .ok (.iload_n 1, 1) := by decide +kernel
theorem dX4_leftOf_5 : decode cX4_leftOf 5 = .ok (.iaload, 1) := by decide +kernel
theorem dX4_leftOf_6 : decode cX4_leftOf 6 = .ok (.aload_n 0, 1) := by decide +kernel
theorem dX4_leftOf_7 : decode cX4_leftOf 7 = .ok (.getfield 31, 3) := by decide +kernel
theorem dX4_leftOf_10 : decode cX4_leftOf 10 = .ok (.iload_n 1, 1) := by decide +kernel
theorem dX4_leftOf_11 : decode cX4_leftOf 11 = .ok (.iaload, 1) := by decide +kernel
theorem dX4_leftOf_12 : decode cX4_leftOf 12 = .ok (.isub, 1) := by decide +kernel
theorem dX4_leftOf_13 : decode cX4_leftOf 13 = .ok (.ireturn, 1) := by decide +kernel
theorem dX4_outAt_0 : decode cX4_outAt 0 = .ok (.aload_n 0, 1) := by decide +kernel
theorem dX4_outAt_1 : decode cX4_outAt 1 = .ok (.getfield 22, 3) := by decide +kernel
theorem dX4_outAt_4 : decode cX4_outAt 4 = .ok (.sipush 240, 3) := by decide +kernel
theorem dX4_outAt_7 : decode cX4_outAt 7 = .ok (.iload_n 1, 1) := by decide +kernel
theorem dX4_outAt_8 : decode cX4_outAt 8 = .ok (.imul, 1) := by decide +kernel
theorem dX4_outAt_9 : decode cX4_outAt 9 = .ok (.iload_n 2, 1) := by decide +kernel
theorem dX4_outAt_10 : decode cX4_outAt 10 = .ok (.iadd, 1) := by decide +kernel
theorem dX4_outAt_11 : decode cX4_outAt 11 = .ok (.iaload, 1) := by decide +kernel
theorem dX4_outAt_12 : decode cX4_outAt 12 = .ok (.ireturn, 1) := by decide +kernel
theorem dX4_passes_0 : decode cX4_passes 0 = .ok (.aload_n 0, 1) := by decide +kernel
theorem dX4_passes_1 : decode cX4_passes 1 = .ok (.iload_n 1, 1) := by decide +kernel
theorem dX4_passes_2 : decode cX4_passes 2 = .ok (.invokevirtual 98, 3) := by decide +kernel
theorem dX4_passes_5 : decode cX4_passes 5 = .ok (.ifCond .ne 5, 3) := by decide +kernel
theorem dX4_passes_8 : decode cX4_passes 8 = .ok (.iconst (-1), 1) := by decide +kernel
theorem dX4_passes_9 : decode cX4_passes 9 = .ok (.ireturn, 1) := by decide +kernel
theorem dX4_passes_10 : decode cX4_passes 10 = .ok (.aload_n 0, 1) := by decide +kernel
theorem dX4_passes_11 : decode cX4_passes 11 = .ok (.iload_n 1, 1) := by decide +kernel
theorem dX4_passes_12 : decode cX4_passes 12 = .ok (.aload_n 0, 1) := by decide +kernel
theorem dX4_passes_13 : decode cX4_passes 13 = .ok (.getfield 31, 3) := by decide +kernel
theorem dX4_passes_16 : decode cX4_passes 16 = .ok (.iload_n 1, 1) := by decide +kernel
theorem dX4_passes_17 : decode cX4_passes 17 = .ok (.iaload, 1) := by decide +kernel
theorem dX4_passes_18 : decode cX4_passes 18 = .ok (.invokevirtual 101, 3) := by decide +kernel
theorem dX4_passes_21 : decode cX4_passes 21 = .ok (.istore_n 2, 1) := by decide +kernel
theorem dX4_passes_22 : decode cX4_passes 22 = .ok (.aload_n 0, 1) := by decide +kernel
theorem dX4_passes_23 : decode cX4_passes 23 = .ok (.getfield 31, 3) := by decide +kernel
theorem dX4_passes_26 : decode cX4_passes 26 = .ok (.iload_n 1, 1) := by decide +kernel
theorem dX4_passes_27 : decode cX4_passes 27 = .ok (.dup2, 1) := by decide +kernel
theorem dX4_passes_28 : decode cX4_passes 28 = .ok (.iaload, 1) := by decide +kernel
theorem dX4_passes_29 : decode cX4_passes 29 = .ok (.iconst 1, 1) := by decide +kernel
theorem dX4_passes_30 : decode cX4_passes 30 = .ok (.iadd, 1) := by decide +kernel
theorem dX4_passes_31 : decode cX4_passes 31 = .ok (.iastore, 1) := by decide +kernel
theorem dX4_passes_32 : decode cX4_passes 32 = .ok (.aload_n 0, 1) := by decide +kernel
theorem dX4_passes_33 : decode cX4_passes 33 = .ok (.getfield 34, 3) := by decide +kernel
theorem dX4_passes_36 : decode cX4_passes 36 = .ok (.iload_n 1, 1) := by decide +kernel
theorem dX4_passes_37 : decode cX4_passes 37 = .ok (.dup2, 1) := by decide +kernel
theorem dX4_passes_38 : decode cX4_passes 38 = .ok (.iaload, 1) := by decide +kernel
theorem dX4_passes_39 : decode cX4_passes 39 = .ok (.iload_n 2, 1) := by decide +kernel
theorem dX4_passes_40 : decode cX4_passes 40 = .ok (.bipush 10, 2) := by decide +kernel
theorem dX4_passes_42 : decode cX4_passes 42 = .ok (.if_icmp .ne 7, 3) := by decide +kernel
theorem dX4_passes_45 : decode cX4_passes 45 = .ok (.iconst 1, 1) := by decide +kernel
theorem dX4_passes_46 : decode cX4_passes 46 = .ok (.goto 4, 3) := by decide +kernel
theorem dX4_passes_49 : decode cX4_passes 49 = .ok (.iconst 0, 1) := by decide +kernel
theorem dX4_passes_50 : decode cX4_passes 50 = .ok (.iadd, 1) := by decide +kernel
theorem dX4_passes_51 : decode cX4_passes 51 = .ok (.iastore, 1) := by decide +kernel
theorem dX4_passes_52 : decode cX4_passes 52 = .ok (.aload_n 0, 1) := by decide +kernel
theorem dX4_passes_53 : decode cX4_passes 53 = .ok (.getfield 37, 3) := by decide +kernel
theorem dX4_passes_56 : decode cX4_passes 56 = .ok (.iload_n 1, 1) := by decide +kernel
theorem dX4_passes_57 : decode cX4_passes 57 = .ok (.aload_n 0, 1) := by decide +kernel
theorem dX4_passes_58 : decode cX4_passes 58 = .ok (.getfield 37, 3) := by decide +kernel
theorem dX4_passes_61 : decode cX4_passes 61 = .ok (.iload_n 1, 1) := by decide +kernel
theorem dX4_passes_62 : decode cX4_passes 62 = .ok (.laload, 1) := by decide +kernel
theorem dX4_passes_63 : decode cX4_passes 63 = .ok (.iload_n 2, 1) := by decide +kernel
theorem dX4_passes_64 : decode cX4_passes 64 = .ok (.invokestatic 104, 3) := by decide +kernel
theorem dX4_passes_67 : decode cX4_passes 67 = .ok (.lastore, 1) := by decide +kernel
theorem dX4_passes_68 : decode cX4_passes 68 = .ok (.iload_n 2, 1) := by decide +kernel
theorem dX4_passes_69 : decode cX4_passes 69 = .ok (.ireturn, 1) := by decide +kernel
theorem dX4_read_0 : decode cX4_read 0 = .ok (.aload_n 0, 1) := by decide +kernel
theorem dX4_read_1 : decode cX4_read 1 = .ok (.iload_n 1, 1) := by decide +kernel
theorem dX4_read_2 : decode cX4_read 2 = .ok (.invokevirtual 63, 3) := by decide +kernel
theorem dX4_read_5 : decode cX4_read 5 = .ok (.ifCond .ne 12, 3) := by decide +kernel
theorem dX4_read_8 : decode cX4_read 8 = .ok (.aload_n 0, 1) := by decide +kernel
theorem dX4_read_9 : decode cX4_read 9 = .ok (.iload_n 1, 1) := by decide +kernel
theorem dX4_read_10 : decode cX4_read 10 = .ok (.iconst 2, 1) := by decide +kernel
theorem dX4_read_11 : decode cX4_read 11 = .ok (.invokevirtual 108, 3) := by decide +kernel
theorem dX4_read_14 : decode cX4_read 14 = .ok (.ifCond .eq 7, 3) := by decide +kernel
theorem dX4_read_17 : decode cX4_read 17 = .ok (.iconst 0, 1) := by decide +kernel
theorem dX4_read_18 : decode cX4_read 18 = .ok (.goto 8, 3) := by decide +kernel
theorem dX4_read_21 : decode cX4_read 21 = .ok (.aload_n 0, 1) := by decide +kernel
theorem dX4_read_22 : decode cX4_read 22 = .ok (.iload_n 1, 1) := by decide +kernel
theorem dX4_read_23 : decode cX4_read 23 = .ok (.invokevirtual 112, 3) := by decide +kernel
theorem dX4_read_26 : decode cX4_read 26 = .ok (.ireturn, 1) := by decide +kernel
theorem dX4_readPart_0 : decode cX4_readPart 0 = .ok (.aload_n 0, 1) := by decide +kernel
theorem dX4_readPart_1 : decode cX4_readPart 1 = .ok (.iload_n 1, 1) := by decide +kernel
theorem dX4_readPart_2 : decode cX4_readPart 2 = .ok (.invokevirtual 63, 3) := by decide +kernel
theorem dX4_readPart_5 : decode cX4_readPart 5 = .ok (.ifCond .ne 35, 3) := by decide +kernel
theorem dX4_readPart_8 : decode cX4_readPart 8 = .ok (.aload_n 0, 1) := by decide +kernel
theorem dX4_readPart_9 : decode cX4_readPart 9 = .ok (.iload_n 2, 1) := by decide +kernel
theorem dX4_readPart_10 : decode cX4_readPart 10 = .ok (.iconst 1, 1) := by decide +kernel
theorem dX4_readPart_11 : decode cX4_readPart 11 = .ok (.bipush 64, 2) := by decide +kernel
theorem dX4_readPart_13 : decode cX4_readPart 13 = .ok (.invokestatic 55, 3) := by decide +kernel
theorem dX4_readPart_16 : decode cX4_readPart 16 = .ok (.ifCond .ne 7, 3) := by decide +kernel
theorem dX4_readPart_19 : decode cX4_readPart 19 = .ok (.iconst 1, 1) := by decide +kernel
theorem dX4_readPart_20 : decode cX4_readPart 20 = .ok (.goto 4, 3) := by decide +kernel
theorem dX4_readPart_23 : decode cX4_readPart 23 = .ok (.iconst 0, 1) := by decide +kernel
theorem dX4_readPart_24 : decode cX4_readPart 24 = .ok (.iconst 2, 1) := by decide +kernel
theorem dX4_readPart_25 : decode cX4_readPart 25 = .ok (.invokevirtual 59, 3) := by decide +kernel
theorem dX4_readPart_28 : decode cX4_readPart 28 = .ok (.ifCond .ne 12, 3) := by decide +kernel
theorem dX4_readPart_31 : decode cX4_readPart 31 = .ok (.aload_n 0, 1) := by decide +kernel
theorem dX4_readPart_32 : decode cX4_readPart 32 = .ok (.iload_n 1, 1) := by decide +kernel
theorem dX4_readPart_33 : decode cX4_readPart 33 = .ok (.iconst 3, 1) := by decide +kernel
theorem dX4_readPart_34 : decode cX4_readPart 34 = .ok (.invokevirtual 108, 3) := by decide +kernel
theorem dX4_readPart_37 : decode cX4_readPart 37 = .ok (.ifCond .eq 5, 3) := by decide +kernel
theorem dX4_readPart_40 : decode cX4_readPart 40 = .ok (.iconst 0, 1) := by decide +kernel
theorem dX4_readPart_41 : decode cX4_readPart 41 = .ok (.ireturn, 1) := by decide +kernel
theorem dX4_readPart_42 : decode cX4_readPart 42 = .ok (.aload_n 0, 1) := by decide +kernel
theorem dX4_readPart_43 : decode cX4_readPart 43 = .ok (.iload_n 1, 1) := by decide +kernel
theorem dX4_readPart_44 : decode cX4_readPart 44 = .ok (.invokevirtual 98, 3) := by decide +kernel
theorem dX4_readPart_47 : decode cX4_readPart 47 = .ok (.istore_n 3, 1) := by decide +kernel
theorem dX4_readPart_48 : decode cX4_readPart 48 = .ok (.iload_n 3, 1) := by decide +kernel
theorem dX4_readPart_49 : decode cX4_readPart 49 = .ok (.ifCond .ne 5, 3) := by decide +kernel
theorem dX4_readPart_52 : decode cX4_readPart 52 = .ok (.iconst (-1), 1) := by decide +kernel
theorem dX4_readPart_53 : decode cX4_readPart 53 = .ok (.ireturn, 1) := by decide +kernel
theorem dX4_readPart_54 : decode cX4_readPart 54 = .ok (.aload_n 0, 1) := by decide +kernel
theorem dX4_readPart_55 : decode cX4_readPart 55 = .ok (.getfield 19, 3) := by decide +kernel
theorem dX4_readPart_58 : decode cX4_readPart 58 = .ok (.iload_n 1, 1) := by decide +kernel
theorem dX4_readPart_59 : decode cX4_readPart 59 = .ok (.iaload, 1) := by decide +kernel
theorem dX4_readPart_60 : decode cX4_readPart 60 = .ok (.iconst 4, 1) := by decide +kernel
theorem dX4_readPart_61 : decode cX4_readPart 61 = .ok (.if_icmp .eq 14, 3) := by decide +kernel
theorem dX4_readPart_64 : decode cX4_readPart 64 = .ok (.aload_n 0, 1) := by decide +kernel
theorem dX4_readPart_65 : decode cX4_readPart 65 = .ok (.getfield 19, 3) := by decide +kernel
theorem dX4_readPart_68 : decode cX4_readPart 68 = .ok (.iload_n 1, 1) := by decide +kernel
theorem dX4_readPart_69 : decode cX4_readPart 69 = .ok (.iaload, 1) := by decide +kernel
theorem dX4_readPart_70 : decode cX4_readPart 70 = .ok (.bipush 7, 2) := by decide +kernel
theorem dX4_readPart_72 : decode cX4_readPart 72 = .ok (.if_icmp .ne 7, 3) := by decide +kernel
theorem dX4_readPart_75 : decode cX4_readPart 75 = .ok (.iconst 1, 1) := by decide +kernel
theorem dX4_readPart_76 : decode cX4_readPart 76 = .ok (.goto 4, 3) := by decide +kernel
theorem dX4_readPart_79 : decode cX4_readPart 79 = .ok (.iconst 0, 1) := by decide +kernel
theorem dX4_readPart_80 : decode cX4_readPart 80 = .ok (.istore 4, 2) := by decide +kernel
theorem dX4_readPart_82 : decode cX4_readPart 82 = .ok (.iload 4, 2) := by decide +kernel
theorem dX4_readPart_84 : decode cX4_readPart 84 = .ok (.ifCond .eq 32, 3) := by decide +kernel
theorem dX4_readPart_87 : decode cX4_readPart 87 = .ok (.aload_n 0, 1) := by decide +kernel
theorem dX4_readPart_88 : decode cX4_readPart 88 = .ok (.getfield 31, 3) := by decide +kernel
theorem dX4_readPart_91 : decode cX4_readPart 91 = .ok (.iload_n 1, 1) := by decide +kernel
theorem dX4_readPart_92 : decode cX4_readPart 92 = .ok (.iaload, 1) := by decide +kernel
theorem dX4_readPart_93 : decode cX4_readPart 93 = .ok (.aload_n 0, 1) := by decide +kernel
theorem dX4_readPart_94 : decode cX4_readPart 94 = .ok (.getfield 28, 3) := by decide +kernel
theorem dX4_readPart_97 : decode cX4_readPart 97 = .ok (.iload_n 1, 1) := by decide +kernel
theorem dX4_readPart_98 : decode cX4_readPart 98 = .ok (.iaload, 1) := by decide +kernel
theorem dX4_readPart_99 : decode cX4_readPart 99 = .ok (.if_icmp .ge 17, 3) := by decide +kernel
theorem dX4_readPart_102 : decode cX4_readPart 102 = .ok (.aload_n 0, 1) := by decide +kernel
theorem dX4_readPart_103 : decode cX4_readPart 103 = .ok (.getfield 28, 3) := by decide +kernel
theorem dX4_readPart_106 : decode cX4_readPart 106 = .ok (.iload_n 1, 1) := by decide +kernel
theorem dX4_readPart_107 : decode cX4_readPart 107 = .ok (.iaload, 1) := by decide +kernel
theorem dX4_readPart_108 : decode cX4_readPart 108 = .ok (.aload_n 0, 1) := by decide +kernel
theorem dX4_readPart_109 : decode cX4_readPart 109 = .ok (.getfield 31, 3) := by decide +kernel
theorem dX4_readPart_112 : decode cX4_readPart 112 = .ok (.iload_n 1, 1) := by decide +kernel
theorem dX4_readPart_113 : decode cX4_readPart 113 = .ok (.iaload, 1) := by decide +kernel
theorem dX4_readPart_114 : decode cX4_readPart 114 = .ok (.isub, 1) := by decide +kernel
theorem dX4_readPart_115 : decode cX4_readPart 115 = .ok (.istore_n 3, 1) := by decide +kernel
theorem dX4_readPart_116 : decode cX4_readPart 116 = .ok (.aload_n 0, 1) := by decide +kernel
theorem dX4_readPart_117 : decode cX4_readPart 117 = .ok (.iload_n 2, 1) := by decide +kernel
theorem dX4_readPart_118 : decode cX4_readPart 118 = .ok (.iload_n 3, 1) := by decide +kernel
theorem dX4_readPart_119 : decode cX4_readPart 119 = .ok (.if_icmp .ge 7, 3) := by decide +kernel
theorem dX4_readPart_122 : decode cX4_readPart 122 = .ok (.iload_n 2, 1) := by decide +kernel
theorem dX4_readPart_123 : decode cX4_readPart 123 = .ok (.goto 4, 3) := by decide +kernel
theorem dX4_readPart_126 : decode cX4_readPart 126 = .ok (.iload_n 3, 1) := by decide +kernel
theorem dX4_readPart_127 : decode cX4_readPart 127 = .ok (.putfield 115, 3) := by decide +kernel
theorem dX4_readPart_130 : decode cX4_readPart 130 = .ok (.iconst 0, 1) := by decide +kernel
theorem dX4_readPart_131 : decode cX4_readPart 131 = .ok (.istore 5, 2) := by decide +kernel
theorem dX4_readPart_133 : decode cX4_readPart 133 = .ok (.iload 5, 2) := by decide +kernel
theorem dX4_readPart_135 : decode cX4_readPart 135 = .ok (.aload_n 0, 1) := by decide +kernel
theorem dX4_readPart_136 : decode cX4_readPart 136 = .ok (.getfield 115, 3) := by decide +kernel
theorem dX4_readPart_139 : decode cX4_readPart 139 = .ok (.if_icmp .ge 21, 3) := by decide +kernel
theorem dX4_readPart_142 : decode cX4_readPart 142 = .ok (.aload_n 0, 1) := by decide +kernel
theorem dX4_readPart_143 : decode cX4_readPart 143 = .ok (.getfield 16, 3) := by decide +kernel
theorem dX4_readPart_146 : decode cX4_readPart 146 = .ok (.iload 5, 2) := by decide +kernel
theorem dX4_readPart_148 : decode cX4_readPart 148 = .ok (.aload_n 0, 1) := by decide +kernel
theorem dX4_readPart_149 : decode cX4_readPart 149 = .ok (.iload_n 1, 1) := by decide +kernel
theorem dX4_readPart_150 : decode cX4_readPart 150 = .ok (.invokevirtual 112, 3) := by decide +kernel
theorem dX4_readPart_153 : decode cX4_readPart 153 = .ok (.iastore, 1) := by decide +kernel
theorem dX4_readPart_154 : decode cX4_readPart 154 = .ok (.iinc 5 1, 3) := by decide +kernel
theorem dX4_readPart_157 : decode cX4_readPart 157 = .ok (.goto (-24), 3) := by decide +kernel
theorem dX4_readPart_160 : decode cX4_readPart 160 = .ok (.aload_n 0, 1) := by decide +kernel
theorem dX4_readPart_161 : decode cX4_readPart 161 = .ok (.getfield 115, 3) := by decide +kernel
theorem dX4_readPart_164 : decode cX4_readPart 164 = .ok (.ireturn, 1) := by decide +kernel
theorem dX4_partLength_0 : decode cX4_partLength 0 = .ok (.aload_n 0, 1) := by decide +kernel
theorem dX4_partLength_1 : decode cX4_partLength 1 = .ok (.getfield 115, 3) := by decide +kernel
theorem dX4_partLength_4 : decode cX4_partLength 4 = .ok (.ireturn, 1) := by decide +kernel
theorem dX4_partAt_0 : decode cX4_partAt 0 = .ok (.aload_n 0, 1) := by decide +kernel
theorem dX4_partAt_1 : decode cX4_partAt 1 = .ok (.iload_n 1, 1) := by decide +kernel
theorem dX4_partAt_2 : decode cX4_partAt 2 = .ok (.iconst 0, 1) := by decide +kernel
theorem dX4_partAt_3 : decode cX4_partAt 3 = .ok (.aload_n 0, 1) := by decide +kernel
theorem dX4_partAt_4 : decode cX4_partAt 4 = .ok (.getfield 115, 3) := by decide +kernel
theorem dX4_partAt_7 : decode cX4_partAt 7 = .ok (.iconst 1, 1) := by decide +kernel
theorem dX4_partAt_8 : decode cX4_partAt 8 = .ok (.isub, 1) := by decide +kernel
theorem dX4_partAt_9 : decode cX4_partAt 9 = .ok (.invokestatic 55, 3) := by decide +kernel
theorem dX4_partAt_12 : decode cX4_partAt 12 = .ok (.ifCond .ne 7, 3) := by decide +kernel
theorem dX4_partAt_15 : decode cX4_partAt 15 = .ok (.iconst 1, 1) := by decide +kernel
theorem dX4_partAt_16 : decode cX4_partAt 16 = .ok (.goto 4, 3) := by decide +kernel
theorem dX4_partAt_19 : decode cX4_partAt 19 = .ok (.iconst 0, 1) := by decide +kernel
theorem dX4_partAt_20 : decode cX4_partAt 20 = .ok (.iconst 1, 1) := by decide +kernel
theorem dX4_partAt_21 : decode cX4_partAt 21 = .ok (.invokevirtual 59, 3) := by decide +kernel
theorem dX4_partAt_24 : decode cX4_partAt 24 = .ok (.ifCond .eq 7, 3) := by decide +kernel
theorem dX4_partAt_27 : decode cX4_partAt 27 = .ok (.iconst 0, 1) := by decide +kernel
theorem dX4_partAt_28 : decode cX4_partAt 28 = .ok (.goto 9, 3) := by decide +kernel
theorem dX4_partAt_31 : decode cX4_partAt 31 = .ok (.aload_n 0, 1) := by decide +kernel
theorem dX4_partAt_32 : decode cX4_partAt 32 = .ok (.getfield 16, 3) := by decide +kernel
theorem dX4_partAt_35 : decode cX4_partAt 35 = .ok (.iload_n 1, 1) := by decide +kernel
theorem dX4_partAt_36 : decode cX4_partAt 36 = .ok (.iaload, 1) := by decide +kernel
theorem dX4_partAt_37 : decode cX4_partAt 37 = .ok (.ireturn, 1) := by decide +kernel
theorem dX4_skip_0 : decode cX4_skip 0 = .ok (.aload_n 0, 1) := by decide +kernel
theorem dX4_skip_1 : decode cX4_skip 1 = .ok (.iload_n 1, 1) := by decide +kernel
theorem dX4_skip_2 : decode cX4_skip 2 = .ok (.invokevirtual 63, 3) := by decide +kernel
theorem dX4_skip_5 : decode cX4_skip 5 = .ok (.ifCond .ne 36, 3) := by decide +kernel
theorem dX4_skip_8 : decode cX4_skip 8 = .ok (.aload_n 0, 1) := by decide +kernel
theorem dX4_skip_9 : decode cX4_skip 9 = .ok (.iload_n 2, 1) := by decide +kernel
theorem dX4_skip_10 : decode cX4_skip 10 = .ok (.iconst 0, 1) := by decide +kernel
theorem dX4_skip_11 : decode cX4_skip 11 = .ok (.sipush 200, 3) := by decide +kernel
theorem dX4_skip_14 : decode cX4_skip 14 = .ok (.invokestatic 55, 3) := by decide +kernel
theorem dX4_skip_17 : decode cX4_skip 17 = .ok (.ifCond .ne 7, 3) := by decide +kernel
theorem dX4_skip_20 : decode cX4_skip 20 = .ok (.iconst 1, 1) := by decide +kernel
theorem dX4_skip_21 : decode cX4_skip 21 = .ok (.goto 4, 3) := by decide +kernel
theorem dX4_skip_24 : decode cX4_skip 24 = .ok (.iconst 0, 1) := by decide +kernel
theorem dX4_skip_25 : decode cX4_skip 25 = .ok (.iconst 2, 1) := by decide +kernel
theorem dX4_skip_26 : decode cX4_skip 26 = .ok (.invokevirtual 59, 3) := by decide +kernel
theorem dX4_skip_29 : decode cX4_skip 29 = .ok (.ifCond .ne 12, 3) := by decide +kernel
theorem dX4_skip_32 : decode cX4_skip 32 = .ok (.aload_n 0, 1) := by decide +kernel
theorem dX4_skip_33 : decode cX4_skip 33 = .ok (.iload_n 1, 1) := by decide +kernel
theorem dX4_skip_34 : decode cX4_skip 34 = .ok (.iconst 3, 1) := by decide +kernel
theorem dX4_skip_35 : decode cX4_skip 35 = .ok (.invokevirtual 108, 3) := by decide +kernel
theorem dX4_skip_38 : decode cX4_skip 38 = .ok (.ifCond .eq 5, 3) := by decide +kernel
theorem dX4_skip_41 : decode cX4_skip 41 = .ok (.iconst 0, 1) := by decide +kernel
theorem dX4_skip_42 : decode cX4_skip 42 = .ok (.ireturn, 1) := by decide +kernel
theorem dX4_skip_43 : decode cX4_skip 43 = .ok (.iconst 0, 1) := by decide +kernel
theorem dX4_skip_44 : decode cX4_skip 44 = .ok (.istore_n 3, 1) := by decide +kernel
theorem dX4_skip_45 : decode cX4_skip 45 = .ok (.iload_n 3, 1) := by decide +kernel
theorem dX4_skip_46 : decode cX4_skip 46 = .ok (.iload_n 2, 1) := by decide +kernel
theorem dX4_skip_47 : decode cX4_skip 47 = .ok (.if_icmp .ge 18, 3) := by decide +kernel
theorem dX4_skip_50 : decode cX4_skip 50 = .ok (.aload_n 0, 1) := by decide +kernel
theorem dX4_skip_51 : decode cX4_skip 51 = .ok (.iload_n 1, 1) := by decide +kernel
theorem dX4_skip_52 : decode cX4_skip 52 = .ok (.invokevirtual 112, 3) := by decide +kernel
theorem dX4_skip_55 : decode cX4_skip 55 = .ok (.iconst (-1), 1) := by decide +kernel
theorem dX4_skip_56 : decode cX4_skip 56 = .ok (.if_icmp .eq 9, 3) := by decide +kernel
theorem dX4_skip_59 : decode cX4_skip 59 = .ok (.iinc 3 1, 3) := by decide +kernel
theorem dX4_skip_62 : decode cX4_skip 62 = .ok (.goto (-17), 3) := by decide +kernel
theorem dX4_skip_65 : decode cX4_skip 65 = .ok (.iload_n 3, 1) := by decide +kernel
theorem dX4_skip_66 : decode cX4_skip 66 = .ok (.ireturn, 1) := by decide +kernel
theorem dX4_readLine_0 : decode cX4_readLine 0 = .ok (.aload_n 0, 1) := by decide +kernel
theorem dX4_readLine_1 : decode cX4_readLine 1 = .ok (.iload_n 1, 1) := by decide +kernel
theorem dX4_readLine_2 : decode cX4_readLine 2 = .ok (.invokevirtual 63, 3) := by decide +kernel
theorem dX4_readLine_5 : decode cX4_readLine 5 = .ok (.ifCond .ne 20, 3) := by decide +kernel
theorem dX4_readLine_8 : decode cX4_readLine 8 = .ok (.aload_n 0, 1) := by decide +kernel
theorem dX4_readLine_9 : decode cX4_readLine 9 = .ok (.iload_n 2, 1) := by decide +kernel
theorem dX4_readLine_10 : decode cX4_readLine 10 = .ok (.invokevirtual 63, 3) := by decide +kernel
theorem dX4_readLine_13 : decode cX4_readLine 13 = .ok (.ifCond .ne 12, 3) := by decide +kernel
theorem dX4_readLine_16 : decode cX4_readLine 16 = .ok (.aload_n 0, 1) := by decide +kernel
theorem dX4_readLine_17 : decode cX4_readLine 17 = .ok (.iload_n 1, 1) := by decide +kernel
theorem dX4_readLine_18 : decode cX4_readLine 18 = .ok (.iconst 2, 1) := by decide +kernel
theorem dX4_readLine_19 : decode cX4_readLine 19 = .ok (.invokevirtual 108, 3) := by decide +kernel
theorem dX4_readLine_22 : decode cX4_readLine 22 = .ok (.ifCond .eq 5, 3) := by decide +kernel
theorem dX4_readLine_25 : decode cX4_readLine 25 = .ok (.iconst 0, 1) := by decide +kernel
theorem dX4_readLine_26 : decode cX4_readLine 26 = .ok (.ireturn, 1) := by decide +kernel
theorem dX4_readLine_27 : decode cX4_readLine 27 = .ok (.iconst 0, 1) := by decide +kernel
theorem dX4_readLine_28 : decode cX4_readLine 28 = .ok (.istore_n 3, 1) := by decide +kernel
theorem dX4_readLine_29 : decode cX4_readLine 29 = .ok (.iload_n 3, 1) := by decide +kernel
theorem dX4_readLine_30 : decode cX4_readLine 30 = .ok (.aload_n 0, 1) := by decide +kernel
theorem dX4_readLine_31 : decode cX4_readLine 31 = .ok (.iload_n 1, 1) := by decide +kernel
theorem dX4_readLine_32 : decode cX4_readLine 32 = .ok (.invokevirtual 98, 3) := by decide +kernel
theorem dX4_readLine_35 : decode cX4_readLine 35 = .ok (.if_icmp .ge 27, 3) := by decide +kernel
theorem dX4_readLine_38 : decode cX4_readLine 38 = .ok (.aload_n 0, 1) := by decide +kernel
theorem dX4_readLine_39 : decode cX4_readLine 39 = .ok (.iload_n 1, 1) := by decide +kernel
theorem dX4_readLine_40 : decode cX4_readLine 40 = .ok (.aload_n 0, 1) := by decide +kernel
theorem dX4_readLine_41 : decode cX4_readLine 41 = .ok (.getfield 31, 3) := by decide +kernel
theorem dX4_readLine_44 : decode cX4_readLine 44 = .ok (.iload_n 1, 1) := by decide +kernel
theorem dX4_readLine_45 : decode cX4_readLine 45 = .ok (.iaload, 1) := by decide +kernel
theorem dX4_readLine_46 : decode cX4_readLine 46 = .ok (.iload_n 3, 1) := by decide +kernel
theorem dX4_readLine_47 : decode cX4_readLine 47 = .ok (.iadd, 1) := by decide +kernel
theorem dX4_readLine_48 : decode cX4_readLine 48 = .ok (.invokevirtual 101, 3) := by decide +kernel
theorem dX4_readLine_51 : decode cX4_readLine 51 = .ok (.bipush 10, 2) := by decide +kernel
theorem dX4_readLine_53 : decode cX4_readLine 53 = .ok (.if_icmp .eq 9, 3) := by decide +kernel
theorem dX4_readLine_56 : decode cX4_readLine 56 = .ok (.iinc 3 1, 3) := by decide +kernel
theorem dX4_readLine_59 : decode cX4_readLine 59 = .ok (.goto (-30), 3) := by decide +kernel
theorem dX4_readLine_62 : decode cX4_readLine 62 = .ok (.aload_n 0, 1) := by decide +kernel
theorem dX4_readLine_63 : decode cX4_readLine 63 = .ok (.iload_n 3, 1) := by decide +kernel
theorem dX4_readLine_64 : decode cX4_readLine 64 = .ok (.bipush 120, 2) := by decide +kernel
theorem dX4_readLine_66 : decode cX4_readLine 66 = .ok (.if_icmp .le 7, 3) := by decide +kernel
theorem dX4_readLine_69 : decode cX4_readLine 69 = .ok (.iconst 1, 1) := by decide +kernel
theorem dX4_readLine_70 : decode cX4_readLine 70 = .ok (.goto 4, 3) := by decide +kernel
theorem dX4_readLine_73 : decode cX4_readLine 73 = .ok (.iconst 0, 1) := by decide +kernel
theorem dX4_readLine_74 : decode cX4_readLine 74 = .ok (.iconst 3, 1) := by decide +kernel
theorem dX4_readLine_75 : decode cX4_readLine 75 = .ok (.invokevirtual 59, 3) := by decide +kernel
theorem dX4_readLine_78 : decode cX4_readLine 78 = .ok (.ifCond .eq 5, 3) := by decide +kernel
theorem dX4_readLine_81 : decode cX4_readLine 81 = .ok (.iconst 0, 1) := by decide +kernel
theorem dX4_readLine_82 : decode cX4_readLine 82 = .ok (.ireturn, 1) := by decide +kernel
theorem dX4_readLine_83 : decode cX4_readLine 83 = .ok (.aload_n 0, 1) := by decide +kernel
theorem dX4_readLine_84 : decode cX4_readLine 84 = .ok (.iload_n 1, 1) := by decide +kernel
theorem dX4_readLine_85 : decode cX4_readLine 85 = .ok (.invokevirtual 98, 3) := by decide +kernel
theorem dX4_readLine_88 : decode cX4_readLine 88 = .ok (.ifCond .ne 5, 3) := by decide +kernel
theorem dX4_readLine_91 : decode cX4_readLine 91 = .ok (.iconst (-1), 1) := by decide +kernel
theorem dX4_readLine_92 : decode cX4_readLine 92 = .ok (.ireturn, 1) := by decide +kernel
theorem dX4_readLine_93 : decode cX4_readLine 93 = .ok (.aload_n 0, 1) := by decide +kernel
theorem dX4_readLine_94 : decode cX4_readLine 94 = .ok (.getfield 13, 3) := by decide +kernel
theorem dX4_readLine_97 : decode cX4_readLine 97 = .ok (.iload_n 2, 1) := by decide +kernel
theorem dX4_readLine_98 : decode cX4_readLine 98 = .ok (.iconst 0, 1) := by decide +kernel
theorem dX4_readLine_99 : decode cX4_readLine 99 = .ok (.iastore, 1) := by decide +kernel
theorem dX4_readLine_100 : decode cX4_readLine 100 = .ok (.iconst 0, 1) := by decide +kernel
theorem dX4_readLine_101 : decode cX4_readLine 101 = .ok (.istore 4, 2) := by decide +kernel
theorem dX4_readLine_103 : decode cX4_readLine 103 = .ok (.iload 4, 2) := by decide +kernel
theorem dX4_readLine_105 : decode cX4_readLine 105 = .ok (.iload_n 3, 1) := by decide +kernel
theorem dX4_readLine_106 : decode cX4_readLine 106 = .ok (.if_icmp .ge 19, 3) := by decide +kernel
theorem dX4_readLine_109 : decode cX4_readLine 109 = .ok (.aload_n 0, 1) := by decide +kernel
theorem dX4_readLine_110 : decode cX4_readLine 110 = .ok (.iload_n 2, 1) := by decide +kernel
theorem dX4_readLine_111 : decode cX4_readLine 111 = .ok (.aload_n 0, 1) := by decide +kernel
theorem dX4_readLine_112 : decode cX4_readLine 112 = .ok (.iload_n 1, 1) := by decide +kernel
theorem dX4_readLine_113 : decode cX4_readLine 113 = .ok (.invokevirtual 112, 3) := by decide +kernel
theorem dX4_readLine_116 : decode cX4_readLine 116 = .ok (.invokevirtual 67, 3) := by decide +kernel
theorem dX4_readLine_119 : decode cX4_readLine 119 = .ok (.iinc 4 1, 3) := by decide +kernel
theorem dX4_readLine_122 : decode cX4_readLine 122 = .ok (.goto (-19), 3) := by decide +kernel
theorem dX4_readLine_125 : decode cX4_readLine 125 = .ok (.aload_n 0, 1) := by decide +kernel
theorem dX4_readLine_126 : decode cX4_readLine 126 = .ok (.iload_n 1, 1) := by decide +kernel
theorem dX4_readLine_127 : decode cX4_readLine 127 = .ok (.invokevirtual 112, 3) := by decide +kernel
theorem dX4_readLine_130 : decode cX4_readLine 130 = .ok (.istore 4, 2) := by decide +kernel
theorem dX4_readLine_132 : decode cX4_readLine 132 = .ok (.iload_n 3, 1) := by decide +kernel
theorem dX4_readLine_133 : decode cX4_readLine 133 = .ok (.ireturn, 1) := by decide +kernel
theorem dX4_pour_0 : decode cX4_pour 0 = .ok (.aload_n 0, 1) := by decide +kernel
theorem dX4_pour_1 : decode cX4_pour 1 = .ok (.iload_n 1, 1) := by decide +kernel
theorem dX4_pour_2 : decode cX4_pour 2 = .ok (.invokevirtual 63, 3) := by decide +kernel
theorem dX4_pour_5 : decode cX4_pour 5 = .ok (.ifCond .ne 43, 3) := by decide +kernel
theorem dX4_pour_8 : decode cX4_pour 8 = .ok (.aload_n 0, 1) := by decide +kernel
theorem dX4_pour_9 : decode cX4_pour 9 = .ok (.iload_n 2, 1) := by decide +kernel
theorem dX4_pour_10 : decode cX4_pour 10 = .ok (.invokevirtual 63, 3) := by decide +kernel
theorem dX4_pour_13 : decode cX4_pour 13 = .ok (.ifCond .ne 35, 3) := by decide +kernel
theorem dX4_pour_16 : decode cX4_pour 16 = .ok (.aload_n 0, 1) := by decide +kernel
theorem dX4_pour_17 : decode cX4_pour 17 = .ok (.iload_n 1, 1) := by decide +kernel
theorem dX4_pour_18 : decode cX4_pour 18 = .ok (.iconst 2, 1) := by decide +kernel
theorem dX4_pour_19 : decode cX4_pour 19 = .ok (.invokevirtual 108, 3) := by decide +kernel
theorem dX4_pour_22 : decode cX4_pour 22 = .ok (.ifCond .ne 26, 3) := by decide +kernel
theorem dX4_pour_25 : decode cX4_pour 25 = .ok (.aload_n 0, 1) := by decide +kernel
theorem dX4_pour_26 : decode cX4_pour 26 = .ok (.aload_n 0, 1) := by decide +kernel
theorem dX4_pour_27 : decode cX4_pour 27 = .ok (.iload_n 1, 1) := by decide +kernel
theorem dX4_pour_28 : decode cX4_pour 28 = .ok (.invokevirtual 98, 3) := by decide +kernel
theorem dX4_pour_31 : decode cX4_pour 31 = .ok (.bipush 120, 2) := by decide +kernel
theorem dX4_pour_33 : decode cX4_pour 33 = .ok (.if_icmp .le 7, 3) := by decide +kernel
theorem dX4_pour_36 : decode cX4_pour 36 = .ok (.iconst 1, 1) := by decide +kernel
theorem dX4_pour_37 : decode cX4_pour 37 = .ok (.goto 4, 3) := by decide +kernel
theorem dX4_pour_40 : decode cX4_pour 40 = .ok (.iconst 0, 1) := by decide +kernel
theorem dX4_pour_41 : decode cX4_pour 41 = .ok (.iconst 3, 1) := by decide +kernel
theorem dX4_pour_42 : decode cX4_pour 42 = .ok (.invokevirtual 59, 3) := by decide +kernel
theorem dX4_pour_45 : decode cX4_pour 45 = .ok (.ifCond .eq 5, 3) := by decide +kernel
theorem dX4_pour_48 : decode cX4_pour 48 = .ok (.iconst 0, 1) := by decide +kernel
theorem dX4_pour_49 : decode cX4_pour 49 = .ok (.ireturn, 1) := by decide +kernel
theorem dX4_pour_50 : decode cX4_pour 50 = .ok (.aload_n 0, 1) := by decide +kernel
theorem dX4_pour_51 : decode cX4_pour 51 = .ok (.iload_n 1, 1) := by decide +kernel
theorem dX4_pour_52 : decode cX4_pour 52 = .ok (.invokevirtual 98, 3) := by decide +kernel
theorem dX4_pour_55 : decode cX4_pour 55 = .ok (.istore_n 3, 1) := by decide +kernel
theorem dX4_pour_56 : decode cX4_pour 56 = .ok (.aload_n 0, 1) := by decide +kernel
theorem dX4_pour_57 : decode cX4_pour 57 = .ok (.getfield 13, 3) := by decide +kernel
theorem dX4_pour_60 : decode cX4_pour 60 = .ok (.iload_n 2, 1) := by decide +kernel
theorem dX4_pour_61 : decode cX4_pour 61 = .ok (.iconst 0, 1) := by decide +kernel
theorem dX4_pour_62 : decode cX4_pour 62 = .ok (.iastore, 1) := by decide +kernel
theorem dX4_pour_63 : decode cX4_pour 63 = .ok (.iconst 0, 1) := by decide +kernel
theorem dX4_pour_64 : decode cX4_pour 64 = .ok (.istore 4, 2) := by decide +kernel
theorem dX4_pour_66 : decode cX4_pour 66 = .ok (.iload 4, 2) := by decide +kernel
theorem dX4_pour_68 : decode cX4_pour 68 = .ok (.iload_n 3, 1) := by decide +kernel
theorem dX4_pour_69 : decode cX4_pour 69 = .ok (.if_icmp .ge 19, 3) := by decide +kernel
theorem dX4_pour_72 : decode cX4_pour 72 = .ok (.aload_n 0, 1) := by decide +kernel
theorem dX4_pour_73 : decode cX4_pour 73 = .ok (.iload_n 2, 1) := by decide +kernel
theorem dX4_pour_74 : decode cX4_pour 74 = .ok (.aload_n 0, 1) := by decide +kernel
theorem dX4_pour_75 : decode cX4_pour 75 = .ok (.iload_n 1, 1) := by decide +kernel
theorem dX4_pour_76 : decode cX4_pour 76 = .ok (.invokevirtual 112, 3) := by decide +kernel
theorem dX4_pour_79 : decode cX4_pour 79 = .ok (.invokevirtual 67, 3) := by decide +kernel
theorem dX4_pour_82 : decode cX4_pour 82 = .ok (.iinc 4 1, 3) := by decide +kernel
theorem dX4_pour_85 : decode cX4_pour 85 = .ok (.goto (-19), 3) := by decide +kernel
theorem dX4_pour_88 : decode cX4_pour 88 = .ok (.iload_n 3, 1) := by decide +kernel
theorem dX4_pour_89 : decode cX4_pour 89 = .ok (.ireturn, 1) := by decide +kernel
theorem dX4_alike_0 : decode cX4_alike 0 = .ok (.aload_n 0, 1) := by decide +kernel
theorem dX4_alike_1 : decode cX4_alike 1 = .ok (.iload_n 1, 1) := by decide +kernel
theorem dX4_alike_2 : decode cX4_alike 2 = .ok (.invokevirtual 63, 3) := by decide +kernel
theorem dX4_alike_5 : decode cX4_alike 5 = .ok (.ifCond .ne 47, 3) := by decide +kernel
theorem dX4_alike_8 : decode cX4_alike 8 = .ok (.aload_n 0, 1) := by decide +kernel
theorem dX4_alike_9 : decode cX4_alike 9 = .ok (.iload_n 2, 1) := by decide +kernel
theorem dX4_alike_10 : decode cX4_alike 10 = .ok (.invokevirtual 63, 3) := by decide +kernel
theorem dX4_alike_13 : decode cX4_alike 13 = .ok (.ifCond .ne 39, 3) := by decide +kernel
theorem dX4_alike_16 : decode cX4_alike 16 = .ok (.aload_n 0, 1) := by decide +kernel
theorem dX4_alike_17 : decode cX4_alike 17 = .ok (.iload_n 1, 1) := by decide +kernel
theorem dX4_alike_18 : decode cX4_alike 18 = .ok (.iload_n 2, 1) := by decide +kernel
theorem dX4_alike_19 : decode cX4_alike 19 = .ok (.if_icmp .ne 7, 3) := by decide +kernel
theorem dX4_alike_22 : decode cX4_alike 22 = .ok (.iconst 1, 1) := by decide +kernel
theorem dX4_alike_23 : decode cX4_alike 23 = .ok (.goto 4, 3) := by decide +kernel
theorem dX4_alike_26 : decode cX4_alike 26 = .ok (.iconst 0, 1) := by decide +kernel
theorem dX4_alike_27 : decode cX4_alike 27 = .ok (.iconst 2, 1) := by decide +kernel
theorem dX4_alike_28 : decode cX4_alike 28 = .ok (.invokevirtual 59, 3) := by decide +kernel
theorem dX4_alike_31 : decode cX4_alike 31 = .ok (.ifCond .ne 21, 3) := by decide +kernel
theorem dX4_alike_34 : decode cX4_alike 34 = .ok (.aload_n 0, 1) := by decide +kernel
theorem dX4_alike_35 : decode cX4_alike 35 = .ok (.iload_n 1, 1) := by decide +kernel
theorem dX4_alike_36 : decode cX4_alike 36 = .ok (.iconst 3, 1) := by decide +kernel
theorem dX4_alike_37 : decode cX4_alike 37 = .ok (.invokevirtual 108, 3) := by decide +kernel
theorem dX4_alike_40 : decode cX4_alike 40 = .ok (.ifCond .ne 12, 3) := by decide +kernel
theorem dX4_alike_43 : decode cX4_alike 43 = .ok (.aload_n 0, 1) := by decide +kernel
theorem dX4_alike_44 : decode cX4_alike 44 = .ok (.iload_n 2, 1) := by decide +kernel
theorem dX4_alike_45 : decode cX4_alike 45 = .ok (.iconst 3, 1) := by decide +kernel
theorem dX4_alike_46 : decode cX4_alike 46 = .ok (.invokevirtual 108, 3) := by decide +kernel
theorem dX4_alike_49 : decode cX4_alike 49 = .ok (.ifCond .eq 5, 3) := by decide +kernel
theorem dX4_alike_52 : decode cX4_alike 52 = .ok (.iconst 0, 1) := by decide +kernel
theorem dX4_alike_53 : decode cX4_alike 53 = .ok (.ireturn, 1) := by decide +kernel
theorem dX4_alike_54 : decode cX4_alike 54 = .ok (.iconst 0, 1) := by decide +kernel
theorem dX4_alike_55 : decode cX4_alike 55 = .ok (.istore_n 3, 1) := by decide +kernel
theorem dX4_alike_56 : decode cX4_alike 56 = .ok (.aload_n 0, 1) := by decide +kernel
theorem dX4_alike_57 : decode cX4_alike 57 = .ok (.iload_n 1, 1) := by decide +kernel
theorem dX4_alike_58 : decode cX4_alike 58 = .ok (.invokevirtual 112, 3) := by decide +kernel
theorem dX4_alike_61 : decode cX4_alike 61 = .ok (.istore 4, 2) := by decide +kernel
theorem dX4_alike_63 : decode cX4_alike 63 = .ok (.aload_n 0, 1) := by decide +kernel
theorem dX4_alike_64 : decode cX4_alike 64 = .ok (.iload_n 2, 1) := by decide +kernel
theorem dX4_alike_65 : decode cX4_alike 65 = .ok (.invokevirtual 112, 3) := by decide +kernel
theorem dX4_alike_68 : decode cX4_alike 68 = .ok (.istore 5, 2) := by decide +kernel
theorem dX4_alike_70 : decode cX4_alike 70 = .ok (.iload 4, 2) := by decide +kernel
theorem dX4_alike_72 : decode cX4_alike 72 = .ok (.iconst (-1), 1) := by decide +kernel
theorem dX4_alike_73 : decode cX4_alike 73 = .ok (.if_icmp .eq 30, 3) := by decide +kernel
theorem dX4_alike_76 : decode cX4_alike 76 = .ok (.iload 4, 2) := by decide +kernel
theorem dX4_alike_78 : decode cX4_alike 78 = .ok (.iload 5, 2) := by decide +kernel
theorem dX4_alike_80 : decode cX4_alike 80 = .ok (.if_icmp .ne 23, 3) := by decide +kernel
theorem dX4_alike_83 : decode cX4_alike 83 = .ok (.iinc 3 1, 3) := by decide +kernel
theorem dX4_alike_86 : decode cX4_alike 86 = .ok (.aload_n 0, 1) := by decide +kernel
theorem dX4_alike_87 : decode cX4_alike 87 = .ok (.iload_n 1, 1) := by decide +kernel
theorem dX4_alike_88 : decode cX4_alike 88 = .ok (.invokevirtual 112, 3) := by decide +kernel
theorem dX4_alike_91 : decode cX4_alike 91 = .ok (.istore 4, 2) := by decide +kernel
theorem dX4_alike_93 : decode cX4_alike 93 = .ok (.aload_n 0, 1) := by decide +kernel
theorem dX4_alike_94 : decode cX4_alike 94 = .ok (.iload_n 2, 1) := by decide +kernel
theorem dX4_alike_95 : decode cX4_alike 95 = .ok (.invokevirtual 112, 3) := by decide +kernel
theorem dX4_alike_98 : decode cX4_alike 98 = .ok (.istore 5, 2) := by decide +kernel
theorem dX4_alike_100 : decode cX4_alike 100 = .ok (.goto (-30), 3) := by decide +kernel
theorem dX4_alike_103 : decode cX4_alike 103 = .ok (.iload_n 3, 1) := by decide +kernel
theorem dX4_alike_104 : decode cX4_alike 104 = .ok (.ireturn, 1) := by decide +kernel
theorem dX4_canMark_0 : decode cX4_canMark 0 = .ok (.aload_n 0, 1) := by decide +kernel
theorem dX4_canMark_1 : decode cX4_canMark 1 = .ok (.iload_n 1, 1) := by decide +kernel
theorem dX4_canMark_2 : decode cX4_canMark 2 = .ok (.invokevirtual 63, 3) := by decide +kernel
theorem dX4_canMark_5 : decode cX4_canMark 5 = .ok (.ifCond .ne 28, 3) := by decide +kernel
theorem dX4_canMark_8 : decode cX4_canMark 8 = .ok (.aload_n 0, 1) := by decide +kernel
theorem dX4_canMark_9 : decode cX4_canMark 9 = .ok (.iload_n 1, 1) := by decide +kernel
theorem dX4_canMark_10 : decode cX4_canMark 10 = .ok (.iconst 2, 1) := by decide +kernel
theorem dX4_canMark_11 : decode cX4_canMark 11 = .ok (.invokevirtual 108, 3) := by decide +kernel
theorem dX4_canMark_14 : decode cX4_canMark 14 = .ok (.ifCond .ne 19, 3) := by decide +kernel
theorem dX4_canMark_17 : decode cX4_canMark 17 = .ok (.aload_n 0, 1) := by decide +kernel
theorem dX4_canMark_18 : decode cX4_canMark 18 = .ok (.getfield 19, 3) := by decide +kernel
theorem dX4_canMark_21 : decode cX4_canMark 21 = .ok (.iload_n 1, 1) := by decide +kernel
theorem dX4_canMark_22 : decode cX4_canMark 22 = .ok (.iaload, 1) := by decide +kernel
theorem dX4_canMark_23 : decode cX4_canMark 23 = .ok (.invokestatic 118, 3) := by decide +kernel
theorem dX4_canMark_26 : decode cX4_canMark 26 = .ok (.ifCond .eq 7, 3) := by decide +kernel
theorem dX4_canMark_29 : decode cX4_canMark 29 = .ok (.iconst 1, 1) := by decide +kernel
theorem dX4_canMark_30 : decode cX4_canMark 30 = .ok (.goto 4, 3) := by decide +kernel
theorem dX4_canMark_33 : decode cX4_canMark 33 = .ok (.iconst 0, 1) := by decide +kernel
theorem dX4_canMark_34 : decode cX4_canMark 34 = .ok (.ireturn, 1) := by decide +kernel
theorem dX4_lineOf_0 : decode cX4_lineOf 0 = .ok (.aload_n 0, 1) := by decide +kernel
theorem dX4_lineOf_1 : decode cX4_lineOf 1 = .ok (.getfield 19, 3) := by decide +kernel
theorem dX4_lineOf_4 : decode cX4_lineOf 4 = .ok (.iload_n 1, 1) := by decide +kernel
theorem dX4_lineOf_5 : decode cX4_lineOf 5 = .ok (.iaload, 1) := by decide +kernel
theorem dX4_lineOf_6 : decode cX4_lineOf 6 = .ok (.invokestatic 82, 3) := by decide +kernel
theorem dX4_lineOf_9 : decode cX4_lineOf 9 = .ok (.ifCond .eq 12, 3) := by decide +kernel
theorem dX4_lineOf_12 : decode cX4_lineOf 12 = .ok (.aload_n 0, 1) := by decide +kernel
theorem dX4_lineOf_13 : decode cX4_lineOf 13 = .ok (.getfield 34, 3) := by decide +kernel
theorem dX4_lineOf_16 : decode cX4_lineOf 16 = .ok (.iload_n 1, 1) := by decide +kernel
theorem dX4_lineOf_17 : decode cX4_lineOf 17 = .ok (.iaload, 1) := by decide +kernel
theorem dX4_lineOf_18 : decode cX4_lineOf 18 = .ok (.goto 4, 3) := by decide +kernel
theorem dX4_lineOf_21 : decode cX4_lineOf 21 = .ok (.iconst (-1), 1) := by decide +kernel
theorem dX4_lineOf_22 : decode cX4_lineOf 22 = .ok (.ireturn, 1) := by decide +kernel
theorem dX4_mark_0 : decode cX4_mark 0 = .ok (.aload_n 0, 1) := by decide +kernel
theorem dX4_mark_1 : decode cX4_mark 1 = .ok (.iload_n 1, 1) := by decide +kernel
theorem dX4_mark_2 : decode cX4_mark 2 = .ok (.invokevirtual 63, 3) := by decide +kernel
theorem dX4_mark_5 : decode cX4_mark 5 = .ok (.ifCond .ne 28, 3) := by decide +kernel
theorem dX4_mark_8 : decode cX4_mark 8 = .ok (.aload_n 0, 1) := by decide +kernel
theorem dX4_mark_9 : decode cX4_mark 9 = .ok (.aload_n 0, 1) := by decide +kernel
theorem dX4_mark_10 : decode cX4_mark 10 = .ok (.getfield 19, 3) := by decide +kernel
theorem dX4_mark_13 : decode cX4_mark 13 = .ok (.iload_n 1, 1) := by decide +kernel
theorem dX4_mark_14 : decode cX4_mark 14 = .ok (.iaload, 1) := by decide +kernel
theorem dX4_mark_15 : decode cX4_mark 15 = .ok (.invokestatic 118, 3) := by decide +kernel
theorem dX4_mark_18 : decode cX4_mark 18 = .ok (.ifCond .ne 7, 3) := by decide +kernel
theorem dX4_mark_21 : decode cX4_mark 21 = .ok (.iconst 1, 1) := by decide +kernel
theorem dX4_mark_22 : decode cX4_mark 22 = .ok (.goto 4, 3) := by decide +kernel
theorem dX4_mark_25 : decode cX4_mark 25 = .ok (.iconst 0, 1) := by decide +kernel
theorem dX4_mark_26 : decode cX4_mark 26 = .ok (.iconst 2, 1) := by decide +kernel
theorem dX4_mark_27 : decode cX4_mark 27 = .ok (.invokevirtual 59, 3) := by decide +kernel
theorem dX4_mark_30 : decode cX4_mark 30 = .ok (.ifCond .eq 5, 3) := by decide +kernel
theorem dX4_mark_33 : decode cX4_mark 33 = .ok (.iconst 0, 1) := by decide +kernel
theorem dX4_mark_34 : decode cX4_mark 34 = .ok (.ireturn, 1) := by decide +kernel
theorem dX4_mark_35 : decode cX4_mark 35 = .ok (.aload_n 0, 1) := by decide +kernel
theorem dX4_mark_36 : decode cX4_mark 36 = .ok (.getfield 41, 3) := by decide +kernel
theorem dX4_mark_39 : decode cX4_mark 39 = .ok (.iload_n 1, 1) := by decide +kernel
theorem dX4_mark_40 : decode cX4_mark 40 = .ok (.iconst 1, 1) := by decide +kernel
theorem dX4_mark_41 : decode cX4_mark 41 = .ok (.bastore, 1) := by decide +kernel
theorem dX4_mark_42 : decode cX4_mark 42 = .ok (.aload_n 0, 1) := by decide +kernel
theorem dX4_mark_43 : decode cX4_mark 43 = .ok (.getfield 45, 3) := by decide +kernel
theorem dX4_mark_46 : decode cX4_mark 46 = .ok (.iload_n 1, 1) := by decide +kernel
theorem dX4_mark_47 : decode cX4_mark 47 = .ok (.aload_n 0, 1) := by decide +kernel
theorem dX4_mark_48 : decode cX4_mark 48 = .ok (.getfield 31, 3) := by decide +kernel
theorem dX4_mark_51 : decode cX4_mark 51 = .ok (.iload_n 1, 1) := by decide +kernel
theorem dX4_mark_52 : decode cX4_mark 52 = .ok (.iaload, 1) := by decide +kernel
theorem dX4_mark_53 : decode cX4_mark 53 = .ok (.iastore, 1) := by decide +kernel
theorem dX4_mark_54 : decode cX4_mark 54 = .ok (.aload_n 0, 1) := by decide +kernel
theorem dX4_mark_55 : decode cX4_mark 55 = .ok (.getfield 48, 3) := by decide +kernel
theorem dX4_mark_58 : decode cX4_mark 58 = .ok (.iload_n 1, 1) := by decide +kernel
theorem dX4_mark_59 : decode cX4_mark 59 = .ok (.aload_n 0, 1) := by decide +kernel
theorem dX4_mark_60 : decode cX4_mark 60 = .ok (.getfield 34, 3) := by decide +kernel
theorem dX4_mark_63 : decode cX4_mark 63 = .ok (.iload_n 1, 1) := by decide +kernel
theorem dX4_mark_64 : decode cX4_mark 64 = .ok (.iaload, 1) := by decide +kernel
theorem dX4_mark_65 : decode cX4_mark 65 = .ok (.iastore, 1) := by decide +kernel
theorem dX4_mark_66 : decode cX4_mark 66 = .ok (.aload_n 0, 1) := by decide +kernel
theorem dX4_mark_67 : decode cX4_mark 67 = .ok (.iload_n 1, 1) := by decide +kernel
theorem dX4_mark_68 : decode cX4_mark 68 = .ok (.invokevirtual 121, 3) := by decide +kernel
theorem dX4_mark_71 : decode cX4_mark 71 = .ok (.ireturn, 1) := by decide +kernel
theorem dX4_back_0 : decode cX4_back 0 = .ok (.aload_n 0, 1) := by decide +kernel
theorem dX4_back_1 : decode cX4_back 1 = .ok (.iload_n 1, 1) := by decide +kernel
theorem dX4_back_2 : decode cX4_back 2 = .ok (.invokevirtual 63, 3) := by decide +kernel
theorem dX4_back_5 : decode cX4_back 5 = .ok (.ifCond .eq 5, 3) := by decide +kernel
theorem dX4_back_8 : decode cX4_back 8 = .ok (.iconst 0, 1) := by decide +kernel
theorem dX4_back_9 : decode cX4_back 9 = .ok (.ireturn, 1) := by decide +kernel
theorem dX4_back_10 : decode cX4_back 10 = .ok (.aload_n 0, 1) := by decide +kernel
theorem dX4_back_11 : decode cX4_back 11 = .ok (.getfield 19, 3) := by decide +kernel
theorem dX4_back_14 : decode cX4_back 14 = .ok (.iload_n 1, 1) := by decide +kernel
theorem dX4_back_15 : decode cX4_back 15 = .ok (.iaload, 1) := by decide +kernel
theorem dX4_back_16 : decode cX4_back 16 = .ok (.iconst (-1), 1) := by decide +kernel
theorem dX4_back_17 : decode cX4_back 17 = .ok (.if_icmp .eq 15, 3) := by decide +kernel
theorem dX4_back_20 : decode cX4_back 20 = .ok (.aload_n 0, 1) := by decide +kernel
theorem dX4_back_21 : decode cX4_back 21 = .ok (.getfield 19, 3) := by decide +kernel
theorem dX4_back_24 : decode cX4_back 24 = .ok (.iload_n 1, 1) := by decide +kernel
theorem dX4_back_25 : decode cX4_back 25 = .ok (.iaload, 1) := by decide +kernel
theorem dX4_back_26 : decode cX4_back 26 = .ok (.invokestatic 89, 3) := by decide +kernel
theorem dX4_back_29 : decode cX4_back 29 = .ok (.ifCond .eq 7, 3) := by decide +kernel
theorem dX4_back_32 : decode cX4_back 32 = .ok (.iconst 1, 1) := by decide +kernel
theorem dX4_back_33 : decode cX4_back 33 = .ok (.goto 4, 3) := by decide +kernel
theorem dX4_back_36 : decode cX4_back 36 = .ok (.iconst 0, 1) := by decide +kernel
theorem dX4_back_37 : decode cX4_back 37 = .ok (.istore_n 2, 1) := by decide +kernel
theorem dX4_back_38 : decode cX4_back 38 = .ok (.aload_n 0, 1) := by decide +kernel
theorem dX4_back_39 : decode cX4_back 39 = .ok (.getfield 19, 3) := by decide +kernel
theorem dX4_back_42 : decode cX4_back 42 = .ok (.iload_n 1, 1) := by decide +kernel
theorem dX4_back_43 : decode cX4_back 43 = .ok (.iaload, 1) := by decide +kernel
theorem dX4_back_44 : decode cX4_back 44 = .ok (.invokestatic 82, 3) := by decide +kernel
theorem dX4_back_47 : decode cX4_back 47 = .ok (.ifCond .eq 16, 3) := by decide +kernel
theorem dX4_back_50 : decode cX4_back 50 = .ok (.aload_n 0, 1) := by decide +kernel
theorem dX4_back_51 : decode cX4_back 51 = .ok (.getfield 41, 3) := by decide +kernel
theorem dX4_back_54 : decode cX4_back 54 = .ok (.iload_n 1, 1) := by decide +kernel
theorem dX4_back_55 : decode cX4_back 55 = .ok (.baload, 1) := by decide +kernel
theorem dX4_back_56 : decode cX4_back 56 = .ok (.ifCond .ne 7, 3) := by decide +kernel
theorem dX4_back_59 : decode cX4_back 59 = .ok (.iconst 1, 1) := by decide +kernel
theorem dX4_back_60 : decode cX4_back 60 = .ok (.goto 4, 3) := by decide +kernel
theorem dX4_back_63 : decode cX4_back 63 = .ok (.iconst 0, 1) := by decide +kernel
theorem dX4_back_64 : decode cX4_back 64 = .ok (.istore_n 3, 1) := by decide +kernel
theorem dX4_back_65 : decode cX4_back 65 = .ok (.aload_n 0, 1) := by decide +kernel
theorem dX4_back_66 : decode cX4_back 66 = .ok (.iload_n 2, 1) := by decide +kernel
theorem dX4_back_67 : decode cX4_back 67 = .ok (.ifCond .ne 7, 3) := by decide +kernel
theorem dX4_back_70 : decode cX4_back 70 = .ok (.iload_n 3, 1) := by decide +kernel
theorem dX4_back_71 : decode cX4_back 71 = .ok (.ifCond .eq 7, 3) := by decide +kernel
theorem dX4_back_74 : decode cX4_back 74 = .ok (.iconst 1, 1) := by decide +kernel
theorem dX4_back_75 : decode cX4_back 75 = .ok (.goto 4, 3) := by decide +kernel
theorem dX4_back_78 : decode cX4_back 78 = .ok (.iconst 0, 1) := by decide +kernel
theorem dX4_back_79 : decode cX4_back 79 = .ok (.iconst 2, 1) := by decide +kernel
theorem dX4_back_80 : decode cX4_back 80 = .ok (.invokevirtual 59, 3) := by decide +kernel
theorem dX4_back_83 : decode cX4_back 83 = .ok (.ifCond .eq 5, 3) := by decide +kernel
theorem dX4_back_86 : decode cX4_back 86 = .ok (.iconst 0, 1) := by decide +kernel
theorem dX4_back_87 : decode cX4_back 87 = .ok (.ireturn, 1) := by decide +kernel
theorem dX4_back_88 : decode cX4_back 88 = .ok (.aload_n 0, 1) := by decide +kernel
theorem dX4_back_89 : decode cX4_back 89 = .ok (.getfield 31, 3) := by decide +kernel
theorem dX4_back_92 : decode cX4_back 92 = .ok (.iload_n 1, 1) := by decide +kernel
theorem dX4_back_93 : decode cX4_back 93 = .ok (.aload_n 0, 1) := by decide +kernel
theorem dX4_back_94 : decode cX4_back 94 = .ok (.getfield 41, 3) := by decide +kernel
theorem dX4_back_97 : decode cX4_back 97 = .ok (.iload_n 1, 1) := by decide +kernel
theorem dX4_back_98 : decode cX4_back 98 = .ok (.baload, 1) := by decide +kernel
theorem dX4_back_99 : decode cX4_back 99 = .ok (.ifCond .eq 12, 3) := by decide +kernel
theorem dX4_back_102 : decode cX4_back 102 = .ok (.aload_n 0, 1) := by decide +kernel
theorem dX4_back_103 : decode cX4_back 103 = .ok (.getfield 45, 3) := by decide +kernel
theorem dX4_back_106 : decode cX4_back 106 = .ok (.iload_n 1, 1) := by decide +kernel
theorem dX4_back_107 : decode cX4_back 107 = .ok (.iaload, 1) := by decide +kernel
theorem dX4_back_108 : decode cX4_back 108 = .ok (.goto 4, 3) := by decide +kernel
theorem dX4_back_111 : decode cX4_back 111 = .ok (.iconst 0, 1) := by decide +kernel
theorem dX4_back_112 : decode cX4_back 112 = .ok (.iastore, 1) := by decide +kernel
theorem dX4_back_113 : decode cX4_back 113 = .ok (.aload_n 0, 1) := by decide +kernel
theorem dX4_back_114 : decode cX4_back 114 = .ok (.getfield 34, 3) := by decide +kernel
theorem dX4_back_117 : decode cX4_back 117 = .ok (.iload_n 1, 1) := by decide +kernel
theorem dX4_back_118 : decode cX4_back 118 = .ok (.aload_n 0, 1) := by decide +kernel
theorem dX4_back_119 : decode cX4_back 119 = .ok (.getfield 41, 3) := by decide +kernel
theorem dX4_back_122 : decode cX4_back 122 = .ok (.iload_n 1, 1) := by decide +kernel
theorem dX4_back_123 : decode cX4_back 123 = .ok (.baload, 1) := by decide +kernel
theorem dX4_back_124 : decode cX4_back 124 = .ok (.ifCond .eq 12, 3) := by decide +kernel
theorem dX4_back_127 : decode cX4_back 127 = .ok (.aload_n 0, 1) := by decide +kernel
theorem dX4_back_128 : decode cX4_back 128 = .ok (.getfield 48, 3) := by decide +kernel
theorem dX4_back_131 : decode cX4_back 131 = .ok (.iload_n 1, 1) := by decide +kernel
theorem dX4_back_132 : decode cX4_back 132 = .ok (.iaload, 1) := by decide +kernel
theorem dX4_back_133 : decode cX4_back 133 = .ok (.goto 4, 3) := by decide +kernel
theorem dX4_back_136 : decode cX4_back 136 = .ok (.iconst 0, 1) := by decide +kernel
theorem dX4_back_137 : decode cX4_back 137 = .ok (.iastore, 1) := by decide +kernel
theorem dX4_back_138 : decode cX4_back 138 = .ok (.aload_n 0, 1) := by decide +kernel
theorem dX4_back_139 : decode cX4_back 139 = .ok (.iload_n 1, 1) := by decide +kernel
theorem dX4_back_140 : decode cX4_back 140 = .ok (.invokevirtual 121, 3) := by decide +kernel
theorem dX4_back_143 : decode cX4_back 143 = .ok (.ireturn, 1) := by decide +kernel
theorem dX4_left_0 : decode cX4_left 0 = .ok (.aload_n 0, 1) := by decide +kernel
theorem dX4_left_1 : decode cX4_left 1 = .ok (.iload_n 1, 1) := by decide +kernel
theorem dX4_left_2 : decode cX4_left 2 = .ok (.invokevirtual 63, 3) := by decide +kernel
theorem dX4_left_5 : decode cX4_left 5 = .ok (.ifCond .ne 45, 3) := by decide +kernel
theorem dX4_left_8 : decode cX4_left 8 = .ok (.aload_n 0, 1) := by decide +kernel
theorem dX4_left_9 : decode cX4_left 9 = .ok (.aload_n 0, 1) := by decide +kernel
theorem dX4_left_10 : decode cX4_left 10 = .ok (.getfield 19, 3) := by decide +kernel
theorem dX4_left_13 : decode cX4_left 13 = .ok (.iload_n 1, 1) := by decide +kernel
theorem dX4_left_14 : decode cX4_left 14 = .ok (.iaload, 1) := by decide +kernel
theorem dX4_left_15 : decode cX4_left 15 = .ok (.ifCond .eq 27, 3) := by decide +kernel
theorem dX4_left_18 : decode cX4_left 18 = .ok (.aload_n 0, 1) := by decide +kernel
theorem dX4_left_19 : decode cX4_left 19 = .ok (.getfield 19, 3) := by decide +kernel
theorem dX4_left_22 : decode cX4_left 22 = .ok (.iload_n 1, 1) := by decide +kernel
theorem dX4_left_23 : decode cX4_left 23 = .ok (.iaload, 1) := by decide +kernel
theorem dX4_left_24 : decode cX4_left 24 = .ok (.iconst 1, 1) := by decide +kernel
theorem dX4_left_25 : decode cX4_left 25 = .ok (.if_icmp .eq 17, 3) := by decide +kernel
theorem dX4_left_28 : decode cX4_left 28 = .ok (.aload_n 0, 1) := by decide +kernel
theorem dX4_left_29 : decode cX4_left 29 = .ok (.getfield 19, 3) := by decide +kernel
theorem dX4_left_32 : decode cX4_left 32 = .ok (.iload_n 1, 1) := by decide +kernel
theorem dX4_left_33 : decode cX4_left 33 = .ok (.iaload, 1) := by decide +kernel
theorem dX4_left_34 : decode cX4_left 34 = .ok (.iconst 3, 1) := by decide +kernel
theorem dX4_left_35 : decode cX4_left 35 = .ok (.if_icmp .eq 7, 3) := by decide +kernel
theorem dX4_left_38 : decode cX4_left 38 = .ok (.iconst 1, 1) := by decide +kernel
theorem dX4_left_39 : decode cX4_left 39 = .ok (.goto 4, 3) := by decide +kernel
theorem dX4_left_42 : decode cX4_left 42 = .ok (.iconst 0, 1) := by decide +kernel
theorem dX4_left_43 : decode cX4_left 43 = .ok (.iconst 2, 1) := by decide +kernel
theorem dX4_left_44 : decode cX4_left 44 = .ok (.invokevirtual 59, 3) := by decide +kernel
theorem dX4_left_47 : decode cX4_left 47 = .ok (.ifCond .eq 5, 3) := by decide +kernel
theorem dX4_left_50 : decode cX4_left 50 = .ok (.iconst 0, 1) := by decide +kernel
theorem dX4_left_51 : decode cX4_left 51 = .ok (.ireturn, 1) := by decide +kernel
theorem dX4_left_52 : decode cX4_left 52 = .ok (.aload_n 0, 1) := by decide +kernel
theorem dX4_left_53 : decode cX4_left 53 = .ok (.iload_n 1, 1) := by decide +kernel
theorem dX4_left_54 : decode cX4_left 54 = .ok (.invokevirtual 98, 3) := by decide +kernel
theorem dX4_left_57 : decode cX4_left 57 = .ok (.ireturn, 1) := by decide +kernel
theorem dX4_line_0 : decode cX4_line 0 = .ok (.aload_n 0, 1) := by decide +kernel
theorem dX4_line_1 : decode cX4_line 1 = .ok (.iload_n 1, 1) := by decide +kernel
theorem dX4_line_2 : decode cX4_line 2 = .ok (.invokevirtual 63, 3) := by decide +kernel
theorem dX4_line_5 : decode cX4_line 5 = .ok (.ifCond .ne 28, 3) := by decide +kernel
theorem dX4_line_8 : decode cX4_line 8 = .ok (.aload_n 0, 1) := by decide +kernel
theorem dX4_line_9 : decode cX4_line 9 = .ok (.aload_n 0, 1) := by decide +kernel
theorem dX4_line_10 : decode cX4_line 10 = .ok (.getfield 19, 3) := by decide +kernel
theorem dX4_line_13 : decode cX4_line 13 = .ok (.iload_n 1, 1) := by decide +kernel
theorem dX4_line_14 : decode cX4_line 14 = .ok (.iaload, 1) := by decide +kernel
theorem dX4_line_15 : decode cX4_line 15 = .ok (.invokestatic 82, 3) := by decide +kernel
theorem dX4_line_18 : decode cX4_line 18 = .ok (.ifCond .ne 7, 3) := by decide +kernel
theorem dX4_line_21 : decode cX4_line 21 = .ok (.iconst 1, 1) := by decide +kernel
theorem dX4_line_22 : decode cX4_line 22 = .ok (.goto 4, 3) := by decide +kernel
theorem dX4_line_25 : decode cX4_line 25 = .ok (.iconst 0, 1) := by decide +kernel
theorem dX4_line_26 : decode cX4_line 26 = .ok (.iconst 2, 1) := by decide +kernel
theorem dX4_line_27 : decode cX4_line 27 = .ok (.invokevirtual 59, 3) := by decide +kernel
theorem dX4_line_30 : decode cX4_line 30 = .ok (.ifCond .eq 7, 3) := by decide +kernel
theorem dX4_line_33 : decode cX4_line 33 = .ok (.iconst 0, 1) := by decide +kernel
theorem dX4_line_34 : decode cX4_line 34 = .ok (.goto 9, 3) := by decide +kernel
theorem dX4_line_37 : decode cX4_line 37 = .ok (.aload_n 0, 1) := by decide +kernel
theorem dX4_line_38 : decode cX4_line 38 = .ok (.getfield 34, 3) := by decide +kernel
theorem dX4_line_41 : decode cX4_line 41 = .ok (.iload_n 1, 1) := by decide +kernel
theorem dX4_line_42 : decode cX4_line 42 = .ok (.iaload, 1) := by decide +kernel
theorem dX4_line_43 : decode cX4_line 43 = .ok (.ireturn, 1) := by decide +kernel
theorem dX4_setLine_0 : decode cX4_setLine 0 = .ok (.aload_n 0, 1) := by decide +kernel
theorem dX4_setLine_1 : decode cX4_setLine 1 = .ok (.iload_n 1, 1) := by decide +kernel
theorem dX4_setLine_2 : decode cX4_setLine 2 = .ok (.invokevirtual 63, 3) := by decide +kernel
theorem dX4_setLine_5 : decode cX4_setLine 5 = .ok (.ifCond .ne 28, 3) := by decide +kernel
theorem dX4_setLine_8 : decode cX4_setLine 8 = .ok (.aload_n 0, 1) := by decide +kernel
theorem dX4_setLine_9 : decode cX4_setLine 9 = .ok (.aload_n 0, 1) := by decide +kernel
theorem dX4_setLine_10 : decode cX4_setLine 10 = .ok (.getfield 19, 3) := by decide +kernel
theorem dX4_setLine_13 : decode cX4_setLine 13 = .ok (.iload_n 1, 1) := by decide +kernel
theorem dX4_setLine_14 : decode cX4_setLine 14 = .ok (.iaload, 1) := by decide +kernel
theorem dX4_setLine_15 : decode cX4_setLine 15 = .ok (.invokestatic 82, 3) := by decide +kernel
theorem dX4_setLine_18 : decode cX4_setLine 18 = .ok (.ifCond .ne 7, 3) := by decide +kernel
theorem dX4_setLine_21 : decode cX4_setLine 21 = .ok (.iconst 1, 1) := by decide +kernel
theorem dX4_setLine_22 : decode cX4_setLine 22 = .ok (.goto 4, 3) := by decide +kernel
theorem dX4_setLine_25 : decode cX4_setLine 25 = .ok (.iconst 0, 1) := by decide +kernel
theorem dX4_setLine_26 : decode cX4_setLine 26 = .ok (.iconst 2, 1) := by decide +kernel
theorem dX4_setLine_27 : decode cX4_setLine 27 = .ok (.invokevirtual 59, 3) := by decide +kernel
theorem dX4_setLine_30 : decode cX4_setLine 30 = .ok (.ifCond .eq 5, 3) := by decide +kernel
theorem dX4_setLine_33 : decode cX4_setLine 33 = .ok (.iconst 0, 1) := by decide +kernel
theorem dX4_setLine_34 : decode cX4_setLine 34 = .ok (.ireturn, 1) := by decide +kernel
theorem dX4_setLine_35 : decode cX4_setLine 35 = .ok (.aload_n 0, 1) := by decide +kernel
theorem dX4_setLine_36 : decode cX4_setLine 36 = .ok (.getfield 34, 3) := by decide +kernel
theorem dX4_setLine_39 : decode cX4_setLine 39 = .ok (.iload_n 1, 1) := by decide +kernel
theorem dX4_setLine_40 : decode cX4_setLine 40 = .ok (.iaload, 1) := by decide +kernel
theorem dX4_setLine_41 : decode cX4_setLine 41 = .ok (.istore_n 3, 1) := by decide +kernel
theorem dX4_setLine_42 : decode cX4_setLine 42 = .ok (.aload_n 0, 1) := by decide +kernel
theorem dX4_setLine_43 : decode cX4_setLine 43 = .ok (.getfield 34, 3) := by decide +kernel
theorem dX4_setLine_46 : decode cX4_setLine 46 = .ok (.iload_n 1, 1) := by decide +kernel
theorem dX4_setLine_47 : decode cX4_setLine 47 = .ok (.iload_n 2, 1) := by decide +kernel
theorem dX4_setLine_48 : decode cX4_setLine 48 = .ok (.iastore, 1) := by decide +kernel
theorem dX4_setLine_49 : decode cX4_setLine 49 = .ok (.iload_n 3, 1) := by decide +kernel
theorem dX4_setLine_50 : decode cX4_setLine 50 = .ok (.ireturn, 1) := by decide +kernel
theorem dX4_check_0 : decode cX4_check 0 = .ok (.aload_n 0, 1) := by decide +kernel
theorem dX4_check_1 : decode cX4_check 1 = .ok (.iload_n 1, 1) := by decide +kernel
theorem dX4_check_2 : decode cX4_check 2 = .ok (.invokevirtual 63, 3) := by decide +kernel
theorem dX4_check_5 : decode cX4_check 5 = .ok (.ifCond .ne 28, 3) := by decide +kernel
theorem dX4_check_8 : decode cX4_check 8 = .ok (.aload_n 0, 1) := by decide +kernel
theorem dX4_check_9 : decode cX4_check 9 = .ok (.aload_n 0, 1) := by decide +kernel
theorem dX4_check_10 : decode cX4_check 10 = .ok (.getfield 19, 3) := by decide +kernel
theorem dX4_check_13 : decode cX4_check 13 = .ok (.iload_n 1, 1) := by decide +kernel
theorem dX4_check_14 : decode cX4_check 14 = .ok (.iaload, 1) := by decide +kernel
theorem dX4_check_15 : decode cX4_check 15 = .ok (.invokestatic 124, 3) := by decide +kernel
theorem dX4_check_18 : decode cX4_check 18 = .ok (.ifCond .ne 7, 3) := by decide +kernel
theorem dX4_check_21 : decode cX4_check 21 = .ok (.iconst 1, 1) := by decide +kernel
theorem dX4_check_22 : decode cX4_check 22 = .ok (.goto 4, 3) := by decide +kernel
theorem dX4_check_25 : decode cX4_check 25 = .ok (.iconst 0, 1) := by decide +kernel
theorem dX4_check_26 : decode cX4_check 26 = .ok (.iconst 2, 1) := by decide +kernel
theorem dX4_check_27 : decode cX4_check 27 = .ok (.invokevirtual 59, 3) := by decide +kernel
theorem dX4_check_30 : decode cX4_check 30 = .ok (.ifCond .eq 7, 3) := by decide +kernel
theorem dX4_check_33 : decode cX4_check 33 = .ok (.lconst 0, 1) := by decide +kernel
theorem dX4_check_34 : decode cX4_check 34 = .ok (.goto 13, 3) := by decide +kernel
theorem dX4_check_37 : decode cX4_check 37 = .ok (.ldc2_w 92, 3) := by decide +kernel
theorem dX4_check_40 : decode cX4_check 40 = .ok (.aload_n 0, 1) := by decide +kernel
theorem dX4_check_41 : decode cX4_check 41 = .ok (.getfield 37, 3) := by decide +kernel
theorem dX4_check_44 : decode cX4_check 44 = .ok (.iload_n 1, 1) := by decide +kernel
theorem dX4_check_45 : decode cX4_check 45 = .ok (.laload, 1) := by decide +kernel
theorem dX4_check_46 : decode cX4_check 46 = .ok (.lsub, 1) := by decide +kernel
theorem dX4_check_47 : decode cX4_check 47 = .ok (.lreturn, 1) := by decide +kernel
theorem dX4_checkAnew_0 : decode cX4_checkAnew 0 = .ok (.aload_n 0, 1) := by decide +kernel
theorem dX4_checkAnew_1 : decode cX4_checkAnew 1 = .ok (.iload_n 1, 1) := by decide +kernel
theorem dX4_checkAnew_2 : decode cX4_checkAnew 2 = .ok (.invokevirtual 63, 3) := by decide +kernel
theorem dX4_checkAnew_5 : decode cX4_checkAnew 5 = .ok (.ifCond .ne 28, 3) := by decide +kernel
theorem dX4_checkAnew_8 : decode cX4_checkAnew 8 = .ok (.aload_n 0, 1) := by decide +kernel
theorem dX4_checkAnew_9 : decode cX4_checkAnew 9 = .ok (.aload_n 0, 1) := by decide +kernel
theorem dX4_checkAnew_10 : decode cX4_checkAnew 10 = .ok (.getfield 19, 3) := by decide +kernel
theorem dX4_checkAnew_13 : decode cX4_checkAnew 13 = .ok (.iload_n 1, 1) := by decide +kernel
theorem dX4_checkAnew_14 : decode cX4_checkAnew 14 = .ok (.iaload, 1) := by decide +kernel
theorem dX4_checkAnew_15 : decode cX4_checkAnew 15 = .ok (.invokestatic 124, 3) := by decide +kernel
theorem dX4_checkAnew_18 : decode cX4_checkAnew 18 = .ok (.ifCond .ne 7, 3) := by decide +kernel
theorem dX4_checkAnew_21 : decode cX4_checkAnew 21 = .ok (.iconst 1, 1) := by decide +kernel
theorem dX4_checkAnew_22 : decode cX4_checkAnew 22 = .ok (.goto 4, 3) := by decide +kernel
theorem dX4_checkAnew_25 : decode cX4_checkAnew 25 = .ok (.iconst 0, 1) := by decide +kernel
theorem dX4_checkAnew_26 : decode cX4_checkAnew 26 = .ok (.iconst 2, 1) := by decide +kernel
theorem dX4_checkAnew_27 : decode cX4_checkAnew 27 = .ok (.invokevirtual 59, 3) := by decide +kernel
theorem dX4_checkAnew_30 : decode cX4_checkAnew 30 = .ok (.ifCond .eq 5, 3) := by decide +kernel
theorem dX4_checkAnew_33 : decode cX4_checkAnew 33 = .ok (.lconst 0, 1) := by decide +kernel
theorem dX4_checkAnew_34 : decode cX4_checkAnew 34 = .ok (.lreturn, 1) := by decide +kernel
theorem dX4_checkAnew_35 : decode cX4_checkAnew 35 = .ok (.ldc2_w 92, 3) := by decide +kernel
theorem dX4_checkAnew_38 : decode cX4_checkAnew 38 = .ok (.aload_n 0, 1) := by decide +kernel
theorem dX4_checkAnew_39 : decode cX4_checkAnew 39 = .ok (.getfield 37, 3) := by decide +kernel
theorem dX4_checkAnew_42 : decode cX4_checkAnew 42 = .ok (.iload_n 1, 1) := by decide +kernel
theorem dX4_checkAnew_43 : decode cX4_checkAnew 43 = .ok (.laload, 1) := by decide +kernel
theorem dX4_checkAnew_44 : decode cX4_checkAnew 44 = .ok (.lsub, 1) := by decide +kernel
theorem dX4_checkAnew_45 : decode cX4_checkAnew 45 = .ok (.lstore_n 2, 1) := by decide +kernel
theorem dX4_checkAnew_46 : decode cX4_checkAnew 46 = .ok (.aload_n 0, 1) := by decide +kernel
theorem dX4_checkAnew_47 : decode cX4_checkAnew 47 = .ok (.getfield 37, 3) := by decide +kernel
theorem dX4_checkAnew_50 : decode cX4_checkAnew 50 = .ok (.iload_n 1, 1) := by decide +kernel
theorem dX4_checkAnew_51 : decode cX4_checkAnew 51 = .ok (.ldc2_w 92, 3) := by decide +kernel
theorem dX4_checkAnew_54 : decode cX4_checkAnew 54 = .ok (.lastore, 1) := by decide +kernel
theorem dX4_checkAnew_55 : decode cX4_checkAnew 55 = .ok (.lload_n 2, 1) := by decide +kernel
theorem dX4_checkAnew_56 : decode cX4_checkAnew 56 = .ok (.lreturn, 1) := by decide +kernel
theorem dX4_checkOf_0 : decode cX4_checkOf 0 = .ok (.aload_n 0, 1) := by decide +kernel
theorem dX4_checkOf_1 : decode cX4_checkOf 1 = .ok (.iload_n 1, 1) := by decide +kernel
theorem dX4_checkOf_2 : decode cX4_checkOf 2 = .ok (.invokevirtual 63, 3) := by decide +kernel
theorem dX4_checkOf_5 : decode cX4_checkOf 5 = .ok (.ifCond .eq 5, 3) := by decide +kernel
theorem dX4_checkOf_8 : decode cX4_checkOf 8 = .ok (.lconst 0, 1) := by decide +kernel
theorem dX4_checkOf_9 : decode cX4_checkOf 9 = .ok (.lreturn, 1) := by decide +kernel
theorem dX4_checkOf_10 : decode cX4_checkOf 10 = .ok (.ldc2_w 92, 3) := by decide +kernel
theorem dX4_checkOf_13 : decode cX4_checkOf 13 = .ok (.lstore_n 2, 1) := by decide +kernel
theorem dX4_checkOf_14 : decode cX4_checkOf 14 = .ok (.iconst 0, 1) := by decide +kernel
theorem dX4_checkOf_15 : decode cX4_checkOf 15 = .ok (.istore 4, 2) := by decide +kernel
theorem dX4_checkOf_17 : decode cX4_checkOf 17 = .ok (.iload 4, 2) := by decide +kernel
theorem dX4_checkOf_19 : decode cX4_checkOf 19 = .ok (.aload_n 0, 1) := by decide +kernel
theorem dX4_checkOf_20 : decode cX4_checkOf 20 = .ok (.getfield 13, 3) := by decide +kernel
theorem dX4_checkOf_23 : decode cX4_checkOf 23 = .ok (.iload_n 1, 1) := by decide +kernel
theorem dX4_checkOf_24 : decode cX4_checkOf 24 = .ok (.iaload, 1) := by decide +kernel
theorem dX4_checkOf_25 : decode cX4_checkOf 25 = .ok (.if_icmp .ge 21, 3) := by decide +kernel
theorem dX4_checkOf_28 : decode cX4_checkOf 28 = .ok (.lload_n 2, 1) := by decide +kernel
theorem dX4_checkOf_29 : decode cX4_checkOf 29 = .ok (.aload_n 0, 1) := by decide +kernel
theorem dX4_checkOf_30 : decode cX4_checkOf 30 = .ok (.iload_n 1, 1) := by decide +kernel
theorem dX4_checkOf_31 : decode cX4_checkOf 31 = .ok (.iload 4, 2) := by decide +kernel
theorem dX4_checkOf_33 : decode cX4_checkOf 33 = .ok (.invokevirtual 71, 3) := by decide +kernel
theorem dX4_checkOf_36 : decode cX4_checkOf 36 = .ok (.invokestatic 104, 3) := by decide +kernel
theorem dX4_checkOf_39 : decode cX4_checkOf 39 = .ok (.lstore_n 2, 1) := by decide +kernel
theorem dX4_checkOf_40 : decode cX4_checkOf 40 = .ok (.iinc 4 1, 3) := by decide +kernel
theorem dX4_checkOf_43 : decode cX4_checkOf 43 = .ok (.goto (-26), 3) := by decide +kernel
theorem dX4_checkOf_46 : decode cX4_checkOf 46 = .ok (.ldc2_w 92, 3) := by decide +kernel
theorem dX4_checkOf_49 : decode cX4_checkOf 49 = .ok (.lload_n 2, 1) := by decide +kernel
theorem dX4_checkOf_50 : decode cX4_checkOf 50 = .ok (.lsub, 1) := by decide +kernel
theorem dX4_checkOf_51 : decode cX4_checkOf 51 = .ok (.lreturn, 1) := by decide +kernel
theorem dX4_share_0 : decode cX4_share 0 = .ok (.aload_n 0, 1) := by decide +kernel
theorem dX4_share_1 : decode cX4_share 1 = .ok (.iload_n 1, 1) := by decide +kernel
theorem dX4_share_2 : decode cX4_share 2 = .ok (.invokevirtual 63, 3) := by decide +kernel
theorem dX4_share_5 : decode cX4_share 5 = .ok (.ifCond .ne 25, 3) := by decide +kernel
theorem dX4_share_8 : decode cX4_share 8 = .ok (.aload_n 0, 1) := by decide +kernel
theorem dX4_share_9 : decode cX4_share 9 = .ok (.aload_n 0, 1) := by decide +kernel
theorem dX4_share_10 : decode cX4_share 10 = .ok (.getfield 13, 3) := by decide +kernel
theorem dX4_share_13 : decode cX4_share 13 = .ok (.iload_n 1, 1) := by decide +kernel
theorem dX4_share_14 : decode cX4_share 14 = .ok (.iaload, 1) := by decide +kernel
theorem dX4_share_15 : decode cX4_share 15 = .ok (.ifCond .ne 7, 3) := by decide +kernel
theorem dX4_share_18 : decode cX4_share 18 = .ok (.iconst 1, 1) := by decide +kernel
theorem dX4_share_19 : decode cX4_share 19 = .ok (.goto 4, 3) := by decide +kernel
theorem dX4_share_22 : decode cX4_share 22 = .ok (.iconst 0, 1) := by decide +kernel
theorem dX4_share_23 : decode cX4_share 23 = .ok (.iconst 2, 1) := by decide +kernel
theorem dX4_share_24 : decode cX4_share 24 = .ok (.invokevirtual 59, 3) := by decide +kernel
theorem dX4_share_27 : decode cX4_share 27 = .ok (.ifCond .eq 5, 3) := by decide +kernel
theorem dX4_share_30 : decode cX4_share 30 = .ok (.fconst 0, 1) := by decide +kernel
theorem dX4_share_31 : decode cX4_share 31 = .ok (.freturn, 1) := by decide +kernel
theorem dX4_share_32 : decode cX4_share 32 = .ok (.aload_n 0, 1) := by decide +kernel
theorem dX4_share_33 : decode cX4_share 33 = .ok (.iload_n 1, 1) := by decide +kernel
theorem dX4_share_34 : decode cX4_share 34 = .ok (.invokevirtual 75, 3) := by decide +kernel
theorem dX4_share_37 : decode cX4_share 37 = .ok (.i2f, 1) := by decide +kernel
theorem dX4_share_38 : decode cX4_share 38 = .ok (.aload_n 0, 1) := by decide +kernel
theorem dX4_share_39 : decode cX4_share 39 = .ok (.getfield 13, 3) := by decide +kernel
theorem dX4_share_42 : decode cX4_share 42 = .ok (.iload_n 1, 1) := by decide +kernel
theorem dX4_share_43 : decode cX4_share 43 = .ok (.iaload, 1) := by decide +kernel
theorem dX4_share_44 : decode cX4_share 44 = .ok (.i2f, 1) := by decide +kernel
theorem dX4_share_45 : decode cX4_share 45 = .ok (.fdiv, 1) := by decide +kernel
theorem dX4_share_46 : decode cX4_share 46 = .ok (.freturn, 1) := by decide +kernel
theorem dX4_meanLine_0 : decode cX4_meanLine 0 = .ok (.lconst 0, 1) := by decide +kernel
theorem dX4_meanLine_1 : decode cX4_meanLine 1 = .ok (.lstore_n 1, 1) := by decide +kernel
theorem dX4_meanLine_2 : decode cX4_meanLine 2 = .ok (.iconst 0, 1) := by decide +kernel
theorem dX4_meanLine_3 : decode cX4_meanLine 3 = .ok (.istore_n 3, 1) := by decide +kernel
theorem dX4_meanLine_4 : decode cX4_meanLine 4 = .ok (.iconst 0, 1) := by decide +kernel
theorem dX4_meanLine_5 : decode cX4_meanLine 5 = .ok (.istore 4, 2) := by decide +kernel
theorem dX4_meanLine_7 : decode cX4_meanLine 7 = .ok (.iload 4, 2) := by decide +kernel
theorem dX4_meanLine_9 : decode cX4_meanLine 9 = .ok (.iconst 4, 1) := by decide +kernel
theorem dX4_meanLine_10 : decode cX4_meanLine 10 = .ok (.if_icmp .ge 36, 3) := by decide +kernel
theorem dX4_meanLine_13 : decode cX4_meanLine 13 = .ok (.aload_n 0, 1) := by decide +kernel
theorem dX4_meanLine_14 : decode cX4_meanLine 14 = .ok (.getfield 19, 3) := by decide +kernel
theorem dX4_meanLine_17 : decode cX4_meanLine 17 = .ok (.iload 4, 2) := by decide +kernel
theorem dX4_meanLine_19 : decode cX4_meanLine 19 = .ok (.iaload, 1) := by decide +kernel
theorem dX4_meanLine_20 : decode cX4_meanLine 20 = .ok (.invokestatic 82, 3) := by decide +kernel
theorem dX4_meanLine_23 : decode cX4_meanLine 23 = .ok (.ifCond .eq 17, 3) := by decide +kernel
theorem dX4_meanLine_26 : decode cX4_meanLine 26 = .ok (.lload_n 1, 1) := by decide +kernel
theorem dX4_meanLine_27 : decode cX4_meanLine 27 = .ok (.aload_n 0, 1) := by decide +kernel
theorem dX4_meanLine_28 : decode cX4_meanLine 28 = .ok (.getfield 34, 3) := by decide +kernel
theorem dX4_meanLine_31 : decode cX4_meanLine 31 = .ok (.iload 4, 2) := by decide +kernel
theorem dX4_meanLine_33 : decode cX4_meanLine 33 = .ok (.iaload, 1) := by decide +kernel
theorem dX4_meanLine_34 : decode cX4_meanLine 34 = .ok (.i2l, 1) := by decide +kernel
theorem dX4_meanLine_35 : decode cX4_meanLine 35 = .ok (.ladd, 1) := by decide +kernel
theorem dX4_meanLine_36 : decode cX4_meanLine 36 = .ok (.lstore_n 1, 1) := by decide +kernel
theorem dX4_meanLine_37 : decode cX4_meanLine 37 = .ok (.iinc 3 1, 3) := by decide +kernel
theorem dX4_meanLine_40 : decode cX4_meanLine 40 = .ok (.iinc 4 1, 3) := by decide +kernel
theorem dX4_meanLine_43 : decode cX4_meanLine 43 = .ok (.goto (-36), 3) := by decide +kernel
theorem dX4_meanLine_46 : decode cX4_meanLine 46 = .ok (.aload_n 0, 1) := by decide +kernel
theorem dX4_meanLine_47 : decode cX4_meanLine 47 = .ok (.iload_n 3, 1) := by decide +kernel
theorem dX4_meanLine_48 : decode cX4_meanLine 48 = .ok (.ifCond .ne 7, 3) := by decide +kernel
theorem dX4_meanLine_51 : decode cX4_meanLine 51 = .ok (.iconst 1, 1) := by decide +kernel
theorem dX4_meanLine_52 : decode cX4_meanLine 52 = .ok (.goto 4, 3) := by decide +kernel
theorem dX4_meanLine_55 : decode cX4_meanLine 55 = .ok (.iconst 0, 1) := by decide +kernel
theorem dX4_meanLine_56 : decode cX4_meanLine 56 = .ok (.iconst 1, 1) := by decide +kernel
theorem dX4_meanLine_57 : decode cX4_meanLine 57 = .ok (.invokevirtual 59, 3) := by decide +kernel
theorem dX4_meanLine_60 : decode cX4_meanLine 60 = .ok (.ifCond .eq 7, 3) := by decide +kernel
theorem dX4_meanLine_63 : decode cX4_meanLine 63 = .ok (.dconst 0, 1) := by decide +kernel
theorem dX4_meanLine_64 : decode cX4_meanLine 64 = .ok (.goto 8, 3) := by decide +kernel
theorem dX4_meanLine_67 : decode cX4_meanLine 67 = .ok (.lload_n 1, 1) := by decide +kernel
theorem dX4_meanLine_68 : decode cX4_meanLine 68 = .ok (.l2d, 1) := by decide +kernel
theorem dX4_meanLine_69 : decode cX4_meanLine 69 = .ok (.iload_n 3, 1) := by decide +kernel
theorem dX4_meanLine_70 : decode cX4_meanLine 70 = .ok (.i2d, 1) := by decide +kernel
theorem dX4_meanLine_71 : decode cX4_meanLine 71 = .ok (.ddiv, 1) := by decide +kernel
theorem dX4_meanLine_72 : decode cX4_meanLine 72 = .ok (.dreturn, 1) := by decide +kernel
theorem dX4_checksum_0 : decode cX4_checksum 0 = .ok (.ldc2_w 127, 3) := by decide +kernel
theorem dX4_checksum_3 : decode cX4_checksum 3 = .ok (.lstore_n 1, 1) := by decide +kernel
theorem dX4_checksum_4 : decode cX4_checksum 4 = .ok (.iconst 0, 1) := by decide +kernel
theorem dX4_checksum_5 : decode cX4_checksum 5 = .ok (.istore_n 3, 1) := by decide +kernel
theorem dX4_checksum_6 : decode cX4_checksum 6 = .ok (.iload_n 3, 1) := by decide +kernel
theorem dX4_checksum_7 : decode cX4_checksum 7 = .ok (.iconst 4, 1) := by decide +kernel
theorem dX4_checksum_8 : decode cX4_checksum 8 = .ok (.if_icmp .ge 58, 3) := by decide +kernel
theorem dX4_checksum_11 : decode cX4_checksum 11 = .ok (.ldc2_w 129, 3) := by decide +kernel
theorem dX4_checksum_14 : decode cX4_checksum 14 = .ok (.lload_n 1, 1) := by decide +kernel
theorem dX4_checksum_15 : decode cX4_checksum 15 = .ok (.lmul, 1) := by decide +kernel
theorem dX4_checksum_16 : decode cX4_checksum 16 = .ok (.aload_n 0, 1) := by decide +kernel
theorem dX4_checksum_17 : decode cX4_checksum 17 = .ok (.getfield 13, 3) := by decide +kernel
theorem dX4_checksum_20 : decode cX4_checksum 20 = .ok (.iload_n 3, 1) := by decide +kernel
theorem dX4_checksum_21 : decode cX4_checksum 21 = .ok (.iaload, 1) := by decide +kernel
theorem dX4_checksum_22 : decode cX4_checksum 22 = .ok (.i2l, 1) := by decide +kernel
theorem dX4_checksum_23 : decode cX4_checksum 23 = .ok (.ladd, 1) := by decide +kernel
theorem dX4_checksum_24 : decode cX4_checksum 24 = .ok (.lstore_n 1, 1) := by decide +kernel
theorem dX4_checksum_25 : decode cX4_checksum 25 = .ok (.iconst 0, 1) := by decide +kernel
theorem dX4_checksum_26 : decode cX4_checksum 26 = .ok (.istore 4, 2) := by decide +kernel
theorem dX4_checksum_28 : decode cX4_checksum 28 = .ok (.iload 4, 2) := by decide +kernel
theorem dX4_checksum_30 : decode cX4_checksum 30 = .ok (.aload_n 0, 1) := by decide +kernel
theorem dX4_checksum_31 : decode cX4_checksum 31 = .ok (.getfield 13, 3) := by decide +kernel
theorem dX4_checksum_34 : decode cX4_checksum 34 = .ok (.iload_n 3, 1) := by decide +kernel
theorem dX4_checksum_35 : decode cX4_checksum 35 = .ok (.iaload, 1) := by decide +kernel
theorem dX4_checksum_36 : decode cX4_checksum 36 = .ok (.if_icmp .ge 24, 3) := by decide +kernel
theorem dX4_checksum_39 : decode cX4_checksum 39 = .ok (.ldc2_w 129, 3) := by decide +kernel
theorem dX4_checksum_42 : decode cX4_checksum 42 = .ok (.lload_n 1, 1) := by decide +kernel
theorem dX4_checksum_43 : decode cX4_checksum 43 = .ok (.lmul, 1) := by decide +kernel
theorem dX4_checksum_44 : decode cX4_checksum 44 = .ok (.aload_n 0, 1) := by decide +kernel
theorem dX4_checksum_45 : decode cX4_checksum 45 = .ok (.iload_n 3, 1) := by decide +kernel
theorem dX4_checksum_46 : decode cX4_checksum 46 = .ok (.iload 4, 2) := by decide +kernel
theorem dX4_checksum_48 : decode cX4_checksum 48 = .ok (.invokevirtual 71, 3) := by decide +kernel
theorem dX4_checksum_51 : decode cX4_checksum 51 = .ok (.i2l, 1) := by decide +kernel
theorem dX4_checksum_52 : decode cX4_checksum 52 = .ok (.ladd, 1) := by decide +kernel
theorem dX4_checksum_53 : decode cX4_checksum 53 = .ok (.lstore_n 1, 1) := by decide +kernel
theorem dX4_checksum_54 : decode cX4_checksum 54 = .ok (.iinc 4 1, 3) := by decide +kernel
theorem dX4_checksum_57 : decode cX4_checksum 57 = .ok (.goto (-29), 3) := by decide +kernel
theorem dX4_checksum_60 : decode cX4_checksum 60 = .ok (.iinc 3 1, 3) := by decide +kernel
theorem dX4_checksum_63 : decode cX4_checksum 63 = .ok (.goto (-57), 3) := by decide +kernel
theorem dX4_checksum_66 : decode cX4_checksum 66 = .ok (.ldc2_w 129, 3) := by decide +kernel
theorem dX4_checksum_69 : decode cX4_checksum 69 = .ok (.lload_n 1, 1) := by decide +kernel
theorem dX4_checksum_70 : decode cX4_checksum 70 = .ok (.lmul, 1) := by decide +kernel
theorem dX4_checksum_71 : decode cX4_checksum 71 = .ok (.aload_n 0, 1) := by decide +kernel
theorem dX4_checksum_72 : decode cX4_checksum 72 = .ok (.getfield 115, 3) := by decide +kernel
theorem dX4_checksum_75 : decode cX4_checksum 75 = .ok (.i2l, 1) := by decide +kernel
theorem dX4_checksum_76 : decode cX4_checksum 76 = .ok (.ladd, 1) := by decide +kernel
theorem dX4_checksum_77 : decode cX4_checksum 77 = .ok (.lstore_n 1, 1) := by decide +kernel
theorem dX4_checksum_78 : decode cX4_checksum 78 = .ok (.iconst 0, 1) := by decide +kernel
theorem dX4_checksum_79 : decode cX4_checksum 79 = .ok (.istore_n 3, 1) := by decide +kernel
theorem dX4_checksum_80 : decode cX4_checksum 80 = .ok (.iload_n 3, 1) := by decide +kernel
theorem dX4_checksum_81 : decode cX4_checksum 81 = .ok (.aload_n 0, 1) := by decide +kernel
theorem dX4_checksum_82 : decode cX4_checksum 82 = .ok (.getfield 115, 3) := by decide +kernel
theorem dX4_checksum_85 : decode cX4_checksum 85 = .ok (.if_icmp .ge 23, 3) := by decide +kernel
theorem dX4_checksum_88 : decode cX4_checksum 88 = .ok (.ldc2_w 129, 3) := by decide +kernel
theorem dX4_checksum_91 : decode cX4_checksum 91 = .ok (.lload_n 1, 1) := by decide +kernel
theorem dX4_checksum_92 : decode cX4_checksum 92 = .ok (.lmul, 1) := by decide +kernel
theorem dX4_checksum_93 : decode cX4_checksum 93 = .ok (.aload_n 0, 1) := by decide +kernel
theorem dX4_checksum_94 : decode cX4_checksum 94 = .ok (.getfield 16, 3) := by decide +kernel
theorem dX4_checksum_97 : decode cX4_checksum 97 = .ok (.iload_n 3, 1) := by decide +kernel
theorem dX4_checksum_98 : decode cX4_checksum 98 = .ok (.iaload, 1) := by decide +kernel
theorem dX4_checksum_99 : decode cX4_checksum 99 = .ok (.i2l, 1) := by decide +kernel
theorem dX4_checksum_100 : decode cX4_checksum 100 = .ok (.ladd, 1) := by decide +kernel
theorem dX4_checksum_101 : decode cX4_checksum 101 = .ok (.lstore_n 1, 1) := by decide +kernel
theorem dX4_checksum_102 : decode cX4_checksum 102 = .ok (.iinc 3 1, 3) := by decide +kernel
theorem dX4_checksum_105 : decode cX4_checksum 105 = .ok (.goto (-25), 3) := by decide +kernel
theorem dX4_checksum_108 : decode cX4_checksum 108 = .ok (.iconst 0, 1) := by decide +kernel
theorem dX4_checksum_109 : decode cX4_checksum 109 = .ok (.istore_n 3, 1) := by decide +kernel
theorem dX4_checksum_110 : decode cX4_checksum 110 = .ok (.iload_n 3, 1) := by decide +kernel
theorem dX4_checksum_111 : decode cX4_checksum 111 = .ok (.iconst 4, 1) := by decide +kernel
theorem dX4_checksum_112 : decode cX4_checksum 112 = .ok (.if_icmp .ge 86, 3) := by decide +kernel
theorem dX4_checksum_115 : decode cX4_checksum 115 = .ok (.ldc2_w 129, 3) := by decide +kernel
theorem dX4_checksum_118 : decode cX4_checksum 118 = .ok (.lload_n 1, 1) := by decide +kernel
theorem dX4_checksum_119 : decode cX4_checksum 119 = .ok (.lmul, 1) := by decide +kernel
theorem dX4_checksum_120 : decode cX4_checksum 120 = .ok (.aload_n 0, 1) := by decide +kernel
theorem dX4_checksum_121 : decode cX4_checksum 121 = .ok (.getfield 19, 3) := by decide +kernel
theorem dX4_checksum_124 : decode cX4_checksum 124 = .ok (.iload_n 3, 1) := by decide +kernel
theorem dX4_checksum_125 : decode cX4_checksum 125 = .ok (.iaload, 1) := by decide +kernel
theorem dX4_checksum_126 : decode cX4_checksum 126 = .ok (.i2l, 1) := by decide +kernel
theorem dX4_checksum_127 : decode cX4_checksum 127 = .ok (.ladd, 1) := by decide +kernel
theorem dX4_checksum_128 : decode cX4_checksum 128 = .ok (.lstore_n 1, 1) := by decide +kernel
theorem dX4_checksum_129 : decode cX4_checksum 129 = .ok (.aload_n 0, 1) := by decide +kernel
theorem dX4_checksum_130 : decode cX4_checksum 130 = .ok (.getfield 19, 3) := by decide +kernel
theorem dX4_checksum_133 : decode cX4_checksum 133 = .ok (.iload_n 3, 1) := by decide +kernel
theorem dX4_checksum_134 : decode cX4_checksum 134 = .ok (.iaload, 1) := by decide +kernel
theorem dX4_checksum_135 : decode cX4_checksum 135 = .ok (.invokestatic 82, 3) := by decide +kernel
theorem dX4_checksum_138 : decode cX4_checksum 138 = .ok (.ifCond .eq 19, 3) := by decide +kernel
theorem dX4_checksum_141 : decode cX4_checksum 141 = .ok (.ldc2_w 129, 3) := by decide +kernel
theorem dX4_checksum_144 : decode cX4_checksum 144 = .ok (.lload_n 1, 1) := by decide +kernel
theorem dX4_checksum_145 : decode cX4_checksum 145 = .ok (.lmul, 1) := by decide +kernel
theorem dX4_checksum_146 : decode cX4_checksum 146 = .ok (.aload_n 0, 1) := by decide +kernel
theorem dX4_checksum_147 : decode cX4_checksum 147 = .ok (.getfield 34, 3) := by decide +kernel
theorem dX4_checksum_150 : decode cX4_checksum 150 = .ok (.iload_n 3, 1) := by decide +kernel
theorem dX4_checksum_151 : decode cX4_checksum 151 = .ok (.iaload, 1) := by decide +kernel
theorem dX4_checksum_152 : decode cX4_checksum 152 = .ok (.i2l, 1) := by decide +kernel
theorem dX4_checksum_153 : decode cX4_checksum 153 = .ok (.ladd, 1) := by decide +kernel
theorem dX4_checksum_154 : decode cX4_checksum 154 = .ok (.goto 4, 3) := by decide +kernel
theorem dX4_checksum_157 : decode cX4_checksum 157 = .ok (.lload_n 1, 1) := by decide +kernel
theorem dX4_checksum_158 : decode cX4_checksum 158 = .ok (.lstore_n 1, 1) := by decide +kernel
theorem dX4_checksum_159 : decode cX4_checksum 159 = .ok (.aload_n 0, 1) := by decide +kernel
theorem dX4_checksum_160 : decode cX4_checksum 160 = .ok (.getfield 19, 3) := by decide +kernel
theorem dX4_checksum_163 : decode cX4_checksum 163 = .ok (.iload_n 3, 1) := by decide +kernel
theorem dX4_checksum_164 : decode cX4_checksum 164 = .ok (.iaload, 1) := by decide +kernel
theorem dX4_checksum_165 : decode cX4_checksum 165 = .ok (.invokestatic 124, 3) := by decide +kernel
theorem dX4_checksum_168 : decode cX4_checksum 168 = .ok (.ifCond .eq 22, 3) := by decide +kernel
theorem dX4_checksum_171 : decode cX4_checksum 171 = .ok (.ldc2_w 129, 3) := by decide +kernel
theorem dX4_checksum_174 : decode cX4_checksum 174 = .ok (.lload_n 1, 1) := by decide +kernel
theorem dX4_checksum_175 : decode cX4_checksum 175 = .ok (.lmul, 1) := by decide +kernel
theorem dX4_checksum_176 : decode cX4_checksum 176 = .ok (.ldc2_w 92, 3) := by decide +kernel
theorem dX4_checksum_179 : decode cX4_checksum 179 = .ok (.ladd, 1) := by decide +kernel
theorem dX4_checksum_180 : decode cX4_checksum 180 = .ok (.aload_n 0, 1) := by decide +kernel
theorem dX4_checksum_181 : decode cX4_checksum 181 = .ok (.getfield 37, 3) := by decide +kernel
theorem dX4_checksum_184 : decode cX4_checksum 184 = .ok (.iload_n 3, 1) := by decide +kernel
theorem dX4_checksum_185 : decode cX4_checksum 185 = .ok (.laload, 1) := by decide +kernel
theorem dX4_checksum_186 : decode cX4_checksum 186 = .ok (.lsub, 1) := by decide +kernel
theorem dX4_checksum_187 : decode cX4_checksum 187 = .ok (.goto 4, 3) := by decide +kernel
theorem dX4_checksum_190 : decode cX4_checksum 190 = .ok (.lload_n 1, 1) := by decide +kernel
theorem dX4_checksum_191 : decode cX4_checksum 191 = .ok (.lstore_n 1, 1) := by decide +kernel
theorem dX4_checksum_192 : decode cX4_checksum 192 = .ok (.iinc 3 1, 3) := by decide +kernel
theorem dX4_checksum_195 : decode cX4_checksum 195 = .ok (.goto (-85), 3) := by decide +kernel
theorem dX4_checksum_198 : decode cX4_checksum 198 = .ok (.lload_n 1, 1) := by decide +kernel
theorem dX4_checksum_199 : decode cX4_checksum 199 = .ok (.lreturn, 1) := by decide +kernel
theorem dX4_isTrue_0 : decode cX4_isTrue 0 = .ok (.iconst 1, 1) := by decide +kernel
theorem dX4_isTrue_1 : decode cX4_isTrue 1 = .ok (.ireturn, 1) := by decide +kernel

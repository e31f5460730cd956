/-! decode rows, printed by the kit's program -/
theorem dX0_init_0 : decode cX0_init 0 = .ok (.aload_n 0, 1) := by decide +kernel
theorem dX0_init_1 : decode cX0_init 1 = .ok (.invokespecial 3, 3) := by decide +kernel
theorem dX0_init_4 : decode cX0_init 4 = .ok (.aload_n 0, 1) := by decide +kernel
theorem dX0_init_5 : decode cX0_init 5 = .ok (.sipush 240, 3) := by decide +kernel
theorem dX0_init_8 : decode cX0_init 8 = .ok (.newarray .int, 2) := by decide +kernel
theorem dX0_init_10 : decode cX0_init 10 = .ok (.putfield 9, 3) := by decide +kernel
theorem dX0_init_13 : decode cX0_init 13 = .ok (.return_, 1) := by decide +kernel
theorem dX0_size_0 : decode cX0_size 0 = .ok (.aload_n 0, 1) := by decide +kernel
theorem dX0_size_1 : decode cX0_size 1 = .ok (.getfield 15, 3) := by decide +kernel
theorem dX0_size_4 : decode cX0_size 4 = .ok (.ireturn, 1) := by decide +kernel
theorem dX0_at_0 : decode cX0_at 0 = .ok (.iload_n 1, 1) := by decide +kernel
theorem dX0_at_1 : decode cX0_at 1 = .ok (.ifCond .lt 20, 3) := by decide +kernel
theorem dX0_at_4 : decode cX0_at 4 = .ok (.iload_n 1, 1) := by decide +kernel
theorem dX0_at_5 : decode cX0_at 5 = .ok (.aload_n 0, 1) := by decide +kernel
theorem dX0_at_6 : decode cX0_at 6 = .ok (.getfield 15, 3) := by decide +kernel
theorem dX0_at_9 : decode cX0_at 9 = .ok (.if_icmp .ge 12, 3) := by decide +kernel
theorem dX0_at_12 : decode cX0_at 12 = .ok (.iload_n 1, 1) := by decide +kernel
theorem dX0_at_13 : decode cX0_at 13 = .ok (.aload_n 0, 1) := by decide +kernel
theorem dX0_at_14 : decode cX0_at 14 = .ok (.getfield 9, 3) := by decide +kernel
theorem dX0_at_17 : decode cX0_at 17 = .ok (.arraylength, 1) := by decide +kernel
theorem dX0_at_18 : decode cX0_at 18 = .ok (.if_icmp .lt 5, 3) := by decide +kernel
theorem dX0_at_21 : decode cX0_at 21 = .ok (.iconst (-1), 1) := by decide +kernel
theorem dX0_at_22 : decode cX0_at 22 = .ok (.ireturn, 1) := by decide +kernel
theorem dX0_at_23 : decode cX0_at 23 = .ok (.aload_n 0, 1) := by decide +kernel
theorem dX0_at_24 : decode cX0_at 24 = .ok (.getfield 9, 3) := by decide +kernel
theorem dX0_at_27 : decode cX0_at 27 = .ok (.iload_n 1, 1) := by decide +kernel
theorem dX0_at_28 : decode cX0_at 28 = .ok (.iaload, 1) := by decide +kernel
theorem dX0_at_29 : decode cX0_at 29 = .ok (.ireturn, 1) := by decide +kernel
theorem dX0_put_0 : decode cX0_put 0 = .ok (.aload_n 0, 1) := by decide +kernel
theorem dX0_put_1 : decode cX0_put 1 = .ok (.getfield 15, 3) := by decide +kernel
theorem dX0_put_4 : decode cX0_put 4 = .ok (.ifCond .lt 35, 3) := by decide +kernel
theorem dX0_put_7 : decode cX0_put 7 = .ok (.aload_n 0, 1) := by decide +kernel
theorem dX0_put_8 : decode cX0_put 8 = .ok (.getfield 15, 3) := by decide +kernel
theorem dX0_put_11 : decode cX0_put 11 = .ok (.aload_n 0, 1) := by decide +kernel
theorem dX0_put_12 : decode cX0_put 12 = .ok (.getfield 9, 3) := by decide +kernel
theorem dX0_put_15 : decode cX0_put 15 = .ok (.arraylength, 1) := by decide +kernel
theorem dX0_put_16 : decode cX0_put 16 = .ok (.if_icmp .ge 23, 3) := by decide +kernel
theorem dX0_put_19 : decode cX0_put 19 = .ok (.aload_n 0, 1) := by decide +kernel
theorem dX0_put_20 : decode cX0_put 20 = .ok (.getfield 9, 3) := by decide +kernel
theorem dX0_put_23 : decode cX0_put 23 = .ok (.aload_n 0, 1) := by decide +kernel
theorem dX0_put_24 : decode cX0_put 24 = .ok (.getfield 15, 3) := by decide +kernel
theorem dX0_put_27 : decode cX0_put 27 = .ok (.iload_n 1, 1) := by decide +kernel
theorem dX0_put_28 : decode cX0_put 28 = .ok (.iastore, 1) := by decide +kernel
theorem dX0_put_29 : decode cX0_put 29 = .ok (.aload_n 0, 1) := by decide +kernel
theorem dX0_put_30 : decode cX0_put 30 = .ok (.dup, 1) := by decide +kernel
theorem dX0_put_31 : decode cX0_put 31 = .ok (.getfield 15, 3) := by decide +kernel
theorem dX0_put_34 : decode cX0_put 34 = .ok (.iconst 1, 1) := by decide +kernel
theorem dX0_put_35 : decode cX0_put 35 = .ok (.iadd, 1) := by decide +kernel
theorem dX0_put_36 : decode cX0_put 36 = .ok (.putfield 15, 3) := by decide +kernel
theorem dX0_put_39 : decode cX0_put 39 = .ok (.return_, 1) := by decide +kernel
theorem dX0_takeLast_0 : decode cX0_takeLast 0 = .ok (.aload_n 0, 1) := by decide +kernel
theorem dX0_takeLast_1 : decode cX0_takeLast 1 = .ok (.aload_n 0, 1) := by decide +kernel
theorem dX0_takeLast_2 : decode cX0_takeLast 2 = .ok (.getfield 15, 3) := by decide +kernel
theorem dX0_takeLast_5 : decode cX0_takeLast 5 = .ok (.iconst 1, 1) := by decide +kernel
theorem dX0_takeLast_6 : decode cX0_takeLast 6 = .ok (.isub, 1) := by decide +kernel
theorem dX0_takeLast_7 : decode cX0_takeLast 7 = .ok (.invokevirtual 19, 3) := by decide +kernel
theorem dX0_takeLast_10 : decode cX0_takeLast 10 = .ok (.istore_n 1, 1) := by decide +kernel
theorem dX0_takeLast_11 : decode cX0_takeLast 11 = .ok (.aload_n 0, 1) := by decide +kernel
theorem dX0_takeLast_12 : decode cX0_takeLast 12 = .ok (.getfield 15, 3) := by decide +kernel
theorem dX0_takeLast_15 : decode cX0_takeLast 15 = .ok (.ifCond .le 13, 3) := by decide +kernel
theorem dX0_takeLast_18 : decode cX0_takeLast 18 = .ok (.aload_n 0, 1) := by decide +kernel
theorem dX0_takeLast_19 : decode cX0_takeLast 19 = .ok (.dup, 1) := by decide +kernel
theorem dX0_takeLast_20 : decode cX0_takeLast 20 = .ok (.getfield 15, 3) := by decide +kernel
theorem dX0_takeLast_23 : decode cX0_takeLast 23 = .ok (.iconst 1, 1) := by decide +kernel
theorem dX0_takeLast_24 : decode cX0_takeLast 24 = .ok (.isub, 1) := by decide +kernel
theorem dX0_takeLast_25 : decode cX0_takeLast 25 = .ok (.putfield 15, 3) := by decide +kernel
theorem dX0_takeLast_28 : decode cX0_takeLast 28 = .ok (.iload_n 1, 1) := by decide +kernel
theorem dX0_takeLast_29 : decode cX0_takeLast 29 = .ok (.ireturn, 1) := by decide +kernel
theorem dX0_makeEmpty_0 : decode cX0_makeEmpty 0 = .ok (.aload_n 0, 1) := by decide +kernel
theorem dX0_makeEmpty_1 : decode cX0_makeEmpty 1 = .ok (.iconst 0, 1) := by decide +kernel
theorem dX0_makeEmpty_2 : decode cX0_makeEmpty 2 = .ok (.putfield 15, 3) := by decide +kernel
theorem dX0_makeEmpty_5 : decode cX0_makeEmpty 5 = .ok (.return_, 1) := by decide +kernel
theorem dX0_putAll_0 : decode cX0_putAll 0 = .ok (.iconst 0, 1) := by decide +kernel
theorem dX0_putAll_1 : decode cX0_putAll 1 = .ok (.istore_n 2, 1) := by decide +kernel
theorem dX0_putAll_2 : decode cX0_putAll 2 = .ok (.iload_n 2, 1) := by decide +kernel
theorem dX0_putAll_3 : decode cX0_putAll 3 = .ok (.aload_n 1, 1) := by decide +kernel
theorem dX0_putAll_4 : decode cX0_putAll 4 = .ok (.invokevirtual 23, 3) := by decide +kernel
theorem dX0_putAll_7 : decode cX0_putAll 7 = .ok (.if_icmp .ge 18, 3) := by decide +kernel
theorem dX0_putAll_10 : decode cX0_putAll 10 = .ok (.aload_n 0, 1) := by decide +kernel
theorem dX0_putAll_11 : decode cX0_putAll 11 = .ok (.aload_n 1, 1) := by decide +kernel
theorem dX0_putAll_12 : decode cX0_putAll 12 = .ok (.iload_n 2, 1) := by decide +kernel
theorem dX0_putAll_13 : decode cX0_putAll 13 = .ok (.invokevirtual 19, 3) := by decide +kernel
theorem dX0_putAll_16 : decode cX0_putAll 16 = .ok (.invokevirtual 27, 3) := by decide +kernel
theorem dX0_putAll_19 : decode cX0_putAll 19 = .ok (.iinc 2 1, 3) := by decide +kernel
theorem dX0_putAll_22 : decode cX0_putAll 22 = .ok (.goto (-20), 3) := by decide +kernel
theorem dX0_putAll_25 : decode cX0_putAll 25 = .ok (.return_, 1) := by decide +kernel
theorem dX0_putLined_0 : decode cX0_putLined 0 = .ok (.iconst 0, 1) := by decide +kernel
theorem dX0_putLined_1 : decode cX0_putLined 1 = .ok (.istore_n 3, 1) := by decide +kernel
theorem dX0_putLined_2 : decode cX0_putLined 2 = .ok (.iload_n 3, 1) := by decide +kernel
theorem dX0_putLined_3 : decode cX0_putLined 3 = .ok (.aload_n 1, 1) := by decide +kernel
theorem dX0_putLined_4 : decode cX0_putLined 4 = .ok (.invokevirtual 23, 3) := by decide +kernel
theorem dX0_putLined_7 : decode cX0_putLined 7 = .ok (.if_icmp .ge 50, 3) := by decide +kernel
theorem dX0_putLined_10 : decode cX0_putLined 10 = .ok (.iload_n 3, 1) := by decide +kernel
theorem dX0_putLined_11 : decode cX0_putLined 11 = .ok (.ifCond .ne 7, 3) := by decide +kernel
theorem dX0_putLined_14 : decode cX0_putLined 14 = .ok (.iload_n 2, 1) := by decide +kernel
theorem dX0_putLined_15 : decode cX0_putLined 15 = .ok (.goto 10, 3) := by decide +kernel
theorem dX0_putLined_18 : decode cX0_putLined 18 = .ok (.aload_n 1, 1) := by decide +kernel
theorem dX0_putLined_19 : decode cX0_putLined 19 = .ok (.iload_n 3, 1) := by decide +kernel
theorem dX0_putLined_20 : decode cX0_putLined 20 = .ok (.iconst 1, 1) := by decide +kernel
theorem dX0_putLined_21 : decode cX0_putLined 21 = .ok (.isub, 1) := by decide +kernel
theorem dX0_putLined_22 : decode cX0_putLined 22 = .ok (.invokevirtual 19, 3) := by decide +kernel
theorem dX0_putLined_25 : decode cX0_putLined 25 = .ok (.istore 4, 2) := by decide +kernel
theorem dX0_putLined_27 : decode cX0_putLined 27 = .ok (.aload_n 1, 1) := by decide +kernel
theorem dX0_putLined_28 : decode cX0_putLined 28 = .ok (.iload_n 3, 1) := by decide +kernel
theorem dX0_putLined_29 : decode cX0_putLined 29 = .ok (.invokevirtual 19, 3) := by decide +kernel
theorem dX0_putLined_32 : decode cX0_putLined 32 = .ok (.iload 4, 2) := by decide +kernel
theorem dX0_putLined_34 : decode cX0_putLined 34 = .ok (.invokestatic 31, 3) := by decide +kernel
theorem dX0_putLined_37 : decode cX0_putLined 37 = .ok (.istore 5, 2) := by decide +kernel
theorem dX0_putLined_39 : decode cX0_putLined 39 = .ok (.iload 5, 2) := by decide +kernel
theorem dX0_putLined_41 : decode cX0_putLined 41 = .ok (.iconst (-1), 1) := by decide +kernel
theorem dX0_putLined_42 : decode cX0_putLined 42 = .ok (.if_icmp .eq 9, 3) := by decide +kernel
theorem dX0_putLined_45 : decode cX0_putLined 45 = .ok (.aload_n 0, 1) := by decide +kernel
theorem dX0_putLined_46 : decode cX0_putLined 46 = .ok (.iload 5, 2) := by decide +kernel
theorem dX0_putLined_48 : decode cX0_putLined 48 = .ok (.invokevirtual 27, 3) := by decide +kernel
theorem dX0_putLined_51 : decode cX0_putLined 51 = .ok (.iinc 3 1, 3) := by decide +kernel
theorem dX0_putLined_54 : decode cX0_putLined 54 = .ok (.goto (-52), 3) := by decide +kernel
theorem dX0_putLined_57 : decode cX0_putLined 57 = .ok (.return_, 1) := by decide +kernel
theorem dX0_countEnds_0 : decode cX0_countEnds 0 = .ok (.iconst 0, 1) := by decide +kernel
theorem dX0_countEnds_1 : decode cX0_countEnds 1 = .ok (.istore_n 1, 1) := by decide +kernel
theorem dX0_countEnds_2 : decode cX0_countEnds 2 = .ok (.iconst 0, 1) := by decide +kernel
theorem dX0_countEnds_3 : decode cX0_countEnds 3 = .ok (.istore_n 2, 1) := by decide +kernel
theorem dX0_countEnds_4 : decode cX0_countEnds 4 = .ok (.iload_n 2, 1) := by decide +kernel
theorem dX0_countEnds_5 : decode cX0_countEnds 5 = .ok (.aload_n 0, 1) := by decide +kernel
theorem dX0_countEnds_6 : decode cX0_countEnds 6 = .ok (.getfield 15, 3) := by decide +kernel
theorem dX0_countEnds_9 : decode cX0_countEnds 9 = .ok (.if_icmp .ge 32, 3) := by decide +kernel
theorem dX0_countEnds_12 : decode cX0_countEnds 12 = .ok (.aload_n 0, 1) := by decide +kernel
theorem dX0_countEnds_13 : decode cX0_countEnds 13 = .ok (.iload_n 2, 1) := by decide +kernel
theorem dX0_countEnds_14 : decode cX0_countEnds 14 = .ok (.invokevirtual 19, 3) := by decide +kernel
theorem dX0_countEnds_17 : decode cX0_countEnds 17 = .ok (.aload_n 0, 1) := by decide +kernel
theorem dX0_countEnds_18 : decode cX0_countEnds 18 = .ok (.iload_n 2, 1) := by decide +kernel
theorem dX0_countEnds_19 : decode cX0_countEnds 19 = .ok (.iconst 1, 1) := by decide +kernel
theorem dX0_countEnds_20 : decode cX0_countEnds 20 = .ok (.isub, 1) := by decide +kernel
theorem dX0_countEnds_21 : decode cX0_countEnds 21 = .ok (.invokevirtual 19, 3) := by decide +kernel
theorem dX0_countEnds_24 : decode cX0_countEnds 24 = .ok (.invokestatic 31, 3) := by decide +kernel
theorem dX0_countEnds_27 : decode cX0_countEnds 27 = .ok (.bipush 10, 2) := by decide +kernel
theorem dX0_countEnds_29 : decode cX0_countEnds 29 = .ok (.if_icmp .ne 6, 3) := by decide +kernel
theorem dX0_countEnds_32 : decode cX0_countEnds 32 = .ok (.iinc 1 1, 3) := by decide +kernel
theorem dX0_countEnds_35 : decode cX0_countEnds 35 = .ok (.iinc 2 1, 3) := by decide +kernel
theorem dX0_countEnds_38 : decode cX0_countEnds 38 = .ok (.goto (-34), 3) := by decide +kernel
theorem dX0_countEnds_41 : decode cX0_countEnds 41 = .ok (.iload_n 1, 1) := by decide +kernel
theorem dX0_countEnds_42 : decode cX0_countEnds 42 = .ok (.ireturn, 1) := by decide +kernel
theorem dX0_lined_0 : decode cX0_lined 0 = .ok (.iload_n 0, 1) := by decide +kernel
theorem dX0_lined_1 : decode cX0_lined 1 = .ok (.bipush 13, 2) := by decide +kernel
theorem dX0_lined_3 : decode cX0_lined 3 = .ok (.if_icmp .ne 6, 3) := by decide +kernel
theorem dX0_lined_6 : decode cX0_lined 6 = .ok (.bipush 10, 2) := by decide +kernel
theorem dX0_lined_8 : decode cX0_lined 8 = .ok (.ireturn, 1) := by decide +kernel
theorem dX0_lined_9 : decode cX0_lined 9 = .ok (.iload_n 0, 1) := by decide +kernel
theorem dX0_lined_10 : decode cX0_lined 10 = .ok (.bipush 10, 2) := by decide +kernel
theorem dX0_lined_12 : decode cX0_lined 12 = .ok (.if_icmp .ne 13, 3) := by decide +kernel
theorem dX0_lined_15 : decode cX0_lined 15 = .ok (.iload_n 1, 1) := by decide +kernel
theorem dX0_lined_16 : decode cX0_lined 16 = .ok (.bipush 13, 2) := by decide +kernel
theorem dX0_lined_18 : decode cX0_lined 18 = .ok (.if_icmp .ne 7, 3) := by decide +kernel
theorem dX0_lined_21 : decode cX0_lined 21 = .ok (.iconst (-1), 1) := by decide +kernel
theorem dX0_lined_22 : decode cX0_lined 22 = .ok (.goto 4, 3) := by decide +kernel
theorem dX0_lined_25 : decode cX0_lined 25 = .ok (.iload_n 0, 1) := by decide +kernel
theorem dX0_lined_26 : decode cX0_lined 26 = .ok (.ireturn, 1) := by decide +kernel
theorem dX1_init_0 : decode cX1_init 0 = .ok (.aload_n 0, 1) := by decide +kernel
theorem dX1_init_1 : decode cX1_init 1 = .ok (.invokespecial 3, 3) := by decide +kernel
theorem dX1_init_4 : decode cX1_init 4 = .ok (.aload_n 0, 1) := by decide +kernel
theorem dX1_init_5 : decode cX1_init 5 = .ok (.new 9, 3) := by decide +kernel
theorem dX1_init_8 : decode cX1_init 8 = .ok (.dup, 1) := by decide +kernel
theorem dX1_init_9 : decode cX1_init 9 = .ok (.invokespecial 11, 3) := by decide +kernel
theorem dX1_init_12 : decode cX1_init 12 = .ok (.putfield 12, 3) := by decide +kernel
theorem dX1_init_15 : decode cX1_init 15 = .ok (.aload_n 0, 1) := by decide +kernel
theorem dX1_init_16 : decode cX1_init 16 = .ok (.iconst (-1), 1) := by decide +kernel
theorem dX1_init_17 : decode cX1_init 17 = .ok (.putfield 18, 3) := by decide +kernel
theorem dX1_init_20 : decode cX1_init 20 = .ok (.return_, 1) := by decide +kernel
theorem dX1_begin_0 : decode cX1_begin 0 = .ok (.aload_n 0, 1) := by decide +kernel
theorem dX1_begin_1 : decode cX1_begin 1 = .ok (.iload_n 1, 1) := by decide +kernel
theorem dX1_begin_2 : decode cX1_begin 2 = .ok (.putfield 18, 3) := by decide +kernel
theorem dX1_begin_5 : decode cX1_begin 5 = .ok (.aload_n 0, 1) := by decide +kernel
theorem dX1_begin_6 : decode cX1_begin 6 = .ok (.aload_n 2, 1) := by decide +kernel
theorem dX1_begin_7 : decode cX1_begin 7 = .ok (.aload_n 3, 1) := by decide +kernel
theorem dX1_begin_8 : decode cX1_begin 8 = .ok (.invokevirtual 22, 3) := by decide +kernel
theorem dX1_begin_11 : decode cX1_begin 11 = .ok (.aload_n 0, 1) := by decide +kernel
theorem dX1_begin_12 : decode cX1_begin 12 = .ok (.iconst 0, 1) := by decide +kernel
theorem dX1_begin_13 : decode cX1_begin 13 = .ok (.putfield 26, 3) := by decide +kernel
theorem dX1_begin_16 : decode cX1_begin 16 = .ok (.aload_n 0, 1) := by decide +kernel
theorem dX1_begin_17 : decode cX1_begin 17 = .ok (.iconst 0, 1) := by decide +kernel
theorem dX1_begin_18 : decode cX1_begin 18 = .ok (.putfield 29, 3) := by decide +kernel
theorem dX1_begin_21 : decode cX1_begin 21 = .ok (.aload_n 0, 1) := by decide +kernel
theorem dX1_begin_22 : decode cX1_begin 22 = .ok (.ldc2_w 32, 3) := by decide +kernel
theorem dX1_begin_25 : decode cX1_begin 25 = .ok (.putfield 34, 3) := by decide +kernel
theorem dX1_begin_28 : decode cX1_begin 28 = .ok (.aload_n 0, 1) := by decide +kernel
theorem dX1_begin_29 : decode cX1_begin 29 = .ok (.aload_n 0, 1) := by decide +kernel
theorem dX1_begin_30 : decode cX1_begin 30 = .ok (.getfield 18, 3) := by decide +kernel
theorem dX1_begin_33 : decode cX1_begin 33 = .ok (.invokestatic 38, 3) := by decide +kernel
theorem dX1_begin_36 : decode cX1_begin 36 = .ok (.ifCond .eq 7, 3) := by decide +kernel
theorem dX1_begin_39 : decode cX1_begin 39 = .ok (.iconst 0, 1) := by decide +kernel
theorem dX1_begin_40 : decode cX1_begin 40 = .ok (.goto 4, 3) := by decide +kernel
theorem dX1_begin_43 : decode cX1_begin 43 = .ok (.iconst (-1), 1) := by decide +kernel
theorem dX1_begin_44 : decode cX1_begin 44 = .ok (.putfield 42, 3) := by decide +kernel
theorem dX1_begin_47 : decode cX1_begin 47 = .ok (.aload_n 0, 1) := by decide +kernel
theorem dX1_begin_48 : decode cX1_begin 48 = .ok (.iconst 0, 1) := by decide +kernel
theorem dX1_begin_49 : decode cX1_begin 49 = .ok (.putfield 45, 3) := by decide +kernel
theorem dX1_begin_52 : decode cX1_begin 52 = .ok (.return_, 1) := by decide +kernel
theorem dX1_fillOut_0 : decode cX1_fillOut 0 = .ok (.aload_n 0, 1) := by decide +kernel
theorem dX1_fillOut_1 : decode cX1_fillOut 1 = .ok (.getfield 12, 3) := by decide +kernel
theorem dX1_fillOut_4 : decode cX1_fillOut 4 = .ok (.invokevirtual 48, 3) := by decide +kernel
theorem dX1_fillOut_7 : decode cX1_fillOut 7 = .ok (.aload_n 0, 1) := by decide +kernel
theorem dX1_fillOut_8 : decode cX1_fillOut 8 = .ok (.getfield 18, 3) := by decide +kernel
theorem dX1_fillOut_11 : decode cX1_fillOut 11 = .ok (.invokestatic 51, 3) := by decide +kernel
theorem dX1_fillOut_14 : decode cX1_fillOut 14 = .ok (.ifCond .eq 15, 3) := by decide +kernel
theorem dX1_fillOut_17 : decode cX1_fillOut 17 = .ok (.aload_n 0, 1) := by decide +kernel
theorem dX1_fillOut_18 : decode cX1_fillOut 18 = .ok (.getfield 12, 3) := by decide +kernel
theorem dX1_fillOut_21 : decode cX1_fillOut 21 = .ok (.aload_n 1, 1) := by decide +kernel
theorem dX1_fillOut_22 : decode cX1_fillOut 22 = .ok (.iconst (-1), 1) := by decide +kernel
theorem dX1_fillOut_23 : decode cX1_fillOut 23 = .ok (.invokevirtual 54, 3) := by decide +kernel
theorem dX1_fillOut_26 : decode cX1_fillOut 26 = .ok (.goto 11, 3) := by decide +kernel
theorem dX1_fillOut_29 : decode cX1_fillOut 29 = .ok (.aload_n 0, 1) := by decide +kernel
theorem dX1_fillOut_30 : decode cX1_fillOut 30 = .ok (.getfield 12, 3) := by decide +kernel
theorem dX1_fillOut_33 : decode cX1_fillOut 33 = .ok (.aload_n 1, 1) := by decide +kernel
theorem dX1_fillOut_34 : decode cX1_fillOut 34 = .ok (.invokevirtual 58, 3) := by decide +kernel
theorem dX1_fillOut_37 : decode cX1_fillOut 37 = .ok (.aload_n 0, 1) := by decide +kernel
theorem dX1_fillOut_38 : decode cX1_fillOut 38 = .ok (.iconst 0, 1) := by decide +kernel
theorem dX1_fillOut_39 : decode cX1_fillOut 39 = .ok (.putfield 62, 3) := by decide +kernel
theorem dX1_fillOut_42 : decode cX1_fillOut 42 = .ok (.aload_n 0, 1) := by decide +kernel
theorem dX1_fillOut_43 : decode cX1_fillOut 43 = .ok (.getfield 18, 3) := by decide +kernel
theorem dX1_fillOut_46 : decode cX1_fillOut 46 = .ok (.iconst 4, 1) := by decide +kernel
theorem dX1_fillOut_47 : decode cX1_fillOut 47 = .ok (.if_icmp .ne 25, 3) := by decide +kernel
theorem dX1_fillOut_50 : decode cX1_fillOut 50 = .ok (.aload_n 0, 1) := by decide +kernel
theorem dX1_fillOut_51 : decode cX1_fillOut 51 = .ok (.aload_n 0, 1) := by decide +kernel
theorem dX1_fillOut_52 : decode cX1_fillOut 52 = .ok (.getfield 12, 3) := by decide +kernel
theorem dX1_fillOut_55 : decode cX1_fillOut 55 = .ok (.invokevirtual 65, 3) := by decide +kernel
theorem dX1_fillOut_58 : decode cX1_fillOut 58 = .ok (.putfield 62, 3) := by decide +kernel
theorem dX1_fillOut_61 : decode cX1_fillOut 61 = .ok (.aload_n 0, 1) := by decide +kernel
theorem dX1_fillOut_62 : decode cX1_fillOut 62 = .ok (.getfield 12, 3) := by decide +kernel
theorem dX1_fillOut_65 : decode cX1_fillOut 65 = .ok (.aload_n 2, 1) := by decide +kernel
theorem dX1_fillOut_66 : decode cX1_fillOut 66 = .ok (.invokevirtual 58, 3) := by decide +kernel
theorem dX1_fillOut_69 : decode cX1_fillOut 69 = .ok (.goto 61, 3) := by decide +kernel
theorem dX1_fillOut_72 : decode cX1_fillOut 72 = .ok (.aload_n 0, 1) := by decide +kernel
theorem dX1_fillOut_73 : decode cX1_fillOut 73 = .ok (.getfield 18, 3) := by decide +kernel
theorem dX1_fillOut_76 : decode cX1_fillOut 76 = .ok (.iconst 5, 1) := by decide +kernel
theorem dX1_fillOut_77 : decode cX1_fillOut 77 = .ok (.if_icmp .ne 24, 3) := by decide +kernel
theorem dX1_fillOut_80 : decode cX1_fillOut 80 = .ok (.aload_n 0, 1) := by decide +kernel
theorem dX1_fillOut_81 : decode cX1_fillOut 81 = .ok (.getfield 12, 3) := by decide +kernel
theorem dX1_fillOut_84 : decode cX1_fillOut 84 = .ok (.aload_n 2, 1) := by decide +kernel
theorem dX1_fillOut_85 : decode cX1_fillOut 85 = .ok (.aload_n 1, 1) := by decide +kernel
theorem dX1_fillOut_86 : decode cX1_fillOut 86 = .ok (.aload_n 1, 1) := by decide +kernel
theorem dX1_fillOut_87 : decode cX1_fillOut 87 = .ok (.invokevirtual 65, 3) := by decide +kernel
theorem dX1_fillOut_90 : decode cX1_fillOut 90 = .ok (.iconst 1, 1) := by decide +kernel
theorem dX1_fillOut_91 : decode cX1_fillOut 91 = .ok (.isub, 1) := by decide +kernel
theorem dX1_fillOut_92 : decode cX1_fillOut 92 = .ok (.invokevirtual 69, 3) := by decide +kernel
theorem dX1_fillOut_95 : decode cX1_fillOut 95 = .ok (.invokevirtual 54, 3) := by decide +kernel
theorem dX1_fillOut_98 : decode cX1_fillOut 98 = .ok (.goto 32, 3) := by decide +kernel
theorem dX1_fillOut_101 : decode cX1_fillOut 101 = .ok (.aload_n 0, 1) := by decide +kernel
theorem dX1_fillOut_102 : decode cX1_fillOut 102 = .ok (.getfield 18, 3) := by decide +kernel
theorem dX1_fillOut_105 : decode cX1_fillOut 105 = .ok (.bipush 7, 2) := by decide +kernel
theorem dX1_fillOut_107 : decode cX1_fillOut 107 = .ok (.if_icmp .ne 23, 3) := by decide +kernel
theorem dX1_fillOut_110 : decode cX1_fillOut 110 = .ok (.aload_n 0, 1) := by decide +kernel
theorem dX1_fillOut_111 : decode cX1_fillOut 111 = .ok (.aload_n 0, 1) := by decide +kernel
theorem dX1_fillOut_112 : decode cX1_fillOut 112 = .ok (.getfield 12, 3) := by decide +kernel
theorem dX1_fillOut_115 : decode cX1_fillOut 115 = .ok (.invokevirtual 65, 3) := by decide +kernel
theorem dX1_fillOut_118 : decode cX1_fillOut 118 = .ok (.putfield 62, 3) := by decide +kernel
theorem dX1_fillOut_121 : decode cX1_fillOut 121 = .ok (.aload_n 0, 1) := by decide +kernel
theorem dX1_fillOut_122 : decode cX1_fillOut 122 = .ok (.getfield 12, 3) := by decide +kernel
theorem dX1_fillOut_125 : decode cX1_fillOut 125 = .ok (.aload_n 2, 1) := by decide +kernel
theorem dX1_fillOut_126 : decode cX1_fillOut 126 = .ok (.iconst (-1), 1) := by decide +kernel
theorem dX1_fillOut_127 : decode cX1_fillOut 127 = .ok (.invokevirtual 54, 3) := by decide +kernel
theorem dX1_fillOut_130 : decode cX1_fillOut 130 = .ok (.return_, 1) := by decide +kernel
theorem dX1_rest_0 : decode cX1_rest 0 = .ok (.aload_n 0, 1) := by decide +kernel
theorem dX1_rest_1 : decode cX1_rest 1 = .ok (.getfield 12, 3) := by decide +kernel
theorem dX1_rest_4 : decode cX1_rest 4 = .ok (.invokevirtual 65, 3) := by decide +kernel
theorem dX1_rest_7 : decode cX1_rest 7 = .ok (.aload_n 0, 1) := by decide +kernel
theorem dX1_rest_8 : decode cX1_rest 8 = .ok (.getfield 26, 3) := by decide +kernel
theorem dX1_rest_11 : decode cX1_rest 11 = .ok (.isub, 1) := by decide +kernel
theorem dX1_rest_12 : decode cX1_rest 12 = .ok (.ireturn, 1) := by decide +kernel
theorem dX1_restOfLine_0 : decode cX1_restOfLine 0 = .ok (.aload_n 0, 1) := by decide +kernel
theorem dX1_restOfLine_1 : decode cX1_restOfLine 1 = .ok (.getfield 26, 3) := by decide +kernel
theorem dX1_restOfLine_4 : decode cX1_restOfLine 4 = .ok (.istore_n 1, 1) := by decide +kernel
theorem dX1_restOfLine_5 : decode cX1_restOfLine 5 = .ok (.iload_n 1, 1) := by decide +kernel
theorem dX1_restOfLine_6 : decode cX1_restOfLine 6 = .ok (.aload_n 0, 1) := by decide +kernel
theorem dX1_restOfLine_7 : decode cX1_restOfLine 7 = .ok (.getfield 12, 3) := by decide +kernel
theorem dX1_restOfLine_10 : decode cX1_restOfLine 10 = .ok (.invokevirtual 65, 3) := by decide +kernel
theorem dX1_restOfLine_13 : decode cX1_restOfLine 13 = .ok (.if_icmp .ge 29, 3) := by decide +kernel
theorem dX1_restOfLine_16 : decode cX1_restOfLine 16 = .ok (.aload_n 0, 1) := by decide +kernel
theorem dX1_restOfLine_17 : decode cX1_restOfLine 17 = .ok (.getfield 12, 3) := by decide +kernel
theorem dX1_restOfLine_20 : decode cX1_restOfLine 20 = .ok (.iload_n 1, 1) := by decide +kernel
theorem dX1_restOfLine_21 : decode cX1_restOfLine 21 = .ok (.invokevirtual 69, 3) := by decide +kernel
theorem dX1_restOfLine_24 : decode cX1_restOfLine 24 = .ok (.bipush 10, 2) := by decide +kernel
theorem dX1_restOfLine_26 : decode cX1_restOfLine 26 = .ok (.if_icmp .ne 10, 3) := by decide +kernel
theorem dX1_restOfLine_29 : decode cX1_restOfLine 29 = .ok (.iload_n 1, 1) := by decide +kernel
theorem dX1_restOfLine_30 : decode cX1_restOfLine 30 = .ok (.aload_n 0, 1) := by decide +kernel
theorem dX1_restOfLine_31 : decode cX1_restOfLine 31 = .ok (.getfield 26, 3) := by decide +kernel
theorem dX1_restOfLine_34 : decode cX1_restOfLine 34 = .ok (.isub, 1) := by decide +kernel
theorem dX1_restOfLine_35 : decode cX1_restOfLine 35 = .ok (.ireturn, 1) := by decide +kernel
theorem dX1_restOfLine_36 : decode cX1_restOfLine 36 = .ok (.iinc 1 1, 3) := by decide +kernel
theorem dX1_restOfLine_39 : decode cX1_restOfLine 39 = .ok (.goto (-34), 3) := by decide +kernel
theorem dX1_restOfLine_42 : decode cX1_restOfLine 42 = .ok (.aload_n 0, 1) := by decide +kernel
theorem dX1_restOfLine_43 : decode cX1_restOfLine 43 = .ok (.invokevirtual 73, 3) := by decide +kernel
theorem dX1_restOfLine_46 : decode cX1_restOfLine 46 = .ok (.ireturn, 1) := by decide +kernel
theorem dX1_next_0 : decode cX1_next 0 = .ok (.aload_n 0, 1) := by decide +kernel
theorem dX1_next_1 : decode cX1_next 1 = .ok (.getfield 12, 3) := by decide +kernel
theorem dX1_next_4 : decode cX1_next 4 = .ok (.aload_n 0, 1) := by decide +kernel
theorem dX1_next_5 : decode cX1_next 5 = .ok (.getfield 26, 3) := by decide +kernel
theorem dX1_next_8 : decode cX1_next 8 = .ok (.invokevirtual 69, 3) := by decide +kernel
theorem dX1_next_11 : decode cX1_next 11 = .ok (.istore_n 1, 1) := by decide +kernel
theorem dX1_next_12 : decode cX1_next 12 = .ok (.iload_n 1, 1) := by decide +kernel
theorem dX1_next_13 : decode cX1_next 13 = .ok (.iconst (-1), 1) := by decide +kernel
theorem dX1_next_14 : decode cX1_next 14 = .ok (.if_icmp .ne 5, 3) := by decide +kernel
theorem dX1_next_17 : decode cX1_next 17 = .ok (.iconst (-1), 1) := by decide +kernel
theorem dX1_next_18 : decode cX1_next 18 = .ok (.ireturn, 1) := by decide +kernel
theorem dX1_next_19 : decode cX1_next 19 = .ok (.aload_n 0, 1) := by decide +kernel
theorem dX1_next_20 : decode cX1_next 20 = .ok (.dup, 1) := by decide +kernel
theorem dX1_next_21 : decode cX1_next 21 = .ok (.getfield 26, 3) := by decide +kernel
theorem dX1_next_24 : decode cX1_next 24 = .ok (.iconst 1, 1) := by decide +kernel
theorem dX1_next_25 : decode cX1_next 25 = .ok (.iadd, 1) := by decide +kernel
theorem dX1_next_26 : decode cX1_next 26 = .ok (.putfield 26, 3) := by decide +kernel
theorem dX1_next_29 : decode cX1_next 29 = .ok (.iload_n 1, 1) := by decide +kernel
theorem dX1_next_30 : decode cX1_next 30 = .ok (.bipush 10, 2) := by decide +kernel
theorem dX1_next_32 : decode cX1_next 32 = .ok (.if_icmp .ne 13, 3) := by decide +kernel
theorem dX1_next_35 : decode cX1_next 35 = .ok (.aload_n 0, 1) := by decide +kernel
theorem dX1_next_36 : decode cX1_next 36 = .ok (.dup, 1) := by decide +kernel
theorem dX1_next_37 : decode cX1_next 37 = .ok (.getfield 29, 3) := by decide +kernel
theorem dX1_next_40 : decode cX1_next 40 = .ok (.iconst 1, 1) := by decide +kernel
theorem dX1_next_41 : decode cX1_next 41 = .ok (.iadd, 1) := by decide +kernel
theorem dX1_next_42 : decode cX1_next 42 = .ok (.putfield 29, 3) := by decide +kernel
theorem dX1_next_45 : decode cX1_next 45 = .ok (.aload_n 0, 1) := by decide +kernel
theorem dX1_next_46 : decode cX1_next 46 = .ok (.getfield 18, 3) := by decide +kernel
theorem dX1_next_49 : decode cX1_next 49 = .ok (.invokestatic 76, 3) := by decide +kernel
theorem dX1_next_52 : decode cX1_next 52 = .ok (.ifCond .eq 15, 3) := by decide +kernel
theorem dX1_next_55 : decode cX1_next 55 = .ok (.aload_n 0, 1) := by decide +kernel
theorem dX1_next_56 : decode cX1_next 56 = .ok (.aload_n 0, 1) := by decide +kernel
theorem dX1_next_57 : decode cX1_next 57 = .ok (.getfield 34, 3) := by decide +kernel
theorem dX1_next_60 : decode cX1_next 60 = .ok (.iload_n 1, 1) := by decide +kernel
theorem dX1_next_61 : decode cX1_next 61 = .ok (.invokestatic 79, 3) := by decide +kernel
theorem dX1_next_64 : decode cX1_next 64 = .ok (.putfield 34, 3) := by decide +kernel
theorem dX1_next_67 : decode cX1_next 67 = .ok (.iload_n 1, 1) := by decide +kernel
theorem dX1_next_68 : decode cX1_next 68 = .ok (.ireturn, 1) := by decide +kernel
theorem dX1_pass_0 : decode cX1_pass 0 = .ok (.iload_n 1, 1) := by decide +kernel
theorem dX1_pass_1 : decode cX1_pass 1 = .ok (.aload_n 0, 1) := by decide +kernel
theorem dX1_pass_2 : decode cX1_pass 2 = .ok (.invokevirtual 73, 3) := by decide +kernel
theorem dX1_pass_5 : decode cX1_pass 5 = .ok (.invokestatic 83, 3) := by decide +kernel
theorem dX1_pass_8 : decode cX1_pass 8 = .ok (.istore_n 2, 1) := by decide +kernel
theorem dX1_pass_9 : decode cX1_pass 9 = .ok (.iconst 0, 1) := by decide +kernel
theorem dX1_pass_10 : decode cX1_pass 10 = .ok (.istore_n 3, 1) := by decide +kernel
theorem dX1_pass_11 : decode cX1_pass 11 = .ok (.iload_n 3, 1) := by decide +kernel
theorem dX1_pass_12 : decode cX1_pass 12 = .ok (.iload_n 2, 1) := by decide +kernel
theorem dX1_pass_13 : decode cX1_pass 13 = .ok (.if_icmp .ge 14, 3) := by decide +kernel
theorem dX1_pass_16 : decode cX1_pass 16 = .ok (.aload_n 0, 1) := by decide +kernel
theorem dX1_pass_17 : decode cX1_pass 17 = .ok (.invokevirtual 89, 3) := by decide +kernel
theorem dX1_pass_20 : decode cX1_pass 20 = .ok (.pop, 1) := by decide +kernel
theorem dX1_pass_21 : decode cX1_pass 21 = .ok (.iinc 3 1, 3) := by decide +kernel
theorem dX1_pass_24 : decode cX1_pass 24 = .ok (.goto (-13), 3) := by decide +kernel
theorem dX1_pass_27 : decode cX1_pass 27 = .ok (.iload_n 2, 1) := by decide +kernel
theorem dX1_pass_28 : decode cX1_pass 28 = .ok (.ireturn, 1) := by decide +kernel
theorem dX1_takePart_0 : decode cX1_takePart 0 = .ok (.aload_n 0, 1) := by decide +kernel
theorem dX1_takePart_1 : decode cX1_takePart 1 = .ok (.getfield 26, 3) := by decide +kernel
theorem dX1_takePart_4 : decode cX1_takePart 4 = .ok (.aload_n 0, 1) := by decide +kernel
theorem dX1_takePart_5 : decode cX1_takePart 5 = .ok (.getfield 62, 3) := by decide +kernel
theorem dX1_takePart_8 : decode cX1_takePart 8 = .ok (.if_icmp .ge 15, 3) := by decide +kernel
theorem dX1_takePart_11 : decode cX1_takePart 11 = .ok (.aload_n 0, 1) := by decide +kernel
theorem dX1_takePart_12 : decode cX1_takePart 12 = .ok (.getfield 62, 3) := by decide +kernel
theorem dX1_takePart_15 : decode cX1_takePart 15 = .ok (.aload_n 0, 1) := by decide +kernel
theorem dX1_takePart_16 : decode cX1_takePart 16 = .ok (.getfield 26, 3) := by decide +kernel
theorem dX1_takePart_19 : decode cX1_takePart 19 = .ok (.isub, 1) := by decide +kernel
theorem dX1_takePart_20 : decode cX1_takePart 20 = .ok (.goto 7, 3) := by decide +kernel
theorem dX1_takePart_23 : decode cX1_takePart 23 = .ok (.aload_n 0, 1) := by decide +kernel
theorem dX1_takePart_24 : decode cX1_takePart 24 = .ok (.invokevirtual 73, 3) := by decide +kernel
theorem dX1_takePart_27 : decode cX1_takePart 27 = .ok (.istore_n 3, 1) := by decide +kernel
theorem dX1_takePart_28 : decode cX1_takePart 28 = .ok (.iload_n 1, 1) := by decide +kernel
theorem dX1_takePart_29 : decode cX1_takePart 29 = .ok (.iload_n 3, 1) := by decide +kernel
theorem dX1_takePart_30 : decode cX1_takePart 30 = .ok (.invokestatic 83, 3) := by decide +kernel
theorem dX1_takePart_33 : decode cX1_takePart 33 = .ok (.istore 4, 2) := by decide +kernel
theorem dX1_takePart_35 : decode cX1_takePart 35 = .ok (.iload 4, 2) := by decide +kernel
theorem dX1_takePart_37 : decode cX1_takePart 37 = .ok (.ifCond .ne 5, 3) := by decide +kernel
theorem dX1_takePart_40 : decode cX1_takePart 40 = .ok (.iconst (-1), 1) := by decide +kernel
theorem dX1_takePart_41 : decode cX1_takePart 41 = .ok (.ireturn, 1) := by decide +kernel
theorem dX1_takePart_42 : decode cX1_takePart 42 = .ok (.aload_n 0, 1) := by decide +kernel
theorem dX1_takePart_43 : decode cX1_takePart 43 = .ok (.iload 4, 2) := by decide +kernel
theorem dX1_takePart_45 : decode cX1_takePart 45 = .ok (.aload_n 2, 1) := by decide +kernel
theorem dX1_takePart_46 : decode cX1_takePart 46 = .ok (.invokevirtual 92, 3) := by decide +kernel
theorem dX1_takePart_49 : decode cX1_takePart 49 = .ok (.iload 4, 2) := by decide +kernel
theorem dX1_takePart_51 : decode cX1_takePart 51 = .ok (.ireturn, 1) := by decide +kernel
theorem dX1_move_0 : decode cX1_move 0 = .ok (.aload_n 2, 1) := by decide +kernel
theorem dX1_move_1 : decode cX1_move 1 = .ok (.invokevirtual 48, 3) := by decide +kernel
theorem dX1_move_4 : decode cX1_move 4 = .ok (.iconst 0, 1) := by decide +kernel
theorem dX1_move_5 : decode cX1_move 5 = .ok (.istore_n 3, 1) := by decide +kernel
theorem dX1_move_6 : decode cX1_move 6 = .ok (.iload_n 3, 1) := by decide +kernel
theorem dX1_move_7 : decode cX1_move 7 = .ok (.iload_n 1, 1) := by decide +kernel
theorem dX1_move_8 : decode cX1_move 8 = .ok (.if_icmp .ge 17, 3) := by decide +kernel
theorem dX1_move_11 : decode cX1_move 11 = .ok (.aload_n 2, 1) := by decide +kernel
theorem dX1_move_12 : decode cX1_move 12 = .ok (.aload_n 0, 1) := by decide +kernel
theorem dX1_move_13 : decode cX1_move 13 = .ok (.invokevirtual 89, 3) := by decide +kernel
theorem dX1_move_16 : decode cX1_move 16 = .ok (.invokevirtual 96, 3) := by decide +kernel
theorem dX1_move_19 : decode cX1_move 19 = .ok (.iinc 3 1, 3) := by decide +kernel
theorem dX1_move_22 : decode cX1_move 22 = .ok (.goto (-16), 3) := by decide +kernel
theorem dX1_move_25 : decode cX1_move 25 = .ok (.return_, 1) := by decide +kernel
theorem dX1_setMark_0 : decode cX1_setMark 0 = .ok (.aload_n 0, 1) := by decide +kernel
theorem dX1_setMark_1 : decode cX1_setMark 1 = .ok (.aload_n 0, 1) := by decide +kernel
theorem dX1_setMark_2 : decode cX1_setMark 2 = .ok (.getfield 26, 3) := by decide +kernel
theorem dX1_setMark_5 : decode cX1_setMark 5 = .ok (.putfield 42, 3) := by decide +kernel
theorem dX1_setMark_8 : decode cX1_setMark 8 = .ok (.aload_n 0, 1) := by decide +kernel
theorem dX1_setMark_9 : decode cX1_setMark 9 = .ok (.aload_n 0, 1) := by decide +kernel
theorem dX1_setMark_10 : decode cX1_setMark 10 = .ok (.getfield 29, 3) := by decide +kernel
theorem dX1_setMark_13 : decode cX1_setMark 13 = .ok (.putfield 45, 3) := by decide +kernel
theorem dX1_setMark_16 : decode cX1_setMark 16 = .ok (.return_, 1) := by decide +kernel
theorem dX1_goBack_0 : decode cX1_goBack 0 = .ok (.aload_n 0, 1) := by decide +kernel
theorem dX1_goBack_1 : decode cX1_goBack 1 = .ok (.aload_n 0, 1) := by decide +kernel
theorem dX1_goBack_2 : decode cX1_goBack 2 = .ok (.getfield 42, 3) := by decide +kernel
theorem dX1_goBack_5 : decode cX1_goBack 5 = .ok (.putfield 26, 3) := by decide +kernel
theorem dX1_goBack_8 : decode cX1_goBack 8 = .ok (.aload_n 0, 1) := by decide +kernel
theorem dX1_goBack_9 : decode cX1_goBack 9 = .ok (.aload_n 0, 1) := by decide +kernel
theorem dX1_goBack_10 : decode cX1_goBack 10 = .ok (.getfield 45, 3) := by decide +kernel
theorem dX1_goBack_13 : decode cX1_goBack 13 = .ok (.putfield 29, 3) := by decide +kernel
theorem dX1_goBack_16 : decode cX1_goBack 16 = .ok (.return_, 1) := by decide +kernel
theorem dX1_shownLine_0 : decode cX1_shownLine 0 = .ok (.aload_n 0, 1) := by decide +kernel
theorem dX1_shownLine_1 : decode cX1_shownLine 1 = .ok (.getfield 18, 3) := by decide +kernel
theorem dX1_shownLine_4 : decode cX1_shownLine 4 = .ok (.invokestatic 100, 3) := by decide +kernel
theorem dX1_shownLine_7 : decode cX1_shownLine 7 = .ok (.ifCond .eq 10, 3) := by decide +kernel
theorem dX1_shownLine_10 : decode cX1_shownLine 10 = .ok (.aload_n 0, 1) := by decide +kernel
theorem dX1_shownLine_11 : decode cX1_shownLine 11 = .ok (.getfield 29, 3) := by decide +kernel
theorem dX1_shownLine_14 : decode cX1_shownLine 14 = .ok (.goto 4, 3) := by decide +kernel
theorem dX1_shownLine_17 : decode cX1_shownLine 17 = .ok (.iconst (-1), 1) := by decide +kernel
theorem dX1_shownLine_18 : decode cX1_shownLine 18 = .ok (.ireturn, 1) := by decide +kernel
theorem dX1_checkNow_0 : decode cX1_checkNow 0 = .ok (.ldc2_w 32, 3) := by decide +kernel
theorem dX1_checkNow_3 : decode cX1_checkNow 3 = .ok (.aload_n 0, 1) := by decide +kernel
theorem dX1_checkNow_4 : decode cX1_checkNow 4 = .ok (.getfield 34, 3) := by decide +kernel
theorem dX1_checkNow_7 : decode cX1_checkNow 7 = .ok (.lsub, 1) := by decide +kernel
theorem dX1_checkNow_8 : decode cX1_checkNow 8 = .ok (.lreturn, 1) := by decide +kernel
theorem dX2_init_0 : decode cX2_init 0 = .ok (.aload_n 0, 1) := by decide +kernel
theorem dX2_init_1 : decode cX2_init 1 = .ok (.invokespecial 3, 3) := by decide +kernel
theorem dX2_init_4 : decode cX2_init 4 = .ok (.aload_n 0, 1) := by decide +kernel
theorem dX2_init_5 : decode cX2_init 5 = .ok (.new 9, 3) := by decide +kernel
theorem dX2_init_8 : decode cX2_init 8 = .ok (.dup, 1) := by decide +kernel
theorem dX2_init_9 : decode cX2_init 9 = .ok (.invokespecial 11, 3) := by decide +kernel
theorem dX2_init_12 : decode cX2_init 12 = .ok (.putfield 12, 3) := by decide +kernel
theorem dX2_init_15 : decode cX2_init 15 = .ok (.aload_n 0, 1) := by decide +kernel
theorem dX2_init_16 : decode cX2_init 16 = .ok (.new 18, 3) := by decide +kernel
theorem dX2_init_19 : decode cX2_init 19 = .ok (.dup, 1) := by decide +kernel
theorem dX2_init_20 : decode cX2_init 20 = .ok (.invokespecial 20, 3) := by decide +kernel
theorem dX2_init_23 : decode cX2_init 23 = .ok (.putfield 21, 3) := by decide +kernel
theorem dX2_init_26 : decode cX2_init 26 = .ok (.aload_n 0, 1) := by decide +kernel
theorem dX2_init_27 : decode cX2_init 27 = .ok (.new 18, 3) := by decide +kernel
theorem dX2_init_30 : decode cX2_init 30 = .ok (.dup, 1) := by decide +kernel
theorem dX2_init_31 : decode cX2_init 31 = .ok (.invokespecial 20, 3) := by decide +kernel
theorem dX2_init_34 : decode cX2_init 34 = .ok (.putfield 25, 3) := by decide +kernel
theorem dX2_init_37 : decode cX2_init 37 = .ok (.return_, 1) := by decide +kernel
theorem dX2_holds_0 : decode cX2_holds 0 = .ok (.aload_n 0, 1) := by decide +kernel
theorem dX2_holds_1 : decode cX2_holds 1 = .ok (.iload_n 1, 1) := by decide +kernel
theorem dX2_holds_2 : decode cX2_holds 2 = .ok (.aload_n 2, 1) := by decide +kernel
theorem dX2_holds_3 : decode cX2_holds 3 = .ok (.aload_n 3, 1) := by decide +kernel
theorem dX2_holds_4 : decode cX2_holds 4 = .ok (.invokevirtual 28, 3) := by decide +kernel
theorem dX2_holds_7 : decode cX2_holds 7 = .ok (.aload_n 0, 1) := by decide +kernel
theorem dX2_holds_8 : decode cX2_holds 8 = .ok (.iload_n 1, 1) := by decide +kernel
theorem dX2_holds_9 : decode cX2_holds 9 = .ok (.aload_n 2, 1) := by decide +kernel
theorem dX2_holds_10 : decode cX2_holds 10 = .ok (.aload_n 3, 1) := by decide +kernel
theorem dX2_holds_11 : decode cX2_holds 11 = .ok (.invokevirtual 32, 3) := by decide +kernel
theorem dX2_holds_14 : decode cX2_holds 14 = .ok (.ifCond .eq 44, 3) := by decide +kernel
theorem dX2_holds_17 : decode cX2_holds 17 = .ok (.aload_n 0, 1) := by decide +kernel
theorem dX2_holds_18 : decode cX2_holds 18 = .ok (.iload_n 1, 1) := by decide +kernel
theorem dX2_holds_19 : decode cX2_holds 19 = .ok (.aload_n 2, 1) := by decide +kernel
theorem dX2_holds_20 : decode cX2_holds 20 = .ok (.aload_n 3, 1) := by decide +kernel
theorem dX2_holds_21 : decode cX2_holds 21 = .ok (.invokevirtual 36, 3) := by decide +kernel
theorem dX2_holds_24 : decode cX2_holds 24 = .ok (.ifCond .eq 34, 3) := by decide +kernel
theorem dX2_holds_27 : decode cX2_holds 27 = .ok (.aload_n 0, 1) := by decide +kernel
theorem dX2_holds_28 : decode cX2_holds 28 = .ok (.iload_n 1, 1) := by decide +kernel
theorem dX2_holds_29 : decode cX2_holds 29 = .ok (.aload_n 2, 1) := by decide +kernel
theorem dX2_holds_30 : decode cX2_holds 30 = .ok (.aload_n 3, 1) := by decide +kernel
theorem dX2_holds_31 : decode cX2_holds 31 = .ok (.invokevirtual 39, 3) := by decide +kernel
theorem dX2_holds_34 : decode cX2_holds 34 = .ok (.ifCond .eq 24, 3) := by decide +kernel
theorem dX2_holds_37 : decode cX2_holds 37 = .ok (.iload_n 1, 1) := by decide +kernel
theorem dX2_holds_38 : decode cX2_holds 38 = .ok (.invokestatic 42, 3) := by decide +kernel
theorem dX2_holds_41 : decode cX2_holds 41 = .ok (.ifCond .eq 13, 3) := by decide +kernel
theorem dX2_holds_44 : decode cX2_holds 44 = .ok (.aload_n 0, 1) := by decide +kernel
theorem dX2_holds_45 : decode cX2_holds 45 = .ok (.iload_n 1, 1) := by decide +kernel
theorem dX2_holds_46 : decode cX2_holds 46 = .ok (.aload_n 2, 1) := by decide +kernel
theorem dX2_holds_47 : decode cX2_holds 47 = .ok (.aload_n 3, 1) := by decide +kernel
theorem dX2_holds_48 : decode cX2_holds 48 = .ok (.invokevirtual 46, 3) := by decide +kernel
theorem dX2_holds_51 : decode cX2_holds 51 = .ok (.ifCond .eq 7, 3) := by decide +kernel
theorem dX2_holds_54 : decode cX2_holds 54 = .ok (.iconst 1, 1) := by decide +kernel
theorem dX2_holds_55 : decode cX2_holds 55 = .ok (.goto 4, 3) := by decide +kernel
theorem dX2_holds_58 : decode cX2_holds 58 = .ok (.iconst 0, 1) := by decide +kernel
theorem dX2_holds_59 : decode cX2_holds 59 = .ok (.ireturn, 1) := by decide +kernel
theorem dX2_fillDue_0 : decode cX2_fillDue 0 = .ok (.aload_n 2, 1) := by decide +kernel
theorem dX2_fillDue_1 : decode cX2_fillDue 1 = .ok (.invokevirtual 49, 3) := by decide +kernel
theorem dX2_fillDue_4 : decode cX2_fillDue 4 = .ok (.istore 4, 2) := by decide +kernel
theorem dX2_fillDue_6 : decode cX2_fillDue 6 = .ok (.iload 4, 2) := by decide +kernel
theorem dX2_fillDue_8 : decode cX2_fillDue 8 = .ok (.aload_n 3, 1) := by decide +kernel
theorem dX2_fillDue_9 : decode cX2_fillDue 9 = .ok (.invokevirtual 49, 3) := by decide +kernel
theorem dX2_fillDue_12 : decode cX2_fillDue 12 = .ok (.iadd, 1) := by decide +kernel
theorem dX2_fillDue_13 : decode cX2_fillDue 13 = .ok (.istore 5, 2) := by decide +kernel
theorem dX2_fillDue_15 : decode cX2_fillDue 15 = .ok (.aload_n 0, 1) := by decide +kernel
theorem dX2_fillDue_16 : decode cX2_fillDue 16 = .ok (.getfield 21, 3) := by decide +kernel
theorem dX2_fillDue_19 : decode cX2_fillDue 19 = .ok (.invokevirtual 53, 3) := by decide +kernel
theorem dX2_fillDue_22 : decode cX2_fillDue 22 = .ok (.iload_n 1, 1) := by decide +kernel
theorem dX2_fillDue_23 : decode cX2_fillDue 23 = .ok (.iconst 4, 1) := by decide +kernel
theorem dX2_fillDue_24 : decode cX2_fillDue 24 = .ok (.if_icmp .eq 8, 3) := by decide +kernel
theorem dX2_fillDue_27 : decode cX2_fillDue 27 = .ok (.iload_n 1, 1) := by decide +kernel
theorem dX2_fillDue_28 : decode cX2_fillDue 28 = .ok (.iconst 5, 1) := by decide +kernel
theorem dX2_fillDue_29 : decode cX2_fillDue 29 = .ok (.if_icmp .ne 19, 3) := by decide +kernel
theorem dX2_fillDue_32 : decode cX2_fillDue 32 = .ok (.aload_n 0, 1) := by decide +kernel
theorem dX2_fillDue_33 : decode cX2_fillDue 33 = .ok (.aload_n 2, 1) := by decide +kernel
theorem dX2_fillDue_34 : decode cX2_fillDue 34 = .ok (.aload_n 3, 1) := by decide +kernel
theorem dX2_fillDue_35 : decode cX2_fillDue 35 = .ok (.iconst 0, 1) := by decide +kernel
theorem dX2_fillDue_36 : decode cX2_fillDue 36 = .ok (.iload 5, 2) := by decide +kernel
theorem dX2_fillDue_38 : decode cX2_fillDue 38 = .ok (.iload_n 1, 1) := by decide +kernel
theorem dX2_fillDue_39 : decode cX2_fillDue 39 = .ok (.invokestatic 56, 3) := by decide +kernel
theorem dX2_fillDue_42 : decode cX2_fillDue 42 = .ok (.invokevirtual 59, 3) := by decide +kernel
theorem dX2_fillDue_45 : decode cX2_fillDue 45 = .ok (.goto 16, 3) := by decide +kernel
theorem dX2_fillDue_48 : decode cX2_fillDue 48 = .ok (.aload_n 0, 1) := by decide +kernel
theorem dX2_fillDue_49 : decode cX2_fillDue 49 = .ok (.aload_n 2, 1) := by decide +kernel
theorem dX2_fillDue_50 : decode cX2_fillDue 50 = .ok (.aload_n 3, 1) := by decide +kernel
theorem dX2_fillDue_51 : decode cX2_fillDue 51 = .ok (.iconst 0, 1) := by decide +kernel
theorem dX2_fillDue_52 : decode cX2_fillDue 52 = .ok (.iload 4, 2) := by decide +kernel
theorem dX2_fillDue_54 : decode cX2_fillDue 54 = .ok (.iload_n 1, 1) := by decide +kernel
theorem dX2_fillDue_55 : decode cX2_fillDue 55 = .ok (.invokestatic 56, 3) := by decide +kernel
theorem dX2_fillDue_58 : decode cX2_fillDue 58 = .ok (.invokevirtual 59, 3) := by decide +kernel
theorem dX2_fillDue_61 : decode cX2_fillDue 61 = .ok (.iload_n 1, 1) := by decide +kernel
theorem dX2_fillDue_62 : decode cX2_fillDue 62 = .ok (.bipush 7, 2) := by decide +kernel
theorem dX2_fillDue_64 : decode cX2_fillDue 64 = .ok (.if_icmp .ne 14, 3) := by decide +kernel
theorem dX2_fillDue_67 : decode cX2_fillDue 67 = .ok (.aload_n 0, 1) := by decide +kernel
theorem dX2_fillDue_68 : decode cX2_fillDue 68 = .ok (.aload_n 2, 1) := by decide +kernel
theorem dX2_fillDue_69 : decode cX2_fillDue 69 = .ok (.aload_n 3, 1) := by decide +kernel
theorem dX2_fillDue_70 : decode cX2_fillDue 70 = .ok (.iload 4, 2) := by decide +kernel
theorem dX2_fillDue_72 : decode cX2_fillDue 72 = .ok (.iload 5, 2) := by decide +kernel
theorem dX2_fillDue_74 : decode cX2_fillDue 74 = .ok (.iconst 1, 1) := by decide +kernel
theorem dX2_fillDue_75 : decode cX2_fillDue 75 = .ok (.invokevirtual 59, 3) := by decide +kernel
theorem dX2_fillDue_78 : decode cX2_fillDue 78 = .ok (.return_, 1) := by decide +kernel
theorem dX2_putDue_0 : decode cX2_putDue 0 = .ok (.iload_n 3, 1) := by decide +kernel
theorem dX2_putDue_1 : decode cX2_putDue 1 = .ok (.istore 6, 2) := by decide +kernel
theorem dX2_putDue_3 : decode cX2_putDue 3 = .ok (.iload 6, 2) := by decide +kernel
theorem dX2_putDue_5 : decode cX2_putDue 5 = .ok (.iload 4, 2) := by decide +kernel
theorem dX2_putDue_7 : decode cX2_putDue 7 = .ok (.if_icmp .ge 82, 3) := by decide +kernel
theorem dX2_putDue_10 : decode cX2_putDue 10 = .ok (.aload_n 1, 1) := by decide +kernel
theorem dX2_putDue_11 : decode cX2_putDue 11 = .ok (.aload_n 2, 1) := by decide +kernel
theorem dX2_putDue_12 : decode cX2_putDue 12 = .ok (.iload 6, 2) := by decide +kernel
theorem dX2_putDue_14 : decode cX2_putDue 14 = .ok (.invokestatic 63, 3) := by decide +kernel
theorem dX2_putDue_17 : decode cX2_putDue 17 = .ok (.istore 7, 2) := by decide +kernel
theorem dX2_putDue_19 : decode cX2_putDue 19 = .ok (.iload 6, 2) := by decide +kernel
theorem dX2_putDue_21 : decode cX2_putDue 21 = .ok (.iconst 1, 1) := by decide +kernel
theorem dX2_putDue_22 : decode cX2_putDue 22 = .ok (.iadd, 1) := by decide +kernel
theorem dX2_putDue_23 : decode cX2_putDue 23 = .ok (.iload 4, 2) := by decide +kernel
theorem dX2_putDue_25 : decode cX2_putDue 25 = .ok (.if_icmp .ge 15, 3) := by decide +kernel
theorem dX2_putDue_28 : decode cX2_putDue 28 = .ok (.aload_n 1, 1) := by decide +kernel
theorem dX2_putDue_29 : decode cX2_putDue 29 = .ok (.aload_n 2, 1) := by decide +kernel
theorem dX2_putDue_30 : decode cX2_putDue 30 = .ok (.iload 6, 2) := by decide +kernel
theorem dX2_putDue_32 : decode cX2_putDue 32 = .ok (.iconst 1, 1) := by decide +kernel
theorem dX2_putDue_33 : decode cX2_putDue 33 = .ok (.iadd, 1) := by decide +kernel
theorem dX2_putDue_34 : decode cX2_putDue 34 = .ok (.invokestatic 63, 3) := by decide +kernel
theorem dX2_putDue_37 : decode cX2_putDue 37 = .ok (.goto 4, 3) := by decide +kernel
theorem dX2_putDue_40 : decode cX2_putDue 40 = .ok (.iconst (-1), 1) := by decide +kernel
theorem dX2_putDue_41 : decode cX2_putDue 41 = .ok (.istore 8, 2) := by decide +kernel
theorem dX2_putDue_43 : decode cX2_putDue 43 = .ok (.iload 5, 2) := by decide +kernel
theorem dX2_putDue_45 : decode cX2_putDue 45 = .ok (.ifCond .eq 10, 3) := by decide +kernel
theorem dX2_putDue_48 : decode cX2_putDue 48 = .ok (.iload 7, 2) := by decide +kernel
theorem dX2_putDue_50 : decode cX2_putDue 50 = .ok (.bipush 13, 2) := by decide +kernel
theorem dX2_putDue_52 : decode cX2_putDue 52 = .ok (.if_icmp .eq 15, 3) := by decide +kernel
theorem dX2_putDue_55 : decode cX2_putDue 55 = .ok (.aload_n 0, 1) := by decide +kernel
theorem dX2_putDue_56 : decode cX2_putDue 56 = .ok (.getfield 21, 3) := by decide +kernel
theorem dX2_putDue_59 : decode cX2_putDue 59 = .ok (.iload 7, 2) := by decide +kernel
theorem dX2_putDue_61 : decode cX2_putDue 61 = .ok (.invokevirtual 67, 3) := by decide +kernel
theorem dX2_putDue_64 : decode cX2_putDue 64 = .ok (.goto 19, 3) := by decide +kernel
theorem dX2_putDue_67 : decode cX2_putDue 67 = .ok (.iload 8, 2) := by decide +kernel
theorem dX2_putDue_69 : decode cX2_putDue 69 = .ok (.bipush 10, 2) := by decide +kernel
theorem dX2_putDue_71 : decode cX2_putDue 71 = .ok (.if_icmp .eq 12, 3) := by decide +kernel
theorem dX2_putDue_74 : decode cX2_putDue 74 = .ok (.aload_n 0, 1) := by decide +kernel
theorem dX2_putDue_75 : decode cX2_putDue 75 = .ok (.getfield 21, 3) := by decide +kernel
theorem dX2_putDue_78 : decode cX2_putDue 78 = .ok (.bipush 10, 2) := by decide +kernel
theorem dX2_putDue_80 : decode cX2_putDue 80 = .ok (.invokevirtual 67, 3) := by decide +kernel
theorem dX2_putDue_83 : decode cX2_putDue 83 = .ok (.iinc 6 1, 3) := by decide +kernel
theorem dX2_putDue_86 : decode cX2_putDue 86 = .ok (.goto (-83), 3) := by decide +kernel
theorem dX2_putDue_89 : decode cX2_putDue 89 = .ok (.return_, 1) := by decide +kernel
theorem dX2_joinedAt_0 : decode cX2_joinedAt 0 = .ok (.iload_n 2, 1) := by decide +kernel
theorem dX2_joinedAt_1 : decode cX2_joinedAt 1 = .ok (.aload_n 0, 1) := by decide +kernel
theorem dX2_joinedAt_2 : decode cX2_joinedAt 2 = .ok (.invokevirtual 49, 3) := by decide +kernel
theorem dX2_joinedAt_5 : decode cX2_joinedAt 5 = .ok (.if_icmp .ge 11, 3) := by decide +kernel
theorem dX2_joinedAt_8 : decode cX2_joinedAt 8 = .ok (.aload_n 0, 1) := by decide +kernel
theorem dX2_joinedAt_9 : decode cX2_joinedAt 9 = .ok (.iload_n 2, 1) := by decide +kernel
theorem dX2_joinedAt_10 : decode cX2_joinedAt 10 = .ok (.invokevirtual 71, 3) := by decide +kernel
theorem dX2_joinedAt_13 : decode cX2_joinedAt 13 = .ok (.goto 13, 3) := by decide +kernel
theorem dX2_joinedAt_16 : decode cX2_joinedAt 16 = .ok (.aload_n 1, 1) := by decide +kernel
theorem dX2_joinedAt_17 : decode cX2_joinedAt 17 = .ok (.iload_n 2, 1) := by decide +kernel
theorem dX2_joinedAt_18 : decode cX2_joinedAt 18 = .ok (.aload_n 0, 1) := by decide +kernel
theorem dX2_joinedAt_19 : decode cX2_joinedAt 19 = .ok (.invokevirtual 49, 3) := by decide +kernel
theorem dX2_joinedAt_22 : decode cX2_joinedAt 22 = .ok (.isub, 1) := by decide +kernel
theorem dX2_joinedAt_23 : decode cX2_joinedAt 23 = .ok (.invokevirtual 71, 3) := by decide +kernel
theorem dX2_joinedAt_26 : decode cX2_joinedAt 26 = .ok (.ireturn, 1) := by decide +kernel
theorem dX2_holdsByBytes_0 : decode cX2_holdsByBytes 0 = .ok (.aload_n 0, 1) := by decide +kernel
theorem dX2_holdsByBytes_1 : decode cX2_holdsByBytes 1 = .ok (.iload_n 1, 1) := by decide +kernel
theorem dX2_holdsByBytes_2 : decode cX2_holdsByBytes 2 = .ok (.aload_n 2, 1) := by decide +kernel
theorem dX2_holdsByBytes_3 : decode cX2_holdsByBytes 3 = .ok (.aload_n 3, 1) := by decide +kernel
theorem dX2_holdsByBytes_4 : decode cX2_holdsByBytes 4 = .ok (.invokevirtual 75, 3) := by decide +kernel
theorem dX2_holdsByBytes_7 : decode cX2_holdsByBytes 7 = .ok (.aload_n 0, 1) := by decide +kernel
theorem dX2_holdsByBytes_8 : decode cX2_holdsByBytes 8 = .ok (.invokevirtual 78, 3) := by decide +kernel
theorem dX2_holdsByBytes_11 : decode cX2_holdsByBytes 11 = .ok (.ireturn, 1) := by decide +kernel
theorem dX2_holdsInParts_0 : decode cX2_holdsInParts 0 = .ok (.aload_n 0, 1) := by decide +kernel
theorem dX2_holdsInParts_1 : decode cX2_holdsInParts 1 = .ok (.iload_n 1, 1) := by decide +kernel
theorem dX2_holdsInParts_2 : decode cX2_holdsInParts 2 = .ok (.aload_n 2, 1) := by decide +kernel
theorem dX2_holdsInParts_3 : decode cX2_holdsInParts 3 = .ok (.aload_n 3, 1) := by decide +kernel
theorem dX2_holdsInParts_4 : decode cX2_holdsInParts 4 = .ok (.invokevirtual 75, 3) := by decide +kernel
theorem dX2_holdsInParts_7 : decode cX2_holdsInParts 7 = .ok (.iconst 0, 1) := by decide +kernel
theorem dX2_holdsInParts_8 : decode cX2_holdsInParts 8 = .ok (.istore 4, 2) := by decide +kernel
theorem dX2_holdsInParts_10 : decode cX2_holdsInParts 10 = .ok (.iload 4, 2) := by decide +kernel
theorem dX2_holdsInParts_12 : decode cX2_holdsInParts 12 = .ok (.sipush 240, 3) := by decide +kernel
theorem dX2_holdsInParts_15 : decode cX2_holdsInParts 15 = .ok (.if_icmp .gt 61, 3) := by decide +kernel
theorem dX2_holdsInParts_18 : decode cX2_holdsInParts 18 = .ok (.aload_n 0, 1) := by decide +kernel
theorem dX2_holdsInParts_19 : decode cX2_holdsInParts 19 = .ok (.getfield 12, 3) := by decide +kernel
theorem dX2_holdsInParts_22 : decode cX2_holdsInParts 22 = .ok (.iconst 3, 1) := by decide +kernel
theorem dX2_holdsInParts_23 : decode cX2_holdsInParts 23 = .ok (.aload_n 0, 1) := by decide +kernel
theorem dX2_holdsInParts_24 : decode cX2_holdsInParts 24 = .ok (.getfield 25, 3) := by decide +kernel
theorem dX2_holdsInParts_27 : decode cX2_holdsInParts 27 = .ok (.invokevirtual 82, 3) := by decide +kernel
theorem dX2_holdsInParts_30 : decode cX2_holdsInParts 30 = .ok (.iconst (-1), 1) := by decide +kernel
theorem dX2_holdsInParts_31 : decode cX2_holdsInParts 31 = .ok (.if_icmp .ne 30, 3) := by decide +kernel
theorem dX2_holdsInParts_34 : decode cX2_holdsInParts 34 = .ok (.aload_n 0, 1) := by decide +kernel
theorem dX2_holdsInParts_35 : decode cX2_holdsInParts 35 = .ok (.getfield 86, 3) := by decide +kernel
theorem dX2_holdsInParts_38 : decode cX2_holdsInParts 38 = .ok (.aload_n 0, 1) := by decide +kernel
theorem dX2_holdsInParts_39 : decode cX2_holdsInParts 39 = .ok (.getfield 21, 3) := by decide +kernel
theorem dX2_holdsInParts_42 : decode cX2_holdsInParts 42 = .ok (.invokevirtual 49, 3) := by decide +kernel
theorem dX2_holdsInParts_45 : decode cX2_holdsInParts 45 = .ok (.if_icmp .ne 14, 3) := by decide +kernel
theorem dX2_holdsInParts_48 : decode cX2_holdsInParts 48 = .ok (.aload_n 0, 1) := by decide +kernel
theorem dX2_holdsInParts_49 : decode cX2_holdsInParts 49 = .ok (.invokevirtual 90, 3) := by decide +kernel
theorem dX2_holdsInParts_52 : decode cX2_holdsInParts 52 = .ok (.ifCond .eq 7, 3) := by decide +kernel
theorem dX2_holdsInParts_55 : decode cX2_holdsInParts 55 = .ok (.iconst 1, 1) := by decide +kernel
theorem dX2_holdsInParts_56 : decode cX2_holdsInParts 56 = .ok (.goto 4, 3) := by decide +kernel
theorem dX2_holdsInParts_59 : decode cX2_holdsInParts 59 = .ok (.iconst 0, 1) := by decide +kernel
theorem dX2_holdsInParts_60 : decode cX2_holdsInParts 60 = .ok (.ireturn, 1) := by decide +kernel
theorem dX2_holdsInParts_61 : decode cX2_holdsInParts 61 = .ok (.aload_n 0, 1) := by decide +kernel
theorem dX2_holdsInParts_62 : decode cX2_holdsInParts 62 = .ok (.invokevirtual 93, 3) := by decide +kernel
theorem dX2_holdsInParts_65 : decode cX2_holdsInParts 65 = .ok (.ifCond .ne 5, 3) := by decide +kernel
theorem dX2_holdsInParts_68 : decode cX2_holdsInParts 68 = .ok (.iconst 0, 1) := by decide +kernel
theorem dX2_holdsInParts_69 : decode cX2_holdsInParts 69 = .ok (.ireturn, 1) := by decide +kernel
theorem dX2_holdsInParts_70 : decode cX2_holdsInParts 70 = .ok (.iinc 4 1, 3) := by decide +kernel
theorem dX2_holdsInParts_73 : decode cX2_holdsInParts 73 = .ok (.goto (-63), 3) := by decide +kernel
theorem dX2_holdsInParts_76 : decode cX2_holdsInParts 76 = .ok (.iconst 0, 1) := by decide +kernel
theorem dX2_holdsInParts_77 : decode cX2_holdsInParts 77 = .ok (.ireturn, 1) := by decide +kernel
theorem dX2_holdsBehindSkip_0 : decode cX2_holdsBehindSkip 0 = .ok (.aload_n 0, 1) := by decide +kernel
theorem dX2_holdsBehindSkip_1 : decode cX2_holdsBehindSkip 1 = .ok (.iload_n 1, 1) := by decide +kernel
theorem dX2_holdsBehindSkip_2 : decode cX2_holdsBehindSkip 2 = .ok (.aload_n 2, 1) := by decide +kernel
theorem dX2_holdsBehindSkip_3 : decode cX2_holdsBehindSkip 3 = .ok (.aload_n 3, 1) := by decide +kernel
theorem dX2_holdsBehindSkip_4 : decode cX2_holdsBehindSkip 4 = .ok (.invokevirtual 75, 3) := by decide +kernel
theorem dX2_holdsBehindSkip_7 : decode cX2_holdsBehindSkip 7 = .ok (.aload_n 0, 1) := by decide +kernel
theorem dX2_holdsBehindSkip_8 : decode cX2_holdsBehindSkip 8 = .ok (.invokevirtual 96, 3) := by decide +kernel
theorem dX2_holdsBehindSkip_11 : decode cX2_holdsBehindSkip 11 = .ok (.ifCond .eq 14, 3) := by decide +kernel
theorem dX2_holdsBehindSkip_14 : decode cX2_holdsBehindSkip 14 = .ok (.aload_n 0, 1) := by decide +kernel
theorem dX2_holdsBehindSkip_15 : decode cX2_holdsBehindSkip 15 = .ok (.invokevirtual 78, 3) := by decide +kernel
theorem dX2_holdsBehindSkip_18 : decode cX2_holdsBehindSkip 18 = .ok (.ifCond .eq 7, 3) := by decide +kernel
theorem dX2_holdsBehindSkip_21 : decode cX2_holdsBehindSkip 21 = .ok (.iconst 1, 1) := by decide +kernel
theorem dX2_holdsBehindSkip_22 : decode cX2_holdsBehindSkip 22 = .ok (.goto 4, 3) := by decide +kernel
theorem dX2_holdsBehindSkip_25 : decode cX2_holdsBehindSkip 25 = .ok (.iconst 0, 1) := by decide +kernel
theorem dX2_holdsBehindSkip_26 : decode cX2_holdsBehindSkip 26 = .ok (.ireturn, 1) := by decide +kernel
theorem dX2_holdsBroughtBack_0 : decode cX2_holdsBroughtBack 0 = .ok (.aload_n 0, 1) := by decide +kernel
theorem dX2_holdsBroughtBack_1 : decode cX2_holdsBroughtBack 1 = .ok (.iload_n 1, 1) := by decide +kernel
theorem dX2_holdsBroughtBack_2 : decode cX2_holdsBroughtBack 2 = .ok (.aload_n 2, 1) := by decide +kernel
theorem dX2_holdsBroughtBack_3 : decode cX2_holdsBroughtBack 3 = .ok (.aload_n 3, 1) := by decide +kernel
theorem dX2_holdsBroughtBack_4 : decode cX2_holdsBroughtBack 4 = .ok (.invokevirtual 75, 3) := by decide +kernel
theorem dX2_holdsBroughtBack_7 : decode cX2_holdsBroughtBack 7 = .ok (.aload_n 0, 1) := by decide +kernel
theorem dX2_holdsBroughtBack_8 : decode cX2_holdsBroughtBack 8 = .ok (.invokevirtual 96, 3) := by decide +kernel
theorem dX2_holdsBroughtBack_11 : decode cX2_holdsBroughtBack 11 = .ok (.ifCond .ne 5, 3) := by decide +kernel
theorem dX2_holdsBroughtBack_14 : decode cX2_holdsBroughtBack 14 = .ok (.iconst 0, 1) := by decide +kernel
theorem dX2_holdsBroughtBack_15 : decode cX2_holdsBroughtBack 15 = .ok (.ireturn, 1) := by decide +kernel
theorem dX2_holdsBroughtBack_16 : decode cX2_holdsBroughtBack 16 = .ok (.aload_n 0, 1) := by decide +kernel
theorem dX2_holdsBroughtBack_17 : decode cX2_holdsBroughtBack 17 = .ok (.getfield 86, 3) := by decide +kernel
theorem dX2_holdsBroughtBack_20 : decode cX2_holdsBroughtBack 20 = .ok (.istore 4, 2) := by decide +kernel
theorem dX2_holdsBroughtBack_22 : decode cX2_holdsBroughtBack 22 = .ok (.aload_n 0, 1) := by decide +kernel
theorem dX2_holdsBroughtBack_23 : decode cX2_holdsBroughtBack 23 = .ok (.getfield 99, 3) := by decide +kernel
theorem dX2_holdsBroughtBack_26 : decode cX2_holdsBroughtBack 26 = .ok (.istore 5, 2) := by decide +kernel
theorem dX2_holdsBroughtBack_28 : decode cX2_holdsBroughtBack 28 = .ok (.aload_n 0, 1) := by decide +kernel
theorem dX2_holdsBroughtBack_29 : decode cX2_holdsBroughtBack 29 = .ok (.getfield 12, 3) := by decide +kernel
theorem dX2_holdsBroughtBack_32 : decode cX2_holdsBroughtBack 32 = .ok (.invokevirtual 102, 3) := by decide +kernel
theorem dX2_holdsBroughtBack_35 : decode cX2_holdsBroughtBack 35 = .ok (.aload_n 0, 1) := by decide +kernel
theorem dX2_holdsBroughtBack_36 : decode cX2_holdsBroughtBack 36 = .ok (.invokevirtual 78, 3) := by decide +kernel
theorem dX2_holdsBroughtBack_39 : decode cX2_holdsBroughtBack 39 = .ok (.ifCond .ne 5, 3) := by decide +kernel
theorem dX2_holdsBroughtBack_42 : decode cX2_holdsBroughtBack 42 = .ok (.iconst 0, 1) := by decide +kernel
theorem dX2_holdsBroughtBack_43 : decode cX2_holdsBroughtBack 43 = .ok (.ireturn, 1) := by decide +kernel
theorem dX2_holdsBroughtBack_44 : decode cX2_holdsBroughtBack 44 = .ok (.aload_n 0, 1) := by decide +kernel
theorem dX2_holdsBroughtBack_45 : decode cX2_holdsBroughtBack 45 = .ok (.getfield 12, 3) := by decide +kernel
theorem dX2_holdsBroughtBack_48 : decode cX2_holdsBroughtBack 48 = .ok (.invokevirtual 105, 3) := by decide +kernel
theorem dX2_holdsBroughtBack_51 : decode cX2_holdsBroughtBack 51 = .ok (.aload_n 0, 1) := by decide +kernel
theorem dX2_holdsBroughtBack_52 : decode cX2_holdsBroughtBack 52 = .ok (.iload 4, 2) := by decide +kernel
theorem dX2_holdsBroughtBack_54 : decode cX2_holdsBroughtBack 54 = .ok (.putfield 86, 3) := by decide +kernel
theorem dX2_holdsBroughtBack_57 : decode cX2_holdsBroughtBack 57 = .ok (.aload_n 0, 1) := by decide +kernel
theorem dX2_holdsBroughtBack_58 : decode cX2_holdsBroughtBack 58 = .ok (.iload 5, 2) := by decide +kernel
theorem dX2_holdsBroughtBack_60 : decode cX2_holdsBroughtBack 60 = .ok (.putfield 99, 3) := by decide +kernel
theorem dX2_holdsBroughtBack_63 : decode cX2_holdsBroughtBack 63 = .ok (.aload_n 0, 1) := by decide +kernel
theorem dX2_holdsBroughtBack_64 : decode cX2_holdsBroughtBack 64 = .ok (.invokevirtual 78, 3) := by decide +kernel
theorem dX2_holdsBroughtBack_67 : decode cX2_holdsBroughtBack 67 = .ok (.ireturn, 1) := by decide +kernel
theorem dX2_start_0 : decode cX2_start 0 = .ok (.aload_n 0, 1) := by decide +kernel
theorem dX2_start_1 : decode cX2_start 1 = .ok (.getfield 12, 3) := by decide +kernel
theorem dX2_start_4 : decode cX2_start 4 = .ok (.iload_n 1, 1) := by decide +kernel
theorem dX2_start_5 : decode cX2_start 5 = .ok (.aload_n 2, 1) := by decide +kernel
theorem dX2_start_6 : decode cX2_start 6 = .ok (.aload_n 3, 1) := by decide +kernel
theorem dX2_start_7 : decode cX2_start 7 = .ok (.invokevirtual 108, 3) := by decide +kernel
theorem dX2_start_10 : decode cX2_start 10 = .ok (.aload_n 0, 1) := by decide +kernel
theorem dX2_start_11 : decode cX2_start 11 = .ok (.iconst 0, 1) := by decide +kernel
theorem dX2_start_12 : decode cX2_start 12 = .ok (.putfield 86, 3) := by decide +kernel
theorem dX2_start_15 : decode cX2_start 15 = .ok (.aload_n 0, 1) := by decide +kernel
theorem dX2_start_16 : decode cX2_start 16 = .ok (.iconst 0, 1) := by decide +kernel
theorem dX2_start_17 : decode cX2_start 17 = .ok (.putfield 99, 3) := by decide +kernel
theorem dX2_start_20 : decode cX2_start 20 = .ok (.aload_n 0, 1) := by decide +kernel
theorem dX2_start_21 : decode cX2_start 21 = .ok (.ldc2_w 111, 3) := by decide +kernel
theorem dX2_start_24 : decode cX2_start 24 = .ok (.putfield 113, 3) := by decide +kernel
theorem dX2_start_27 : decode cX2_start 27 = .ok (.return_, 1) := by decide +kernel
theorem dX2_skipsThird_0 : decode cX2_skipsThird 0 = .ok (.aload_n 0, 1) := by decide +kernel
theorem dX2_skipsThird_1 : decode cX2_skipsThird 1 = .ok (.getfield 21, 3) := by decide +kernel
theorem dX2_skipsThird_4 : decode cX2_skipsThird 4 = .ok (.invokevirtual 49, 3) := by decide +kernel
theorem dX2_skipsThird_7 : decode cX2_skipsThird 7 = .ok (.iconst 3, 1) := by decide +kernel
theorem dX2_skipsThird_8 : decode cX2_skipsThird 8 = .ok (.idiv, 1) := by decide +kernel
theorem dX2_skipsThird_9 : decode cX2_skipsThird 9 = .ok (.istore_n 1, 1) := by decide +kernel
theorem dX2_skipsThird_10 : decode cX2_skipsThird 10 = .ok (.aload_n 0, 1) := by decide +kernel
theorem dX2_skipsThird_11 : decode cX2_skipsThird 11 = .ok (.getfield 12, 3) := by decide +kernel
theorem dX2_skipsThird_14 : decode cX2_skipsThird 14 = .ok (.iload_n 1, 1) := by decide +kernel
theorem dX2_skipsThird_15 : decode cX2_skipsThird 15 = .ok (.invokevirtual 117, 3) := by decide +kernel
theorem dX2_skipsThird_18 : decode cX2_skipsThird 18 = .ok (.istore_n 2, 1) := by decide +kernel
theorem dX2_skipsThird_19 : decode cX2_skipsThird 19 = .ok (.iconst 0, 1) := by decide +kernel
theorem dX2_skipsThird_20 : decode cX2_skipsThird 20 = .ok (.istore_n 3, 1) := by decide +kernel
theorem dX2_skipsThird_21 : decode cX2_skipsThird 21 = .ok (.iload_n 3, 1) := by decide +kernel
theorem dX2_skipsThird_22 : decode cX2_skipsThird 22 = .ok (.iload_n 1, 1) := by decide +kernel
theorem dX2_skipsThird_23 : decode cX2_skipsThird 23 = .ok (.if_icmp .ge 14, 3) := by decide +kernel
theorem dX2_skipsThird_26 : decode cX2_skipsThird 26 = .ok (.aload_n 0, 1) := by decide +kernel
theorem dX2_skipsThird_27 : decode cX2_skipsThird 27 = .ok (.invokevirtual 120, 3) := by decide +kernel
theorem dX2_skipsThird_30 : decode cX2_skipsThird 30 = .ok (.pop, 1) := by decide +kernel
theorem dX2_skipsThird_31 : decode cX2_skipsThird 31 = .ok (.iinc 3 1, 3) := by decide +kernel
theorem dX2_skipsThird_34 : decode cX2_skipsThird 34 = .ok (.goto (-13), 3) := by decide +kernel
theorem dX2_skipsThird_37 : decode cX2_skipsThird 37 = .ok (.iload_n 2, 1) := by decide +kernel
theorem dX2_skipsThird_38 : decode cX2_skipsThird 38 = .ok (.iload_n 1, 1) := by decide +kernel
theorem dX2_skipsThird_39 : decode cX2_skipsThird 39 = .ok (.if_icmp .ne 14, 3) := by decide +kernel
theorem dX2_skipsThird_42 : decode cX2_skipsThird 42 = .ok (.aload_n 0, 1) := by decide +kernel
theorem dX2_skipsThird_43 : decode cX2_skipsThird 43 = .ok (.invokevirtual 90, 3) := by decide +kernel
theorem dX2_skipsThird_46 : decode cX2_skipsThird 46 = .ok (.ifCond .eq 7, 3) := by decide +kernel
theorem dX2_skipsThird_49 : decode cX2_skipsThird 49 = .ok (.iconst 1, 1) := by decide +kernel
theorem dX2_skipsThird_50 : decode cX2_skipsThird 50 = .ok (.goto 4, 3) := by decide +kernel
theorem dX2_skipsThird_53 : decode cX2_skipsThird 53 = .ok (.iconst 0, 1) := by decide +kernel
theorem dX2_skipsThird_54 : decode cX2_skipsThird 54 = .ok (.ireturn, 1) := by decide +kernel
theorem dX2_readsRest_0 : decode cX2_readsRest 0 = .ok (.aload_n 0, 1) := by decide +kernel
theorem dX2_readsRest_1 : decode cX2_readsRest 1 = .ok (.getfield 21, 3) := by decide +kernel
theorem dX2_readsRest_4 : decode cX2_readsRest 4 = .ok (.invokevirtual 49, 3) := by decide +kernel
theorem dX2_readsRest_7 : decode cX2_readsRest 7 = .ok (.aload_n 0, 1) := by decide +kernel
theorem dX2_readsRest_8 : decode cX2_readsRest 8 = .ok (.getfield 86, 3) := by decide +kernel
theorem dX2_readsRest_11 : decode cX2_readsRest 11 = .ok (.isub, 1) := by decide +kernel
theorem dX2_readsRest_12 : decode cX2_readsRest 12 = .ok (.istore_n 1, 1) := by decide +kernel
theorem dX2_readsRest_13 : decode cX2_readsRest 13 = .ok (.iconst 0, 1) := by decide +kernel
theorem dX2_readsRest_14 : decode cX2_readsRest 14 = .ok (.istore_n 2, 1) := by decide +kernel
theorem dX2_readsRest_15 : decode cX2_readsRest 15 = .ok (.iload_n 2, 1) := by decide +kernel
theorem dX2_readsRest_16 : decode cX2_readsRest 16 = .ok (.iload_n 1, 1) := by decide +kernel
theorem dX2_readsRest_17 : decode cX2_readsRest 17 = .ok (.if_icmp .ge 32, 3) := by decide +kernel
theorem dX2_readsRest_20 : decode cX2_readsRest 20 = .ok (.aload_n 0, 1) := by decide +kernel
theorem dX2_readsRest_21 : decode cX2_readsRest 21 = .ok (.getfield 12, 3) := by decide +kernel
theorem dX2_readsRest_24 : decode cX2_readsRest 24 = .ok (.invokevirtual 123, 3) := by decide +kernel
theorem dX2_readsRest_27 : decode cX2_readsRest 27 = .ok (.aload_n 0, 1) := by decide +kernel
theorem dX2_readsRest_28 : decode cX2_readsRest 28 = .ok (.invokevirtual 120, 3) := by decide +kernel
theorem dX2_readsRest_31 : decode cX2_readsRest 31 = .ok (.if_icmp .ne 10, 3) := by decide +kernel
theorem dX2_readsRest_34 : decode cX2_readsRest 34 = .ok (.aload_n 0, 1) := by decide +kernel
theorem dX2_readsRest_35 : decode cX2_readsRest 35 = .ok (.invokevirtual 90, 3) := by decide +kernel
theorem dX2_readsRest_38 : decode cX2_readsRest 38 = .ok (.ifCond .ne 5, 3) := by decide +kernel
theorem dX2_readsRest_41 : decode cX2_readsRest 41 = .ok (.iconst 0, 1) := by decide +kernel
theorem dX2_readsRest_42 : decode cX2_readsRest 42 = .ok (.ireturn, 1) := by decide +kernel
theorem dX2_readsRest_43 : decode cX2_readsRest 43 = .ok (.iinc 2 1, 3) := by decide +kernel
theorem dX2_readsRest_46 : decode cX2_readsRest 46 = .ok (.goto (-31), 3) := by decide +kernel
theorem dX2_readsRest_49 : decode cX2_readsRest 49 = .ok (.aload_n 0, 1) := by decide +kernel
theorem dX2_readsRest_50 : decode cX2_readsRest 50 = .ok (.getfield 12, 3) := by decide +kernel
theorem dX2_readsRest_53 : decode cX2_readsRest 53 = .ok (.invokevirtual 123, 3) := by decide +kernel
theorem dX2_readsRest_56 : decode cX2_readsRest 56 = .ok (.iconst (-1), 1) := by decide +kernel
theorem dX2_readsRest_57 : decode cX2_readsRest 57 = .ok (.if_icmp .ne 14, 3) := by decide +kernel
theorem dX2_readsRest_60 : decode cX2_readsRest 60 = .ok (.aload_n 0, 1) := by decide +kernel
theorem dX2_readsRest_61 : decode cX2_readsRest 61 = .ok (.invokevirtual 90, 3) := by decide +kernel
theorem dX2_readsRest_64 : decode cX2_readsRest 64 = .ok (.ifCond .eq 7, 3) := by decide +kernel
theorem dX2_readsRest_67 : decode cX2_readsRest 67 = .ok (.iconst 1, 1) := by decide +kernel
theorem dX2_readsRest_68 : decode cX2_readsRest 68 = .ok (.goto 4, 3) := by decide +kernel
theorem dX2_readsRest_71 : decode cX2_readsRest 71 = .ok (.iconst 0, 1) := by decide +kernel
theorem dX2_readsRest_72 : decode cX2_readsRest 72 = .ok (.ireturn, 1) := by decide +kernel
theorem dX2_partIsDue_0 : decode cX2_partIsDue 0 = .ok (.iconst 0, 1) := by decide +kernel
theorem dX2_partIsDue_1 : decode cX2_partIsDue 1 = .ok (.istore_n 1, 1) := by decide +kernel
theorem dX2_partIsDue_2 : decode cX2_partIsDue 2 = .ok (.iload_n 1, 1) := by decide +kernel
theorem dX2_partIsDue_3 : decode cX2_partIsDue 3 = .ok (.aload_n 0, 1) := by decide +kernel
theorem dX2_partIsDue_4 : decode cX2_partIsDue 4 = .ok (.getfield 25, 3) := by decide +kernel
theorem dX2_partIsDue_7 : decode cX2_partIsDue 7 = .ok (.invokevirtual 49, 3) := by decide +kernel
theorem dX2_partIsDue_10 : decode cX2_partIsDue 10 = .ok (.if_icmp .ge 26, 3) := by decide +kernel
theorem dX2_partIsDue_13 : decode cX2_partIsDue 13 = .ok (.aload_n 0, 1) := by decide +kernel
theorem dX2_partIsDue_14 : decode cX2_partIsDue 14 = .ok (.getfield 25, 3) := by decide +kernel
theorem dX2_partIsDue_17 : decode cX2_partIsDue 17 = .ok (.iload_n 1, 1) := by decide +kernel
theorem dX2_partIsDue_18 : decode cX2_partIsDue 18 = .ok (.invokevirtual 71, 3) := by decide +kernel
theorem dX2_partIsDue_21 : decode cX2_partIsDue 21 = .ok (.aload_n 0, 1) := by decide +kernel
theorem dX2_partIsDue_22 : decode cX2_partIsDue 22 = .ok (.invokevirtual 120, 3) := by decide +kernel
theorem dX2_partIsDue_25 : decode cX2_partIsDue 25 = .ok (.if_icmp .eq 5, 3) := by decide +kernel
theorem dX2_partIsDue_28 : decode cX2_partIsDue 28 = .ok (.iconst 0, 1) := by decide +kernel
theorem dX2_partIsDue_29 : decode cX2_partIsDue 29 = .ok (.ireturn, 1) := by decide +kernel
theorem dX2_partIsDue_30 : decode cX2_partIsDue 30 = .ok (.iinc 1 1, 3) := by decide +kernel
theorem dX2_partIsDue_33 : decode cX2_partIsDue 33 = .ok (.goto (-31), 3) := by decide +kernel
theorem dX2_partIsDue_36 : decode cX2_partIsDue 36 = .ok (.aload_n 0, 1) := by decide +kernel
theorem dX2_partIsDue_37 : decode cX2_partIsDue 37 = .ok (.invokevirtual 90, 3) := by decide +kernel
theorem dX2_partIsDue_40 : decode cX2_partIsDue 40 = .ok (.ireturn, 1) := by decide +kernel
theorem dX2_nextDue_0 : decode cX2_nextDue 0 = .ok (.aload_n 0, 1) := by decide +kernel
theorem dX2_nextDue_1 : decode cX2_nextDue 1 = .ok (.getfield 21, 3) := by decide +kernel
theorem dX2_nextDue_4 : decode cX2_nextDue 4 = .ok (.aload_n 0, 1) := by decide +kernel
theorem dX2_nextDue_5 : decode cX2_nextDue 5 = .ok (.getfield 86, 3) := by decide +kernel
theorem dX2_nextDue_8 : decode cX2_nextDue 8 = .ok (.invokevirtual 71, 3) := by decide +kernel
theorem dX2_nextDue_11 : decode cX2_nextDue 11 = .ok (.istore_n 1, 1) := by decide +kernel
theorem dX2_nextDue_12 : decode cX2_nextDue 12 = .ok (.aload_n 0, 1) := by decide +kernel
theorem dX2_nextDue_13 : decode cX2_nextDue 13 = .ok (.dup, 1) := by decide +kernel
theorem dX2_nextDue_14 : decode cX2_nextDue 14 = .ok (.getfield 86, 3) := by decide +kernel
theorem dX2_nextDue_17 : decode cX2_nextDue 17 = .ok (.iconst 1, 1) := by decide +kernel
theorem dX2_nextDue_18 : decode cX2_nextDue 18 = .ok (.iadd, 1) := by decide +kernel
theorem dX2_nextDue_19 : decode cX2_nextDue 19 = .ok (.putfield 86, 3) := by decide +kernel
theorem dX2_nextDue_22 : decode cX2_nextDue 22 = .ok (.iload_n 1, 1) := by decide +kernel
theorem dX2_nextDue_23 : decode cX2_nextDue 23 = .ok (.bipush 10, 2) := by decide +kernel
theorem dX2_nextDue_25 : decode cX2_nextDue 25 = .ok (.if_icmp .ne 13, 3) := by decide +kernel
theorem dX2_nextDue_28 : decode cX2_nextDue 28 = .ok (.aload_n 0, 1) := by decide +kernel
theorem dX2_nextDue_29 : decode cX2_nextDue 29 = .ok (.dup, 1) := by decide +kernel
theorem dX2_nextDue_30 : decode cX2_nextDue 30 = .ok (.getfield 99, 3) := by decide +kernel
theorem dX2_nextDue_33 : decode cX2_nextDue 33 = .ok (.iconst 1, 1) := by decide +kernel
theorem dX2_nextDue_34 : decode cX2_nextDue 34 = .ok (.iadd, 1) := by decide +kernel
theorem dX2_nextDue_35 : decode cX2_nextDue 35 = .ok (.putfield 99, 3) := by decide +kernel
theorem dX2_nextDue_38 : decode cX2_nextDue 38 = .ok (.aload_n 0, 1) := by decide +kernel
theorem dX2_nextDue_39 : decode cX2_nextDue 39 = .ok (.getfield 12, 3) := by decide +kernel
theorem dX2_nextDue_42 : decode cX2_nextDue 42 = .ok (.getfield 126, 3) := by decide +kernel
theorem dX2_nextDue_45 : decode cX2_nextDue 45 = .ok (.invokestatic 129, 3) := by decide +kernel
theorem dX2_nextDue_48 : decode cX2_nextDue 48 = .ok (.ifCond .eq 15, 3) := by decide +kernel
theorem dX2_nextDue_51 : decode cX2_nextDue 51 = .ok (.aload_n 0, 1) := by decide +kernel
theorem dX2_nextDue_52 : decode cX2_nextDue 52 = .ok (.aload_n 0, 1) := by decide +kernel
theorem dX2_nextDue_53 : decode cX2_nextDue 53 = .ok (.getfield 113, 3) := by decide +kernel
theorem dX2_nextDue_56 : decode cX2_nextDue 56 = .ok (.iload_n 1, 1) := by decide +kernel
theorem dX2_nextDue_57 : decode cX2_nextDue 57 = .ok (.invokestatic 132, 3) := by decide +kernel
theorem dX2_nextDue_60 : decode cX2_nextDue 60 = .ok (.putfield 113, 3) := by decide +kernel
theorem dX2_nextDue_63 : decode cX2_nextDue 63 = .ok (.iload_n 1, 1) := by decide +kernel
theorem dX2_nextDue_64 : decode cX2_nextDue 64 = .ok (.ireturn, 1) := by decide +kernel
theorem dX2_figuresAreDue_0 : decode cX2_figuresAreDue 0 = .ok (.aload_n 0, 1) := by decide +kernel
theorem dX2_figuresAreDue_1 : decode cX2_figuresAreDue 1 = .ok (.getfield 12, 3) := by decide +kernel
theorem dX2_figuresAreDue_4 : decode cX2_figuresAreDue 4 = .ok (.getfield 126, 3) := by decide +kernel
theorem dX2_figuresAreDue_7 : decode cX2_figuresAreDue 7 = .ok (.invokestatic 136, 3) := by decide +kernel
theorem dX2_figuresAreDue_10 : decode cX2_figuresAreDue 10 = .ok (.ifCond .eq 19, 3) := by decide +kernel
theorem dX2_figuresAreDue_13 : decode cX2_figuresAreDue 13 = .ok (.aload_n 0, 1) := by decide +kernel
theorem dX2_figuresAreDue_14 : decode cX2_figuresAreDue 14 = .ok (.getfield 12, 3) := by decide +kernel
theorem dX2_figuresAreDue_17 : decode cX2_figuresAreDue 17 = .ok (.getfield 139, 3) := by decide +kernel
theorem dX2_figuresAreDue_20 : decode cX2_figuresAreDue 20 = .ok (.aload_n 0, 1) := by decide +kernel
theorem dX2_figuresAreDue_21 : decode cX2_figuresAreDue 21 = .ok (.getfield 99, 3) := by decide +kernel
theorem dX2_figuresAreDue_24 : decode cX2_figuresAreDue 24 = .ok (.if_icmp .eq 5, 3) := by decide +kernel
theorem dX2_figuresAreDue_27 : decode cX2_figuresAreDue 27 = .ok (.iconst 0, 1) := by decide +kernel
theorem dX2_figuresAreDue_28 : decode cX2_figuresAreDue 28 = .ok (.ireturn, 1) := by decide +kernel
theorem dX2_figuresAreDue_29 : decode cX2_figuresAreDue 29 = .ok (.aload_n 0, 1) := by decide +kernel
theorem dX2_figuresAreDue_30 : decode cX2_figuresAreDue 30 = .ok (.getfield 12, 3) := by decide +kernel
theorem dX2_figuresAreDue_33 : decode cX2_figuresAreDue 33 = .ok (.getfield 126, 3) := by decide +kernel
theorem dX2_figuresAreDue_36 : decode cX2_figuresAreDue 36 = .ok (.invokestatic 129, 3) := by decide +kernel
theorem dX2_figuresAreDue_39 : decode cX2_figuresAreDue 39 = .ok (.ifCond .eq 22, 3) := by decide +kernel
theorem dX2_figuresAreDue_42 : decode cX2_figuresAreDue 42 = .ok (.aload_n 0, 1) := by decide +kernel
theorem dX2_figuresAreDue_43 : decode cX2_figuresAreDue 43 = .ok (.getfield 12, 3) := by decide +kernel
theorem dX2_figuresAreDue_46 : decode cX2_figuresAreDue 46 = .ok (.invokevirtual 140, 3) := by decide +kernel
theorem dX2_figuresAreDue_49 : decode cX2_figuresAreDue 49 = .ok (.ldc2_w 111, 3) := by decide +kernel
theorem dX2_figuresAreDue_52 : decode cX2_figuresAreDue 52 = .ok (.aload_n 0, 1) := by decide +kernel
theorem dX2_figuresAreDue_53 : decode cX2_figuresAreDue 53 = .ok (.getfield 113, 3) := by decide +kernel
theorem dX2_figuresAreDue_56 : decode cX2_figuresAreDue 56 = .ok (.lsub, 1) := by decide +kernel
theorem dX2_figuresAreDue_57 : decode cX2_figuresAreDue 57 = .ok (.lcmp, 1) := by decide +kernel
theorem dX2_figuresAreDue_58 : decode cX2_figuresAreDue 58 = .ok (.ifCond .ne 7, 3) := by decide +kernel
theorem dX2_figuresAreDue_61 : decode cX2_figuresAreDue 61 = .ok (.iconst 1, 1) := by decide +kernel
theorem dX2_figuresAreDue_62 : decode cX2_figuresAreDue 62 = .ok (.goto 4, 3) := by decide +kernel
theorem dX2_figuresAreDue_65 : decode cX2_figuresAreDue 65 = .ok (.iconst 0, 1) := by decide +kernel
theorem dX2_figuresAreDue_66 : decode cX2_figuresAreDue 66 = .ok (.ireturn, 1) := by decide +kernel
theorem dJx00060_init_a7421_0 : decode cJx00060_init_a7421 0 = .ok (.aload_n 0, 1) := by decide +kernel
theorem dJx00060_init_a7421_1 : decode cJx00060_init_a7421 1 = .ok (.aload_n 1, 1) := by decide +kernel
theorem dJx00060_init_a7421_2 : decode cJx00060_init_a7421 2 = .ok (.invokespecial 7, 3) := by decide +kernel
theorem dJx00060_init_a7421_5 : decode cJx00060_init_a7421 5 = .ok (.return_, 1) := by decide +kernel
theorem dJ9_min_7cf53_0 : decode cJ9_min_7cf53 0 = .ok (.iload_n 0, 1) := by decide +kernel
theorem dJ9_min_7cf53_1 : decode cJ9_min_7cf53 1 = .ok (.iload_n 1, 1) := by decide +kernel
theorem dJ9_min_7cf53_2 : decode cJ9_min_7cf53 2 = .ok (.if_icmp .gt 7, 3) := by decide +kernel
theorem dJ9_min_7cf53_5 : decode cJ9_min_7cf53 5 = .ok (.iload_n 0, 1) := by decide +kernel
theorem dJ9_min_7cf53_6 : decode cJ9_min_7cf53 6 = .ok (.goto 4, 3) := by decide +kernel
theorem dJ9_min_7cf53_9 : decode cJ9_min_7cf53 9 = .ok (.iload_n 1, 1) := by decide +kernel
theorem dJ9_min_7cf53_10 : decode cJ9_min_7cf53 10 = .ok (.ireturn, 1) := by decide +kernel

/-! decode rows, printed by the kit's program -/
theorem dX3_init_0 : decode cX3_init 0 = .ok (.aload_n 0, 1) := by decide +kernel
theorem dX3_init_1 : decode cX3_init 1 = .ok (.invokespecial 1, 3) := by decide +kernel
theorem dX3_init_4 : decode cX3_init 4 = .ok (.aload_n 0, 1) := by decide +kernel
theorem dX3_init_5 : decode cX3_init 5 = .ok (.iconst 4, 1) := by decide +kernel
theorem dX3_init_6 : decode cX3_init 6 = .ok (.anewarray 9, 3) := by decide +kernel
theorem dX3_init_9 : decode cX3_init 9 = .ok (.putfield 11, 3) := by decide +kernel
theorem dX3_init_12 : decode cX3_init 12 = .ok (.aload_n 0, 1) := by decide +kernel
theorem dX3_init_13 : decode cX3_init 13 = .ok (.iconst 4, 1) := by decide +kernel
theorem dX3_init_14 : decode cX3_init 14 = .ok (.anewarray 15, 3) := by decide +kernel
theorem dX3_init_17 : decode cX3_init 17 = .ok (.putfield 17, 3) := by decide +kernel
theorem dX3_init_20 : decode cX3_init 20 = .ok (.aload_n 0, 1) := by decide +kernel
theorem dX3_init_21 : decode cX3_init 21 = .ok (.new 9, 3) := by decide +kernel
theorem dX3_init_24 : decode cX3_init 24 = .ok (.dup, 1) := by decide +kernel
theorem dX3_init_25 : decode cX3_init 25 = .ok (.invokespecial 21, 3) := by decide +kernel
theorem dX3_init_28 : decode cX3_init 28 = .ok (.putfield 22, 3) := by decide +kernel
theorem dX3_init_31 : decode cX3_init 31 = .ok (.aload_n 0, 1) := by decide +kernel
theorem dX3_init_32 : decode cX3_init 32 = .ok (.new 26, 3) := by decide +kernel
theorem dX3_init_35 : decode cX3_init 35 = .ok (.dup, 1) := by decide +kernel
theorem dX3_init_36 : decode cX3_init 36 = .ok (.invokespecial 28, 3) := by decide +kernel
theorem dX3_init_39 : decode cX3_init 39 = .ok (.putfield 29, 3) := by decide +kernel
theorem dX3_init_42 : decode cX3_init 42 = .ok (.iconst 0, 1) := by decide +kernel
theorem dX3_init_43 : decode cX3_init 43 = .ok (.istore_n 1, 1) := by decide +kernel
theorem dX3_init_44 : decode cX3_init 44 = .ok (.iload_n 1, 1) := by decide +kernel
theorem dX3_init_45 : decode cX3_init 45 = .ok (.iconst 4, 1) := by decide +kernel
theorem dX3_init_46 : decode cX3_init 46 = .ok (.if_icmp .ge 22, 3) := by decide +kernel
theorem dX3_init_49 : decode cX3_init 49 = .ok (.aload_n 0, 1) := by decide +kernel
theorem dX3_init_50 : decode cX3_init 50 = .ok (.getfield 11, 3) := by decide +kernel
theorem dX3_init_53 : decode cX3_init 53 = .ok (.iload_n 1, 1) := by decide +kernel
theorem dX3_init_54 : decode cX3_init 54 = .ok (.new 9, 3) := by decide +kernel
theorem dX3_init_57 : decode cX3_init 57 = .ok (.dup, 1) := by decide +kernel
theorem dX3_init_58 : decode cX3_init 58 = .ok (.invokespecial 21, 3) := by decide +kernel
theorem dX3_init_61 : decode cX3_init 61 = .ok (.aastore, 1) := by decide +kernel
theorem dX3_init_62 : decode cX3_init 62 = .ok (.iinc 1 1, 3) := by decide +kernel
theorem dX3_init_65 : decode cX3_init 65 = .ok (.goto (-21), 3) := by decide +kernel
theorem dX3_init_68 : decode cX3_init 68 = .ok (.iconst 0, 1) := by decide +kernel
theorem dX3_init_69 : decode cX3_init 69 = .ok (.istore_n 1, 1) := by decide +kernel
theorem dX3_init_70 : decode cX3_init 70 = .ok (.iload_n 1, 1) := by decide +kernel
theorem dX3_init_71 : decode cX3_init 71 = .ok (.iconst 4, 1) := by decide +kernel
theorem dX3_init_72 : decode cX3_init 72 = .ok (.if_icmp .ge 22, 3) := by decide +kernel
theorem dX3_init_75 : decode cX3_init 75 = .ok (.aload_n 0, 1) := by decide +kernel
theorem dX3_init_76 : decode cX3_init 76 = .ok (.getfield 17, 3) := by decide +kernel
theorem dX3_init_79 : decode cX3_init 79 = .ok (.iload_n 1, 1) := by decide +kernel
theorem dX3_init_80 : decode cX3_init 80 = .ok (.new 15, 3) := by decide +kernel
theorem dX3_init_83 : decode cX3_init 83 = .ok (.dup, 1) := by decide +kernel
theorem dX3_init_84 : decode cX3_init 84 = .ok (.invokespecial 33, 3) := by decide +kernel
theorem dX3_init_87 : decode cX3_init 87 = .ok (.aastore, 1) := by decide +kernel
theorem dX3_init_88 : decode cX3_init 88 = .ok (.iinc 1 1, 3) := by decide +kernel
theorem dX3_init_91 : decode cX3_init 91 = .ok (.goto (-21), 3) := by decide +kernel
theorem dX3_init_94 : decode cX3_init 94 = .ok (.return_, 1) := by decide +kernel
theorem dX3_type_0 : decode cX3_type 0 = .ok (.aload_n 0, 1) := by decide +kernel
theorem dX3_type_1 : decode cX3_type 1 = .ok (.iload_n 1, 1) := by decide +kernel
theorem dX3_type_2 : decode cX3_type 2 = .ok (.invokevirtual 34, 3) := by decide +kernel
theorem dX3_type_5 : decode cX3_type 5 = .ok (.astore_n 3, 1) := by decide +kernel
theorem dX3_type_6 : decode cX3_type 6 = .ok (.iload_n 2, 1) := by decide +kernel
theorem dX3_type_7 : decode cX3_type 7 = .ok (.invokestatic 38, 3) := by decide +kernel
theorem dX3_type_10 : decode cX3_type 10 = .ok (.aload_n 3, 1) := by decide +kernel
theorem dX3_type_11 : decode cX3_type 11 = .ok (.invokevirtual 42, 3) := by decide +kernel
theorem dX3_type_14 : decode cX3_type 14 = .ok (.iconst 1, 1) := by decide +kernel
theorem dX3_type_15 : decode cX3_type 15 = .ok (.iadd, 1) := by decide +kernel
theorem dX3_type_16 : decode cX3_type 16 = .ok (.invokestatic 46, 3) := by decide +kernel
theorem dX3_type_19 : decode cX3_type 19 = .ok (.aload_n 3, 1) := by decide +kernel
theorem dX3_type_20 : decode cX3_type 20 = .ok (.iload_n 2, 1) := by decide +kernel
theorem dX3_type_21 : decode cX3_type 21 = .ok (.invokevirtual 49, 3) := by decide +kernel
theorem dX3_type_24 : decode cX3_type 24 = .ok (.aload_n 3, 1) := by decide +kernel
theorem dX3_type_25 : decode cX3_type 25 = .ok (.invokevirtual 42, 3) := by decide +kernel
theorem dX3_type_28 : decode cX3_type 28 = .ok (.ireturn, 1) := by decide +kernel
theorem dX3_typeMany_0 : decode cX3_typeMany 0 = .ok (.aload_n 0, 1) := by decide +kernel
theorem dX3_typeMany_1 : decode cX3_typeMany 1 = .ok (.iload_n 1, 1) := by decide +kernel
theorem dX3_typeMany_2 : decode cX3_typeMany 2 = .ok (.invokevirtual 34, 3) := by decide +kernel
theorem dX3_typeMany_5 : decode cX3_typeMany 5 = .ok (.astore 4, 2) := by decide +kernel
theorem dX3_typeMany_7 : decode cX3_typeMany 7 = .ok (.iload_n 2, 1) := by decide +kernel
theorem dX3_typeMany_8 : decode cX3_typeMany 8 = .ok (.invokestatic 38, 3) := by decide +kernel
theorem dX3_typeMany_11 : decode cX3_typeMany 11 = .ok (.iload_n 3, 1) := by decide +kernel
theorem dX3_typeMany_12 : decode cX3_typeMany 12 = .ok (.iconst 0, 1) := by decide +kernel
theorem dX3_typeMany_13 : decode cX3_typeMany 13 = .ok (.bipush 60, 2) := by decide +kernel
theorem dX3_typeMany_15 : decode cX3_typeMany 15 = .ok (.invokestatic 52, 3) := by decide +kernel
theorem dX3_typeMany_18 : decode cX3_typeMany 18 = .ok (.aload 4, 2) := by decide +kernel
theorem dX3_typeMany_20 : decode cX3_typeMany 20 = .ok (.invokevirtual 42, 3) := by decide +kernel
theorem dX3_typeMany_23 : decode cX3_typeMany 23 = .ok (.iload_n 3, 1) := by decide +kernel
theorem dX3_typeMany_24 : decode cX3_typeMany 24 = .ok (.iadd, 1) := by decide +kernel
theorem dX3_typeMany_25 : decode cX3_typeMany 25 = .ok (.invokestatic 46, 3) := by decide +kernel
theorem dX3_typeMany_28 : decode cX3_typeMany 28 = .ok (.iconst 0, 1) := by decide +kernel
theorem dX3_typeMany_29 : decode cX3_typeMany 29 = .ok (.istore 5, 2) := by decide +kernel
theorem dX3_typeMany_31 : decode cX3_typeMany 31 = .ok (.iload 5, 2) := by decide +kernel
theorem dX3_typeMany_33 : decode cX3_typeMany 33 = .ok (.iload_n 3, 1) := by decide +kernel
theorem dX3_typeMany_34 : decode cX3_typeMany 34 = .ok (.if_icmp .ge 15, 3) := by decide +kernel
theorem dX3_typeMany_37 : decode cX3_typeMany 37 = .ok (.aload 4, 2) := by decide +kernel
theorem dX3_typeMany_39 : decode cX3_typeMany 39 = .ok (.iload_n 2, 1) := by decide +kernel
theorem dX3_typeMany_40 : decode cX3_typeMany 40 = .ok (.invokevirtual 49, 3) := by decide +kernel
theorem dX3_typeMany_43 : decode cX3_typeMany 43 = .ok (.iinc 5 1, 3) := by decide +kernel
theorem dX3_typeMany_46 : decode cX3_typeMany 46 = .ok (.goto (-15), 3) := by decide +kernel
theorem dX3_typeMany_49 : decode cX3_typeMany 49 = .ok (.aload 4, 2) := by decide +kernel
theorem dX3_typeMany_51 : decode cX3_typeMany 51 = .ok (.invokevirtual 42, 3) := by decide +kernel
theorem dX3_typeMany_54 : decode cX3_typeMany 54 = .ok (.ireturn, 1) := by decide +kernel
theorem dX3_cut_0 : decode cX3_cut 0 = .ok (.aload_n 0, 1) := by decide +kernel
theorem dX3_cut_1 : decode cX3_cut 1 = .ok (.iload_n 1, 1) := by decide +kernel
theorem dX3_cut_2 : decode cX3_cut 2 = .ok (.invokevirtual 34, 3) := by decide +kernel
theorem dX3_cut_5 : decode cX3_cut 5 = .ok (.astore_n 2, 1) := by decide +kernel
theorem dX3_cut_6 : decode cX3_cut 6 = .ok (.aload_n 2, 1) := by decide +kernel
theorem dX3_cut_7 : decode cX3_cut 7 = .ok (.invokevirtual 42, 3) := by decide +kernel
theorem dX3_cut_10 : decode cX3_cut 10 = .ok (.ifCond .ne 13, 3) := by decide +kernel
theorem dX3_cut_13 : decode cX3_cut 13 = .ok (.new 56, 3) := by decide +kernel
theorem dX3_cut_16 : decode cX3_cut 16 = .ok (.dup, 1) := by decide +kernel
theorem dX3_cut_17 : decode cX3_cut 17 = .ok (.ldc 58, 2) := by decide +kernel
theorem dX3_cut_19 : decode cX3_cut 19 = .ok (.invokespecial 60, 3) := by decide +kernel
theorem dX3_cut_22 : decode cX3_cut 22 = .ok (.athrow, 1) := by decide +kernel
theorem dX3_cut_23 : decode cX3_cut 23 = .ok (.aload_n 2, 1) := by decide +kernel
theorem dX3_cut_24 : decode cX3_cut 24 = .ok (.invokevirtual 63, 3) := by decide +kernel
theorem dX3_cut_27 : decode cX3_cut 27 = .ok (.ireturn, 1) := by decide +kernel
theorem dX3_clear_0 : decode cX3_clear 0 = .ok (.aload_n 0, 1) := by decide +kernel
theorem dX3_clear_1 : decode cX3_clear 1 = .ok (.iload_n 1, 1) := by decide +kernel
theorem dX3_clear_2 : decode cX3_clear 2 = .ok (.invokevirtual 34, 3) := by decide +kernel
theorem dX3_clear_5 : decode cX3_clear 5 = .ok (.astore_n 2, 1) := by decide +kernel
theorem dX3_clear_6 : decode cX3_clear 6 = .ok (.aload_n 2, 1) := by decide +kernel
theorem dX3_clear_7 : decode cX3_clear 7 = .ok (.invokevirtual 42, 3) := by decide +kernel
theorem dX3_clear_10 : decode cX3_clear 10 = .ok (.istore_n 3, 1) := by decide +kernel
theorem dX3_clear_11 : decode cX3_clear 11 = .ok (.aload_n 2, 1) := by decide +kernel
theorem dX3_clear_12 : decode cX3_clear 12 = .ok (.invokevirtual 66, 3) := by decide +kernel
theorem dX3_clear_15 : decode cX3_clear 15 = .ok (.iload_n 3, 1) := by decide +kernel
theorem dX3_clear_16 : decode cX3_clear 16 = .ok (.ireturn, 1) := by decide +kernel
theorem dX3_length_0 : decode cX3_length 0 = .ok (.aload_n 0, 1) := by decide +kernel
theorem dX3_length_1 : decode cX3_length 1 = .ok (.iload_n 1, 1) := by decide +kernel
theorem dX3_length_2 : decode cX3_length 2 = .ok (.invokevirtual 34, 3) := by decide +kernel
theorem dX3_length_5 : decode cX3_length 5 = .ok (.invokevirtual 42, 3) := by decide +kernel
theorem dX3_length_8 : decode cX3_length 8 = .ok (.ireturn, 1) := by decide +kernel
theorem dX3_byteAt_0 : decode cX3_byteAt 0 = .ok (.aload_n 0, 1) := by decide +kernel
theorem dX3_byteAt_1 : decode cX3_byteAt 1 = .ok (.iload_n 1, 1) := by decide +kernel
theorem dX3_byteAt_2 : decode cX3_byteAt 2 = .ok (.invokevirtual 34, 3) := by decide +kernel
theorem dX3_byteAt_5 : decode cX3_byteAt 5 = .ok (.astore_n 3, 1) := by decide +kernel
theorem dX3_byteAt_6 : decode cX3_byteAt 6 = .ok (.aload_n 3, 1) := by decide +kernel
theorem dX3_byteAt_7 : decode cX3_byteAt 7 = .ok (.iload_n 2, 1) := by decide +kernel
theorem dX3_byteAt_8 : decode cX3_byteAt 8 = .ok (.invokestatic 69, 3) := by decide +kernel
theorem dX3_byteAt_11 : decode cX3_byteAt 11 = .ok (.aload_n 3, 1) := by decide +kernel
theorem dX3_byteAt_12 : decode cX3_byteAt 12 = .ok (.iload_n 2, 1) := by decide +kernel
theorem dX3_byteAt_13 : decode cX3_byteAt 13 = .ok (.invokevirtual 73, 3) := by decide +kernel
theorem dX3_byteAt_16 : decode cX3_byteAt 16 = .ok (.ireturn, 1) := by decide +kernel
theorem dX3_ends_0 : decode cX3_ends 0 = .ok (.aload_n 0, 1) := by decide +kernel
theorem dX3_ends_1 : decode cX3_ends 1 = .ok (.iload_n 1, 1) := by decide +kernel
theorem dX3_ends_2 : decode cX3_ends 2 = .ok (.invokevirtual 34, 3) := by decide +kernel
theorem dX3_ends_5 : decode cX3_ends 5 = .ok (.invokevirtual 77, 3) := by decide +kernel
theorem dX3_ends_8 : decode cX3_ends 8 = .ok (.ireturn, 1) := by decide +kernel
theorem dX3_open_0 : decode cX3_open 0 = .ok (.aload_n 0, 1) := by decide +kernel
theorem dX3_open_1 : decode cX3_open 1 = .ok (.iload_n 1, 1) := by decide +kernel
theorem dX3_open_2 : decode cX3_open 2 = .ok (.invokevirtual 80, 3) := by decide +kernel
theorem dX3_open_5 : decode cX3_open 5 = .ok (.astore 5, 2) := by decide +kernel
theorem dX3_open_7 : decode cX3_open 7 = .ok (.aload_n 0, 1) := by decide +kernel
theorem dX3_open_8 : decode cX3_open 8 = .ok (.iload_n 3, 1) := by decide +kernel
theorem dX3_open_9 : decode cX3_open 9 = .ok (.invokevirtual 34, 3) := by decide +kernel
theorem dX3_open_12 : decode cX3_open 12 = .ok (.astore 6, 2) := by decide +kernel
theorem dX3_open_14 : decode cX3_open 14 = .ok (.aload_n 0, 1) := by decide +kernel
theorem dX3_open_15 : decode cX3_open 15 = .ok (.iload 4, 2) := by decide +kernel
theorem dX3_open_17 : decode cX3_open 17 = .ok (.invokevirtual 34, 3) := by decide +kernel
theorem dX3_open_20 : decode cX3_open 20 = .ok (.astore 7, 2) := by decide +kernel
theorem dX3_open_22 : decode cX3_open 22 = .ok (.iload_n 2, 1) := by decide +kernel
theorem dX3_open_23 : decode cX3_open 23 = .ok (.iconst 0, 1) := by decide +kernel
theorem dX3_open_24 : decode cX3_open 24 = .ok (.bipush 7, 2) := by decide +kernel
theorem dX3_open_26 : decode cX3_open 26 = .ok (.invokestatic 52, 3) := by decide +kernel
theorem dX3_open_29 : decode cX3_open 29 = .ok (.aload 5, 2) := by decide +kernel
theorem dX3_open_31 : decode cX3_open 31 = .ok (.iload_n 2, 1) := by decide +kernel
theorem dX3_open_32 : decode cX3_open 32 = .ok (.aload 6, 2) := by decide +kernel
theorem dX3_open_34 : decode cX3_open 34 = .ok (.aload 7, 2) := by decide +kernel
theorem dX3_open_36 : decode cX3_open 36 = .ok (.invokevirtual 84, 3) := by decide +kernel
theorem dX3_open_39 : decode cX3_open 39 = .ok (.iload_n 2, 1) := by decide +kernel
theorem dX3_open_40 : decode cX3_open 40 = .ok (.invokestatic 88, 3) := by decide +kernel
theorem dX3_open_43 : decode cX3_open 43 = .ok (.ifCond .eq 17, 3) := by decide +kernel
theorem dX3_open_46 : decode cX3_open 46 = .ok (.aload 6, 2) := by decide +kernel
theorem dX3_open_48 : decode cX3_open 48 = .ok (.invokevirtual 42, 3) := by decide +kernel
theorem dX3_open_51 : decode cX3_open 51 = .ok (.aload 7, 2) := by decide +kernel
theorem dX3_open_53 : decode cX3_open 53 = .ok (.invokevirtual 42, 3) := by decide +kernel
theorem dX3_open_56 : decode cX3_open 56 = .ok (.iadd, 1) := by decide +kernel
theorem dX3_open_57 : decode cX3_open 57 = .ok (.goto 8, 3) := by decide +kernel
theorem dX3_open_60 : decode cX3_open 60 = .ok (.aload 6, 2) := by decide +kernel
theorem dX3_open_62 : decode cX3_open 62 = .ok (.invokevirtual 42, 3) := by decide +kernel
theorem dX3_open_65 : decode cX3_open 65 = .ok (.ireturn, 1) := by decide +kernel
theorem dX3_kind_0 : decode cX3_kind 0 = .ok (.aload_n 0, 1) := by decide +kernel
theorem dX3_kind_1 : decode cX3_kind 1 = .ok (.iload_n 1, 1) := by decide +kernel
theorem dX3_kind_2 : decode cX3_kind 2 = .ok (.invokevirtual 80, 3) := by decide +kernel
theorem dX3_kind_5 : decode cX3_kind 5 = .ok (.getfield 92, 3) := by decide +kernel
theorem dX3_kind_8 : decode cX3_kind 8 = .ok (.ireturn, 1) := by decide +kernel
theorem dX3_read_0 : decode cX3_read 0 = .ok (.aload_n 0, 1) := by decide +kernel
theorem dX3_read_1 : decode cX3_read 1 = .ok (.iload_n 1, 1) := by decide +kernel
theorem dX3_read_2 : decode cX3_read 2 = .ok (.invokevirtual 96, 3) := by decide +kernel
theorem dX3_read_5 : decode cX3_read 5 = .ok (.invokevirtual 99, 3) := by decide +kernel
theorem dX3_read_8 : decode cX3_read 8 = .ok (.ireturn, 1) := by decide +kernel
theorem dX3_readPart_0 : decode cX3_readPart 0 = .ok (.aload_n 0, 1) := by decide +kernel
theorem dX3_readPart_1 : decode cX3_readPart 1 = .ok (.iload_n 1, 1) := by decide +kernel
theorem dX3_readPart_2 : decode cX3_readPart 2 = .ok (.invokevirtual 80, 3) := by decide +kernel
theorem dX3_readPart_5 : decode cX3_readPart 5 = .ok (.astore_n 3, 1) := by decide +kernel
theorem dX3_readPart_6 : decode cX3_readPart 6 = .ok (.iload_n 2, 1) := by decide +kernel
theorem dX3_readPart_7 : decode cX3_readPart 7 = .ok (.iconst 1, 1) := by decide +kernel
theorem dX3_readPart_8 : decode cX3_readPart 8 = .ok (.bipush 64, 2) := by decide +kernel
theorem dX3_readPart_10 : decode cX3_readPart 10 = .ok (.invokestatic 52, 3) := by decide +kernel
theorem dX3_readPart_13 : decode cX3_readPart 13 = .ok (.aload_n 3, 1) := by decide +kernel
theorem dX3_readPart_14 : decode cX3_readPart 14 = .ok (.invokestatic 102, 3) := by decide +kernel
theorem dX3_readPart_17 : decode cX3_readPart 17 = .ok (.aload_n 3, 1) := by decide +kernel
theorem dX3_readPart_18 : decode cX3_readPart 18 = .ok (.iload_n 2, 1) := by decide +kernel
theorem dX3_readPart_19 : decode cX3_readPart 19 = .ok (.aload_n 0, 1) := by decide +kernel
theorem dX3_readPart_20 : decode cX3_readPart 20 = .ok (.getfield 22, 3) := by decide +kernel
theorem dX3_readPart_23 : decode cX3_readPart 23 = .ok (.invokevirtual 106, 3) := by decide +kernel
theorem dX3_readPart_26 : decode cX3_readPart 26 = .ok (.ireturn, 1) := by decide +kernel
theorem dX3_partLength_0 : decode cX3_partLength 0 = .ok (.aload_n 0, 1) := by decide +kernel
theorem dX3_partLength_1 : decode cX3_partLength 1 = .ok (.getfield 22, 3) := by decide +kernel
theorem dX3_partLength_4 : decode cX3_partLength 4 = .ok (.invokevirtual 42, 3) := by decide +kernel
theorem dX3_partLength_7 : decode cX3_partLength 7 = .ok (.ireturn, 1) := by decide +kernel
theorem dX3_partAt_0 : decode cX3_partAt 0 = .ok (.aload_n 0, 1) := by decide +kernel
theorem dX3_partAt_1 : decode cX3_partAt 1 = .ok (.getfield 22, 3) := by decide +kernel
theorem dX3_partAt_4 : decode cX3_partAt 4 = .ok (.iload_n 1, 1) := by decide +kernel
theorem dX3_partAt_5 : decode cX3_partAt 5 = .ok (.invokestatic 69, 3) := by decide +kernel
theorem dX3_partAt_8 : decode cX3_partAt 8 = .ok (.aload_n 0, 1) := by decide +kernel
theorem dX3_partAt_9 : decode cX3_partAt 9 = .ok (.getfield 22, 3) := by decide +kernel
theorem dX3_partAt_12 : decode cX3_partAt 12 = .ok (.iload_n 1, 1) := by decide +kernel
theorem dX3_partAt_13 : decode cX3_partAt 13 = .ok (.invokevirtual 73, 3) := by decide +kernel
theorem dX3_partAt_16 : decode cX3_partAt 16 = .ok (.ireturn, 1) := by decide +kernel
theorem dX3_skip_0 : decode cX3_skip 0 = .ok (.aload_n 0, 1) := by decide +kernel
theorem dX3_skip_1 : decode cX3_skip 1 = .ok (.iload_n 1, 1) := by decide +kernel
theorem dX3_skip_2 : decode cX3_skip 2 = .ok (.invokevirtual 80, 3) := by decide +kernel
theorem dX3_skip_5 : decode cX3_skip 5 = .ok (.astore_n 3, 1) := by decide +kernel
theorem dX3_skip_6 : decode cX3_skip 6 = .ok (.iload_n 2, 1) := by decide +kernel
theorem dX3_skip_7 : decode cX3_skip 7 = .ok (.iconst 0, 1) := by decide +kernel
theorem dX3_skip_8 : decode cX3_skip 8 = .ok (.sipush 200, 3) := by decide +kernel
theorem dX3_skip_11 : decode cX3_skip 11 = .ok (.invokestatic 52, 3) := by decide +kernel
theorem dX3_skip_14 : decode cX3_skip 14 = .ok (.aload_n 3, 1) := by decide +kernel
theorem dX3_skip_15 : decode cX3_skip 15 = .ok (.invokestatic 102, 3) := by decide +kernel
theorem dX3_skip_18 : decode cX3_skip 18 = .ok (.aload_n 3, 1) := by decide +kernel
theorem dX3_skip_19 : decode cX3_skip 19 = .ok (.iload_n 2, 1) := by decide +kernel
theorem dX3_skip_20 : decode cX3_skip 20 = .ok (.invokevirtual 110, 3) := by decide +kernel
theorem dX3_skip_23 : decode cX3_skip 23 = .ok (.ireturn, 1) := by decide +kernel
theorem dX3_readLine_0 : decode cX3_readLine 0 = .ok (.aload_n 0, 1) := by decide +kernel
theorem dX3_readLine_1 : decode cX3_readLine 1 = .ok (.iload_n 1, 1) := by decide +kernel
theorem dX3_readLine_2 : decode cX3_readLine 2 = .ok (.invokevirtual 80, 3) := by decide +kernel
theorem dX3_readLine_5 : decode cX3_readLine 5 = .ok (.astore_n 3, 1) := by decide +kernel
theorem dX3_readLine_6 : decode cX3_readLine 6 = .ok (.aload_n 0, 1) := by decide +kernel
theorem dX3_readLine_7 : decode cX3_readLine 7 = .ok (.iload_n 2, 1) := by decide +kernel
theorem dX3_readLine_8 : decode cX3_readLine 8 = .ok (.invokevirtual 34, 3) := by decide +kernel
theorem dX3_readLine_11 : decode cX3_readLine 11 = .ok (.astore 4, 2) := by decide +kernel
theorem dX3_readLine_13 : decode cX3_readLine 13 = .ok (.aload_n 3, 1) := by decide +kernel
theorem dX3_readLine_14 : decode cX3_readLine 14 = .ok (.invokestatic 102, 3) := by decide +kernel
theorem dX3_readLine_17 : decode cX3_readLine 17 = .ok (.aload_n 3, 1) := by decide +kernel
theorem dX3_readLine_18 : decode cX3_readLine 18 = .ok (.invokevirtual 113, 3) := by decide +kernel
theorem dX3_readLine_21 : decode cX3_readLine 21 = .ok (.ifCond .ne 5, 3) := by decide +kernel
theorem dX3_readLine_24 : decode cX3_readLine 24 = .ok (.iconst (-1), 1) := by decide +kernel
theorem dX3_readLine_25 : decode cX3_readLine 25 = .ok (.ireturn, 1) := by decide +kernel
theorem dX3_readLine_26 : decode cX3_readLine 26 = .ok (.aload_n 3, 1) := by decide +kernel
theorem dX3_readLine_27 : decode cX3_readLine 27 = .ok (.invokevirtual 116, 3) := by decide +kernel
theorem dX3_readLine_30 : decode cX3_readLine 30 = .ok (.istore 5, 2) := by decide +kernel
theorem dX3_readLine_32 : decode cX3_readLine 32 = .ok (.iload 5, 2) := by decide +kernel
theorem dX3_readLine_34 : decode cX3_readLine 34 = .ok (.invokestatic 46, 3) := by decide +kernel
theorem dX3_readLine_37 : decode cX3_readLine 37 = .ok (.aload_n 3, 1) := by decide +kernel
theorem dX3_readLine_38 : decode cX3_readLine 38 = .ok (.iload 5, 2) := by decide +kernel
theorem dX3_readLine_40 : decode cX3_readLine 40 = .ok (.aload 4, 2) := by decide +kernel
theorem dX3_readLine_42 : decode cX3_readLine 42 = .ok (.invokevirtual 119, 3) := by decide +kernel
theorem dX3_readLine_45 : decode cX3_readLine 45 = .ok (.aload_n 3, 1) := by decide +kernel
theorem dX3_readLine_46 : decode cX3_readLine 46 = .ok (.invokevirtual 99, 3) := by decide +kernel
theorem dX3_readLine_49 : decode cX3_readLine 49 = .ok (.pop, 1) := by decide +kernel
theorem dX3_readLine_50 : decode cX3_readLine 50 = .ok (.iload 5, 2) := by decide +kernel
theorem dX3_readLine_52 : decode cX3_readLine 52 = .ok (.ireturn, 1) := by decide +kernel
theorem dX3_pour_0 : decode cX3_pour 0 = .ok (.aload_n 0, 1) := by decide +kernel
theorem dX3_pour_1 : decode cX3_pour 1 = .ok (.iload_n 1, 1) := by decide +kernel
theorem dX3_pour_2 : decode cX3_pour 2 = .ok (.invokevirtual 80, 3) := by decide +kernel
theorem dX3_pour_5 : decode cX3_pour 5 = .ok (.astore_n 3, 1) := by decide +kernel
theorem dX3_pour_6 : decode cX3_pour 6 = .ok (.aload_n 0, 1) := by decide +kernel
theorem dX3_pour_7 : decode cX3_pour 7 = .ok (.iload_n 2, 1) := by decide +kernel
theorem dX3_pour_8 : decode cX3_pour 8 = .ok (.invokevirtual 34, 3) := by decide +kernel
theorem dX3_pour_11 : decode cX3_pour 11 = .ok (.astore 4, 2) := by decide +kernel
theorem dX3_pour_13 : decode cX3_pour 13 = .ok (.aload_n 3, 1) := by decide +kernel
theorem dX3_pour_14 : decode cX3_pour 14 = .ok (.invokestatic 102, 3) := by decide +kernel
theorem dX3_pour_17 : decode cX3_pour 17 = .ok (.aload_n 3, 1) := by decide +kernel
theorem dX3_pour_18 : decode cX3_pour 18 = .ok (.invokevirtual 113, 3) := by decide +kernel
theorem dX3_pour_21 : decode cX3_pour 21 = .ok (.istore 5, 2) := by decide +kernel
theorem dX3_pour_23 : decode cX3_pour 23 = .ok (.iload 5, 2) := by decide +kernel
theorem dX3_pour_25 : decode cX3_pour 25 = .ok (.invokestatic 46, 3) := by decide +kernel
theorem dX3_pour_28 : decode cX3_pour 28 = .ok (.aload_n 3, 1) := by decide +kernel
theorem dX3_pour_29 : decode cX3_pour 29 = .ok (.iload 5, 2) := by decide +kernel
theorem dX3_pour_31 : decode cX3_pour 31 = .ok (.aload 4, 2) := by decide +kernel
theorem dX3_pour_33 : decode cX3_pour 33 = .ok (.invokevirtual 119, 3) := by decide +kernel
theorem dX3_pour_36 : decode cX3_pour 36 = .ok (.iload 5, 2) := by decide +kernel
theorem dX3_pour_38 : decode cX3_pour 38 = .ok (.ireturn, 1) := by decide +kernel
theorem dX3_alike_0 : decode cX3_alike 0 = .ok (.aload_n 0, 1) := by decide +kernel
theorem dX3_alike_1 : decode cX3_alike 1 = .ok (.iload_n 1, 1) := by decide +kernel
theorem dX3_alike_2 : decode cX3_alike 2 = .ok (.invokevirtual 80, 3) := by decide +kernel
theorem dX3_alike_5 : decode cX3_alike 5 = .ok (.astore_n 3, 1) := by decide +kernel
theorem dX3_alike_6 : decode cX3_alike 6 = .ok (.aload_n 0, 1) := by decide +kernel
theorem dX3_alike_7 : decode cX3_alike 7 = .ok (.iload_n 2, 1) := by decide +kernel
theorem dX3_alike_8 : decode cX3_alike 8 = .ok (.invokevirtual 80, 3) := by decide +kernel
theorem dX3_alike_11 : decode cX3_alike 11 = .ok (.astore 4, 2) := by decide +kernel
theorem dX3_alike_13 : decode cX3_alike 13 = .ok (.iload_n 1, 1) := by decide +kernel
theorem dX3_alike_14 : decode cX3_alike 14 = .ok (.iload_n 2, 1) := by decide +kernel
theorem dX3_alike_15 : decode cX3_alike 15 = .ok (.if_icmp .ne 13, 3) := by decide +kernel
theorem dX3_alike_18 : decode cX3_alike 18 = .ok (.new 123, 3) := by decide +kernel
theorem dX3_alike_21 : decode cX3_alike 21 = .ok (.dup, 1) := by decide +kernel
theorem dX3_alike_22 : decode cX3_alike 22 = .ok (.ldc 125, 2) := by decide +kernel
theorem dX3_alike_24 : decode cX3_alike 24 = .ok (.invokespecial 127, 3) := by decide +kernel
theorem dX3_alike_27 : decode cX3_alike 27 = .ok (.athrow, 1) := by decide +kernel
theorem dX3_alike_28 : decode cX3_alike 28 = .ok (.aload_n 3, 1) := by decide +kernel
theorem dX3_alike_29 : decode cX3_alike 29 = .ok (.invokestatic 102, 3) := by decide +kernel
theorem dX3_alike_32 : decode cX3_alike 32 = .ok (.aload 4, 2) := by decide +kernel
theorem dX3_alike_34 : decode cX3_alike 34 = .ok (.invokestatic 102, 3) := by decide +kernel
theorem dX3_alike_37 : decode cX3_alike 37 = .ok (.aload_n 3, 1) := by decide +kernel
theorem dX3_alike_38 : decode cX3_alike 38 = .ok (.aload 4, 2) := by decide +kernel
theorem dX3_alike_40 : decode cX3_alike 40 = .ok (.invokestatic 128, 3) := by decide +kernel
theorem dX3_alike_43 : decode cX3_alike 43 = .ok (.ireturn, 1) := by decide +kernel
theorem dX3_canMark_0 : decode cX3_canMark 0 = .ok (.aload_n 0, 1) := by decide +kernel
theorem dX3_canMark_1 : decode cX3_canMark 1 = .ok (.iload_n 1, 1) := by decide +kernel
theorem dX3_canMark_2 : decode cX3_canMark 2 = .ok (.invokevirtual 96, 3) := by decide +kernel
theorem dX3_canMark_5 : decode cX3_canMark 5 = .ok (.getfield 92, 3) := by decide +kernel
theorem dX3_canMark_8 : decode cX3_canMark 8 = .ok (.invokestatic 132, 3) := by decide +kernel
theorem dX3_canMark_11 : decode cX3_canMark 11 = .ok (.ireturn, 1) := by decide +kernel
theorem dX3_mark_0 : decode cX3_mark 0 = .ok (.aload_n 0, 1) := by decide +kernel
theorem dX3_mark_1 : decode cX3_mark 1 = .ok (.iload_n 1, 1) := by decide +kernel
theorem dX3_mark_2 : decode cX3_mark 2 = .ok (.invokevirtual 96, 3) := by decide +kernel
theorem dX3_mark_5 : decode cX3_mark 5 = .ok (.astore_n 2, 1) := by decide +kernel
theorem dX3_mark_6 : decode cX3_mark 6 = .ok (.aload_n 2, 1) := by decide +kernel
theorem dX3_mark_7 : decode cX3_mark 7 = .ok (.getfield 92, 3) := by decide +kernel
theorem dX3_mark_10 : decode cX3_mark 10 = .ok (.invokestatic 132, 3) := by decide +kernel
theorem dX3_mark_13 : decode cX3_mark 13 = .ok (.invokestatic 135, 3) := by decide +kernel
theorem dX3_mark_16 : decode cX3_mark 16 = .ok (.aload_n 2, 1) := by decide +kernel
theorem dX3_mark_17 : decode cX3_mark 17 = .ok (.invokevirtual 139, 3) := by decide +kernel
theorem dX3_mark_20 : decode cX3_mark 20 = .ok (.aload_n 2, 1) := by decide +kernel
theorem dX3_mark_21 : decode cX3_mark 21 = .ok (.invokevirtual 142, 3) := by decide +kernel
theorem dX3_mark_24 : decode cX3_mark 24 = .ok (.ireturn, 1) := by decide +kernel
theorem dX3_back_0 : decode cX3_back 0 = .ok (.aload_n 0, 1) := by decide +kernel
theorem dX3_back_1 : decode cX3_back 1 = .ok (.iload_n 1, 1) := by decide +kernel
theorem dX3_back_2 : decode cX3_back 2 = .ok (.invokevirtual 96, 3) := by decide +kernel
theorem dX3_back_5 : decode cX3_back 5 = .ok (.astore_n 2, 1) := by decide +kernel
theorem dX3_back_6 : decode cX3_back 6 = .ok (.aload_n 2, 1) := by decide +kernel
theorem dX3_back_7 : decode cX3_back 7 = .ok (.getfield 145, 3) := by decide +kernel
theorem dX3_back_10 : decode cX3_back 10 = .ok (.iconst (-1), 1) := by decide +kernel
theorem dX3_back_11 : decode cX3_back 11 = .ok (.if_icmp .eq 7, 3) := by decide +kernel
theorem dX3_back_14 : decode cX3_back 14 = .ok (.iconst 1, 1) := by decide +kernel
theorem dX3_back_15 : decode cX3_back 15 = .ok (.goto 4, 3) := by decide +kernel
theorem dX3_back_18 : decode cX3_back 18 = .ok (.iconst 0, 1) := by decide +kernel
theorem dX3_back_19 : decode cX3_back 19 = .ok (.invokestatic 135, 3) := by decide +kernel
theorem dX3_back_22 : decode cX3_back 22 = .ok (.aload_n 2, 1) := by decide +kernel
theorem dX3_back_23 : decode cX3_back 23 = .ok (.invokevirtual 148, 3) := by decide +kernel
theorem dX3_back_26 : decode cX3_back 26 = .ok (.aload_n 2, 1) := by decide +kernel
theorem dX3_back_27 : decode cX3_back 27 = .ok (.invokevirtual 142, 3) := by decide +kernel
theorem dX3_back_30 : decode cX3_back 30 = .ok (.ireturn, 1) := by decide +kernel
theorem dX3_left_0 : decode cX3_left 0 = .ok (.aload_n 0, 1) := by decide +kernel
theorem dX3_left_1 : decode cX3_left 1 = .ok (.iload_n 1, 1) := by decide +kernel
theorem dX3_left_2 : decode cX3_left 2 = .ok (.invokevirtual 96, 3) := by decide +kernel
theorem dX3_left_5 : decode cX3_left 5 = .ok (.astore_n 2, 1) := by decide +kernel
theorem dX3_left_6 : decode cX3_left 6 = .ok (.aload_n 2, 1) := by decide +kernel
theorem dX3_left_7 : decode cX3_left 7 = .ok (.getfield 92, 3) := by decide +kernel
theorem dX3_left_10 : decode cX3_left 10 = .ok (.invokestatic 151, 3) := by decide +kernel
theorem dX3_left_13 : decode cX3_left 13 = .ok (.invokestatic 135, 3) := by decide +kernel
theorem dX3_left_16 : decode cX3_left 16 = .ok (.aload_n 2, 1) := by decide +kernel
theorem dX3_left_17 : decode cX3_left 17 = .ok (.invokevirtual 113, 3) := by decide +kernel
theorem dX3_left_20 : decode cX3_left 20 = .ok (.ireturn, 1) := by decide +kernel
theorem dX3_line_0 : decode cX3_line 0 = .ok (.aload_n 0, 1) := by decide +kernel
theorem dX3_line_1 : decode cX3_line 1 = .ok (.iload_n 1, 1) := by decide +kernel
theorem dX3_line_2 : decode cX3_line 2 = .ok (.invokevirtual 96, 3) := by decide +kernel
theorem dX3_line_5 : decode cX3_line 5 = .ok (.astore_n 2, 1) := by decide +kernel
theorem dX3_line_6 : decode cX3_line 6 = .ok (.aload_n 2, 1) := by decide +kernel
theorem dX3_line_7 : decode cX3_line 7 = .ok (.getfield 92, 3) := by decide +kernel
theorem dX3_line_10 : decode cX3_line 10 = .ok (.invokestatic 154, 3) := by decide +kernel
theorem dX3_line_13 : decode cX3_line 13 = .ok (.invokestatic 135, 3) := by decide +kernel
theorem dX3_line_16 : decode cX3_line 16 = .ok (.aload_n 2, 1) := by decide +kernel
theorem dX3_line_17 : decode cX3_line 17 = .ok (.getfield 157, 3) := by decide +kernel
theorem dX3_line_20 : decode cX3_line 20 = .ok (.ireturn, 1) := by decide +kernel
theorem dX3_setLine_0 : decode cX3_setLine 0 = .ok (.aload_n 0, 1) := by decide +kernel
theorem dX3_setLine_1 : decode cX3_setLine 1 = .ok (.iload_n 1, 1) := by decide +kernel
theorem dX3_setLine_2 : decode cX3_setLine 2 = .ok (.invokevirtual 96, 3) := by decide +kernel
theorem dX3_setLine_5 : decode cX3_setLine 5 = .ok (.astore_n 3, 1) := by decide +kernel
theorem dX3_setLine_6 : decode cX3_setLine 6 = .ok (.aload_n 3, 1) := by decide +kernel
theorem dX3_setLine_7 : decode cX3_setLine 7 = .ok (.getfield 92, 3) := by decide +kernel
theorem dX3_setLine_10 : decode cX3_setLine 10 = .ok (.invokestatic 154, 3) := by decide +kernel
theorem dX3_setLine_13 : decode cX3_setLine 13 = .ok (.invokestatic 135, 3) := by decide +kernel
theorem dX3_setLine_16 : decode cX3_setLine 16 = .ok (.aload_n 3, 1) := by decide +kernel
theorem dX3_setLine_17 : decode cX3_setLine 17 = .ok (.getfield 157, 3) := by decide +kernel
theorem dX3_setLine_20 : decode cX3_setLine 20 = .ok (.istore 4, 2) := by decide +kernel
theorem dX3_setLine_22 : decode cX3_setLine 22 = .ok (.aload_n 3, 1) := by decide +kernel
theorem dX3_setLine_23 : decode cX3_setLine 23 = .ok (.iload_n 2, 1) := by decide +kernel
theorem dX3_setLine_24 : decode cX3_setLine 24 = .ok (.putfield 157, 3) := by decide +kernel
theorem dX3_setLine_27 : decode cX3_setLine 27 = .ok (.iload 4, 2) := by decide +kernel
theorem dX3_setLine_29 : decode cX3_setLine 29 = .ok (.ireturn, 1) := by decide +kernel
theorem dX3_check_0 : decode cX3_check 0 = .ok (.aload_n 0, 1) := by decide +kernel
theorem dX3_check_1 : decode cX3_check 1 = .ok (.iload_n 1, 1) := by decide +kernel
theorem dX3_check_2 : decode cX3_check 2 = .ok (.invokevirtual 96, 3) := by decide +kernel
theorem dX3_check_5 : decode cX3_check 5 = .ok (.astore_n 2, 1) := by decide +kernel
theorem dX3_check_6 : decode cX3_check 6 = .ok (.aload_n 2, 1) := by decide +kernel
theorem dX3_check_7 : decode cX3_check 7 = .ok (.getfield 92, 3) := by decide +kernel
theorem dX3_check_10 : decode cX3_check 10 = .ok (.invokestatic 160, 3) := by decide +kernel
theorem dX3_check_13 : decode cX3_check 13 = .ok (.invokestatic 135, 3) := by decide +kernel
theorem dX3_check_16 : decode cX3_check 16 = .ok (.aload_n 2, 1) := by decide +kernel
theorem dX3_check_17 : decode cX3_check 17 = .ok (.invokevirtual 163, 3) := by decide +kernel
theorem dX3_check_20 : decode cX3_check 20 = .ok (.lreturn, 1) := by decide +kernel
theorem dX3_checkAnew_0 : decode cX3_checkAnew 0 = .ok (.aload_n 0, 1) := by decide +kernel
theorem dX3_checkAnew_1 : decode cX3_checkAnew 1 = .ok (.iload_n 1, 1) := by decide +kernel
theorem dX3_checkAnew_2 : decode cX3_checkAnew 2 = .ok (.invokevirtual 96, 3) := by decide +kernel
theorem dX3_checkAnew_5 : decode cX3_checkAnew 5 = .ok (.astore_n 2, 1) := by decide +kernel
theorem dX3_checkAnew_6 : decode cX3_checkAnew 6 = .ok (.aload_n 2, 1) := by decide +kernel
theorem dX3_checkAnew_7 : decode cX3_checkAnew 7 = .ok (.getfield 92, 3) := by decide +kernel
theorem dX3_checkAnew_10 : decode cX3_checkAnew 10 = .ok (.invokestatic 160, 3) := by decide +kernel
theorem dX3_checkAnew_13 : decode cX3_checkAnew 13 = .ok (.invokestatic 135, 3) := by decide +kernel
theorem dX3_checkAnew_16 : decode cX3_checkAnew 16 = .ok (.aload_n 2, 1) := by decide +kernel
theorem dX3_checkAnew_17 : decode cX3_checkAnew 17 = .ok (.invokevirtual 163, 3) := by decide +kernel
theorem dX3_checkAnew_20 : decode cX3_checkAnew 20 = .ok (.lstore_n 3, 1) := by decide +kernel
theorem dX3_checkAnew_21 : decode cX3_checkAnew 21 = .ok (.aload_n 2, 1) := by decide +kernel
theorem dX3_checkAnew_22 : decode cX3_checkAnew 22 = .ok (.ldc2_w 167, 3) := by decide +kernel
theorem dX3_checkAnew_25 : decode cX3_checkAnew 25 = .ok (.putfield 169, 3) := by decide +kernel
theorem dX3_checkAnew_28 : decode cX3_checkAnew 28 = .ok (.lload_n 3, 1) := by decide +kernel
theorem dX3_checkAnew_29 : decode cX3_checkAnew 29 = .ok (.lreturn, 1) := by decide +kernel
theorem dX3_checkOf_0 : decode cX3_checkOf 0 = .ok (.aload_n 0, 1) := by decide +kernel
theorem dX3_checkOf_1 : decode cX3_checkOf 1 = .ok (.iload_n 1, 1) := by decide +kernel
theorem dX3_checkOf_2 : decode cX3_checkOf 2 = .ok (.invokevirtual 34, 3) := by decide +kernel
theorem dX3_checkOf_5 : decode cX3_checkOf 5 = .ok (.astore_n 2, 1) := by decide +kernel
theorem dX3_checkOf_6 : decode cX3_checkOf 6 = .ok (.ldc2_w 167, 3) := by decide +kernel
theorem dX3_checkOf_9 : decode cX3_checkOf 9 = .ok (.lstore_n 3, 1) := by decide +kernel
theorem dX3_checkOf_10 : decode cX3_checkOf 10 = .ok (.iconst 0, 1) := by decide +kernel
theorem dX3_checkOf_11 : decode cX3_checkOf 11 = .ok (.istore 5, 2) := by decide +kernel
theorem dX3_checkOf_13 : decode cX3_checkOf 13 = .ok (.iload 5, 2) := by decide +kernel
theorem dX3_checkOf_15 : decode cX3_checkOf 15 = .ok (.aload_n 2, 1) := by decide +kernel
theorem dX3_checkOf_16 : decode cX3_checkOf 16 = .ok (.invokevirtual 42, 3) := by decide +kernel
theorem dX3_checkOf_19 : decode cX3_checkOf 19 = .ok (.if_icmp .ge 20, 3) := by decide +kernel
theorem dX3_checkOf_22 : decode cX3_checkOf 22 = .ok (.lload_n 3, 1) := by decide +kernel
theorem dX3_checkOf_23 : decode cX3_checkOf 23 = .ok (.aload_n 2, 1) := by decide +kernel
theorem dX3_checkOf_24 : decode cX3_checkOf 24 = .ok (.iload 5, 2) := by decide +kernel
theorem dX3_checkOf_26 : decode cX3_checkOf 26 = .ok (.invokevirtual 73, 3) := by decide +kernel
theorem dX3_checkOf_29 : decode cX3_checkOf 29 = .ok (.invokestatic 173, 3) := by decide +kernel
theorem dX3_checkOf_32 : decode cX3_checkOf 32 = .ok (.lstore_n 3, 1) := by decide +kernel
theorem dX3_checkOf_33 : decode cX3_checkOf 33 = .ok (.iinc 5 1, 3) := by decide +kernel
theorem dX3_checkOf_36 : decode cX3_checkOf 36 = .ok (.goto (-23), 3) := by decide +kernel
theorem dX3_checkOf_39 : decode cX3_checkOf 39 = .ok (.ldc2_w 167, 3) := by decide +kernel
theorem dX3_checkOf_42 : decode cX3_checkOf 42 = .ok (.lload_n 3, 1) := by decide +kernel
theorem dX3_checkOf_43 : decode cX3_checkOf 43 = .ok (.lsub, 1) := by decide +kernel
theorem dX3_checkOf_44 : decode cX3_checkOf 44 = .ok (.lreturn, 1) := by decide +kernel
theorem dX3_share_0 : decode cX3_share 0 = .ok (.aload_n 0, 1) := by decide +kernel
theorem dX3_share_1 : decode cX3_share 1 = .ok (.iload_n 1, 1) := by decide +kernel
theorem dX3_share_2 : decode cX3_share 2 = .ok (.invokevirtual 34, 3) := by decide +kernel
theorem dX3_share_5 : decode cX3_share 5 = .ok (.astore_n 2, 1) := by decide +kernel
theorem dX3_share_6 : decode cX3_share 6 = .ok (.aload_n 2, 1) := by decide +kernel
theorem dX3_share_7 : decode cX3_share 7 = .ok (.invokevirtual 42, 3) := by decide +kernel
theorem dX3_share_10 : decode cX3_share 10 = .ok (.ifCond .ne 13, 3) := by decide +kernel
theorem dX3_share_13 : decode cX3_share 13 = .ok (.new 177, 3) := by decide +kernel
theorem dX3_share_16 : decode cX3_share 16 = .ok (.dup, 1) := by decide +kernel
theorem dX3_share_17 : decode cX3_share 17 = .ok (.ldc 58, 2) := by decide +kernel
theorem dX3_share_19 : decode cX3_share 19 = .ok (.invokespecial 179, 3) := by decide +kernel
theorem dX3_share_22 : decode cX3_share 22 = .ok (.athrow, 1) := by decide +kernel
theorem dX3_share_23 : decode cX3_share 23 = .ok (.aload_n 2, 1) := by decide +kernel
theorem dX3_share_24 : decode cX3_share 24 = .ok (.invokevirtual 77, 3) := by decide +kernel
theorem dX3_share_27 : decode cX3_share 27 = .ok (.i2f, 1) := by decide +kernel
theorem dX3_share_28 : decode cX3_share 28 = .ok (.aload_n 2, 1) := by decide +kernel
theorem dX3_share_29 : decode cX3_share 29 = .ok (.invokevirtual 42, 3) := by decide +kernel
theorem dX3_share_32 : decode cX3_share 32 = .ok (.i2f, 1) := by decide +kernel
theorem dX3_share_33 : decode cX3_share 33 = .ok (.fdiv, 1) := by decide +kernel
theorem dX3_share_34 : decode cX3_share 34 = .ok (.freturn, 1) := by decide +kernel
theorem dX3_meanLine_0 : decode cX3_meanLine 0 = .ok (.lconst 0, 1) := by decide +kernel
theorem dX3_meanLine_1 : decode cX3_meanLine 1 = .ok (.lstore_n 1, 1) := by decide +kernel
theorem dX3_meanLine_2 : decode cX3_meanLine 2 = .ok (.iconst 0, 1) := by decide +kernel
theorem dX3_meanLine_3 : decode cX3_meanLine 3 = .ok (.istore_n 3, 1) := by decide +kernel
theorem dX3_meanLine_4 : decode cX3_meanLine 4 = .ok (.iconst 0, 1) := by decide +kernel
theorem dX3_meanLine_5 : decode cX3_meanLine 5 = .ok (.istore 4, 2) := by decide +kernel
theorem dX3_meanLine_7 : decode cX3_meanLine 7 = .ok (.iload 4, 2) := by decide +kernel
theorem dX3_meanLine_9 : decode cX3_meanLine 9 = .ok (.iconst 4, 1) := by decide +kernel
theorem dX3_meanLine_10 : decode cX3_meanLine 10 = .ok (.if_icmp .ge 42, 3) := by decide +kernel
theorem dX3_meanLine_13 : decode cX3_meanLine 13 = .ok (.aload_n 0, 1) := by decide +kernel
theorem dX3_meanLine_14 : decode cX3_meanLine 14 = .ok (.getfield 17, 3) := by decide +kernel
theorem dX3_meanLine_17 : decode cX3_meanLine 17 = .ok (.iload 4, 2) := by decide +kernel
theorem dX3_meanLine_19 : decode cX3_meanLine 19 = .ok (.aaload, 1) := by decide +kernel
theorem dX3_meanLine_20 : decode cX3_meanLine 20 = .ok (.getfield 92, 3) := by decide +kernel
theorem dX3_meanLine_23 : decode cX3_meanLine 23 = .ok (.invokestatic 154, 3) := by decide +kernel
theorem dX3_meanLine_26 : decode cX3_meanLine 26 = .ok (.ifCond .eq 20, 3) := by decide +kernel
theorem dX3_meanLine_29 : decode cX3_meanLine 29 = .ok (.lload_n 1, 1) := by decide +kernel
theorem dX3_meanLine_30 : decode cX3_meanLine 30 = .ok (.aload_n 0, 1) := by decide +kernel
theorem dX3_meanLine_31 : decode cX3_meanLine 31 = .ok (.getfield 17, 3) := by decide +kernel
theorem dX3_meanLine_34 : decode cX3_meanLine 34 = .ok (.iload 4, 2) := by decide +kernel
theorem dX3_meanLine_36 : decode cX3_meanLine 36 = .ok (.aaload, 1) := by decide +kernel
theorem dX3_meanLine_37 : decode cX3_meanLine 37 = .ok (.getfield 157, 3) := by decide +kernel
theorem dX3_meanLine_40 : decode cX3_meanLine 40 = .ok (.i2l, 1) := by decide +kernel
theorem dX3_meanLine_41 : decode cX3_meanLine 41 = .ok (.ladd, 1) := by decide +kernel
theorem dX3_meanLine_42 : decode cX3_meanLine 42 = .ok (.lstore_n 1, 1) := by decide +kernel
theorem dX3_meanLine_43 : decode cX3_meanLine 43 = .ok (.iinc 3 1, 3) := by decide +kernel
theorem dX3_meanLine_46 : decode cX3_meanLine 46 = .ok (.iinc 4 1, 3) := by decide +kernel
theorem dX3_meanLine_49 : decode cX3_meanLine 49 = .ok (.goto (-42), 3) := by decide +kernel
theorem dX3_meanLine_52 : decode cX3_meanLine 52 = .ok (.iload_n 3, 1) := by decide +kernel
theorem dX3_meanLine_53 : decode cX3_meanLine 53 = .ok (.ifCond .ne 13, 3) := by decide +kernel
theorem dX3_meanLine_56 : decode cX3_meanLine 56 = .ok (.new 177, 3) := by decide +kernel
theorem dX3_meanLine_59 : decode cX3_meanLine 59 = .ok (.dup, 1) := by decide +kernel
theorem dX3_meanLine_60 : decode cX3_meanLine 60 = .ok (.ldc 180, 2) := by decide +kernel
theorem dX3_meanLine_62 : decode cX3_meanLine 62 = .ok (.invokespecial 179, 3) := by decide +kernel
theorem dX3_meanLine_65 : decode cX3_meanLine 65 = .ok (.athrow, 1) := by decide +kernel
theorem dX3_meanLine_66 : decode cX3_meanLine 66 = .ok (.lload_n 1, 1) := by decide +kernel
theorem dX3_meanLine_67 : decode cX3_meanLine 67 = .ok (.l2d, 1) := by decide +kernel
theorem dX3_meanLine_68 : decode cX3_meanLine 68 = .ok (.iload_n 3, 1) := by decide +kernel
theorem dX3_meanLine_69 : decode cX3_meanLine 69 = .ok (.i2d, 1) := by decide +kernel
theorem dX3_meanLine_70 : decode cX3_meanLine 70 = .ok (.ddiv, 1) := by decide +kernel
theorem dX3_meanLine_71 : decode cX3_meanLine 71 = .ok (.dreturn, 1) := by decide +kernel
theorem dX3_checksum_0 : decode cX3_checksum 0 = .ok (.ldc2_w 182, 3) := by decide +kernel
theorem dX3_checksum_3 : decode cX3_checksum 3 = .ok (.lstore_n 1, 1) := by decide +kernel
theorem dX3_checksum_4 : decode cX3_checksum 4 = .ok (.iconst 0, 1) := by decide +kernel
theorem dX3_checksum_5 : decode cX3_checksum 5 = .ok (.istore_n 3, 1) := by decide +kernel
theorem dX3_checksum_6 : decode cX3_checksum 6 = .ok (.iload_n 3, 1) := by decide +kernel
theorem dX3_checksum_7 : decode cX3_checksum 7 = .ok (.iconst 4, 1) := by decide +kernel
theorem dX3_checksum_8 : decode cX3_checksum 8 = .ok (.if_icmp .ge 20, 3) := by decide +kernel
theorem dX3_checksum_11 : decode cX3_checksum 11 = .ok (.lload_n 1, 1) := by decide +kernel
theorem dX3_checksum_12 : decode cX3_checksum 12 = .ok (.aload_n 0, 1) := by decide +kernel
theorem dX3_checksum_13 : decode cX3_checksum 13 = .ok (.getfield 11, 3) := by decide +kernel
theorem dX3_checksum_16 : decode cX3_checksum 16 = .ok (.iload_n 3, 1) := by decide +kernel
theorem dX3_checksum_17 : decode cX3_checksum 17 = .ok (.aaload, 1) := by decide +kernel
theorem dX3_checksum_18 : decode cX3_checksum 18 = .ok (.invokestatic 184, 3) := by decide +kernel
theorem dX3_checksum_21 : decode cX3_checksum 21 = .ok (.lstore_n 1, 1) := by decide +kernel
theorem dX3_checksum_22 : decode cX3_checksum 22 = .ok (.iinc 3 1, 3) := by decide +kernel
theorem dX3_checksum_25 : decode cX3_checksum 25 = .ok (.goto (-19), 3) := by decide +kernel
theorem dX3_checksum_28 : decode cX3_checksum 28 = .ok (.lload_n 1, 1) := by decide +kernel
theorem dX3_checksum_29 : decode cX3_checksum 29 = .ok (.aload_n 0, 1) := by decide +kernel
theorem dX3_checksum_30 : decode cX3_checksum 30 = .ok (.getfield 22, 3) := by decide +kernel
theorem dX3_checksum_33 : decode cX3_checksum 33 = .ok (.invokestatic 184, 3) := by decide +kernel
theorem dX3_checksum_36 : decode cX3_checksum 36 = .ok (.lstore_n 1, 1) := by decide +kernel
theorem dX3_checksum_37 : decode cX3_checksum 37 = .ok (.iconst 0, 1) := by decide +kernel
theorem dX3_checksum_38 : decode cX3_checksum 38 = .ok (.istore_n 3, 1) := by decide +kernel
theorem dX3_checksum_39 : decode cX3_checksum 39 = .ok (.iload_n 3, 1) := by decide +kernel
theorem dX3_checksum_40 : decode cX3_checksum 40 = .ok (.iconst 4, 1) := by decide +kernel
theorem dX3_checksum_41 : decode cX3_checksum 41 = .ok (.if_icmp .ge 20, 3) := by decide +kernel
theorem dX3_checksum_44 : decode cX3_checksum 44 = .ok (.lload_n 1, 1) := by decide +kernel
theorem dX3_checksum_45 : decode cX3_checksum 45 = .ok (.aload_n 0, 1) := by decide +kernel
theorem dX3_checksum_46 : decode cX3_checksum 46 = .ok (.getfield 17, 3) := by decide +kernel
theorem dX3_checksum_49 : decode cX3_checksum 49 = .ok (.iload_n 3, 1) := by decide +kernel
theorem dX3_checksum_50 : decode cX3_checksum 50 = .ok (.aaload, 1) := by decide +kernel
theorem dX3_checksum_51 : decode cX3_checksum 51 = .ok (.invokestatic 188, 3) := by decide +kernel
theorem dX3_checksum_54 : decode cX3_checksum 54 = .ok (.lstore_n 1, 1) := by decide +kernel
theorem dX3_checksum_55 : decode cX3_checksum 55 = .ok (.iinc 3 1, 3) := by decide +kernel
theorem dX3_checksum_58 : decode cX3_checksum 58 = .ok (.goto (-19), 3) := by decide +kernel
theorem dX3_checksum_61 : decode cX3_checksum 61 = .ok (.lload_n 1, 1) := by decide +kernel
theorem dX3_checksum_62 : decode cX3_checksum 62 = .ok (.lreturn, 1) := by decide +kernel
theorem dX3_isTrue_0 : decode cX3_isTrue 0 = .ok (.aload_n 0, 1) := by decide +kernel
theorem dX3_isTrue_1 : decode cX3_isTrue 1 = .ok (.invokevirtual 192, 3) := by decide +kernel
theorem dX3_isTrue_4 : decode cX3_isTrue 4 = .ok (.istore_n 1, 1) := by decide +kernel
theorem dX3_isTrue_5 : decode cX3_isTrue 5 = .ok (.iload_n 1, 1) := by decide +kernel
theorem dX3_isTrue_6 : decode cX3_isTrue 6 = .ok (.iconst 1, 1) := by decide +kernel
theorem dX3_isTrue_7 : decode cX3_isTrue 7 = .ok (.iadd, 1) := by decide +kernel
theorem dX3_isTrue_8 : decode cX3_isTrue 8 = .ok (.iconst 4, 1) := by decide +kernel
theorem dX3_isTrue_9 : decode cX3_isTrue 9 = .ok (.if_icmp .ge 9, 3) := by decide +kernel
theorem dX3_isTrue_12 : decode cX3_isTrue 12 = .ok (.iload_n 1, 1) := by decide +kernel
theorem dX3_isTrue_13 : decode cX3_isTrue 13 = .ok (.iconst 1, 1) := by decide +kernel
theorem dX3_isTrue_14 : decode cX3_isTrue 14 = .ok (.iadd, 1) := by decide +kernel
theorem dX3_isTrue_15 : decode cX3_isTrue 15 = .ok (.goto 4, 3) := by decide +kernel
theorem dX3_isTrue_18 : decode cX3_isTrue 18 = .ok (.iconst 0, 1) := by decide +kernel
theorem dX3_isTrue_19 : decode cX3_isTrue 19 = .ok (.istore_n 2, 1) := by decide +kernel
theorem dX3_isTrue_20 : decode cX3_isTrue 20 = .ok (.iconst 0, 1) := by decide +kernel
theorem dX3_isTrue_21 : decode cX3_isTrue 21 = .ok (.istore_n 3, 1) := by decide +kernel
theorem dX3_isTrue_22 : decode cX3_isTrue 22 = .ok (.iload_n 3, 1) := by decide +kernel
theorem dX3_isTrue_23 : decode cX3_isTrue 23 = .ok (.bipush 8, 2) := by decide +kernel
theorem dX3_isTrue_25 : decode cX3_isTrue 25 = .ok (.if_icmp .ge 34, 3) := by decide +kernel
theorem dX3_isTrue_28 : decode cX3_isTrue 28 = .ok (.aload_n 0, 1) := by decide +kernel
theorem dX3_isTrue_29 : decode cX3_isTrue 29 = .ok (.getfield 29, 3) := by decide +kernel
theorem dX3_isTrue_32 : decode cX3_isTrue 32 = .ok (.iload_n 3, 1) := by decide +kernel
theorem dX3_isTrue_33 : decode cX3_isTrue 33 = .ok (.aload_n 0, 1) := by decide +kernel
theorem dX3_isTrue_34 : decode cX3_isTrue 34 = .ok (.getfield 11, 3) := by decide +kernel
theorem dX3_isTrue_37 : decode cX3_isTrue 37 = .ok (.iload_n 1, 1) := by decide +kernel
theorem dX3_isTrue_38 : decode cX3_isTrue 38 = .ok (.aaload, 1) := by decide +kernel
theorem dX3_isTrue_39 : decode cX3_isTrue 39 = .ok (.aload_n 0, 1) := by decide +kernel
theorem dX3_isTrue_40 : decode cX3_isTrue 40 = .ok (.getfield 11, 3) := by decide +kernel
theorem dX3_isTrue_43 : decode cX3_isTrue 43 = .ok (.iload_n 2, 1) := by decide +kernel
theorem dX3_isTrue_44 : decode cX3_isTrue 44 = .ok (.aaload, 1) := by decide +kernel
theorem dX3_isTrue_45 : decode cX3_isTrue 45 = .ok (.invokevirtual 195, 3) := by decide +kernel
theorem dX3_isTrue_48 : decode cX3_isTrue 48 = .ok (.ifCond .ne 5, 3) := by decide +kernel
theorem dX3_isTrue_51 : decode cX3_isTrue 51 = .ok (.iconst 0, 1) := by decide +kernel
theorem dX3_isTrue_52 : decode cX3_isTrue 52 = .ok (.ireturn, 1) := by decide +kernel
theorem dX3_isTrue_53 : decode cX3_isTrue 53 = .ok (.iinc 3 1, 3) := by decide +kernel
theorem dX3_isTrue_56 : decode cX3_isTrue 56 = .ok (.goto (-34), 3) := by decide +kernel
theorem dX3_isTrue_59 : decode cX3_isTrue 59 = .ok (.iconst 1, 1) := by decide +kernel
theorem dX3_isTrue_60 : decode cX3_isTrue 60 = .ok (.ireturn, 1) := by decide +kernel
theorem dX3_sourceAt_0 : decode cX3_sourceAt 0 = .ok (.iload_n 1, 1) := by decide +kernel
theorem dX3_sourceAt_1 : decode cX3_sourceAt 1 = .ok (.ifCond .lt 8, 3) := by decide +kernel
theorem dX3_sourceAt_4 : decode cX3_sourceAt 4 = .ok (.iload_n 1, 1) := by decide +kernel
theorem dX3_sourceAt_5 : decode cX3_sourceAt 5 = .ok (.iconst 4, 1) := by decide +kernel
theorem dX3_sourceAt_6 : decode cX3_sourceAt 6 = .ok (.if_icmp .lt 13, 3) := by decide +kernel
theorem dX3_sourceAt_9 : decode cX3_sourceAt 9 = .ok (.new 199, 3) := by decide +kernel
theorem dX3_sourceAt_12 : decode cX3_sourceAt 12 = .ok (.dup, 1) := by decide +kernel
theorem dX3_sourceAt_13 : decode cX3_sourceAt 13 = .ok (.ldc 201, 2) := by decide +kernel
theorem dX3_sourceAt_15 : decode cX3_sourceAt 15 = .ok (.invokespecial 203, 3) := by decide +kernel
theorem dX3_sourceAt_18 : decode cX3_sourceAt 18 = .ok (.athrow, 1) := by decide +kernel
theorem dX3_sourceAt_19 : decode cX3_sourceAt 19 = .ok (.aload_n 0, 1) := by decide +kernel
theorem dX3_sourceAt_20 : decode cX3_sourceAt 20 = .ok (.getfield 11, 3) := by decide +kernel
theorem dX3_sourceAt_23 : decode cX3_sourceAt 23 = .ok (.iload_n 1, 1) := by decide +kernel
theorem dX3_sourceAt_24 : decode cX3_sourceAt 24 = .ok (.aaload, 1) := by decide +kernel
theorem dX3_sourceAt_25 : decode cX3_sourceAt 25 = .ok (.areturn, 1) := by decide +kernel
theorem dX3_streamAt_0 : decode cX3_streamAt 0 = .ok (.iload_n 1, 1) := by decide +kernel
theorem dX3_streamAt_1 : decode cX3_streamAt 1 = .ok (.ifCond .lt 8, 3) := by decide +kernel
theorem dX3_streamAt_4 : decode cX3_streamAt 4 = .ok (.iload_n 1, 1) := by decide +kernel
theorem dX3_streamAt_5 : decode cX3_streamAt 5 = .ok (.iconst 4, 1) := by decide +kernel
theorem dX3_streamAt_6 : decode cX3_streamAt 6 = .ok (.if_icmp .lt 13, 3) := by decide +kernel
theorem dX3_streamAt_9 : decode cX3_streamAt 9 = .ok (.new 199, 3) := by decide +kernel
theorem dX3_streamAt_12 : decode cX3_streamAt 12 = .ok (.dup, 1) := by decide +kernel
theorem dX3_streamAt_13 : decode cX3_streamAt 13 = .ok (.ldc 204, 2) := by decide +kernel
theorem dX3_streamAt_15 : decode cX3_streamAt 15 = .ok (.invokespecial 203, 3) := by decide +kernel
theorem dX3_streamAt_18 : decode cX3_streamAt 18 = .ok (.athrow, 1) := by decide +kernel
theorem dX3_streamAt_19 : decode cX3_streamAt 19 = .ok (.aload_n 0, 1) := by decide +kernel
theorem dX3_streamAt_20 : decode cX3_streamAt 20 = .ok (.getfield 17, 3) := by decide +kernel
theorem dX3_streamAt_23 : decode cX3_streamAt 23 = .ok (.iload_n 1, 1) := by decide +kernel
theorem dX3_streamAt_24 : decode cX3_streamAt 24 = .ok (.aaload, 1) := by decide +kernel
theorem dX3_streamAt_25 : decode cX3_streamAt 25 = .ok (.areturn, 1) := by decide +kernel
theorem dX3_openStreamAt_0 : decode cX3_openStreamAt 0 = .ok (.aload_n 0, 1) := by decide +kernel
theorem dX3_openStreamAt_1 : decode cX3_openStreamAt 1 = .ok (.iload_n 1, 1) := by decide +kernel
theorem dX3_openStreamAt_2 : decode cX3_openStreamAt 2 = .ok (.invokevirtual 80, 3) := by decide +kernel
theorem dX3_openStreamAt_5 : decode cX3_openStreamAt 5 = .ok (.astore_n 2, 1) := by decide +kernel
theorem dX3_openStreamAt_6 : decode cX3_openStreamAt 6 = .ok (.aload_n 2, 1) := by decide +kernel
theorem dX3_openStreamAt_7 : decode cX3_openStreamAt 7 = .ok (.invokestatic 102, 3) := by decide +kernel
theorem dX3_openStreamAt_10 : decode cX3_openStreamAt 10 = .ok (.aload_n 2, 1) := by decide +kernel
theorem dX3_openStreamAt_11 : decode cX3_openStreamAt 11 = .ok (.areturn, 1) := by decide +kernel
theorem dX3_requireOpen_0 : decode cX3_requireOpen 0 = .ok (.aload_n 0, 1) := by decide +kernel
theorem dX3_requireOpen_1 : decode cX3_requireOpen 1 = .ok (.getfield 92, 3) := by decide +kernel
theorem dX3_requireOpen_4 : decode cX3_requireOpen 4 = .ok (.iconst (-1), 1) := by decide +kernel
theorem dX3_requireOpen_5 : decode cX3_requireOpen 5 = .ok (.if_icmp .ne 13, 3) := by decide +kernel
theorem dX3_requireOpen_8 : decode cX3_requireOpen 8 = .ok (.new 206, 3) := by decide +kernel
theorem dX3_requireOpen_11 : decode cX3_requireOpen 11 = .ok (.dup, 1) := by decide +kernel
theorem dX3_requireOpen_12 : decode cX3_requireOpen 12 = .ok (.ldc 208, 2) := by decide +kernel
theorem dX3_requireOpen_14 : decode cX3_requireOpen 14 = .ok (.invokespecial 210, 3) := by decide +kernel
theorem dX3_requireOpen_17 : decode cX3_requireOpen 17 = .ok (.athrow, 1) := by decide +kernel
theorem dX3_requireOpen_18 : decode cX3_requireOpen 18 = .ok (.return_, 1) := by decide +kernel
theorem dX3_require_0 : decode cX3_require 0 = .ok (.iload_n 0, 1) := by decide +kernel
theorem dX3_require_1 : decode cX3_require 1 = .ok (.ifCond .ne 13, 3) := by decide +kernel
theorem dX3_require_4 : decode cX3_require 4 = .ok (.new 206, 3) := by decide +kernel
theorem dX3_require_7 : decode cX3_require 7 = .ok (.dup, 1) := by decide +kernel
theorem dX3_require_8 : decode cX3_require 8 = .ok (.ldc 211, 2) := by decide +kernel
theorem dX3_require_10 : decode cX3_require 10 = .ok (.invokespecial 210, 3) := by decide +kernel
theorem dX3_require_13 : decode cX3_require 13 = .ok (.athrow, 1) := by decide +kernel
theorem dX3_require_14 : decode cX3_require 14 = .ok (.return_, 1) := by decide +kernel
theorem dX3_requireByte_0 : decode cX3_requireByte 0 = .ok (.iload_n 0, 1) := by decide +kernel
theorem dX3_requireByte_1 : decode cX3_requireByte 1 = .ok (.ifCond .lt 10, 3) := by decide +kernel
theorem dX3_requireByte_4 : decode cX3_requireByte 4 = .ok (.iload_n 0, 1) := by decide +kernel
theorem dX3_requireByte_5 : decode cX3_requireByte 5 = .ok (.sipush 255, 3) := by decide +kernel
theorem dX3_requireByte_8 : decode cX3_requireByte 8 = .ok (.if_icmp .le 13, 3) := by decide +kernel
theorem dX3_requireByte_11 : decode cX3_requireByte 11 = .ok (.new 123, 3) := by decide +kernel
theorem dX3_requireByte_14 : decode cX3_requireByte 14 = .ok (.dup, 1) := by decide +kernel
theorem dX3_requireByte_15 : decode cX3_requireByte 15 = .ok (.ldc 213, 2) := by decide +kernel
theorem dX3_requireByte_17 : decode cX3_requireByte 17 = .ok (.invokespecial 127, 3) := by decide +kernel
theorem dX3_requireByte_20 : decode cX3_requireByte 20 = .ok (.athrow, 1) := by decide +kernel
theorem dX3_requireByte_21 : decode cX3_requireByte 21 = .ok (.return_, 1) := by decide +kernel
theorem dX3_requireBetween_0 : decode cX3_requireBetween 0 = .ok (.iload_n 0, 1) := by decide +kernel
theorem dX3_requireBetween_1 : decode cX3_requireBetween 1 = .ok (.iload_n 1, 1) := by decide +kernel
theorem dX3_requireBetween_2 : decode cX3_requireBetween 2 = .ok (.if_icmp .lt 8, 3) := by decide +kernel
theorem dX3_requireBetween_5 : decode cX3_requireBetween 5 = .ok (.iload_n 0, 1) := by decide +kernel
theorem dX3_requireBetween_6 : decode cX3_requireBetween 6 = .ok (.iload_n 2, 1) := by decide +kernel
theorem dX3_requireBetween_7 : decode cX3_requireBetween 7 = .ok (.if_icmp .le 13, 3) := by decide +kernel
theorem dX3_requireBetween_10 : decode cX3_requireBetween 10 = .ok (.new 123, 3) := by decide +kernel
theorem dX3_requireBetween_13 : decode cX3_requireBetween 13 = .ok (.dup, 1) := by decide +kernel
theorem dX3_requireBetween_14 : decode cX3_requireBetween 14 = .ok (.ldc 215, 2) := by decide +kernel
theorem dX3_requireBetween_16 : decode cX3_requireBetween 16 = .ok (.invokespecial 127, 3) := by decide +kernel
theorem dX3_requireBetween_19 : decode cX3_requireBetween 19 = .ok (.athrow, 1) := by decide +kernel
theorem dX3_requireBetween_20 : decode cX3_requireBetween 20 = .ok (.return_, 1) := by decide +kernel
theorem dX3_requireRoom_0 : decode cX3_requireRoom 0 = .ok (.iload_n 0, 1) := by decide +kernel
theorem dX3_requireRoom_1 : decode cX3_requireRoom 1 = .ok (.bipush 120, 2) := by decide +kernel
theorem dX3_requireRoom_3 : decode cX3_requireRoom 3 = .ok (.if_icmp .le 13, 3) := by decide +kernel
theorem dX3_requireRoom_6 : decode cX3_requireRoom 6 = .ok (.new 217, 3) := by decide +kernel
theorem dX3_requireRoom_9 : decode cX3_requireRoom 9 = .ok (.dup, 1) := by decide +kernel
theorem dX3_requireRoom_10 : decode cX3_requireRoom 10 = .ok (.ldc 219, 2) := by decide +kernel
theorem dX3_requireRoom_12 : decode cX3_requireRoom 12 = .ok (.invokespecial 221, 3) := by decide +kernel
theorem dX3_requireRoom_15 : decode cX3_requireRoom 15 = .ok (.athrow, 1) := by decide +kernel
theorem dX3_requireRoom_16 : decode cX3_requireRoom 16 = .ok (.return_, 1) := by decide +kernel
theorem dX3_requirePlace_0 : decode cX3_requirePlace 0 = .ok (.iload_n 1, 1) := by decide +kernel
theorem dX3_requirePlace_1 : decode cX3_requirePlace 1 = .ok (.ifCond .lt 11, 3) := by decide +kernel
theorem dX3_requirePlace_4 : decode cX3_requirePlace 4 = .ok (.iload_n 1, 1) := by decide +kernel
theorem dX3_requirePlace_5 : decode cX3_requirePlace 5 = .ok (.aload_n 0, 1) := by decide +kernel
theorem dX3_requirePlace_6 : decode cX3_requirePlace 6 = .ok (.invokevirtual 42, 3) := by decide +kernel
theorem dX3_requirePlace_9 : decode cX3_requirePlace 9 = .ok (.if_icmp .lt 13, 3) := by decide +kernel
theorem dX3_requirePlace_12 : decode cX3_requirePlace 12 = .ok (.new 199, 3) := by decide +kernel
theorem dX3_requirePlace_15 : decode cX3_requirePlace 15 = .ok (.dup, 1) := by decide +kernel
theorem dX3_requirePlace_16 : decode cX3_requirePlace 16 = .ok (.ldc 222, 2) := by decide +kernel
theorem dX3_requirePlace_18 : decode cX3_requirePlace 18 = .ok (.invokespecial 203, 3) := by decide +kernel
theorem dX3_requirePlace_21 : decode cX3_requirePlace 21 = .ok (.athrow, 1) := by decide +kernel
theorem dX3_requirePlace_22 : decode cX3_requirePlace 22 = .ok (.return_, 1) := by decide +kernel
theorem dX3_hasTwoSources_0 : decode cX3_hasTwoSources 0 = .ok (.iload_n 0, 1) := by decide +kernel
theorem dX3_hasTwoSources_1 : decode cX3_hasTwoSources 1 = .ok (.iconst 4, 1) := by decide +kernel
theorem dX3_hasTwoSources_2 : decode cX3_hasTwoSources 2 = .ok (.if_icmp .eq 14, 3) := by decide +kernel
theorem dX3_hasTwoSources_5 : decode cX3_hasTwoSources 5 = .ok (.iload_n 0, 1) := by decide +kernel
theorem dX3_hasTwoSources_6 : decode cX3_hasTwoSources 6 = .ok (.iconst 5, 1) := by decide +kernel
theorem dX3_hasTwoSources_7 : decode cX3_hasTwoSources 7 = .ok (.if_icmp .eq 9, 3) := by decide +kernel
theorem dX3_hasTwoSources_10 : decode cX3_hasTwoSources 10 = .ok (.iload_n 0, 1) := by decide +kernel
theorem dX3_hasTwoSources_11 : decode cX3_hasTwoSources 11 = .ok (.bipush 7, 2) := by decide +kernel
theorem dX3_hasTwoSources_13 : decode cX3_hasTwoSources 13 = .ok (.if_icmp .ne 7, 3) := by decide +kernel
theorem dX3_hasTwoSources_16 : decode cX3_hasTwoSources 16 = .ok (.iconst 1, 1) := by decide +kernel
theorem dX3_hasTwoSources_17 : decode cX3_hasTwoSources 17 = .ok (.goto 4, 3) := by decide +kernel
theorem dX3_hasTwoSources_20 : decode cX3_hasTwoSources 20 = .ok (.iconst 0, 1) := by decide +kernel
theorem dX3_hasTwoSources_21 : decode cX3_hasTwoSources 21 = .ok (.ireturn, 1) := by decide +kernel
theorem dX3_hasLine_0 : decode cX3_hasLine 0 = .ok (.iload_n 0, 1) := by decide +kernel
theorem dX3_hasLine_1 : decode cX3_hasLine 1 = .ok (.iconst 2, 1) := by decide +kernel
theorem dX3_hasLine_2 : decode cX3_hasLine 2 = .ok (.if_icmp .eq 14, 3) := by decide +kernel
theorem dX3_hasLine_5 : decode cX3_hasLine 5 = .ok (.iload_n 0, 1) := by decide +kernel
theorem dX3_hasLine_6 : decode cX3_hasLine 6 = .ok (.iconst 5, 1) := by decide +kernel
theorem dX3_hasLine_7 : decode cX3_hasLine 7 = .ok (.if_icmp .eq 9, 3) := by decide +kernel
theorem dX3_hasLine_10 : decode cX3_hasLine 10 = .ok (.iload_n 0, 1) := by decide +kernel
theorem dX3_hasLine_11 : decode cX3_hasLine 11 = .ok (.bipush 6, 2) := by decide +kernel
theorem dX3_hasLine_13 : decode cX3_hasLine 13 = .ok (.if_icmp .ne 7, 3) := by decide +kernel
theorem dX3_hasLine_16 : decode cX3_hasLine 16 = .ok (.iconst 1, 1) := by decide +kernel
theorem dX3_hasLine_17 : decode cX3_hasLine 17 = .ok (.goto 4, 3) := by decide +kernel
theorem dX3_hasLine_20 : decode cX3_hasLine 20 = .ok (.iconst 0, 1) := by decide +kernel
theorem dX3_hasLine_21 : decode cX3_hasLine 21 = .ok (.ireturn, 1) := by decide +kernel
theorem dX3_hasCheck_0 : decode cX3_hasCheck 0 = .ok (.iload_n 0, 1) := by decide +kernel
theorem dX3_hasCheck_1 : decode cX3_hasCheck 1 = .ok (.iconst 3, 1) := by decide +kernel
theorem dX3_hasCheck_2 : decode cX3_hasCheck 2 = .ok (.if_icmp .eq 9, 3) := by decide +kernel
theorem dX3_hasCheck_5 : decode cX3_hasCheck 5 = .ok (.iload_n 0, 1) := by decide +kernel
theorem dX3_hasCheck_6 : decode cX3_hasCheck 6 = .ok (.bipush 6, 2) := by decide +kernel
theorem dX3_hasCheck_8 : decode cX3_hasCheck 8 = .ok (.if_icmp .ne 7, 3) := by decide +kernel
theorem dX3_hasCheck_11 : decode cX3_hasCheck 11 = .ok (.iconst 1, 1) := by decide +kernel
theorem dX3_hasCheck_12 : decode cX3_hasCheck 12 = .ok (.goto 4, 3) := by decide +kernel
theorem dX3_hasCheck_15 : decode cX3_hasCheck 15 = .ok (.iconst 0, 1) := by decide +kernel
theorem dX3_hasCheck_16 : decode cX3_hasCheck 16 = .ok (.ireturn, 1) := by decide +kernel
theorem dX3_isLined_0 : decode cX3_isLined 0 = .ok (.iload_n 0, 1) := by decide +kernel
theorem dX3_isLined_1 : decode cX3_isLined 1 = .ok (.invokestatic 154, 3) := by decide +kernel
theorem dX3_isLined_4 : decode cX3_isLined 4 = .ok (.ifCond .ne 9, 3) := by decide +kernel
theorem dX3_isLined_7 : decode cX3_isLined 7 = .ok (.iload_n 0, 1) := by decide +kernel
theorem dX3_isLined_8 : decode cX3_isLined 8 = .ok (.bipush 7, 2) := by decide +kernel
theorem dX3_isLined_10 : decode cX3_isLined 10 = .ok (.if_icmp .ne 7, 3) := by decide +kernel
theorem dX3_isLined_13 : decode cX3_isLined 13 = .ok (.iconst 1, 1) := by decide +kernel
theorem dX3_isLined_14 : decode cX3_isLined 14 = .ok (.goto 4, 3) := by decide +kernel
theorem dX3_isLined_17 : decode cX3_isLined 17 = .ok (.iconst 0, 1) := by decide +kernel
theorem dX3_isLined_18 : decode cX3_isLined 18 = .ok (.ireturn, 1) := by decide +kernel
theorem dX3_canBeMarked_0 : decode cX3_canBeMarked 0 = .ok (.iload_n 0, 1) := by decide +kernel
theorem dX3_canBeMarked_1 : decode cX3_canBeMarked 1 = .ok (.ifCond .eq 19, 3) := by decide +kernel
theorem dX3_canBeMarked_4 : decode cX3_canBeMarked 4 = .ok (.iload_n 0, 1) := by decide +kernel
theorem dX3_canBeMarked_5 : decode cX3_canBeMarked 5 = .ok (.iconst 2, 1) := by decide +kernel
theorem dX3_canBeMarked_6 : decode cX3_canBeMarked 6 = .ok (.if_icmp .eq 14, 3) := by decide +kernel
theorem dX3_canBeMarked_9 : decode cX3_canBeMarked 9 = .ok (.iload_n 0, 1) := by decide +kernel
theorem dX3_canBeMarked_10 : decode cX3_canBeMarked 10 = .ok (.iconst 3, 1) := by decide +kernel
theorem dX3_canBeMarked_11 : decode cX3_canBeMarked 11 = .ok (.if_icmp .eq 9, 3) := by decide +kernel
theorem dX3_canBeMarked_14 : decode cX3_canBeMarked 14 = .ok (.iload_n 0, 1) := by decide +kernel
theorem dX3_canBeMarked_15 : decode cX3_canBeMarked 15 = .ok (.bipush 6, 2) := by decide +kernel
theorem dX3_canBeMarked_17 : decode cX3_canBeMarked 17 = .ok (.if_icmp .ne 7, 3) := by decide +kernel
theorem dX3_canBeMarked_20 : decode cX3_canBeMarked 20 = .ok (.iconst 1, 1) := by decide +kernel
theorem dX3_canBeMarked_21 : decode cX3_canBeMarked 21 = .ok (.goto 4, 3) := by decide +kernel
theorem dX3_canBeMarked_24 : decode cX3_canBeMarked 24 = .ok (.iconst 0, 1) := by decide +kernel
theorem dX3_canBeMarked_25 : decode cX3_canBeMarked 25 = .ok (.ireturn, 1) := by decide +kernel
theorem dX3_goesBackUnmarked_0 : decode cX3_goesBackUnmarked 0 = .ok (.iload_n 0, 1) := by decide +kernel
theorem dX3_goesBackUnmarked_1 : decode cX3_goesBackUnmarked 1 = .ok (.ifCond .eq 13, 3) := by decide +kernel
theorem dX3_goesBackUnmarked_4 : decode cX3_goesBackUnmarked 4 = .ok (.iload_n 0, 1) := by decide +kernel
theorem dX3_goesBackUnmarked_5 : decode cX3_goesBackUnmarked 5 = .ok (.iconst 1, 1) := by decide +kernel
theorem dX3_goesBackUnmarked_6 : decode cX3_goesBackUnmarked 6 = .ok (.if_icmp .eq 8, 3) := by decide +kernel
theorem dX3_goesBackUnmarked_9 : decode cX3_goesBackUnmarked 9 = .ok (.iload_n 0, 1) := by decide +kernel
theorem dX3_goesBackUnmarked_10 : decode cX3_goesBackUnmarked 10 = .ok (.iconst 3, 1) := by decide +kernel
theorem dX3_goesBackUnmarked_11 : decode cX3_goesBackUnmarked 11 = .ok (.if_icmp .ne 7, 3) := by decide +kernel
theorem dX3_goesBackUnmarked_14 : decode cX3_goesBackUnmarked 14 = .ok (.iconst 1, 1) := by decide +kernel
theorem dX3_goesBackUnmarked_15 : decode cX3_goesBackUnmarked 15 = .ok (.goto 4, 3) := by decide +kernel
theorem dX3_goesBackUnmarked_18 : decode cX3_goesBackUnmarked 18 = .ok (.iconst 0, 1) := by decide +kernel
theorem dX3_goesBackUnmarked_19 : decode cX3_goesBackUnmarked 19 = .ok (.ireturn, 1) := by decide +kernel
theorem dX3_tellsRest_0 : decode cX3_tellsRest 0 = .ok (.iload_n 0, 1) := by decide +kernel
theorem dX3_tellsRest_1 : decode cX3_tellsRest 1 = .ok (.ifCond .eq 13, 3) := by decide +kernel
theorem dX3_tellsRest_4 : decode cX3_tellsRest 4 = .ok (.iload_n 0, 1) := by decide +kernel
theorem dX3_tellsRest_5 : decode cX3_tellsRest 5 = .ok (.iconst 1, 1) := by decide +kernel
theorem dX3_tellsRest_6 : decode cX3_tellsRest 6 = .ok (.if_icmp .eq 8, 3) := by decide +kernel
theorem dX3_tellsRest_9 : decode cX3_tellsRest 9 = .ok (.iload_n 0, 1) := by decide +kernel
theorem dX3_tellsRest_10 : decode cX3_tellsRest 10 = .ok (.iconst 3, 1) := by decide +kernel
theorem dX3_tellsRest_11 : decode cX3_tellsRest 11 = .ok (.if_icmp .ne 7, 3) := by decide +kernel
theorem dX3_tellsRest_14 : decode cX3_tellsRest 14 = .ok (.iconst 1, 1) := by decide +kernel
theorem dX3_tellsRest_15 : decode cX3_tellsRest 15 = .ok (.goto 4, 3) := by decide +kernel
theorem dX3_tellsRest_18 : decode cX3_tellsRest 18 = .ok (.iconst 0, 1) := by decide +kernel
theorem dX3_tellsRest_19 : decode cX3_tellsRest 19 = .ok (.ireturn, 1) := by decide +kernel
theorem dX3_countAlike_0 : decode cX3_countAlike 0 = .ok (.aload_n 0, 1) := by decide +kernel
theorem dX3_countAlike_1 : decode cX3_countAlike 1 = .ok (.invokevirtual 113, 3) := by decide +kernel
theorem dX3_countAlike_4 : decode cX3_countAlike 4 = .ok (.istore_n 2, 1) := by decide +kernel
theorem dX3_countAlike_5 : decode cX3_countAlike 5 = .ok (.iconst 0, 1) := by decide +kernel
theorem dX3_countAlike_6 : decode cX3_countAlike 6 = .ok (.istore_n 3, 1) := by decide +kernel
theorem dX3_countAlike_7 : decode cX3_countAlike 7 = .ok (.iload_n 3, 1) := by decide +kernel
theorem dX3_countAlike_8 : decode cX3_countAlike 8 = .ok (.iload_n 2, 1) := by decide +kernel
theorem dX3_countAlike_9 : decode cX3_countAlike 9 = .ok (.if_icmp .ge 30, 3) := by decide +kernel
theorem dX3_countAlike_12 : decode cX3_countAlike 12 = .ok (.aload_n 0, 1) := by decide +kernel
theorem dX3_countAlike_13 : decode cX3_countAlike 13 = .ok (.invokevirtual 99, 3) := by decide +kernel
theorem dX3_countAlike_16 : decode cX3_countAlike 16 = .ok (.istore 4, 2) := by decide +kernel
theorem dX3_countAlike_18 : decode cX3_countAlike 18 = .ok (.aload_n 1, 1) := by decide +kernel
theorem dX3_countAlike_19 : decode cX3_countAlike 19 = .ok (.invokevirtual 99, 3) := by decide +kernel
theorem dX3_countAlike_22 : decode cX3_countAlike 22 = .ok (.istore 5, 2) := by decide +kernel
theorem dX3_countAlike_24 : decode cX3_countAlike 24 = .ok (.iload 4, 2) := by decide +kernel
theorem dX3_countAlike_26 : decode cX3_countAlike 26 = .ok (.iload 5, 2) := by decide +kernel
theorem dX3_countAlike_28 : decode cX3_countAlike 28 = .ok (.if_icmp .eq 5, 3) := by decide +kernel
theorem dX3_countAlike_31 : decode cX3_countAlike 31 = .ok (.iload_n 3, 1) := by decide +kernel
theorem dX3_countAlike_32 : decode cX3_countAlike 32 = .ok (.ireturn, 1) := by decide +kernel
theorem dX3_countAlike_33 : decode cX3_countAlike 33 = .ok (.iinc 3 1, 3) := by decide +kernel
theorem dX3_countAlike_36 : decode cX3_countAlike 36 = .ok (.goto (-29), 3) := by decide +kernel
theorem dX3_countAlike_39 : decode cX3_countAlike 39 = .ok (.aload_n 1, 1) := by decide +kernel
theorem dX3_countAlike_40 : decode cX3_countAlike 40 = .ok (.invokevirtual 99, 3) := by decide +kernel
theorem dX3_countAlike_43 : decode cX3_countAlike 43 = .ok (.pop, 1) := by decide +kernel
theorem dX3_countAlike_44 : decode cX3_countAlike 44 = .ok (.iload_n 2, 1) := by decide +kernel
theorem dX3_countAlike_45 : decode cX3_countAlike 45 = .ok (.ireturn, 1) := by decide +kernel
theorem dX3_withByte_0 : decode cX3_withByte 0 = .ok (.lload_n 0, 1) := by decide +kernel
theorem dX3_withByte_1 : decode cX3_withByte 1 = .ok (.iload_n 2, 1) := by decide +kernel
theorem dX3_withByte_2 : decode cX3_withByte 2 = .ok (.i2l, 1) := by decide +kernel
theorem dX3_withByte_3 : decode cX3_withByte 3 = .ok (.lxor, 1) := by decide +kernel
theorem dX3_withByte_4 : decode cX3_withByte 4 = .ok (.lstore_n 3, 1) := by decide +kernel
theorem dX3_withByte_5 : decode cX3_withByte 5 = .ok (.iconst 0, 1) := by decide +kernel
theorem dX3_withByte_6 : decode cX3_withByte 6 = .ok (.istore 5, 2) := by decide +kernel
theorem dX3_withByte_8 : decode cX3_withByte 8 = .ok (.iload 5, 2) := by decide +kernel
theorem dX3_withByte_10 : decode cX3_withByte 10 = .ok (.bipush 8, 2) := by decide +kernel
theorem dX3_withByte_12 : decode cX3_withByte 12 = .ok (.if_icmp .ge 39, 3) := by decide +kernel
theorem dX3_withByte_15 : decode cX3_withByte 15 = .ok (.lload_n 3, 1) := by decide +kernel
theorem dX3_withByte_16 : decode cX3_withByte 16 = .ok (.lconst 1, 1) := by decide +kernel
theorem dX3_withByte_17 : decode cX3_withByte 17 = .ok (.land, 1) := by decide +kernel
theorem dX3_withByte_18 : decode cX3_withByte 18 = .ok (.lconst 0, 1) := by decide +kernel
theorem dX3_withByte_19 : decode cX3_withByte 19 = .ok (.lcmp, 1) := by decide +kernel
theorem dX3_withByte_20 : decode cX3_withByte 20 = .ok (.ifCond .eq 7, 3) := by decide +kernel
theorem dX3_withByte_23 : decode cX3_withByte 23 = .ok (.iconst 1, 1) := by decide +kernel
theorem dX3_withByte_24 : decode cX3_withByte 24 = .ok (.goto 4, 3) := by decide +kernel
theorem dX3_withByte_27 : decode cX3_withByte 27 = .ok (.iconst 0, 1) := by decide +kernel
theorem dX3_withByte_28 : decode cX3_withByte 28 = .ok (.istore 6, 2) := by decide +kernel
theorem dX3_withByte_30 : decode cX3_withByte 30 = .ok (.lload_n 3, 1) := by decide +kernel
theorem dX3_withByte_31 : decode cX3_withByte 31 = .ok (.iconst 1, 1) := by decide +kernel
theorem dX3_withByte_32 : decode cX3_withByte 32 = .ok (.lushr, 1) := by decide +kernel
theorem dX3_withByte_33 : decode cX3_withByte 33 = .ok (.lstore_n 3, 1) := by decide +kernel
theorem dX3_withByte_34 : decode cX3_withByte 34 = .ok (.iload 6, 2) := by decide +kernel
theorem dX3_withByte_36 : decode cX3_withByte 36 = .ok (.ifCond .eq 9, 3) := by decide +kernel
theorem dX3_withByte_39 : decode cX3_withByte 39 = .ok (.lload_n 3, 1) := by decide +kernel
theorem dX3_withByte_40 : decode cX3_withByte 40 = .ok (.ldc2_w 224, 3) := by decide +kernel
theorem dX3_withByte_43 : decode cX3_withByte 43 = .ok (.lxor, 1) := by decide +kernel
theorem dX3_withByte_44 : decode cX3_withByte 44 = .ok (.lstore_n 3, 1) := by decide +kernel
theorem dX3_withByte_45 : decode cX3_withByte 45 = .ok (.iinc 5 1, 3) := by decide +kernel
theorem dX3_withByte_48 : decode cX3_withByte 48 = .ok (.goto (-40), 3) := by decide +kernel
theorem dX3_withByte_51 : decode cX3_withByte 51 = .ok (.lload_n 3, 1) := by decide +kernel
theorem dX3_withByte_52 : decode cX3_withByte 52 = .ok (.lreturn, 1) := by decide +kernel
theorem dX3_withRow_0 : decode cX3_withRow 0 = .ok (.ldc2_w 226, 3) := by decide +kernel
theorem dX3_withRow_3 : decode cX3_withRow 3 = .ok (.lload_n 0, 1) := by decide +kernel
theorem dX3_withRow_4 : decode cX3_withRow 4 = .ok (.lmul, 1) := by decide +kernel
theorem dX3_withRow_5 : decode cX3_withRow 5 = .ok (.aload_n 2, 1) := by decide +kernel
theorem dX3_withRow_6 : decode cX3_withRow 6 = .ok (.invokevirtual 42, 3) := by decide +kernel
theorem dX3_withRow_9 : decode cX3_withRow 9 = .ok (.i2l, 1) := by decide +kernel
theorem dX3_withRow_10 : decode cX3_withRow 10 = .ok (.ladd, 1) := by decide +kernel
theorem dX3_withRow_11 : decode cX3_withRow 11 = .ok (.lstore_n 3, 1) := by decide +kernel
theorem dX3_withRow_12 : decode cX3_withRow 12 = .ok (.iconst 0, 1) := by decide +kernel
theorem dX3_withRow_13 : decode cX3_withRow 13 = .ok (.istore 5, 2) := by decide +kernel
theorem dX3_withRow_15 : decode cX3_withRow 15 = .ok (.iload 5, 2) := by decide +kernel
theorem dX3_withRow_17 : decode cX3_withRow 17 = .ok (.aload_n 2, 1) := by decide +kernel
theorem dX3_withRow_18 : decode cX3_withRow 18 = .ok (.invokevirtual 42, 3) := by decide +kernel
theorem dX3_withRow_21 : decode cX3_withRow 21 = .ok (.if_icmp .ge 23, 3) := by decide +kernel
theorem dX3_withRow_24 : decode cX3_withRow 24 = .ok (.ldc2_w 226, 3) := by decide +kernel
theorem dX3_withRow_27 : decode cX3_withRow 27 = .ok (.lload_n 3, 1) := by decide +kernel
theorem dX3_withRow_28 : decode cX3_withRow 28 = .ok (.lmul, 1) := by decide +kernel
theorem dX3_withRow_29 : decode cX3_withRow 29 = .ok (.aload_n 2, 1) := by decide +kernel
theorem dX3_withRow_30 : decode cX3_withRow 30 = .ok (.iload 5, 2) := by decide +kernel
theorem dX3_withRow_32 : decode cX3_withRow 32 = .ok (.invokevirtual 73, 3) := by decide +kernel
theorem dX3_withRow_35 : decode cX3_withRow 35 = .ok (.i2l, 1) := by decide +kernel
theorem dX3_withRow_36 : decode cX3_withRow 36 = .ok (.ladd, 1) := by decide +kernel
theorem dX3_withRow_37 : decode cX3_withRow 37 = .ok (.lstore_n 3, 1) := by decide +kernel
theorem dX3_withRow_38 : decode cX3_withRow 38 = .ok (.iinc 5 1, 3) := by decide +kernel
theorem dX3_withRow_41 : decode cX3_withRow 41 = .ok (.goto (-26), 3) := by decide +kernel
theorem dX3_withRow_44 : decode cX3_withRow 44 = .ok (.lload_n 3, 1) := by decide +kernel
theorem dX3_withRow_45 : decode cX3_withRow 45 = .ok (.lreturn, 1) := by decide +kernel
theorem dX3_withStream_0 : decode cX3_withStream 0 = .ok (.ldc2_w 226, 3) := by decide +kernel
theorem dX3_withStream_3 : decode cX3_withStream 3 = .ok (.lload_n 0, 1) := by decide +kernel
theorem dX3_withStream_4 : decode cX3_withStream 4 = .ok (.lmul, 1) := by decide +kernel
theorem dX3_withStream_5 : decode cX3_withStream 5 = .ok (.aload_n 2, 1) := by decide +kernel
theorem dX3_withStream_6 : decode cX3_withStream 6 = .ok (.getfield 92, 3) := by decide +kernel
theorem dX3_withStream_9 : decode cX3_withStream 9 = .ok (.i2l, 1) := by decide +kernel
theorem dX3_withStream_10 : decode cX3_withStream 10 = .ok (.ladd, 1) := by decide +kernel
theorem dX3_withStream_11 : decode cX3_withStream 11 = .ok (.lstore_n 3, 1) := by decide +kernel
theorem dX3_withStream_12 : decode cX3_withStream 12 = .ok (.aload_n 2, 1) := by decide +kernel
theorem dX3_withStream_13 : decode cX3_withStream 13 = .ok (.getfield 92, 3) := by decide +kernel
theorem dX3_withStream_16 : decode cX3_withStream 16 = .ok (.invokestatic 154, 3) := by decide +kernel
theorem dX3_withStream_19 : decode cX3_withStream 19 = .ok (.ifCond .eq 15, 3) := by decide +kernel
theorem dX3_withStream_22 : decode cX3_withStream 22 = .ok (.ldc2_w 226, 3) := by decide +kernel
theorem dX3_withStream_25 : decode cX3_withStream 25 = .ok (.lload_n 3, 1) := by decide +kernel
theorem dX3_withStream_26 : decode cX3_withStream 26 = .ok (.lmul, 1) := by decide +kernel
theorem dX3_withStream_27 : decode cX3_withStream 27 = .ok (.aload_n 2, 1) := by decide +kernel
theorem dX3_withStream_28 : decode cX3_withStream 28 = .ok (.getfield 157, 3) := by decide +kernel
theorem dX3_withStream_31 : decode cX3_withStream 31 = .ok (.i2l, 1) := by decide +kernel
theorem dX3_withStream_32 : decode cX3_withStream 32 = .ok (.ladd, 1) := by decide +kernel
theorem dX3_withStream_33 : decode cX3_withStream 33 = .ok (.lstore_n 3, 1) := by decide +kernel
theorem dX3_withStream_34 : decode cX3_withStream 34 = .ok (.aload_n 2, 1) := by decide +kernel
theorem dX3_withStream_35 : decode cX3_withStream 35 = .ok (.getfield 92, 3) := by decide +kernel
theorem dX3_withStream_38 : decode cX3_withStream 38 = .ok (.invokestatic 160, 3) := by decide +kernel
theorem dX3_withStream_41 : decode cX3_withStream 41 = .ok (.ifCond .eq 14, 3) := by decide +kernel
theorem dX3_withStream_44 : decode cX3_withStream 44 = .ok (.ldc2_w 226, 3) := by decide +kernel
theorem dX3_withStream_47 : decode cX3_withStream 47 = .ok (.lload_n 3, 1) := by decide +kernel
theorem dX3_withStream_48 : decode cX3_withStream 48 = .ok (.lmul, 1) := by decide +kernel
theorem dX3_withStream_49 : decode cX3_withStream 49 = .ok (.aload_n 2, 1) := by decide +kernel
theorem dX3_withStream_50 : decode cX3_withStream 50 = .ok (.invokevirtual 163, 3) := by decide +kernel
theorem dX3_withStream_53 : decode cX3_withStream 53 = .ok (.ladd, 1) := by decide +kernel
theorem dX3_withStream_54 : decode cX3_withStream 54 = .ok (.lstore_n 3, 1) := by decide +kernel
theorem dX3_withStream_55 : decode cX3_withStream 55 = .ok (.lload_n 3, 1) := by decide +kernel
theorem dX3_withStream_56 : decode cX3_withStream 56 = .ok (.lreturn, 1) := by decide +kernel
theorem dX3_longestSource_0 : decode cX3_longestSource 0 = .ok (.iconst 0, 1) := by decide +kernel
theorem dX3_longestSource_1 : decode cX3_longestSource 1 = .ok (.istore_n 1, 1) := by decide +kernel
theorem dX3_longestSource_2 : decode cX3_longestSource 2 = .ok (.iconst 1, 1) := by decide +kernel
theorem dX3_longestSource_3 : decode cX3_longestSource 3 = .ok (.istore_n 2, 1) := by decide +kernel
theorem dX3_longestSource_4 : decode cX3_longestSource 4 = .ok (.iload_n 2, 1) := by decide +kernel
theorem dX3_longestSource_5 : decode cX3_longestSource 5 = .ok (.iconst 4, 1) := by decide +kernel
theorem dX3_longestSource_6 : decode cX3_longestSource 6 = .ok (.if_icmp .ge 32, 3) := by decide +kernel
theorem dX3_longestSource_9 : decode cX3_longestSource 9 = .ok (.aload_n 0, 1) := by decide +kernel
theorem dX3_longestSource_10 : decode cX3_longestSource 10 = .ok (.getfield 11, 3) := by decide +kernel
theorem dX3_longestSource_13 : decode cX3_longestSource 13 = .ok (.iload_n 2, 1) := by decide +kernel
theorem dX3_longestSource_14 : decode cX3_longestSource 14 = .ok (.aaload, 1) := by decide +kernel
theorem dX3_longestSource_15 : decode cX3_longestSource 15 = .ok (.invokevirtual 42, 3) := by decide +kernel
theorem dX3_longestSource_18 : decode cX3_longestSource 18 = .ok (.aload_n 0, 1) := by decide +kernel
theorem dX3_longestSource_19 : decode cX3_longestSource 19 = .ok (.getfield 11, 3) := by decide +kernel
theorem dX3_longestSource_22 : decode cX3_longestSource 22 = .ok (.iload_n 1, 1) := by decide +kernel
theorem dX3_longestSource_23 : decode cX3_longestSource 23 = .ok (.aaload, 1) := by decide +kernel
theorem dX3_longestSource_24 : decode cX3_longestSource 24 = .ok (.invokevirtual 42, 3) := by decide +kernel
theorem dX3_longestSource_27 : decode cX3_longestSource 27 = .ok (.if_icmp .le 5, 3) := by decide +kernel
theorem dX3_longestSource_30 : decode cX3_longestSource 30 = .ok (.iload_n 2, 1) := by decide +kernel
theorem dX3_longestSource_31 : decode cX3_longestSource 31 = .ok (.istore_n 1, 1) := by decide +kernel
theorem dX3_longestSource_32 : decode cX3_longestSource 32 = .ok (.iinc 2 1, 3) := by decide +kernel
theorem dX3_longestSource_35 : decode cX3_longestSource 35 = .ok (.goto (-31), 3) := by decide +kernel
theorem dX3_longestSource_38 : decode cX3_longestSource 38 = .ok (.iload_n 1, 1) := by decide +kernel
theorem dX3_longestSource_39 : decode cX3_longestSource 39 = .ok (.ireturn, 1) := by decide +kernel

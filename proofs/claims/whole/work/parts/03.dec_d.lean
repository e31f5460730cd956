/-! decode rows, printed by the kit's program -/
theorem dL_type_0 : decode cL_type 0 = .ok (.aload_n 3, 1) := by decide +kernel
theorem dL_type_1 : decode cL_type 1 = .ok (.iconst 0, 1) := by decide +kernel
theorem dL_type_2 : decode cL_type 2 = .ok (.aload_n 0, 1) := by decide +kernel
theorem dL_type_3 : decode cL_type 3 = .ok (.iload_n 1, 1) := by decide +kernel
theorem dL_type_4 : decode cL_type 4 = .ok (.iload_n 2, 1) := by decide +kernel
theorem dL_type_5 : decode cL_type 5 = .ok (.invokevirtual 7, 3) := by decide +kernel
theorem dL_type_8 : decode cL_type 8 = .ok (.i2l, 1) := by decide +kernel
theorem dL_type_9 : decode cL_type 9 = .ok (.lastore, 1) := by decide +kernel
theorem dL_type_10 : decode cL_type 10 = .ok (.goto 15, 3) := by decide +kernel
theorem dL_type_13 : decode cL_type 13 = .ok (.astore 4, 2) := by decide +kernel
theorem dL_type_15 : decode cL_type 15 = .ok (.iconst 1, 1) := by decide +kernel
theorem dL_type_16 : decode cL_type 16 = .ok (.ireturn, 1) := by decide +kernel
theorem dL_type_17 : decode cL_type 17 = .ok (.astore 4, 2) := by decide +kernel
theorem dL_type_19 : decode cL_type 19 = .ok (.iconst 2, 1) := by decide +kernel
theorem dL_type_20 : decode cL_type 20 = .ok (.ireturn, 1) := by decide +kernel
theorem dL_type_21 : decode cL_type 21 = .ok (.astore 4, 2) := by decide +kernel
theorem dL_type_23 : decode cL_type 23 = .ok (.iconst 3, 1) := by decide +kernel
theorem dL_type_24 : decode cL_type 24 = .ok (.ireturn, 1) := by decide +kernel
theorem dL_type_25 : decode cL_type 25 = .ok (.iconst 0, 1) := by decide +kernel
theorem dL_type_26 : decode cL_type 26 = .ok (.ireturn, 1) := by decide +kernel
theorem dL_typeMany_0 : decode cL_typeMany 0 = .ok (.aload 4, 2) := by decide +kernel
theorem dL_typeMany_2 : decode cL_typeMany 2 = .ok (.iconst 0, 1) := by decide +kernel
theorem dL_typeMany_3 : decode cL_typeMany 3 = .ok (.aload_n 0, 1) := by decide +kernel
theorem dL_typeMany_4 : decode cL_typeMany 4 = .ok (.iload_n 1, 1) := by decide +kernel
theorem dL_typeMany_5 : decode cL_typeMany 5 = .ok (.iload_n 2, 1) := by decide +kernel
theorem dL_typeMany_6 : decode cL_typeMany 6 = .ok (.iload_n 3, 1) := by decide +kernel
theorem dL_typeMany_7 : decode cL_typeMany 7 = .ok (.invokevirtual 19, 3) := by decide +kernel
theorem dL_typeMany_10 : decode cL_typeMany 10 = .ok (.i2l, 1) := by decide +kernel
theorem dL_typeMany_11 : decode cL_typeMany 11 = .ok (.lastore, 1) := by decide +kernel
theorem dL_typeMany_12 : decode cL_typeMany 12 = .ok (.goto 15, 3) := by decide +kernel
theorem dL_typeMany_15 : decode cL_typeMany 15 = .ok (.astore 5, 2) := by decide +kernel
theorem dL_typeMany_17 : decode cL_typeMany 17 = .ok (.iconst 1, 1) := by decide +kernel
theorem dL_typeMany_18 : decode cL_typeMany 18 = .ok (.ireturn, 1) := by decide +kernel
theorem dL_typeMany_19 : decode cL_typeMany 19 = .ok (.astore 5, 2) := by decide +kernel
theorem dL_typeMany_21 : decode cL_typeMany 21 = .ok (.iconst 2, 1) := by decide +kernel
theorem dL_typeMany_22 : decode cL_typeMany 22 = .ok (.ireturn, 1) := by decide +kernel
theorem dL_typeMany_23 : decode cL_typeMany 23 = .ok (.astore 5, 2) := by decide +kernel
theorem dL_typeMany_25 : decode cL_typeMany 25 = .ok (.iconst 3, 1) := by decide +kernel
theorem dL_typeMany_26 : decode cL_typeMany 26 = .ok (.ireturn, 1) := by decide +kernel
theorem dL_typeMany_27 : decode cL_typeMany 27 = .ok (.iconst 0, 1) := by decide +kernel
theorem dL_typeMany_28 : decode cL_typeMany 28 = .ok (.ireturn, 1) := by decide +kernel
theorem dL_cut_0 : decode cL_cut 0 = .ok (.aload_n 2, 1) := by decide +kernel
theorem dL_cut_1 : decode cL_cut 1 = .ok (.iconst 0, 1) := by decide +kernel
theorem dL_cut_2 : decode cL_cut 2 = .ok (.aload_n 0, 1) := by decide +kernel
theorem dL_cut_3 : decode cL_cut 3 = .ok (.iload_n 1, 1) := by decide +kernel
theorem dL_cut_4 : decode cL_cut 4 = .ok (.invokevirtual 23, 3) := by decide +kernel
theorem dL_cut_7 : decode cL_cut 7 = .ok (.i2l, 1) := by decide +kernel
theorem dL_cut_8 : decode cL_cut 8 = .ok (.lastore, 1) := by decide +kernel
theorem dL_cut_9 : decode cL_cut 9 = .ok (.goto 9, 3) := by decide +kernel
theorem dL_cut_12 : decode cL_cut 12 = .ok (.astore_n 3, 1) := by decide +kernel
theorem dL_cut_13 : decode cL_cut 13 = .ok (.iconst 1, 1) := by decide +kernel
theorem dL_cut_14 : decode cL_cut 14 = .ok (.ireturn, 1) := by decide +kernel
theorem dL_cut_15 : decode cL_cut 15 = .ok (.astore_n 3, 1) := by decide +kernel
theorem dL_cut_16 : decode cL_cut 16 = .ok (.iconst 2, 1) := by decide +kernel
theorem dL_cut_17 : decode cL_cut 17 = .ok (.ireturn, 1) := by decide +kernel
theorem dL_cut_18 : decode cL_cut 18 = .ok (.iconst 0, 1) := by decide +kernel
theorem dL_cut_19 : decode cL_cut 19 = .ok (.ireturn, 1) := by decide +kernel
theorem dL_clear_0 : decode cL_clear 0 = .ok (.aload_n 2, 1) := by decide +kernel
theorem dL_clear_1 : decode cL_clear 1 = .ok (.iconst 0, 1) := by decide +kernel
theorem dL_clear_2 : decode cL_clear 2 = .ok (.aload_n 0, 1) := by decide +kernel
theorem dL_clear_3 : decode cL_clear 3 = .ok (.iload_n 1, 1) := by decide +kernel
theorem dL_clear_4 : decode cL_clear 4 = .ok (.invokevirtual 29, 3) := by decide +kernel
theorem dL_clear_7 : decode cL_clear 7 = .ok (.i2l, 1) := by decide +kernel
theorem dL_clear_8 : decode cL_clear 8 = .ok (.lastore, 1) := by decide +kernel
theorem dL_clear_9 : decode cL_clear 9 = .ok (.goto 6, 3) := by decide +kernel
theorem dL_clear_12 : decode cL_clear 12 = .ok (.astore_n 3, 1) := by decide +kernel
theorem dL_clear_13 : decode cL_clear 13 = .ok (.iconst 1, 1) := by decide +kernel
theorem dL_clear_14 : decode cL_clear 14 = .ok (.ireturn, 1) := by decide +kernel
theorem dL_clear_15 : decode cL_clear 15 = .ok (.iconst 0, 1) := by decide +kernel
theorem dL_clear_16 : decode cL_clear 16 = .ok (.ireturn, 1) := by decide +kernel
theorem dL_length_0 : decode cL_length 0 = .ok (.aload_n 2, 1) := by decide +kernel
theorem dL_length_1 : decode cL_length 1 = .ok (.iconst 0, 1) := by decide +kernel
theorem dL_length_2 : decode cL_length 2 = .ok (.aload_n 0, 1) := by decide +kernel
theorem dL_length_3 : decode cL_length 3 = .ok (.iload_n 1, 1) := by decide +kernel
theorem dL_length_4 : decode cL_length 4 = .ok (.invokevirtual 32, 3) := by decide +kernel
theorem dL_length_7 : decode cL_length 7 = .ok (.i2l, 1) := by decide +kernel
theorem dL_length_8 : decode cL_length 8 = .ok (.lastore, 1) := by decide +kernel
theorem dL_length_9 : decode cL_length 9 = .ok (.goto 6, 3) := by decide +kernel
theorem dL_length_12 : decode cL_length 12 = .ok (.astore_n 3, 1) := by decide +kernel
theorem dL_length_13 : decode cL_length 13 = .ok (.iconst 1, 1) := by decide +kernel
theorem dL_length_14 : decode cL_length 14 = .ok (.ireturn, 1) := by decide +kernel
theorem dL_length_15 : decode cL_length 15 = .ok (.iconst 0, 1) := by decide +kernel
theorem dL_length_16 : decode cL_length 16 = .ok (.ireturn, 1) := by decide +kernel
theorem dL_byteAt_0 : decode cL_byteAt 0 = .ok (.aload_n 3, 1) := by decide +kernel
theorem dL_byteAt_1 : decode cL_byteAt 1 = .ok (.iconst 0, 1) := by decide +kernel
theorem dL_byteAt_2 : decode cL_byteAt 2 = .ok (.aload_n 0, 1) := by decide +kernel
theorem dL_byteAt_3 : decode cL_byteAt 3 = .ok (.iload_n 1, 1) := by decide +kernel
theorem dL_byteAt_4 : decode cL_byteAt 4 = .ok (.iload_n 2, 1) := by decide +kernel
theorem dL_byteAt_5 : decode cL_byteAt 5 = .ok (.invokevirtual 35, 3) := by decide +kernel
theorem dL_byteAt_8 : decode cL_byteAt 8 = .ok (.i2l, 1) := by decide +kernel
theorem dL_byteAt_9 : decode cL_byteAt 9 = .ok (.lastore, 1) := by decide +kernel
theorem dL_byteAt_10 : decode cL_byteAt 10 = .ok (.goto 7, 3) := by decide +kernel
theorem dL_byteAt_13 : decode cL_byteAt 13 = .ok (.astore 4, 2) := by decide +kernel
theorem dL_byteAt_15 : decode cL_byteAt 15 = .ok (.iconst 1, 1) := by decide +kernel
theorem dL_byteAt_16 : decode cL_byteAt 16 = .ok (.ireturn, 1) := by decide +kernel
theorem dL_byteAt_17 : decode cL_byteAt 17 = .ok (.iconst 0, 1) := by decide +kernel
theorem dL_byteAt_18 : decode cL_byteAt 18 = .ok (.ireturn, 1) := by decide +kernel
theorem dL_ends_0 : decode cL_ends 0 = .ok (.aload_n 2, 1) := by decide +kernel
theorem dL_ends_1 : decode cL_ends 1 = .ok (.iconst 0, 1) := by decide +kernel
theorem dL_ends_2 : decode cL_ends 2 = .ok (.aload_n 0, 1) := by decide +kernel
theorem dL_ends_3 : decode cL_ends 3 = .ok (.iload_n 1, 1) := by decide +kernel
theorem dL_ends_4 : decode cL_ends 4 = .ok (.invokevirtual 38, 3) := by decide +kernel
theorem dL_ends_7 : decode cL_ends 7 = .ok (.i2l, 1) := by decide +kernel
theorem dL_ends_8 : decode cL_ends 8 = .ok (.lastore, 1) := by decide +kernel
theorem dL_ends_9 : decode cL_ends 9 = .ok (.goto 6, 3) := by decide +kernel
theorem dL_ends_12 : decode cL_ends 12 = .ok (.astore_n 3, 1) := by decide +kernel
theorem dL_ends_13 : decode cL_ends 13 = .ok (.iconst 1, 1) := by decide +kernel
theorem dL_ends_14 : decode cL_ends 14 = .ok (.ireturn, 1) := by decide +kernel
theorem dL_ends_15 : decode cL_ends 15 = .ok (.iconst 0, 1) := by decide +kernel
theorem dL_ends_16 : decode cL_ends 16 = .ok (.ireturn, 1) := by decide +kernel
theorem dL_open_0 : decode cL_open 0 = .ok (.aload 5, 2) := by decide +kernel
theorem dL_open_2 : decode cL_open 2 = .ok (.iconst 0, 1) := by decide +kernel
theorem dL_open_3 : decode cL_open 3 = .ok (.aload_n 0, 1) := by decide +kernel
theorem dL_open_4 : decode cL_open 4 = .ok (.iload_n 1, 1) := by decide +kernel
theorem dL_open_5 : decode cL_open 5 = .ok (.iload_n 2, 1) := by decide +kernel
theorem dL_open_6 : decode cL_open 6 = .ok (.iload_n 3, 1) := by decide +kernel
theorem dL_open_7 : decode cL_open 7 = .ok (.iload 4, 2) := by decide +kernel
theorem dL_open_9 : decode cL_open 9 = .ok (.invokevirtual 41, 3) := by decide +kernel
theorem dL_open_12 : decode cL_open 12 = .ok (.i2l, 1) := by decide +kernel
theorem dL_open_13 : decode cL_open 13 = .ok (.lastore, 1) := by decide +kernel
theorem dL_open_14 : decode cL_open 14 = .ok (.goto 11, 3) := by decide +kernel
theorem dL_open_17 : decode cL_open 17 = .ok (.astore 6, 2) := by decide +kernel
theorem dL_open_19 : decode cL_open 19 = .ok (.iconst 1, 1) := by decide +kernel
theorem dL_open_20 : decode cL_open 20 = .ok (.ireturn, 1) := by decide +kernel
theorem dL_open_21 : decode cL_open 21 = .ok (.astore 6, 2) := by decide +kernel
theorem dL_open_23 : decode cL_open 23 = .ok (.iconst 2, 1) := by decide +kernel
theorem dL_open_24 : decode cL_open 24 = .ok (.ireturn, 1) := by decide +kernel
theorem dL_open_25 : decode cL_open 25 = .ok (.iconst 0, 1) := by decide +kernel
theorem dL_open_26 : decode cL_open 26 = .ok (.ireturn, 1) := by decide +kernel
theorem dL_kind_0 : decode cL_kind 0 = .ok (.aload_n 2, 1) := by decide +kernel
theorem dL_kind_1 : decode cL_kind 1 = .ok (.iconst 0, 1) := by decide +kernel
theorem dL_kind_2 : decode cL_kind 2 = .ok (.aload_n 0, 1) := by decide +kernel
theorem dL_kind_3 : decode cL_kind 3 = .ok (.iload_n 1, 1) := by decide +kernel
theorem dL_kind_4 : decode cL_kind 4 = .ok (.invokevirtual 45, 3) := by decide +kernel
theorem dL_kind_7 : decode cL_kind 7 = .ok (.i2l, 1) := by decide +kernel
theorem dL_kind_8 : decode cL_kind 8 = .ok (.lastore, 1) := by decide +kernel
theorem dL_kind_9 : decode cL_kind 9 = .ok (.goto 6, 3) := by decide +kernel
theorem dL_kind_12 : decode cL_kind 12 = .ok (.astore_n 3, 1) := by decide +kernel
theorem dL_kind_13 : decode cL_kind 13 = .ok (.iconst 1, 1) := by decide +kernel
theorem dL_kind_14 : decode cL_kind 14 = .ok (.ireturn, 1) := by decide +kernel
theorem dL_kind_15 : decode cL_kind 15 = .ok (.iconst 0, 1) := by decide +kernel
theorem dL_kind_16 : decode cL_kind 16 = .ok (.ireturn, 1) := by decide +kernel
theorem dL_read_0 : decode cL_read 0 = .ok (.aload_n 2, 1) := by decide +kernel
theorem dL_read_1 : decode cL_read 1 = .ok (.iconst 0, 1) := by decide +kernel
theorem dL_read_2 : decode cL_read 2 = .ok (.aload_n 0, 1) := by decide +kernel
theorem dL_read_3 : decode cL_read 3 = .ok (.iload_n 1, 1) := by decide +kernel
theorem dL_read_4 : decode cL_read 4 = .ok (.invokevirtual 48, 3) := by decide +kernel
theorem dL_read_7 : decode cL_read 7 = .ok (.i2l, 1) := by decide +kernel
theorem dL_read_8 : decode cL_read 8 = .ok (.lastore, 1) := by decide +kernel
theorem dL_read_9 : decode cL_read 9 = .ok (.goto 9, 3) := by decide +kernel
theorem dL_read_12 : decode cL_read 12 = .ok (.astore_n 3, 1) := by decide +kernel
theorem dL_read_13 : decode cL_read 13 = .ok (.iconst 1, 1) := by decide +kernel
theorem dL_read_14 : decode cL_read 14 = .ok (.ireturn, 1) := by decide +kernel
theorem dL_read_15 : decode cL_read 15 = .ok (.astore_n 3, 1) := by decide +kernel
theorem dL_read_16 : decode cL_read 16 = .ok (.iconst 2, 1) := by decide +kernel
theorem dL_read_17 : decode cL_read 17 = .ok (.ireturn, 1) := by decide +kernel
theorem dL_read_18 : decode cL_read 18 = .ok (.iconst 0, 1) := by decide +kernel
theorem dL_read_19 : decode cL_read 19 = .ok (.ireturn, 1) := by decide +kernel
theorem dL_readPart_0 : decode cL_readPart 0 = .ok (.aload_n 3, 1) := by decide +kernel
theorem dL_readPart_1 : decode cL_readPart 1 = .ok (.iconst 0, 1) := by decide +kernel
theorem dL_readPart_2 : decode cL_readPart 2 = .ok (.aload_n 0, 1) := by decide +kernel
theorem dL_readPart_3 : decode cL_readPart 3 = .ok (.iload_n 1, 1) := by decide +kernel
theorem dL_readPart_4 : decode cL_readPart 4 = .ok (.iload_n 2, 1) := by decide +kernel
theorem dL_readPart_5 : decode cL_readPart 5 = .ok (.invokevirtual 53, 3) := by decide +kernel
theorem dL_readPart_8 : decode cL_readPart 8 = .ok (.i2l, 1) := by decide +kernel
theorem dL_readPart_9 : decode cL_readPart 9 = .ok (.lastore, 1) := by decide +kernel
theorem dL_readPart_10 : decode cL_readPart 10 = .ok (.goto 15, 3) := by decide +kernel
theorem dL_readPart_13 : decode cL_readPart 13 = .ok (.astore 4, 2) := by decide +kernel
theorem dL_readPart_15 : decode cL_readPart 15 = .ok (.iconst 1, 1) := by decide +kernel
theorem dL_readPart_16 : decode cL_readPart 16 = .ok (.ireturn, 1) := by decide +kernel
theorem dL_readPart_17 : decode cL_readPart 17 = .ok (.astore 4, 2) := by decide +kernel
theorem dL_readPart_19 : decode cL_readPart 19 = .ok (.iconst 2, 1) := by decide +kernel
theorem dL_readPart_20 : decode cL_readPart 20 = .ok (.ireturn, 1) := by decide +kernel
theorem dL_readPart_21 : decode cL_readPart 21 = .ok (.astore 4, 2) := by decide +kernel
theorem dL_readPart_23 : decode cL_readPart 23 = .ok (.iconst 3, 1) := by decide +kernel
theorem dL_readPart_24 : decode cL_readPart 24 = .ok (.ireturn, 1) := by decide +kernel
theorem dL_readPart_25 : decode cL_readPart 25 = .ok (.iconst 0, 1) := by decide +kernel
theorem dL_readPart_26 : decode cL_readPart 26 = .ok (.ireturn, 1) := by decide +kernel
theorem dL_partAt_0 : decode cL_partAt 0 = .ok (.aload_n 2, 1) := by decide +kernel
theorem dL_partAt_1 : decode cL_partAt 1 = .ok (.iconst 0, 1) := by decide +kernel
theorem dL_partAt_2 : decode cL_partAt 2 = .ok (.aload_n 0, 1) := by decide +kernel
theorem dL_partAt_3 : decode cL_partAt 3 = .ok (.iload_n 1, 1) := by decide +kernel
theorem dL_partAt_4 : decode cL_partAt 4 = .ok (.invokevirtual 56, 3) := by decide +kernel
theorem dL_partAt_7 : decode cL_partAt 7 = .ok (.i2l, 1) := by decide +kernel
theorem dL_partAt_8 : decode cL_partAt 8 = .ok (.lastore, 1) := by decide +kernel
theorem dL_partAt_9 : decode cL_partAt 9 = .ok (.goto 6, 3) := by decide +kernel
theorem dL_partAt_12 : decode cL_partAt 12 = .ok (.astore_n 3, 1) := by decide +kernel
theorem dL_partAt_13 : decode cL_partAt 13 = .ok (.iconst 1, 1) := by decide +kernel
theorem dL_partAt_14 : decode cL_partAt 14 = .ok (.ireturn, 1) := by decide +kernel
theorem dL_partAt_15 : decode cL_partAt 15 = .ok (.iconst 0, 1) := by decide +kernel
theorem dL_partAt_16 : decode cL_partAt 16 = .ok (.ireturn, 1) := by decide +kernel
theorem dL_skip_0 : decode cL_skip 0 = .ok (.aload_n 3, 1) := by decide +kernel
theorem dL_skip_1 : decode cL_skip 1 = .ok (.iconst 0, 1) := by decide +kernel
theorem dL_skip_2 : decode cL_skip 2 = .ok (.aload_n 0, 1) := by decide +kernel
theorem dL_skip_3 : decode cL_skip 3 = .ok (.iload_n 1, 1) := by decide +kernel
theorem dL_skip_4 : decode cL_skip 4 = .ok (.iload_n 2, 1) := by decide +kernel
theorem dL_skip_5 : decode cL_skip 5 = .ok (.invokevirtual 59, 3) := by decide +kernel
theorem dL_skip_8 : decode cL_skip 8 = .ok (.i2l, 1) := by decide +kernel
theorem dL_skip_9 : decode cL_skip 9 = .ok (.lastore, 1) := by decide +kernel
theorem dL_skip_10 : decode cL_skip 10 = .ok (.goto 15, 3) := by decide +kernel
theorem dL_skip_13 : decode cL_skip 13 = .ok (.astore 4, 2) := by decide +kernel
theorem dL_skip_15 : decode cL_skip 15 = .ok (.iconst 1, 1) := by decide +kernel
theorem dL_skip_16 : decode cL_skip 16 = .ok (.ireturn, 1) := by decide +kernel
theorem dL_skip_17 : decode cL_skip 17 = .ok (.astore 4, 2) := by decide +kernel
theorem dL_skip_19 : decode cL_skip 19 = .ok (.iconst 2, 1) := by decide +kernel
theorem dL_skip_20 : decode cL_skip 20 = .ok (.ireturn, 1) := by decide +kernel
theorem dL_skip_21 : decode cL_skip 21 = .ok (.astore 4, 2) := by decide +kernel
theorem dL_skip_23 : decode cL_skip 23 = .ok (.iconst 3, 1) := by decide +kernel
theorem dL_skip_24 : decode cL_skip 24 = .ok (.ireturn, 1) := by decide +kernel
theorem dL_skip_25 : decode cL_skip 25 = .ok (.iconst 0, 1) := by decide +kernel
theorem dL_skip_26 : decode cL_skip 26 = .ok (.ireturn, 1) := by decide +kernel
theorem dL_readLine_0 : decode cL_readLine 0 = .ok (.aload_n 3, 1) := by decide +kernel
theorem dL_readLine_1 : decode cL_readLine 1 = .ok (.iconst 0, 1) := by decide +kernel
theorem dL_readLine_2 : decode cL_readLine 2 = .ok (.aload_n 0, 1) := by decide +kernel
theorem dL_readLine_3 : decode cL_readLine 3 = .ok (.iload_n 1, 1) := by decide +kernel
theorem dL_readLine_4 : decode cL_readLine 4 = .ok (.iload_n 2, 1) := by decide +kernel
theorem dL_readLine_5 : decode cL_readLine 5 = .ok (.invokevirtual 62, 3) := by decide +kernel
theorem dL_readLine_8 : decode cL_readLine 8 = .ok (.i2l, 1) := by decide +kernel
theorem dL_readLine_9 : decode cL_readLine 9 = .ok (.lastore, 1) := by decide +kernel
theorem dL_readLine_10 : decode cL_readLine 10 = .ok (.goto 15, 3) := by decide +kernel
theorem dL_readLine_13 : decode cL_readLine 13 = .ok (.astore 4, 2) := by decide +kernel
theorem dL_readLine_15 : decode cL_readLine 15 = .ok (.iconst 1, 1) := by decide +kernel
theorem dL_readLine_16 : decode cL_readLine 16 = .ok (.ireturn, 1) := by decide +kernel
theorem dL_readLine_17 : decode cL_readLine 17 = .ok (.astore 4, 2) := by decide +kernel
theorem dL_readLine_19 : decode cL_readLine 19 = .ok (.iconst 2, 1) := by decide +kernel
theorem dL_readLine_20 : decode cL_readLine 20 = .ok (.ireturn, 1) := by decide +kernel
theorem dL_readLine_21 : decode cL_readLine 21 = .ok (.astore 4, 2) := by decide +kernel
theorem dL_readLine_23 : decode cL_readLine 23 = .ok (.iconst 3, 1) := by decide +kernel
theorem dL_readLine_24 : decode cL_readLine 24 = .ok (.ireturn, 1) := by decide +kernel
theorem dL_readLine_25 : decode cL_readLine 25 = .ok (.iconst 0, 1) := by decide +kernel
theorem dL_readLine_26 : decode cL_readLine 26 = .ok (.ireturn, 1) := by decide +kernel
theorem dL_pour_0 : decode cL_pour 0 = .ok (.aload_n 3, 1) := by decide +kernel
theorem dL_pour_1 : decode cL_pour 1 = .ok (.iconst 0, 1) := by decide +kernel
theorem dL_pour_2 : decode cL_pour 2 = .ok (.aload_n 0, 1) := by decide +kernel
theorem dL_pour_3 : decode cL_pour 3 = .ok (.iload_n 1, 1) := by decide +kernel
theorem dL_pour_4 : decode cL_pour 4 = .ok (.iload_n 2, 1) := by decide +kernel
theorem dL_pour_5 : decode cL_pour 5 = .ok (.invokevirtual 65, 3) := by decide +kernel
theorem dL_pour_8 : decode cL_pour 8 = .ok (.i2l, 1) := by decide +kernel
theorem dL_pour_9 : decode cL_pour 9 = .ok (.lastore, 1) := by decide +kernel
theorem dL_pour_10 : decode cL_pour 10 = .ok (.goto 15, 3) := by decide +kernel
theorem dL_pour_13 : decode cL_pour 13 = .ok (.astore 4, 2) := by decide +kernel
theorem dL_pour_15 : decode cL_pour 15 = .ok (.iconst 1, 1) := by decide +kernel
theorem dL_pour_16 : decode cL_pour 16 = .ok (.ireturn, 1) := by decide +kernel
theorem dL_pour_17 : decode cL_pour 17 = .ok (.astore 4, 2) := by decide +kernel
theorem dL_pour_19 : decode cL_pour 19 = .ok (.iconst 2, 1) := by decide +kernel
theorem dL_pour_20 : decode cL_pour 20 = .ok (.ireturn, 1) := by decide +kernel
theorem dL_pour_21 : decode cL_pour 21 = .ok (.astore 4, 2) := by decide +kernel
theorem dL_pour_23 : decode cL_pour 23 = .ok (.iconst 3, 1) := by decide +kernel
theorem dL_pour_24 : decode cL_pour 24 = .ok (.ireturn, 1) := by decide +kernel
theorem dL_pour_25 : decode cL_pour 25 = .ok (.iconst 0, 1) := by decide +kernel
theorem dL_pour_26 : decode cL_pour 26 = .ok (.ireturn, 1) := by decide +kernel
theorem dL_alike_0 : decode cL_alike 0 = .ok (.aload_n 3, 1) := by decide +kernel
theorem dL_alike_1 : decode cL_alike 1 = .ok (.iconst 0, 1) := by decide +kernel
theorem dL_alike_2 : decode cL_alike 2 = .ok (.aload_n 0, 1) := by decide +kernel
theorem dL_alike_3 : decode cL_alike 3 = .ok (.iload_n 1, 1) := by decide +kernel
theorem dL_alike_4 : decode cL_alike 4 = .ok (.iload_n 2, 1) := by decide +kernel
theorem dL_alike_5 : decode cL_alike 5 = .ok (.invokevirtual 68, 3) := by decide +kernel
theorem dL_alike_8 : decode cL_alike 8 = .ok (.i2l, 1) := by decide +kernel
theorem dL_alike_9 : decode cL_alike 9 = .ok (.lastore, 1) := by decide +kernel
theorem dL_alike_10 : decode cL_alike 10 = .ok (.goto 15, 3) := by decide +kernel
theorem dL_alike_13 : decode cL_alike 13 = .ok (.astore 4, 2) := by decide +kernel
theorem dL_alike_15 : decode cL_alike 15 = .ok (.iconst 1, 1) := by decide +kernel
theorem dL_alike_16 : decode cL_alike 16 = .ok (.ireturn, 1) := by decide +kernel
theorem dL_alike_17 : decode cL_alike 17 = .ok (.astore 4, 2) := by decide +kernel
theorem dL_alike_19 : decode cL_alike 19 = .ok (.iconst 2, 1) := by decide +kernel
theorem dL_alike_20 : decode cL_alike 20 = .ok (.ireturn, 1) := by decide +kernel
theorem dL_alike_21 : decode cL_alike 21 = .ok (.astore 4, 2) := by decide +kernel
theorem dL_alike_23 : decode cL_alike 23 = .ok (.iconst 3, 1) := by decide +kernel
theorem dL_alike_24 : decode cL_alike 24 = .ok (.ireturn, 1) := by decide +kernel
theorem dL_alike_25 : decode cL_alike 25 = .ok (.iconst 0, 1) := by decide +kernel
theorem dL_alike_26 : decode cL_alike 26 = .ok (.ireturn, 1) := by decide +kernel
theorem dL_canMark_0 : decode cL_canMark 0 = .ok (.aload_n 2, 1) := by decide +kernel
theorem dL_canMark_1 : decode cL_canMark 1 = .ok (.iconst 0, 1) := by decide +kernel
theorem dL_canMark_2 : decode cL_canMark 2 = .ok (.aload_n 0, 1) := by decide +kernel
theorem dL_canMark_3 : decode cL_canMark 3 = .ok (.iload_n 1, 1) := by decide +kernel
theorem dL_canMark_4 : decode cL_canMark 4 = .ok (.invokevirtual 71, 3) := by decide +kernel
theorem dL_canMark_7 : decode cL_canMark 7 = .ok (.ifCond .eq 7, 3) := by decide +kernel
theorem dL_canMark_10 : decode cL_canMark 10 = .ok (.lconst 1, 1) := by decide +kernel
theorem dL_canMark_11 : decode cL_canMark 11 = .ok (.goto 4, 3) := by decide +kernel
theorem dL_canMark_14 : decode cL_canMark 14 = .ok (.lconst 0, 1) := by decide +kernel
theorem dL_canMark_15 : decode cL_canMark 15 = .ok (.lastore, 1) := by decide +kernel
theorem dL_canMark_16 : decode cL_canMark 16 = .ok (.goto 9, 3) := by decide +kernel
theorem dL_canMark_19 : decode cL_canMark 19 = .ok (.astore_n 3, 1) := by decide +kernel
theorem dL_canMark_20 : decode cL_canMark 20 = .ok (.iconst 1, 1) := by decide +kernel
theorem dL_canMark_21 : decode cL_canMark 21 = .ok (.ireturn, 1) := by decide +kernel
theorem dL_canMark_22 : decode cL_canMark 22 = .ok (.astore_n 3, 1) := by decide +kernel
theorem dL_canMark_23 : decode cL_canMark 23 = .ok (.iconst 2, 1) := by decide +kernel
theorem dL_canMark_24 : decode cL_canMark 24 = .ok (.ireturn, 1) := by decide +kernel
theorem dL_canMark_25 : decode cL_canMark 25 = .ok (.iconst 0, 1) := by decide +kernel
theorem dL_canMark_26 : decode cL_canMark 26 = .ok (.ireturn, 1) := by decide +kernel
theorem dL_mark_0 : decode cL_mark 0 = .ok (.aload_n 2, 1) := by decide +kernel
theorem dL_mark_1 : decode cL_mark 1 = .ok (.iconst 0, 1) := by decide +kernel
theorem dL_mark_2 : decode cL_mark 2 = .ok (.aload_n 0, 1) := by decide +kernel
theorem dL_mark_3 : decode cL_mark 3 = .ok (.iload_n 1, 1) := by decide +kernel
theorem dL_mark_4 : decode cL_mark 4 = .ok (.invokevirtual 75, 3) := by decide +kernel
theorem dL_mark_7 : decode cL_mark 7 = .ok (.i2l, 1) := by decide +kernel
theorem dL_mark_8 : decode cL_mark 8 = .ok (.lastore, 1) := by decide +kernel
theorem dL_mark_9 : decode cL_mark 9 = .ok (.goto 9, 3) := by decide +kernel
theorem dL_mark_12 : decode cL_mark 12 = .ok (.astore_n 3, 1) := by decide +kernel
theorem dL_mark_13 : decode cL_mark 13 = .ok (.iconst 1, 1) := by decide +kernel
theorem dL_mark_14 : decode cL_mark 14 = .ok (.ireturn, 1) := by decide +kernel
theorem dL_mark_15 : decode cL_mark 15 = .ok (.astore_n 3, 1) := by decide +kernel
theorem dL_mark_16 : decode cL_mark 16 = .ok (.iconst 2, 1) := by decide +kernel
theorem dL_mark_17 : decode cL_mark 17 = .ok (.ireturn, 1) := by decide +kernel
theorem dL_mark_18 : decode cL_mark 18 = .ok (.iconst 0, 1) := by decide +kernel
theorem dL_mark_19 : decode cL_mark 19 = .ok (.ireturn, 1) := by decide +kernel
theorem dL_back_0 : decode cL_back 0 = .ok (.aload_n 2, 1) := by decide +kernel
theorem dL_back_1 : decode cL_back 1 = .ok (.iconst 0, 1) := by decide +kernel
theorem dL_back_2 : decode cL_back 2 = .ok (.aload_n 0, 1) := by decide +kernel
theorem dL_back_3 : decode cL_back 3 = .ok (.iload_n 1, 1) := by decide +kernel
theorem dL_back_4 : decode cL_back 4 = .ok (.invokevirtual 78, 3) := by decide +kernel
theorem dL_back_7 : decode cL_back 7 = .ok (.i2l, 1) := by decide +kernel
theorem dL_back_8 : decode cL_back 8 = .ok (.lastore, 1) := by decide +kernel
theorem dL_back_9 : decode cL_back 9 = .ok (.goto 9, 3) := by decide +kernel
theorem dL_back_12 : decode cL_back 12 = .ok (.astore_n 3, 1) := by decide +kernel
theorem dL_back_13 : decode cL_back 13 = .ok (.iconst 1, 1) := by decide +kernel
theorem dL_back_14 : decode cL_back 14 = .ok (.ireturn, 1) := by decide +kernel
theorem dL_back_15 : decode cL_back 15 = .ok (.astore_n 3, 1) := by decide +kernel
theorem dL_back_16 : decode cL_back 16 = .ok (.iconst 2, 1) := by decide +kernel
theorem dL_back_17 : decode cL_back 17 = .ok (.ireturn, 1) := by decide +kernel
theorem dL_back_18 : decode cL_back 18 = .ok (.iconst 0, 1) := by decide +kernel
theorem dL_back_19 : decode cL_back 19 = .ok (.ireturn, 1) := by decide +kernel
theorem dL_left_0 : decode cL_left 0 = .ok (.aload_n 2, 1) := by decide +kernel
theorem dL_left_1 : decode cL_left 1 = .ok (.iconst 0, 1) := by decide +kernel
theorem dL_left_2 : decode cL_left 2 = .ok (.aload_n 0, 1) := by decide +kernel
theorem dL_left_3 : decode cL_left 3 = .ok (.iload_n 1, 1) := by decide +kernel
theorem dL_left_4 : decode cL_left 4 = .ok (.invokevirtual 81, 3) := by decide +kernel
theorem dL_left_7 : decode cL_left 7 = .ok (.i2l, 1) := by decide +kernel
theorem dL_left_8 : decode cL_left 8 = .ok (.lastore, 1) := by decide +kernel
theorem dL_left_9 : decode cL_left 9 = .ok (.goto 9, 3) := by decide +kernel
theorem dL_left_12 : decode cL_left 12 = .ok (.astore_n 3, 1) := by decide +kernel
theorem dL_left_13 : decode cL_left 13 = .ok (.iconst 1, 1) := by decide +kernel
theorem dL_left_14 : decode cL_left 14 = .ok (.ireturn, 1) := by decide +kernel
theorem dL_left_15 : decode cL_left 15 = .ok (.astore_n 3, 1) := by decide +kernel
theorem dL_left_16 : decode cL_left 16 = .ok (.iconst 2, 1) := by decide +kernel
theorem dL_left_17 : decode cL_left 17 = .ok (.ireturn, 1) := by decide +kernel
theorem dL_left_18 : decode cL_left 18 = .ok (.iconst 0, 1) := by decide +kernel
theorem dL_left_19 : decode cL_left 19 = .ok (.ireturn, 1) := by decide +kernel
theorem dL_line_0 : decode cL_line 0 = .ok (.aload_n 2, 1) := by decide +kernel
theorem dL_line_1 : decode cL_line 1 = .ok (.iconst 0, 1) := by decide +kernel
theorem dL_line_2 : decode cL_line 2 = .ok (.aload_n 0, 1) := by decide +kernel
theorem dL_line_3 : decode cL_line 3 = .ok (.iload_n 1, 1) := by decide +kernel
theorem dL_line_4 : decode cL_line 4 = .ok (.invokevirtual 84, 3) := by decide +kernel
theorem dL_line_7 : decode cL_line 7 = .ok (.i2l, 1) := by decide +kernel
theorem dL_line_8 : decode cL_line 8 = .ok (.lastore, 1) := by decide +kernel
theorem dL_line_9 : decode cL_line 9 = .ok (.goto 9, 3) := by decide +kernel
theorem dL_line_12 : decode cL_line 12 = .ok (.astore_n 3, 1) := by decide +kernel
theorem dL_line_13 : decode cL_line 13 = .ok (.iconst 1, 1) := by decide +kernel
theorem dL_line_14 : decode cL_line 14 = .ok (.ireturn, 1) := by decide +kernel
theorem dL_line_15 : decode cL_line 15 = .ok (.astore_n 3, 1) := by decide +kernel
theorem dL_line_16 : decode cL_line 16 = .ok (.iconst 2, 1) := by decide +kernel
theorem dL_line_17 : decode cL_line 17 = .ok (.ireturn, 1) := by decide +kernel
theorem dL_line_18 : decode cL_line 18 = .ok (.iconst 0, 1) := by decide +kernel
theorem dL_line_19 : decode cL_line 19 = .ok (.ireturn, 1) := by decide +kernel
theorem dL_setLine_0 : decode cL_setLine 0 = .ok (.aload_n 3, 1) := by decide +kernel
theorem dL_setLine_1 : decode cL_setLine 1 = .ok (.iconst 0, 1) := by decide +kernel
theorem dL_setLine_2 : decode cL_setLine 2 = .ok (.aload_n 0, 1) := by decide +kernel
theorem dL_setLine_3 : decode cL_setLine 3 = .ok (.iload_n 1, 1) := by decide +kernel
theorem dL_setLine_4 : decode cL_setLine 4 = .ok (.iload_n 2, 1) := by decide +kernel
theorem dL_setLine_5 : decode cL_setLine 5 = .ok (.invokevirtual 87, 3) := by decide +kernel
theorem dL_setLine_8 : decode cL_setLine 8 = .ok (.i2l, 1) := by decide +kernel
theorem dL_setLine_9 : decode cL_setLine 9 = .ok (.lastore, 1) := by decide +kernel
theorem dL_setLine_10 : decode cL_setLine 10 = .ok (.goto 11, 3) := by decide +kernel
theorem dL_setLine_13 : decode cL_setLine 13 = .ok (.astore 4, 2) := by decide +kernel
theorem dL_setLine_15 : decode cL_setLine 15 = .ok (.iconst 1, 1) := by decide +kernel
theorem dL_setLine_16 : decode cL_setLine 16 = .ok (.ireturn, 1) := by decide +kernel
theorem dL_setLine_17 : decode cL_setLine 17 = .ok (.astore 4, 2) := by decide +kernel
theorem dL_setLine_19 : decode cL_setLine 19 = .ok (.iconst 2, 1) := by decide +kernel
theorem dL_setLine_20 : decode cL_setLine 20 = .ok (.ireturn, 1) := by decide +kernel
theorem dL_setLine_21 : decode cL_setLine 21 = .ok (.iconst 0, 1) := by decide +kernel
theorem dL_setLine_22 : decode cL_setLine 22 = .ok (.ireturn, 1) := by decide +kernel
theorem dL_check_0 : decode cL_check 0 = .ok (.aload_n 2, 1) := by decide +kernel
theorem dL_check_1 : decode cL_check 1 = .ok (.iconst 0, 1) := by decide +kernel
theorem dL_check_2 : decode cL_check 2 = .ok (.aload_n 0, 1) := by decide +kernel
theorem dL_check_3 : decode cL_check 3 = .ok (.iload_n 1, 1) := by decide +kernel
theorem dL_check_4 : decode cL_check 4 = .ok (.invokevirtual 90, 3) := by decide +kernel
theorem dL_check_7 : decode cL_check 7 = .ok (.lastore, 1) := by decide +kernel
theorem dL_check_8 : decode cL_check 8 = .ok (.goto 9, 3) := by decide +kernel
theorem dL_check_11 : decode cL_check 11 = .ok (.astore_n 3, 1) := by decide +kernel
theorem dL_check_12 : decode cL_check 12 = .ok (.iconst 1, 1) := by decide +kernel
theorem dL_check_13 : decode cL_check 13 = .ok (.ireturn, 1) := by decide +kernel
theorem dL_check_14 : decode cL_check 14 = .ok (.astore_n 3, 1) := by decide +kernel
theorem dL_check_15 : decode cL_check 15 = .ok (.iconst 2, 1) := by decide +kernel
theorem dL_check_16 : decode cL_check 16 = .ok (.ireturn, 1) := by decide +kernel
theorem dL_check_17 : decode cL_check 17 = .ok (.iconst 0, 1) := by decide +kernel
theorem dL_check_18 : decode cL_check 18 = .ok (.ireturn, 1) := by decide +kernel
theorem dL_checkAnew_0 : decode cL_checkAnew 0 = .ok (.aload_n 2, 1) := by decide +kernel
theorem dL_checkAnew_1 : decode cL_checkAnew 1 = .ok (.iconst 0, 1) := by decide +kernel
theorem dL_checkAnew_2 : decode cL_checkAnew 2 = .ok (.aload_n 0, 1) := by decide +kernel
theorem dL_checkAnew_3 : decode cL_checkAnew 3 = .ok (.iload_n 1, 1) := by decide +kernel
theorem dL_checkAnew_4 : decode cL_checkAnew 4 = .ok (.invokevirtual 94, 3) := by decide +kernel
theorem dL_checkAnew_7 : decode cL_checkAnew 7 = .ok (.lastore, 1) := by decide +kernel
theorem dL_checkAnew_8 : decode cL_checkAnew 8 = .ok (.goto 9, 3) := by decide +kernel
theorem dL_checkAnew_11 : decode cL_checkAnew 11 = .ok (.astore_n 3, 1) := by decide +kernel
theorem dL_checkAnew_12 : decode cL_checkAnew 12 = .ok (.iconst 1, 1) := by decide +kernel
theorem dL_checkAnew_13 : decode cL_checkAnew 13 = .ok (.ireturn, 1) := by decide +kernel
theorem dL_checkAnew_14 : decode cL_checkAnew 14 = .ok (.astore_n 3, 1) := by decide +kernel
theorem dL_checkAnew_15 : decode cL_checkAnew 15 = .ok (.iconst 2, 1) := by decide +kernel
theorem dL_checkAnew_16 : decode cL_checkAnew 16 = .ok (.ireturn, 1) := by decide +kernel
theorem dL_checkAnew_17 : decode cL_checkAnew 17 = .ok (.iconst 0, 1) := by decide +kernel
theorem dL_checkAnew_18 : decode cL_checkAnew 18 = .ok (.ireturn, 1) := by decide +kernel
theorem dL_checkOf_0 : decode cL_checkOf 0 = .ok (.aload_n 2, 1) := by decide +kernel
theorem dL_checkOf_1 : decode cL_checkOf 1 = .ok (.iconst 0, 1) := by decide +kernel
theorem dL_checkOf_2 : decode cL_checkOf 2 = .ok (.aload_n 0, 1) := by decide +kernel
theorem dL_checkOf_3 : decode cL_checkOf 3 = .ok (.iload_n 1, 1) := by decide +kernel
theorem dL_checkOf_4 : decode cL_checkOf 4 = .ok (.invokevirtual 97, 3) := by decide +kernel
theorem dL_checkOf_7 : decode cL_checkOf 7 = .ok (.lastore, 1) := by decide +kernel
theorem dL_checkOf_8 : decode cL_checkOf 8 = .ok (.goto 6, 3) := by decide +kernel
theorem dL_checkOf_11 : decode cL_checkOf 11 = .ok (.astore_n 3, 1) := by decide +kernel
theorem dL_checkOf_12 : decode cL_checkOf 12 = .ok (.iconst 1, 1) := by decide +kernel
theorem dL_checkOf_13 : decode cL_checkOf 13 = .ok (.ireturn, 1) := by decide +kernel
theorem dL_checkOf_14 : decode cL_checkOf 14 = .ok (.iconst 0, 1) := by decide +kernel
theorem dL_checkOf_15 : decode cL_checkOf 15 = .ok (.ireturn, 1) := by decide +kernel
theorem dL_share_0 : decode cL_share 0 = .ok (.aload_n 2, 1) := by decide +kernel
theorem dL_share_1 : decode cL_share 1 = .ok (.iconst 0, 1) := by decide +kernel
theorem dL_share_2 : decode cL_share 2 = .ok (.aload_n 0, 1) := by decide +kernel
theorem dL_share_3 : decode cL_share 3 = .ok (.iload_n 1, 1) := by decide +kernel
theorem dL_share_4 : decode cL_share 4 = .ok (.invokevirtual 100, 3) := by decide +kernel
theorem dL_share_7 : decode cL_share 7 = .ok (.f2d, 1) := by decide +kernel
theorem dL_share_8 : decode cL_share 8 = .ok (.dastore, 1) := by decide +kernel
theorem dL_share_9 : decode cL_share 9 = .ok (.goto 9, 3) := by decide +kernel
theorem dL_share_12 : decode cL_share 12 = .ok (.astore_n 3, 1) := by decide +kernel
theorem dL_share_13 : decode cL_share 13 = .ok (.iconst 1, 1) := by decide +kernel
theorem dL_share_14 : decode cL_share 14 = .ok (.ireturn, 1) := by decide +kernel
theorem dL_share_15 : decode cL_share 15 = .ok (.astore_n 3, 1) := by decide +kernel
theorem dL_share_16 : decode cL_share 16 = .ok (.iconst 2, 1) := by decide +kernel
theorem dL_share_17 : decode cL_share 17 = .ok (.ireturn, 1) := by decide +kernel
theorem dL_share_18 : decode cL_share 18 = .ok (.iconst 0, 1) := by decide +kernel
theorem dL_share_19 : decode cL_share 19 = .ok (.ireturn, 1) := by decide +kernel
theorem dL_meanLine_0 : decode cL_meanLine 0 = .ok (.aload_n 1, 1) := by decide +kernel
theorem dL_meanLine_1 : decode cL_meanLine 1 = .ok (.iconst 0, 1) := by decide +kernel
theorem dL_meanLine_2 : decode cL_meanLine 2 = .ok (.aload_n 0, 1) := by decide +kernel
theorem dL_meanLine_3 : decode cL_meanLine 3 = .ok (.invokevirtual 106, 3) := by decide +kernel
theorem dL_meanLine_6 : decode cL_meanLine 6 = .ok (.dastore, 1) := by decide +kernel
theorem dL_meanLine_7 : decode cL_meanLine 7 = .ok (.goto 6, 3) := by decide +kernel
theorem dL_meanLine_10 : decode cL_meanLine 10 = .ok (.astore_n 2, 1) := by decide +kernel
theorem dL_meanLine_11 : decode cL_meanLine 11 = .ok (.iconst 1, 1) := by decide +kernel
theorem dL_meanLine_12 : decode cL_meanLine 12 = .ok (.ireturn, 1) := by decide +kernel
theorem dL_meanLine_13 : decode cL_meanLine 13 = .ok (.iconst 0, 1) := by decide +kernel
theorem dL_meanLine_14 : decode cL_meanLine 14 = .ok (.ireturn, 1) := by decide +kernel

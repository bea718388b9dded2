theorem d_Row_init_0 : decode M_Row_init.2.1 0 = .ok (.aload_n 0, 1) := by decide +kernel
theorem d_Row_init_1 : decode M_Row_init.2.1 1 = .ok (.invokespecial 3, 3) := by decide +kernel
theorem d_Row_init_4 : decode M_Row_init.2.1 4 = .ok (.aload_n 0, 1) := by decide +kernel
theorem d_Row_init_5 : decode M_Row_init.2.1 5 = .ok (.iconst 0, 1) := by decide +kernel
theorem d_Row_init_6 : decode M_Row_init.2.1 6 = .ok (.putfield 9, 3) := by decide +kernel
theorem d_Row_init_9 : decode M_Row_init.2.1 9 = .ok (.aload_n 0, 1) := by decide +kernel
theorem d_Row_init_10 : decode M_Row_init.2.1 10 = .ok (.iload_n 1, 1) := by decide +kernel
theorem d_Row_init_11 : decode M_Row_init.2.1 11 = .ok (.newarray .int, 2) := by decide +kernel
theorem d_Row_init_13 : decode M_Row_init.2.1 13 = .ok (.putfield 15, 3) := by decide +kernel
theorem d_Row_init_16 : decode M_Row_init.2.1 16 = .ok (.return_, 1) := by decide +kernel
theorem d_Row_addNumber_0 : decode M_Row_addNumber.2.1 0 = .ok (.iload_n 3, 1) := by decide +kernel
theorem d_Row_addNumber_1 : decode M_Row_addNumber.2.1 1 = .ok (.iconst 1, 1) := by decide +kernel
theorem d_Row_addNumber_2 : decode M_Row_addNumber.2.1 2 = .ok (.isub, 1) := by decide +kernel
theorem d_Row_addNumber_3 : decode M_Row_addNumber.2.1 3 = .ok (.istore 4, 2) := by decide +kernel
theorem d_Row_addNumber_5 : decode M_Row_addNumber.2.1 5 = .ok (.iload 4, 2) := by decide +kernel
theorem d_Row_addNumber_7 : decode M_Row_addNumber.2.1 7 = .ok (.ifCond .lt 26, 3) := by decide +kernel
theorem d_Row_addNumber_10 : decode M_Row_addNumber.2.1 10 = .ok (.aload_n 0, 1) := by decide +kernel
theorem d_Row_addNumber_11 : decode M_Row_addNumber.2.1 11 = .ok (.lload_n 1, 1) := by decide +kernel
theorem d_Row_addNumber_12 : decode M_Row_addNumber.2.1 12 = .ok (.bipush 8, 2) := by decide +kernel
theorem d_Row_addNumber_14 : decode M_Row_addNumber.2.1 14 = .ok (.iload 4, 2) := by decide +kernel
theorem d_Row_addNumber_16 : decode M_Row_addNumber.2.1 16 = .ok (.imul, 1) := by decide +kernel
theorem d_Row_addNumber_17 : decode M_Row_addNumber.2.1 17 = .ok (.lshr, 1) := by decide +kernel
theorem d_Row_addNumber_18 : decode M_Row_addNumber.2.1 18 = .ok (.l2i, 1) := by decide +kernel
theorem d_Row_addNumber_19 : decode M_Row_addNumber.2.1 19 = .ok (.sipush 255, 3) := by decide +kernel
theorem d_Row_addNumber_22 : decode M_Row_addNumber.2.1 22 = .ok (.iand, 1) := by decide +kernel
theorem d_Row_addNumber_23 : decode M_Row_addNumber.2.1 23 = .ok (.invokevirtual 23, 3) := by decide +kernel
theorem d_Row_addNumber_26 : decode M_Row_addNumber.2.1 26 = .ok (.pop, 1) := by decide +kernel
theorem d_Row_addNumber_27 : decode M_Row_addNumber.2.1 27 = .ok (.iinc 4 (-1), 3) := by decide +kernel
theorem d_Row_addNumber_30 : decode M_Row_addNumber.2.1 30 = .ok (.goto (-25), 3) := by decide +kernel
theorem d_Row_addNumber_33 : decode M_Row_addNumber.2.1 33 = .ok (.return_, 1) := by decide +kernel
theorem d_Row_add_0 : decode M_Row_add.2.1 0 = .ok (.aload_n 0, 1) := by decide +kernel
theorem d_Row_add_1 : decode M_Row_add.2.1 1 = .ok (.getfield 9, 3) := by decide +kernel
theorem d_Row_add_4 : decode M_Row_add.2.1 4 = .ok (.aload_n 0, 1) := by decide +kernel
theorem d_Row_add_5 : decode M_Row_add.2.1 5 = .ok (.getfield 15, 3) := by decide +kernel
theorem d_Row_add_8 : decode M_Row_add.2.1 8 = .ok (.arraylength, 1) := by decide +kernel
theorem d_Row_add_9 : decode M_Row_add.2.1 9 = .ok (.if_icmp .lt 5, 3) := by decide +kernel
theorem d_Row_add_12 : decode M_Row_add.2.1 12 = .ok (.iconst 0, 1) := by decide +kernel
theorem d_Row_add_13 : decode M_Row_add.2.1 13 = .ok (.ireturn, 1) := by decide +kernel
theorem d_Row_add_14 : decode M_Row_add.2.1 14 = .ok (.aload_n 0, 1) := by decide +kernel
theorem d_Row_add_15 : decode M_Row_add.2.1 15 = .ok (.getfield 15, 3) := by decide +kernel
theorem d_Row_add_18 : decode M_Row_add.2.1 18 = .ok (.aload_n 0, 1) := by decide +kernel
theorem d_Row_add_19 : decode M_Row_add.2.1 19 = .ok (.getfield 9, 3) := by decide +kernel
theorem d_Row_add_22 : decode M_Row_add.2.1 22 = .ok (.iload_n 1, 1) := by decide +kernel
theorem d_Row_add_23 : decode M_Row_add.2.1 23 = .ok (.iastore, 1) := by decide +kernel
theorem d_Row_add_24 : decode M_Row_add.2.1 24 = .ok (.aload_n 0, 1) := by decide +kernel
theorem d_Row_add_25 : decode M_Row_add.2.1 25 = .ok (.dup, 1) := by decide +kernel
theorem d_Row_add_26 : decode M_Row_add.2.1 26 = .ok (.getfield 9, 3) := by decide +kernel
theorem d_Row_add_29 : decode M_Row_add.2.1 29 = .ok (.iconst 1, 1) := by decide +kernel
theorem d_Row_add_30 : decode M_Row_add.2.1 30 = .ok (.iadd, 1) := by decide +kernel
theorem d_Row_add_31 : decode M_Row_add.2.1 31 = .ok (.putfield 9, 3) := by decide +kernel
theorem d_Row_add_34 : decode M_Row_add.2.1 34 = .ok (.iconst 1, 1) := by decide +kernel
theorem d_Row_add_35 : decode M_Row_add.2.1 35 = .ok (.ireturn, 1) := by decide +kernel
theorem d_Row_size_0 : decode M_Row_size.2.1 0 = .ok (.aload_n 0, 1) := by decide +kernel
theorem d_Row_size_1 : decode M_Row_size.2.1 1 = .ok (.getfield 9, 3) := by decide +kernel
theorem d_Row_size_4 : decode M_Row_size.2.1 4 = .ok (.ireturn, 1) := by decide +kernel
theorem d_Row_clear_0 : decode M_Row_clear.2.1 0 = .ok (.aload_n 0, 1) := by decide +kernel
theorem d_Row_clear_1 : decode M_Row_clear.2.1 1 = .ok (.iconst 0, 1) := by decide +kernel
theorem d_Row_clear_2 : decode M_Row_clear.2.1 2 = .ok (.putfield 9, 3) := by decide +kernel
theorem d_Row_clear_5 : decode M_Row_clear.2.1 5 = .ok (.return_, 1) := by decide +kernel
theorem d_Row_at_0 : decode M_Row_at.2.1 0 = .ok (.iload_n 1, 1) := by decide +kernel
theorem d_Row_at_1 : decode M_Row_at.2.1 1 = .ok (.ifCond .lt 20, 3) := by decide +kernel
theorem d_Row_at_4 : decode M_Row_at.2.1 4 = .ok (.iload_n 1, 1) := by decide +kernel
theorem d_Row_at_5 : decode M_Row_at.2.1 5 = .ok (.aload_n 0, 1) := by decide +kernel
theorem d_Row_at_6 : decode M_Row_at.2.1 6 = .ok (.getfield 9, 3) := by decide +kernel
theorem d_Row_at_9 : decode M_Row_at.2.1 9 = .ok (.if_icmp .ge 12, 3) := by decide +kernel
theorem d_Row_at_12 : decode M_Row_at.2.1 12 = .ok (.aload_n 0, 1) := by decide +kernel
theorem d_Row_at_13 : decode M_Row_at.2.1 13 = .ok (.getfield 15, 3) := by decide +kernel
theorem d_Row_at_16 : decode M_Row_at.2.1 16 = .ok (.iload_n 1, 1) := by decide +kernel
theorem d_Row_at_17 : decode M_Row_at.2.1 17 = .ok (.iaload, 1) := by decide +kernel
theorem d_Row_at_18 : decode M_Row_at.2.1 18 = .ok (.goto 4, 3) := by decide +kernel
theorem d_Row_at_21 : decode M_Row_at.2.1 21 = .ok (.iconst (-1), 1) := by decide +kernel
theorem d_Row_at_22 : decode M_Row_at.2.1 22 = .ok (.ireturn, 1) := by decide +kernel
theorem d_Row_numberAt_0 : decode M_Row_numberAt.2.1 0 = .ok (.lconst 0, 1) := by decide +kernel
theorem d_Row_numberAt_1 : decode M_Row_numberAt.2.1 1 = .ok (.lstore_n 3, 1) := by decide +kernel
theorem d_Row_numberAt_2 : decode M_Row_numberAt.2.1 2 = .ok (.iconst 0, 1) := by decide +kernel
theorem d_Row_numberAt_3 : decode M_Row_numberAt.2.1 3 = .ok (.istore 5, 2) := by decide +kernel
theorem d_Row_numberAt_5 : decode M_Row_numberAt.2.1 5 = .ok (.iload 5, 2) := by decide +kernel
theorem d_Row_numberAt_7 : decode M_Row_numberAt.2.1 7 = .ok (.iload_n 2, 1) := by decide +kernel
theorem d_Row_numberAt_8 : decode M_Row_numberAt.2.1 8 = .ok (.if_icmp .ge 25, 3) := by decide +kernel
theorem d_Row_numberAt_11 : decode M_Row_numberAt.2.1 11 = .ok (.lload_n 3, 1) := by decide +kernel
theorem d_Row_numberAt_12 : decode M_Row_numberAt.2.1 12 = .ok (.ldc2_w 27, 3) := by decide +kernel
theorem d_Row_numberAt_15 : decode M_Row_numberAt.2.1 15 = .ok (.lmul, 1) := by decide +kernel
theorem d_Row_numberAt_16 : decode M_Row_numberAt.2.1 16 = .ok (.aload_n 0, 1) := by decide +kernel
theorem d_Row_numberAt_17 : decode M_Row_numberAt.2.1 17 = .ok (.iload_n 1, 1) := by decide +kernel
theorem d_Row_numberAt_18 : decode M_Row_numberAt.2.1 18 = .ok (.iload 5, 2) := by decide +kernel
theorem d_Row_numberAt_20 : decode M_Row_numberAt.2.1 20 = .ok (.iadd, 1) := by decide +kernel
theorem d_Row_numberAt_21 : decode M_Row_numberAt.2.1 21 = .ok (.invokevirtual 19, 3) := by decide +kernel
theorem d_Row_numberAt_24 : decode M_Row_numberAt.2.1 24 = .ok (.i2l, 1) := by decide +kernel
theorem d_Row_numberAt_25 : decode M_Row_numberAt.2.1 25 = .ok (.ladd, 1) := by decide +kernel
theorem d_Row_numberAt_26 : decode M_Row_numberAt.2.1 26 = .ok (.lstore_n 3, 1) := by decide +kernel
theorem d_Row_numberAt_27 : decode M_Row_numberAt.2.1 27 = .ok (.iinc 5 1, 3) := by decide +kernel
theorem d_Row_numberAt_30 : decode M_Row_numberAt.2.1 30 = .ok (.goto (-25), 3) := by decide +kernel
theorem d_Row_numberAt_33 : decode M_Row_numberAt.2.1 33 = .ok (.lload_n 3, 1) := by decide +kernel
theorem d_Row_numberAt_34 : decode M_Row_numberAt.2.1 34 = .ok (.lreturn, 1) := by decide +kernel
theorem d_Row_openTag_0 : decode M_Row_openTag.2.1 0 = .ok (.iload_n 1, 1) := by decide +kernel
theorem d_Row_openTag_1 : decode M_Row_openTag.2.1 1 = .ok (.sipush 255, 3) := by decide +kernel
theorem d_Row_openTag_4 : decode M_Row_openTag.2.1 4 = .ok (.if_icmp .le 12, 3) := by decide +kernel
theorem d_Row_openTag_7 : decode M_Row_openTag.2.1 7 = .ok (.aload_n 0, 1) := by decide +kernel
theorem d_Row_openTag_8 : decode M_Row_openTag.2.1 8 = .ok (.iload_n 1, 1) := by decide +kernel
theorem d_Row_openTag_9 : decode M_Row_openTag.2.1 9 = .ok (.bipush 8, 2) := by decide +kernel
theorem d_Row_openTag_11 : decode M_Row_openTag.2.1 11 = .ok (.ishr, 1) := by decide +kernel
theorem d_Row_openTag_12 : decode M_Row_openTag.2.1 12 = .ok (.invokevirtual 23, 3) := by decide +kernel
theorem d_Row_openTag_15 : decode M_Row_openTag.2.1 15 = .ok (.pop, 1) := by decide +kernel
theorem d_Row_openTag_16 : decode M_Row_openTag.2.1 16 = .ok (.aload_n 0, 1) := by decide +kernel
theorem d_Row_openTag_17 : decode M_Row_openTag.2.1 17 = .ok (.iload_n 1, 1) := by decide +kernel
theorem d_Row_openTag_18 : decode M_Row_openTag.2.1 18 = .ok (.sipush 255, 3) := by decide +kernel
theorem d_Row_openTag_21 : decode M_Row_openTag.2.1 21 = .ok (.iand, 1) := by decide +kernel
theorem d_Row_openTag_22 : decode M_Row_openTag.2.1 22 = .ok (.invokevirtual 23, 3) := by decide +kernel
theorem d_Row_openTag_25 : decode M_Row_openTag.2.1 25 = .ok (.pop, 1) := by decide +kernel
theorem d_Row_openTag_26 : decode M_Row_openTag.2.1 26 = .ok (.aload_n 0, 1) := by decide +kernel
theorem d_Row_openTag_27 : decode M_Row_openTag.2.1 27 = .ok (.iconst 0, 1) := by decide +kernel
theorem d_Row_openTag_28 : decode M_Row_openTag.2.1 28 = .ok (.invokevirtual 23, 3) := by decide +kernel
theorem d_Row_openTag_31 : decode M_Row_openTag.2.1 31 = .ok (.pop, 1) := by decide +kernel
theorem d_Row_openTag_32 : decode M_Row_openTag.2.1 32 = .ok (.aload_n 0, 1) := by decide +kernel
theorem d_Row_openTag_33 : decode M_Row_openTag.2.1 33 = .ok (.getfield 9, 3) := by decide +kernel
theorem d_Row_openTag_36 : decode M_Row_openTag.2.1 36 = .ok (.ireturn, 1) := by decide +kernel
theorem d_Row_addRow_0 : decode M_Row_addRow.2.1 0 = .ok (.iconst 0, 1) := by decide +kernel
theorem d_Row_addRow_1 : decode M_Row_addRow.2.1 1 = .ok (.istore_n 2, 1) := by decide +kernel
theorem d_Row_addRow_2 : decode M_Row_addRow.2.1 2 = .ok (.iload_n 2, 1) := by decide +kernel
theorem d_Row_addRow_3 : decode M_Row_addRow.2.1 3 = .ok (.aload_n 1, 1) := by decide +kernel
theorem d_Row_addRow_4 : decode M_Row_addRow.2.1 4 = .ok (.getfield 9, 3) := by decide +kernel
theorem d_Row_addRow_7 : decode M_Row_addRow.2.1 7 = .ok (.if_icmp .ge 19, 3) := by decide +kernel
theorem d_Row_addRow_10 : decode M_Row_addRow.2.1 10 = .ok (.aload_n 0, 1) := by decide +kernel
theorem d_Row_addRow_11 : decode M_Row_addRow.2.1 11 = .ok (.aload_n 1, 1) := by decide +kernel
theorem d_Row_addRow_12 : decode M_Row_addRow.2.1 12 = .ok (.iload_n 2, 1) := by decide +kernel
theorem d_Row_addRow_13 : decode M_Row_addRow.2.1 13 = .ok (.invokevirtual 19, 3) := by decide +kernel
theorem d_Row_addRow_16 : decode M_Row_addRow.2.1 16 = .ok (.invokevirtual 23, 3) := by decide +kernel
theorem d_Row_addRow_19 : decode M_Row_addRow.2.1 19 = .ok (.pop, 1) := by decide +kernel
theorem d_Row_addRow_20 : decode M_Row_addRow.2.1 20 = .ok (.iinc 2 1, 3) := by decide +kernel
theorem d_Row_addRow_23 : decode M_Row_addRow.2.1 23 = .ok (.goto (-21), 3) := by decide +kernel
theorem d_Row_addRow_26 : decode M_Row_addRow.2.1 26 = .ok (.return_, 1) := by decide +kernel
theorem d_Row_closeTag_0 : decode M_Row_closeTag.2.1 0 = .ok (.iload_n 1, 1) := by decide +kernel
theorem d_Row_closeTag_1 : decode M_Row_closeTag.2.1 1 = .ok (.iconst 1, 1) := by decide +kernel
theorem d_Row_closeTag_2 : decode M_Row_closeTag.2.1 2 = .ok (.if_icmp .lt 25, 3) := by decide +kernel
theorem d_Row_closeTag_5 : decode M_Row_closeTag.2.1 5 = .ok (.iload_n 1, 1) := by decide +kernel
theorem d_Row_closeTag_6 : decode M_Row_closeTag.2.1 6 = .ok (.aload_n 0, 1) := by decide +kernel
theorem d_Row_closeTag_7 : decode M_Row_closeTag.2.1 7 = .ok (.getfield 9, 3) := by decide +kernel
theorem d_Row_closeTag_10 : decode M_Row_closeTag.2.1 10 = .ok (.if_icmp .gt 17, 3) := by decide +kernel
theorem d_Row_closeTag_13 : decode M_Row_closeTag.2.1 13 = .ok (.aload_n 0, 1) := by decide +kernel
theorem d_Row_closeTag_14 : decode M_Row_closeTag.2.1 14 = .ok (.getfield 15, 3) := by decide +kernel
theorem d_Row_closeTag_17 : decode M_Row_closeTag.2.1 17 = .ok (.iload_n 1, 1) := by decide +kernel
theorem d_Row_closeTag_18 : decode M_Row_closeTag.2.1 18 = .ok (.iconst 1, 1) := by decide +kernel
theorem d_Row_closeTag_19 : decode M_Row_closeTag.2.1 19 = .ok (.isub, 1) := by decide +kernel
theorem d_Row_closeTag_20 : decode M_Row_closeTag.2.1 20 = .ok (.aload_n 0, 1) := by decide +kernel
theorem d_Row_closeTag_21 : decode M_Row_closeTag.2.1 21 = .ok (.getfield 9, 3) := by decide +kernel
theorem d_Row_closeTag_24 : decode M_Row_closeTag.2.1 24 = .ok (.iload_n 1, 1) := by decide +kernel
theorem d_Row_closeTag_25 : decode M_Row_closeTag.2.1 25 = .ok (.isub, 1) := by decide +kernel
theorem d_Row_closeTag_26 : decode M_Row_closeTag.2.1 26 = .ok (.iastore, 1) := by decide +kernel
theorem d_Row_closeTag_27 : decode M_Row_closeTag.2.1 27 = .ok (.return_, 1) := by decide +kernel
theorem d_Row_addTagged_0 : decode M_Row_addTagged.2.1 0 = .ok (.aload_n 0, 1) := by decide +kernel
theorem d_Row_addTagged_1 : decode M_Row_addTagged.2.1 1 = .ok (.iload_n 1, 1) := by decide +kernel
theorem d_Row_addTagged_2 : decode M_Row_addTagged.2.1 2 = .ok (.invokevirtual 29, 3) := by decide +kernel
theorem d_Row_addTagged_5 : decode M_Row_addTagged.2.1 5 = .ok (.istore 5, 2) := by decide +kernel
theorem d_Row_addTagged_7 : decode M_Row_addTagged.2.1 7 = .ok (.aload_n 0, 1) := by decide +kernel
theorem d_Row_addTagged_8 : decode M_Row_addTagged.2.1 8 = .ok (.lload_n 2, 1) := by decide +kernel
theorem d_Row_addTagged_9 : decode M_Row_addTagged.2.1 9 = .ok (.iload 4, 2) := by decide +kernel
theorem d_Row_addTagged_11 : decode M_Row_addTagged.2.1 11 = .ok (.invokevirtual 32, 3) := by decide +kernel
theorem d_Row_addTagged_14 : decode M_Row_addTagged.2.1 14 = .ok (.aload_n 0, 1) := by decide +kernel
theorem d_Row_addTagged_15 : decode M_Row_addTagged.2.1 15 = .ok (.iload 5, 2) := by decide +kernel
theorem d_Row_addTagged_17 : decode M_Row_addTagged.2.1 17 = .ok (.invokevirtual 36, 3) := by decide +kernel
theorem d_Row_addTagged_20 : decode M_Row_addTagged.2.1 20 = .ok (.return_, 1) := by decide +kernel

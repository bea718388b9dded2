theorem d_Pur_init_0 : decode M_Pur_init.2.1 0 = .ok (.aload_n 0, 1) := by decide +kernel
theorem d_Pur_init_1 : decode M_Pur_init.2.1 1 = .ok (.invokespecial 1, 3) := by decide +kernel
theorem d_Pur_init_4 : decode M_Pur_init.2.1 4 = .ok (.aload_n 0, 1) := by decide +kernel
theorem d_Pur_init_5 : decode M_Pur_init.2.1 5 = .ok (.new 7, 3) := by decide +kernel
theorem d_Pur_init_8 : decode M_Pur_init.2.1 8 = .ok (.dup, 1) := by decide +kernel
theorem d_Pur_init_9 : decode M_Pur_init.2.1 9 = .ok (.bipush 40, 2) := by decide +kernel
theorem d_Pur_init_11 : decode M_Pur_init.2.1 11 = .ok (.invokespecial 11, 3) := by decide +kernel
theorem d_Pur_init_14 : decode M_Pur_init.2.1 14 = .ok (.putfield 14, 3) := by decide +kernel
theorem d_Pur_init_17 : decode M_Pur_init.2.1 17 = .ok (.aload_n 0, 1) := by decide +kernel
theorem d_Pur_init_18 : decode M_Pur_init.2.1 18 = .ok (.new 7, 3) := by decide +kernel
theorem d_Pur_init_21 : decode M_Pur_init.2.1 21 = .ok (.dup, 1) := by decide +kernel
theorem d_Pur_init_22 : decode M_Pur_init.2.1 22 = .ok (.bipush 32, 2) := by decide +kernel
theorem d_Pur_init_24 : decode M_Pur_init.2.1 24 = .ok (.invokespecial 11, 3) := by decide +kernel
theorem d_Pur_init_27 : decode M_Pur_init.2.1 27 = .ok (.putfield 18, 3) := by decide +kernel
theorem d_Pur_init_30 : decode M_Pur_init.2.1 30 = .ok (.aload_n 0, 1) := by decide +kernel
theorem d_Pur_init_31 : decode M_Pur_init.2.1 31 = .ok (.new 7, 3) := by decide +kernel
theorem d_Pur_init_34 : decode M_Pur_init.2.1 34 = .ok (.dup, 1) := by decide +kernel
theorem d_Pur_init_35 : decode M_Pur_init.2.1 35 = .ok (.bipush 32, 2) := by decide +kernel
theorem d_Pur_init_37 : decode M_Pur_init.2.1 37 = .ok (.invokespecial 11, 3) := by decide +kernel
theorem d_Pur_init_40 : decode M_Pur_init.2.1 40 = .ok (.putfield 21, 3) := by decide +kernel
theorem d_Pur_init_43 : decode M_Pur_init.2.1 43 = .ok (.aload_n 0, 1) := by decide +kernel
theorem d_Pur_init_44 : decode M_Pur_init.2.1 44 = .ok (.new 24, 3) := by decide +kernel
theorem d_Pur_init_47 : decode M_Pur_init.2.1 47 = .ok (.dup, 1) := by decide +kernel
theorem d_Pur_init_48 : decode M_Pur_init.2.1 48 = .ok (.invokespecial 26, 3) := by decide +kernel
theorem d_Pur_init_51 : decode M_Pur_init.2.1 51 = .ok (.putfield 27, 3) := by decide +kernel
theorem d_Pur_init_54 : decode M_Pur_init.2.1 54 = .ok (.aload_n 0, 1) := by decide +kernel
theorem d_Pur_init_55 : decode M_Pur_init.2.1 55 = .ok (.new 31, 3) := by decide +kernel
theorem d_Pur_init_58 : decode M_Pur_init.2.1 58 = .ok (.dup, 1) := by decide +kernel
theorem d_Pur_init_59 : decode M_Pur_init.2.1 59 = .ok (.iload_n 1, 1) := by decide +kernel
theorem d_Pur_init_60 : decode M_Pur_init.2.1 60 = .ok (.invokespecial 33, 3) := by decide +kernel
theorem d_Pur_init_63 : decode M_Pur_init.2.1 63 = .ok (.putfield 34, 3) := by decide +kernel
theorem d_Pur_init_66 : decode M_Pur_init.2.1 66 = .ok (.return_, 1) := by decide +kernel
theorem d_Pur_put_0 : decode M_Pur_put.2.1 0 = .ok (.iload_n 1, 1) := by decide +kernel
theorem d_Pur_put_1 : decode M_Pur_put.2.1 1 = .ok (.ifCond .lt 10, 3) := by decide +kernel
theorem d_Pur_put_4 : decode M_Pur_put.2.1 4 = .ok (.iload_n 1, 1) := by decide +kernel
theorem d_Pur_put_5 : decode M_Pur_put.2.1 5 = .ok (.sipush 255, 3) := by decide +kernel
theorem d_Pur_put_8 : decode M_Pur_put.2.1 8 = .ok (.if_icmp .le 5, 3) := by decide +kernel
theorem d_Pur_put_11 : decode M_Pur_put.2.1 11 = .ok (.iconst 0, 1) := by decide +kernel
theorem d_Pur_put_12 : decode M_Pur_put.2.1 12 = .ok (.ireturn, 1) := by decide +kernel
theorem d_Pur_put_13 : decode M_Pur_put.2.1 13 = .ok (.aload_n 0, 1) := by decide +kernel
theorem d_Pur_put_14 : decode M_Pur_put.2.1 14 = .ok (.getfield 14, 3) := by decide +kernel
theorem d_Pur_put_17 : decode M_Pur_put.2.1 17 = .ok (.iload_n 1, 1) := by decide +kernel
theorem d_Pur_put_18 : decode M_Pur_put.2.1 18 = .ok (.invokevirtual 38, 3) := by decide +kernel
theorem d_Pur_put_21 : decode M_Pur_put.2.1 21 = .ok (.ireturn, 1) := by decide +kernel
theorem d_Pur_wipe_0 : decode M_Pur_wipe.2.1 0 = .ok (.aload_n 0, 1) := by decide +kernel
theorem d_Pur_wipe_1 : decode M_Pur_wipe.2.1 1 = .ok (.getfield 14, 3) := by decide +kernel
theorem d_Pur_wipe_4 : decode M_Pur_wipe.2.1 4 = .ok (.invokevirtual 42, 3) := by decide +kernel
theorem d_Pur_wipe_7 : decode M_Pur_wipe.2.1 7 = .ok (.istore_n 1, 1) := by decide +kernel
theorem d_Pur_wipe_8 : decode M_Pur_wipe.2.1 8 = .ok (.aload_n 0, 1) := by decide +kernel
theorem d_Pur_wipe_9 : decode M_Pur_wipe.2.1 9 = .ok (.getfield 14, 3) := by decide +kernel
theorem d_Pur_wipe_12 : decode M_Pur_wipe.2.1 12 = .ok (.invokevirtual 46, 3) := by decide +kernel
theorem d_Pur_wipe_15 : decode M_Pur_wipe.2.1 15 = .ok (.iload_n 1, 1) := by decide +kernel
theorem d_Pur_wipe_16 : decode M_Pur_wipe.2.1 16 = .ok (.ireturn, 1) := by decide +kernel
theorem d_Pur_send_0 : decode M_Pur_send.2.1 0 = .ok (.aload_n 0, 1) := by decide +kernel
theorem d_Pur_send_1 : decode M_Pur_send.2.1 1 = .ok (.getfield 34, 3) := by decide +kernel
theorem d_Pur_send_4 : decode M_Pur_send.2.1 4 = .ok (.aload_n 0, 1) := by decide +kernel
theorem d_Pur_send_5 : decode M_Pur_send.2.1 5 = .ok (.getfield 14, 3) := by decide +kernel
theorem d_Pur_send_8 : decode M_Pur_send.2.1 8 = .ok (.aload_n 0, 1) := by decide +kernel
theorem d_Pur_send_9 : decode M_Pur_send.2.1 9 = .ok (.getfield 18, 3) := by decide +kernel
theorem d_Pur_send_12 : decode M_Pur_send.2.1 12 = .ok (.invokevirtual 49, 3) := by decide +kernel
theorem d_Pur_send_15 : decode M_Pur_send.2.1 15 = .ok (.ireturn, 1) := by decide +kernel
theorem d_Pur_answered_0 : decode M_Pur_answered.2.1 0 = .ok (.aload_n 0, 1) := by decide +kernel
theorem d_Pur_answered_1 : decode M_Pur_answered.2.1 1 = .ok (.getfield 18, 3) := by decide +kernel
theorem d_Pur_answered_4 : decode M_Pur_answered.2.1 4 = .ok (.invokevirtual 42, 3) := by decide +kernel
theorem d_Pur_answered_7 : decode M_Pur_answered.2.1 7 = .ok (.ireturn, 1) := by decide +kernel
theorem d_Pur_answer_0 : decode M_Pur_answer.2.1 0 = .ok (.aload_n 0, 1) := by decide +kernel
theorem d_Pur_answer_1 : decode M_Pur_answer.2.1 1 = .ok (.getfield 18, 3) := by decide +kernel
theorem d_Pur_answer_4 : decode M_Pur_answer.2.1 4 = .ok (.iload_n 1, 1) := by decide +kernel
theorem d_Pur_answer_5 : decode M_Pur_answer.2.1 5 = .ok (.invokevirtual 53, 3) := by decide +kernel
theorem d_Pur_answer_8 : decode M_Pur_answer.2.1 8 = .ok (.ireturn, 1) := by decide +kernel
theorem d_Pur_find_0 : decode M_Pur_find.2.1 0 = .ok (.aload_n 0, 1) := by decide +kernel
theorem d_Pur_find_1 : decode M_Pur_find.2.1 1 = .ok (.getfield 27, 3) := by decide +kernel
theorem d_Pur_find_4 : decode M_Pur_find.2.1 4 = .ok (.iload_n 1, 1) := by decide +kernel
theorem d_Pur_find_5 : decode M_Pur_find.2.1 5 = .ok (.aload_n 0, 1) := by decide +kernel
theorem d_Pur_find_6 : decode M_Pur_find.2.1 6 = .ok (.getfield 18, 3) := by decide +kernel
theorem d_Pur_find_9 : decode M_Pur_find.2.1 9 = .ok (.invokevirtual 57, 3) := by decide +kernel
theorem d_Pur_find_12 : decode M_Pur_find.2.1 12 = .ok (.ireturn, 1) := by decide +kernel
theorem d_Pur_keep_0 : decode M_Pur_keep.2.1 0 = .ok (.aload_n 0, 1) := by decide +kernel
theorem d_Pur_keep_1 : decode M_Pur_keep.2.1 1 = .ok (.getfield 34, 3) := by decide +kernel
theorem d_Pur_keep_4 : decode M_Pur_keep.2.1 4 = .ok (.getfield 61, 3) := by decide +kernel
theorem d_Pur_keep_7 : decode M_Pur_keep.2.1 7 = .ok (.iload_n 1, 1) := by decide +kernel
theorem d_Pur_keep_8 : decode M_Pur_keep.2.1 8 = .ok (.aload_n 0, 1) := by decide +kernel
theorem d_Pur_keep_9 : decode M_Pur_keep.2.1 9 = .ok (.getfield 14, 3) := by decide +kernel
theorem d_Pur_keep_12 : decode M_Pur_keep.2.1 12 = .ok (.invokevirtual 65, 3) := by decide +kernel
theorem d_Pur_keep_15 : decode M_Pur_keep.2.1 15 = .ok (.ifCond .ne 5, 3) := by decide +kernel
theorem d_Pur_keep_18 : decode M_Pur_keep.2.1 18 = .ok (.iconst (-1), 1) := by decide +kernel
theorem d_Pur_keep_19 : decode M_Pur_keep.2.1 19 = .ok (.ireturn, 1) := by decide +kernel
theorem d_Pur_keep_20 : decode M_Pur_keep.2.1 20 = .ok (.aload_n 0, 1) := by decide +kernel
theorem d_Pur_keep_21 : decode M_Pur_keep.2.1 21 = .ok (.getfield 14, 3) := by decide +kernel
theorem d_Pur_keep_24 : decode M_Pur_keep.2.1 24 = .ok (.invokevirtual 46, 3) := by decide +kernel
theorem d_Pur_keep_27 : decode M_Pur_keep.2.1 27 = .ok (.aload_n 0, 1) := by decide +kernel
theorem d_Pur_keep_28 : decode M_Pur_keep.2.1 28 = .ok (.getfield 34, 3) := by decide +kernel
theorem d_Pur_keep_31 : decode M_Pur_keep.2.1 31 = .ok (.getfield 61, 3) := by decide +kernel
theorem d_Pur_keep_34 : decode M_Pur_keep.2.1 34 = .ok (.iload_n 1, 1) := by decide +kernel
theorem d_Pur_keep_35 : decode M_Pur_keep.2.1 35 = .ok (.invokevirtual 71, 3) := by decide +kernel
theorem d_Pur_keep_38 : decode M_Pur_keep.2.1 38 = .ok (.ireturn, 1) := by decide +kernel
theorem d_Pur_key_0 : decode M_Pur_key.2.1 0 = .ok (.aload_n 0, 1) := by decide +kernel
theorem d_Pur_key_1 : decode M_Pur_key.2.1 1 = .ok (.getfield 34, 3) := by decide +kernel
theorem d_Pur_key_4 : decode M_Pur_key.2.1 4 = .ok (.getfield 74, 3) := by decide +kernel
theorem d_Pur_key_7 : decode M_Pur_key.2.1 7 = .ok (.lload_n 1, 1) := by decide +kernel
theorem d_Pur_key_8 : decode M_Pur_key.2.1 8 = .ok (.lload_n 3, 1) := by decide +kernel
theorem d_Pur_key_9 : decode M_Pur_key.2.1 9 = .ok (.invokevirtual 78, 3) := by decide +kernel
theorem d_Pur_key_12 : decode M_Pur_key.2.1 12 = .ok (.return_, 1) := by decide +kernel
theorem d_Pur_code_0 : decode M_Pur_code.2.1 0 = .ok (.iload_n 1, 1) := by decide +kernel
theorem d_Pur_code_1 : decode M_Pur_code.2.1 1 = .ok (.ifCond .lt 10, 3) := by decide +kernel
theorem d_Pur_code_4 : decode M_Pur_code.2.1 4 = .ok (.iload_n 1, 1) := by decide +kernel
theorem d_Pur_code_5 : decode M_Pur_code.2.1 5 = .ok (.sipush 9999, 3) := by decide +kernel
theorem d_Pur_code_8 : decode M_Pur_code.2.1 8 = .ok (.if_icmp .le 5, 3) := by decide +kernel
theorem d_Pur_code_11 : decode M_Pur_code.2.1 11 = .ok (.iconst 0, 1) := by decide +kernel
theorem d_Pur_code_12 : decode M_Pur_code.2.1 12 = .ok (.ireturn, 1) := by decide +kernel
theorem d_Pur_code_13 : decode M_Pur_code.2.1 13 = .ok (.aload_n 0, 1) := by decide +kernel
theorem d_Pur_code_14 : decode M_Pur_code.2.1 14 = .ok (.getfield 34, 3) := by decide +kernel
theorem d_Pur_code_17 : decode M_Pur_code.2.1 17 = .ok (.iload_n 1, 1) := by decide +kernel
theorem d_Pur_code_18 : decode M_Pur_code.2.1 18 = .ok (.putfield 84, 3) := by decide +kernel
theorem d_Pur_code_21 : decode M_Pur_code.2.1 21 = .ok (.aload_n 0, 1) := by decide +kernel
theorem d_Pur_code_22 : decode M_Pur_code.2.1 22 = .ok (.getfield 34, 3) := by decide +kernel
theorem d_Pur_code_25 : decode M_Pur_code.2.1 25 = .ok (.iconst 3, 1) := by decide +kernel
theorem d_Pur_code_26 : decode M_Pur_code.2.1 26 = .ok (.putfield 88, 3) := by decide +kernel
theorem d_Pur_code_29 : decode M_Pur_code.2.1 29 = .ok (.iconst 1, 1) := by decide +kernel
theorem d_Pur_code_30 : decode M_Pur_code.2.1 30 = .ok (.ireturn, 1) := by decide +kernel
theorem d_Pur_advance_0 : decode M_Pur_advance.2.1 0 = .ok (.iload_n 1, 1) := by decide +kernel
theorem d_Pur_advance_1 : decode M_Pur_advance.2.1 1 = .ok (.aload_n 0, 1) := by decide +kernel
theorem d_Pur_advance_2 : decode M_Pur_advance.2.1 2 = .ok (.getfield 34, 3) := by decide +kernel
theorem d_Pur_advance_5 : decode M_Pur_advance.2.1 5 = .ok (.getfield 91, 3) := by decide +kernel
theorem d_Pur_advance_8 : decode M_Pur_advance.2.1 8 = .ok (.if_icmp .lt 9, 3) := by decide +kernel
theorem d_Pur_advance_11 : decode M_Pur_advance.2.1 11 = .ok (.iload_n 1, 1) := by decide +kernel
theorem d_Pur_advance_12 : decode M_Pur_advance.2.1 12 = .ok (.ldc 94, 2) := by decide +kernel
theorem d_Pur_advance_14 : decode M_Pur_advance.2.1 14 = .ok (.if_icmp .le 5, 3) := by decide +kernel
theorem d_Pur_advance_17 : decode M_Pur_advance.2.1 17 = .ok (.iconst 0, 1) := by decide +kernel
theorem d_Pur_advance_18 : decode M_Pur_advance.2.1 18 = .ok (.ireturn, 1) := by decide +kernel
theorem d_Pur_advance_19 : decode M_Pur_advance.2.1 19 = .ok (.aload_n 0, 1) := by decide +kernel
theorem d_Pur_advance_20 : decode M_Pur_advance.2.1 20 = .ok (.getfield 34, 3) := by decide +kernel
theorem d_Pur_advance_23 : decode M_Pur_advance.2.1 23 = .ok (.iload_n 1, 1) := by decide +kernel
theorem d_Pur_advance_24 : decode M_Pur_advance.2.1 24 = .ok (.putfield 91, 3) := by decide +kernel
theorem d_Pur_advance_27 : decode M_Pur_advance.2.1 27 = .ok (.iconst 1, 1) := by decide +kernel
theorem d_Pur_advance_28 : decode M_Pur_advance.2.1 28 = .ok (.ireturn, 1) := by decide +kernel
theorem d_Pur_seal_0 : decode M_Pur_seal.2.1 0 = .ok (.iload_n 1, 1) := by decide +kernel
theorem d_Pur_seal_1 : decode M_Pur_seal.2.1 1 = .ok (.ifCond .lt 9, 3) := by decide +kernel
theorem d_Pur_seal_4 : decode M_Pur_seal.2.1 4 = .ok (.iload_n 1, 1) := by decide +kernel
theorem d_Pur_seal_5 : decode M_Pur_seal.2.1 5 = .ok (.bipush 16, 2) := by decide +kernel
theorem d_Pur_seal_7 : decode M_Pur_seal.2.1 7 = .ok (.if_icmp .lt 5, 3) := by decide +kernel
theorem d_Pur_seal_10 : decode M_Pur_seal.2.1 10 = .ok (.iconst (-1), 1) := by decide +kernel
theorem d_Pur_seal_11 : decode M_Pur_seal.2.1 11 = .ok (.ireturn, 1) := by decide +kernel
theorem d_Pur_seal_12 : decode M_Pur_seal.2.1 12 = .ok (.aload_n 0, 1) := by decide +kernel
theorem d_Pur_seal_13 : decode M_Pur_seal.2.1 13 = .ok (.getfield 34, 3) := by decide +kernel
theorem d_Pur_seal_16 : decode M_Pur_seal.2.1 16 = .ok (.getfield 74, 3) := by decide +kernel
theorem d_Pur_seal_19 : decode M_Pur_seal.2.1 19 = .ok (.aload_n 0, 1) := by decide +kernel
theorem d_Pur_seal_20 : decode M_Pur_seal.2.1 20 = .ok (.getfield 14, 3) := by decide +kernel
theorem d_Pur_seal_23 : decode M_Pur_seal.2.1 23 = .ok (.invokevirtual 95, 3) := by decide +kernel
theorem d_Pur_seal_26 : decode M_Pur_seal.2.1 26 = .ok (.aload_n 0, 1) := by decide +kernel
theorem d_Pur_seal_27 : decode M_Pur_seal.2.1 27 = .ok (.getfield 34, 3) := by decide +kernel
theorem d_Pur_seal_30 : decode M_Pur_seal.2.1 30 = .ok (.getfield 74, 3) := by decide +kernel
theorem d_Pur_seal_33 : decode M_Pur_seal.2.1 33 = .ok (.iload_n 1, 1) := by decide +kernel
theorem d_Pur_seal_34 : decode M_Pur_seal.2.1 34 = .ok (.invokevirtual 99, 3) := by decide +kernel
theorem d_Pur_seal_37 : decode M_Pur_seal.2.1 37 = .ok (.ireturn, 1) := by decide +kernel
theorem d_Pur_genuine_0 : decode M_Pur_genuine.2.1 0 = .ok (.lload_n 1, 1) := by decide +kernel
theorem d_Pur_genuine_1 : decode M_Pur_genuine.2.1 1 = .ok (.invokestatic 102, 3) := by decide +kernel
theorem d_Pur_genuine_4 : decode M_Pur_genuine.2.1 4 = .ok (.ifCond .eq 16, 3) := by decide +kernel
theorem d_Pur_genuine_7 : decode M_Pur_genuine.2.1 7 = .ok (.aload_n 0, 1) := by decide +kernel
theorem d_Pur_genuine_8 : decode M_Pur_genuine.2.1 8 = .ok (.getfield 18, 3) := by decide +kernel
theorem d_Pur_genuine_11 : decode M_Pur_genuine.2.1 11 = .ok (.iconst 0, 1) := by decide +kernel
theorem d_Pur_genuine_12 : decode M_Pur_genuine.2.1 12 = .ok (.invokevirtual 53, 3) := by decide +kernel
theorem d_Pur_genuine_15 : decode M_Pur_genuine.2.1 15 = .ok (.bipush 119, 2) := by decide +kernel
theorem d_Pur_genuine_17 : decode M_Pur_genuine.2.1 17 = .ok (.if_icmp .eq 5, 3) := by decide +kernel
theorem d_Pur_genuine_20 : decode M_Pur_genuine.2.1 20 = .ok (.iconst 0, 1) := by decide +kernel
theorem d_Pur_genuine_21 : decode M_Pur_genuine.2.1 21 = .ok (.ireturn, 1) := by decide +kernel
theorem d_Pur_genuine_22 : decode M_Pur_genuine.2.1 22 = .ok (.aload_n 0, 1) := by decide +kernel
theorem d_Pur_genuine_23 : decode M_Pur_genuine.2.1 23 = .ok (.ldc 106, 2) := by decide +kernel
theorem d_Pur_genuine_25 : decode M_Pur_genuine.2.1 25 = .ok (.iconst 1, 1) := by decide +kernel
theorem d_Pur_genuine_26 : decode M_Pur_genuine.2.1 26 = .ok (.invokevirtual 107, 3) := by decide +kernel
theorem d_Pur_genuine_29 : decode M_Pur_genuine.2.1 29 = .ok (.istore 5, 2) := by decide +kernel
theorem d_Pur_genuine_31 : decode M_Pur_genuine.2.1 31 = .ok (.aload_n 0, 1) := by decide +kernel
theorem d_Pur_genuine_32 : decode M_Pur_genuine.2.1 32 = .ok (.ldc 111, 2) := by decide +kernel
theorem d_Pur_genuine_34 : decode M_Pur_genuine.2.1 34 = .ok (.iconst 2, 1) := by decide +kernel
theorem d_Pur_genuine_35 : decode M_Pur_genuine.2.1 35 = .ok (.invokevirtual 107, 3) := by decide +kernel
theorem d_Pur_genuine_38 : decode M_Pur_genuine.2.1 38 = .ok (.istore 6, 2) := by decide +kernel
theorem d_Pur_genuine_40 : decode M_Pur_genuine.2.1 40 = .ok (.aload_n 0, 1) := by decide +kernel
theorem d_Pur_genuine_41 : decode M_Pur_genuine.2.1 41 = .ok (.ldc 112, 2) := by decide +kernel
theorem d_Pur_genuine_43 : decode M_Pur_genuine.2.1 43 = .ok (.bipush 8, 2) := by decide +kernel
theorem d_Pur_genuine_45 : decode M_Pur_genuine.2.1 45 = .ok (.invokevirtual 107, 3) := by decide +kernel
theorem d_Pur_genuine_48 : decode M_Pur_genuine.2.1 48 = .ok (.istore 7, 2) := by decide +kernel
theorem d_Pur_genuine_50 : decode M_Pur_genuine.2.1 50 = .ok (.iload 5, 2) := by decide +kernel
theorem d_Pur_genuine_52 : decode M_Pur_genuine.2.1 52 = .ok (.iconst (-1), 1) := by decide +kernel
theorem d_Pur_genuine_53 : decode M_Pur_genuine.2.1 53 = .ok (.if_icmp .eq 15, 3) := by decide +kernel
theorem d_Pur_genuine_56 : decode M_Pur_genuine.2.1 56 = .ok (.iload 6, 2) := by decide +kernel
theorem d_Pur_genuine_58 : decode M_Pur_genuine.2.1 58 = .ok (.iconst (-1), 1) := by decide +kernel
theorem d_Pur_genuine_59 : decode M_Pur_genuine.2.1 59 = .ok (.if_icmp .eq 9, 3) := by decide +kernel
theorem d_Pur_genuine_62 : decode M_Pur_genuine.2.1 62 = .ok (.iload 7, 2) := by decide +kernel
theorem d_Pur_genuine_64 : decode M_Pur_genuine.2.1 64 = .ok (.iconst (-1), 1) := by decide +kernel
theorem d_Pur_genuine_65 : decode M_Pur_genuine.2.1 65 = .ok (.if_icmp .ne 5, 3) := by decide +kernel
theorem d_Pur_genuine_68 : decode M_Pur_genuine.2.1 68 = .ok (.iconst 0, 1) := by decide +kernel
theorem d_Pur_genuine_69 : decode M_Pur_genuine.2.1 69 = .ok (.ireturn, 1) := by decide +kernel
theorem d_Pur_genuine_70 : decode M_Pur_genuine.2.1 70 = .ok (.aload_n 0, 1) := by decide +kernel
theorem d_Pur_genuine_71 : decode M_Pur_genuine.2.1 71 = .ok (.getfield 34, 3) := by decide +kernel
theorem d_Pur_genuine_74 : decode M_Pur_genuine.2.1 74 = .ok (.getfield 74, 3) := by decide +kernel
theorem d_Pur_genuine_77 : decode M_Pur_genuine.2.1 77 = .ok (.astore 8, 2) := by decide +kernel
theorem d_Pur_genuine_79 : decode M_Pur_genuine.2.1 79 = .ok (.aload 8, 2) := by decide +kernel
theorem d_Pur_genuine_81 : decode M_Pur_genuine.2.1 81 = .ok (.aload 8, 2) := by decide +kernel
theorem d_Pur_genuine_83 : decode M_Pur_genuine.2.1 83 = .ok (.lload_n 1, 1) := by decide +kernel
theorem d_Pur_genuine_84 : decode M_Pur_genuine.2.1 84 = .ok (.iload_n 3, 1) := by decide +kernel
theorem d_Pur_genuine_85 : decode M_Pur_genuine.2.1 85 = .ok (.i2l, 1) := by decide +kernel
theorem d_Pur_genuine_86 : decode M_Pur_genuine.2.1 86 = .ok (.aload_n 0, 1) := by decide +kernel
theorem d_Pur_genuine_87 : decode M_Pur_genuine.2.1 87 = .ok (.getfield 18, 3) := by decide +kernel
theorem d_Pur_genuine_90 : decode M_Pur_genuine.2.1 90 = .ok (.iload 6, 2) := by decide +kernel
theorem d_Pur_genuine_92 : decode M_Pur_genuine.2.1 92 = .ok (.iconst 2, 1) := by decide +kernel
theorem d_Pur_genuine_93 : decode M_Pur_genuine.2.1 93 = .ok (.invokevirtual 113, 3) := by decide +kernel
theorem d_Pur_genuine_96 : decode M_Pur_genuine.2.1 96 = .ok (.aload_n 0, 1) := by decide +kernel
theorem d_Pur_genuine_97 : decode M_Pur_genuine.2.1 97 = .ok (.getfield 18, 3) := by decide +kernel
theorem d_Pur_genuine_100 : decode M_Pur_genuine.2.1 100 = .ok (.iload 5, 2) := by decide +kernel
theorem d_Pur_genuine_102 : decode M_Pur_genuine.2.1 102 = .ok (.invokevirtual 53, 3) := by decide +kernel
theorem d_Pur_genuine_105 : decode M_Pur_genuine.2.1 105 = .ok (.iload 4, 2) := by decide +kernel
theorem d_Pur_genuine_107 : decode M_Pur_genuine.2.1 107 = .ok (.invokevirtual 117, 3) := by decide +kernel
theorem d_Pur_genuine_110 : decode M_Pur_genuine.2.1 110 = .ok (.invokevirtual 95, 3) := by decide +kernel
theorem d_Pur_genuine_113 : decode M_Pur_genuine.2.1 113 = .ok (.iconst 0, 1) := by decide +kernel
theorem d_Pur_genuine_114 : decode M_Pur_genuine.2.1 114 = .ok (.istore 9, 2) := by decide +kernel
theorem d_Pur_genuine_116 : decode M_Pur_genuine.2.1 116 = .ok (.iload 9, 2) := by decide +kernel
theorem d_Pur_genuine_118 : decode M_Pur_genuine.2.1 118 = .ok (.bipush 8, 2) := by decide +kernel
theorem d_Pur_genuine_120 : decode M_Pur_genuine.2.1 120 = .ok (.if_icmp .ge 33, 3) := by decide +kernel
theorem d_Pur_genuine_123 : decode M_Pur_genuine.2.1 123 = .ok (.aload_n 0, 1) := by decide +kernel
theorem d_Pur_genuine_124 : decode M_Pur_genuine.2.1 124 = .ok (.getfield 18, 3) := by decide +kernel
theorem d_Pur_genuine_127 : decode M_Pur_genuine.2.1 127 = .ok (.iload 7, 2) := by decide +kernel
theorem d_Pur_genuine_129 : decode M_Pur_genuine.2.1 129 = .ok (.iload 9, 2) := by decide +kernel
theorem d_Pur_genuine_131 : decode M_Pur_genuine.2.1 131 = .ok (.iadd, 1) := by decide +kernel
theorem d_Pur_genuine_132 : decode M_Pur_genuine.2.1 132 = .ok (.invokevirtual 53, 3) := by decide +kernel
theorem d_Pur_genuine_135 : decode M_Pur_genuine.2.1 135 = .ok (.aload 8, 2) := by decide +kernel
theorem d_Pur_genuine_137 : decode M_Pur_genuine.2.1 137 = .ok (.iload 9, 2) := by decide +kernel
theorem d_Pur_genuine_139 : decode M_Pur_genuine.2.1 139 = .ok (.invokevirtual 99, 3) := by decide +kernel
theorem d_Pur_genuine_142 : decode M_Pur_genuine.2.1 142 = .ok (.if_icmp .eq 5, 3) := by decide +kernel
theorem d_Pur_genuine_145 : decode M_Pur_genuine.2.1 145 = .ok (.iconst 0, 1) := by decide +kernel
theorem d_Pur_genuine_146 : decode M_Pur_genuine.2.1 146 = .ok (.ireturn, 1) := by decide +kernel
theorem d_Pur_genuine_147 : decode M_Pur_genuine.2.1 147 = .ok (.iinc 9 1, 3) := by decide +kernel
theorem d_Pur_genuine_150 : decode M_Pur_genuine.2.1 150 = .ok (.goto (-34), 3) := by decide +kernel
theorem d_Pur_genuine_153 : decode M_Pur_genuine.2.1 153 = .ok (.iconst 1, 1) := by decide +kernel
theorem d_Pur_genuine_154 : decode M_Pur_genuine.2.1 154 = .ok (.ireturn, 1) := by decide +kernel
theorem d_Pur_isAmount_0 : decode M_Pur_isAmount.2.1 0 = .ok (.lload_n 0, 1) := by decide +kernel
theorem d_Pur_isAmount_1 : decode M_Pur_isAmount.2.1 1 = .ok (.lconst 0, 1) := by decide +kernel
theorem d_Pur_isAmount_2 : decode M_Pur_isAmount.2.1 2 = .ok (.lcmp, 1) := by decide +kernel
theorem d_Pur_isAmount_3 : decode M_Pur_isAmount.2.1 3 = .ok (.ifCond .lt 15, 3) := by decide +kernel
theorem d_Pur_isAmount_6 : decode M_Pur_isAmount.2.1 6 = .ok (.lload_n 0, 1) := by decide +kernel
theorem d_Pur_isAmount_7 : decode M_Pur_isAmount.2.1 7 = .ok (.ldc2_w 147, 3) := by decide +kernel
theorem d_Pur_isAmount_10 : decode M_Pur_isAmount.2.1 10 = .ok (.lcmp, 1) := by decide +kernel
theorem d_Pur_isAmount_11 : decode M_Pur_isAmount.2.1 11 = .ok (.ifCond .gt 7, 3) := by decide +kernel
theorem d_Pur_isAmount_14 : decode M_Pur_isAmount.2.1 14 = .ok (.iconst 1, 1) := by decide +kernel
theorem d_Pur_isAmount_15 : decode M_Pur_isAmount.2.1 15 = .ok (.goto 4, 3) := by decide +kernel
theorem d_Pur_isAmount_18 : decode M_Pur_isAmount.2.1 18 = .ok (.iconst 0, 1) := by decide +kernel
theorem d_Pur_isAmount_19 : decode M_Pur_isAmount.2.1 19 = .ok (.ireturn, 1) := by decide +kernel
theorem d_Pur_placeOfSized_0 : decode M_Pur_placeOfSized.2.1 0 = .ok (.aload_n 0, 1) := by decide +kernel
theorem d_Pur_placeOfSized_1 : decode M_Pur_placeOfSized.2.1 1 = .ok (.getfield 27, 3) := by decide +kernel
theorem d_Pur_placeOfSized_4 : decode M_Pur_placeOfSized.2.1 4 = .ok (.iload_n 1, 1) := by decide +kernel
theorem d_Pur_placeOfSized_5 : decode M_Pur_placeOfSized.2.1 5 = .ok (.aload_n 0, 1) := by decide +kernel
theorem d_Pur_placeOfSized_6 : decode M_Pur_placeOfSized.2.1 6 = .ok (.getfield 18, 3) := by decide +kernel
theorem d_Pur_placeOfSized_9 : decode M_Pur_placeOfSized.2.1 9 = .ok (.invokevirtual 57, 3) := by decide +kernel
theorem d_Pur_placeOfSized_12 : decode M_Pur_placeOfSized.2.1 12 = .ok (.istore_n 3, 1) := by decide +kernel
theorem d_Pur_placeOfSized_13 : decode M_Pur_placeOfSized.2.1 13 = .ok (.iload_n 3, 1) := by decide +kernel
theorem d_Pur_placeOfSized_14 : decode M_Pur_placeOfSized.2.1 14 = .ok (.iconst (-1), 1) := by decide +kernel
theorem d_Pur_placeOfSized_15 : decode M_Pur_placeOfSized.2.1 15 = .ok (.if_icmp .eq 21, 3) := by decide +kernel
theorem d_Pur_placeOfSized_18 : decode M_Pur_placeOfSized.2.1 18 = .ok (.aload_n 0, 1) := by decide +kernel
theorem d_Pur_placeOfSized_19 : decode M_Pur_placeOfSized.2.1 19 = .ok (.getfield 18, 3) := by decide +kernel
theorem d_Pur_placeOfSized_22 : decode M_Pur_placeOfSized.2.1 22 = .ok (.iload_n 3, 1) := by decide +kernel
theorem d_Pur_placeOfSized_23 : decode M_Pur_placeOfSized.2.1 23 = .ok (.iconst 1, 1) := by decide +kernel
theorem d_Pur_placeOfSized_24 : decode M_Pur_placeOfSized.2.1 24 = .ok (.isub, 1) := by decide +kernel
theorem d_Pur_placeOfSized_25 : decode M_Pur_placeOfSized.2.1 25 = .ok (.invokevirtual 53, 3) := by decide +kernel
theorem d_Pur_placeOfSized_28 : decode M_Pur_placeOfSized.2.1 28 = .ok (.iload_n 2, 1) := by decide +kernel
theorem d_Pur_placeOfSized_29 : decode M_Pur_placeOfSized.2.1 29 = .ok (.if_icmp .ne 7, 3) := by decide +kernel
theorem d_Pur_placeOfSized_32 : decode M_Pur_placeOfSized.2.1 32 = .ok (.iload_n 3, 1) := by decide +kernel
theorem d_Pur_placeOfSized_33 : decode M_Pur_placeOfSized.2.1 33 = .ok (.goto 4, 3) := by decide +kernel
theorem d_Pur_placeOfSized_36 : decode M_Pur_placeOfSized.2.1 36 = .ok (.iconst (-1), 1) := by decide +kernel
theorem d_Pur_placeOfSized_37 : decode M_Pur_placeOfSized.2.1 37 = .ok (.ireturn, 1) := by decide +kernel
theorem d_Pur_pay_0 : decode M_Pur_pay.2.1 0 = .ok (.lload_n 1, 1) := by decide +kernel
theorem d_Pur_pay_1 : decode M_Pur_pay.2.1 1 = .ok (.invokestatic 102, 3) := by decide +kernel
theorem d_Pur_pay_4 : decode M_Pur_pay.2.1 4 = .ok (.ifCond .eq 18, 3) := by decide +kernel
theorem d_Pur_pay_7 : decode M_Pur_pay.2.1 7 = .ok (.lload_n 3, 1) := by decide +kernel
theorem d_Pur_pay_8 : decode M_Pur_pay.2.1 8 = .ok (.invokestatic 102, 3) := by decide +kernel
theorem d_Pur_pay_11 : decode M_Pur_pay.2.1 11 = .ok (.ifCond .eq 11, 3) := by decide +kernel
theorem d_Pur_pay_14 : decode M_Pur_pay.2.1 14 = .ok (.iload 6, 2) := by decide +kernel
theorem d_Pur_pay_16 : decode M_Pur_pay.2.1 16 = .ok (.sipush 9999, 3) := by decide +kernel
theorem d_Pur_pay_19 : decode M_Pur_pay.2.1 19 = .ok (.if_icmp .le 5, 3) := by decide +kernel
theorem d_Pur_pay_22 : decode M_Pur_pay.2.1 22 = .ok (.iconst (-1), 1) := by decide +kernel
theorem d_Pur_pay_23 : decode M_Pur_pay.2.1 23 = .ok (.ireturn, 1) := by decide +kernel
theorem d_Pur_pay_24 : decode M_Pur_pay.2.1 24 = .ok (.aload_n 0, 1) := by decide +kernel
theorem d_Pur_pay_25 : decode M_Pur_pay.2.1 25 = .ok (.lload_n 3, 1) := by decide +kernel
theorem d_Pur_pay_26 : decode M_Pur_pay.2.1 26 = .ok (.invokevirtual 121, 3) := by decide +kernel
theorem d_Pur_pay_29 : decode M_Pur_pay.2.1 29 = .ok (.istore 8, 2) := by decide +kernel
theorem d_Pur_pay_31 : decode M_Pur_pay.2.1 31 = .ok (.iload 8, 2) := by decide +kernel
theorem d_Pur_pay_33 : decode M_Pur_pay.2.1 33 = .ok (.ldc 125, 2) := by decide +kernel
theorem d_Pur_pay_35 : decode M_Pur_pay.2.1 35 = .ok (.if_icmp .ne 9, 3) := by decide +kernel
theorem d_Pur_pay_38 : decode M_Pur_pay.2.1 38 = .ok (.aload_n 0, 1) := by decide +kernel
theorem d_Pur_pay_39 : decode M_Pur_pay.2.1 39 = .ok (.invokevirtual 126, 3) := by decide +kernel
theorem d_Pur_pay_42 : decode M_Pur_pay.2.1 42 = .ok (.istore 8, 2) := by decide +kernel
theorem d_Pur_pay_44 : decode M_Pur_pay.2.1 44 = .ok (.iload 8, 2) := by decide +kernel
theorem d_Pur_pay_46 : decode M_Pur_pay.2.1 46 = .ok (.ldc 125, 2) := by decide +kernel
theorem d_Pur_pay_48 : decode M_Pur_pay.2.1 48 = .ok (.if_icmp .eq 7, 3) := by decide +kernel
theorem d_Pur_pay_51 : decode M_Pur_pay.2.1 51 = .ok (.iload 8, 2) := by decide +kernel
theorem d_Pur_pay_53 : decode M_Pur_pay.2.1 53 = .ok (.ineg, 1) := by decide +kernel
theorem d_Pur_pay_54 : decode M_Pur_pay.2.1 54 = .ok (.ireturn, 1) := by decide +kernel
theorem d_Pur_pay_55 : decode M_Pur_pay.2.1 55 = .ok (.iconst 0, 1) := by decide +kernel
theorem d_Pur_pay_56 : decode M_Pur_pay.2.1 56 = .ok (.istore 9, 2) := by decide +kernel
theorem d_Pur_pay_58 : decode M_Pur_pay.2.1 58 = .ok (.iload 6, 2) := by decide +kernel
theorem d_Pur_pay_60 : decode M_Pur_pay.2.1 60 = .ok (.ifCond .lt 47, 3) := by decide +kernel
theorem d_Pur_pay_63 : decode M_Pur_pay.2.1 63 = .ok (.aload_n 0, 1) := by decide +kernel
theorem d_Pur_pay_64 : decode M_Pur_pay.2.1 64 = .ok (.iload 6, 2) := by decide +kernel
theorem d_Pur_pay_66 : decode M_Pur_pay.2.1 66 = .ok (.invokevirtual 129, 3) := by decide +kernel
theorem d_Pur_pay_69 : decode M_Pur_pay.2.1 69 = .ok (.istore 8, 2) := by decide +kernel
theorem d_Pur_pay_71 : decode M_Pur_pay.2.1 71 = .ok (.iload 8, 2) := by decide +kernel
theorem d_Pur_pay_73 : decode M_Pur_pay.2.1 73 = .ok (.ldc 125, 2) := by decide +kernel
theorem d_Pur_pay_75 : decode M_Pur_pay.2.1 75 = .ok (.if_icmp .eq 18, 3) := by decide +kernel
theorem d_Pur_pay_78 : decode M_Pur_pay.2.1 78 = .ok (.iload 8, 2) := by decide +kernel
theorem d_Pur_pay_80 : decode M_Pur_pay.2.1 80 = .ok (.ldc 132, 2) := by decide +kernel
theorem d_Pur_pay_82 : decode M_Pur_pay.2.1 82 = .ok (.iand, 1) := by decide +kernel
theorem d_Pur_pay_83 : decode M_Pur_pay.2.1 83 = .ok (.sipush 25536, 3) := by decide +kernel
theorem d_Pur_pay_86 : decode M_Pur_pay.2.1 86 = .ok (.if_icmp .eq 7, 3) := by decide +kernel
theorem d_Pur_pay_89 : decode M_Pur_pay.2.1 89 = .ok (.iload 8, 2) := by decide +kernel
theorem d_Pur_pay_91 : decode M_Pur_pay.2.1 91 = .ok (.ineg, 1) := by decide +kernel
theorem d_Pur_pay_92 : decode M_Pur_pay.2.1 92 = .ok (.ireturn, 1) := by decide +kernel
theorem d_Pur_pay_93 : decode M_Pur_pay.2.1 93 = .ok (.iload 8, 2) := by decide +kernel
theorem d_Pur_pay_95 : decode M_Pur_pay.2.1 95 = .ok (.ldc 125, 2) := by decide +kernel
theorem d_Pur_pay_97 : decode M_Pur_pay.2.1 97 = .ok (.if_icmp .ne 7, 3) := by decide +kernel
theorem d_Pur_pay_100 : decode M_Pur_pay.2.1 100 = .ok (.iconst 1, 1) := by decide +kernel
theorem d_Pur_pay_101 : decode M_Pur_pay.2.1 101 = .ok (.goto 4, 3) := by decide +kernel
theorem d_Pur_pay_104 : decode M_Pur_pay.2.1 104 = .ok (.iconst 0, 1) := by decide +kernel
theorem d_Pur_pay_105 : decode M_Pur_pay.2.1 105 = .ok (.istore 9, 2) := by decide +kernel
theorem d_Pur_pay_107 : decode M_Pur_pay.2.1 107 = .ok (.aload_n 0, 1) := by decide +kernel
theorem d_Pur_pay_108 : decode M_Pur_pay.2.1 108 = .ok (.iload 7, 2) := by decide +kernel
theorem d_Pur_pay_110 : decode M_Pur_pay.2.1 110 = .ok (.ifCond .eq 9, 3) := by decide +kernel
theorem d_Pur_pay_113 : decode M_Pur_pay.2.1 113 = .ok (.sipush 128, 3) := by decide +kernel
theorem d_Pur_pay_116 : decode M_Pur_pay.2.1 116 = .ok (.goto 5, 3) := by decide +kernel
theorem d_Pur_pay_119 : decode M_Pur_pay.2.1 119 = .ok (.bipush 64, 2) := by decide +kernel
theorem d_Pur_pay_121 : decode M_Pur_pay.2.1 121 = .ok (.lload_n 3, 1) := by decide +kernel
theorem d_Pur_pay_122 : decode M_Pur_pay.2.1 122 = .ok (.iload 5, 2) := by decide +kernel
theorem d_Pur_pay_124 : decode M_Pur_pay.2.1 124 = .ok (.bipush 10, 2) := by decide +kernel
theorem d_Pur_pay_126 : decode M_Pur_pay.2.1 126 = .ok (.invokevirtual 133, 3) := by decide +kernel
theorem d_Pur_pay_129 : decode M_Pur_pay.2.1 129 = .ok (.aload_n 0, 1) := by decide +kernel
theorem d_Pur_pay_130 : decode M_Pur_pay.2.1 130 = .ok (.getfield 34, 3) := by decide +kernel
theorem d_Pur_pay_133 : decode M_Pur_pay.2.1 133 = .ok (.aload_n 0, 1) := by decide +kernel
theorem d_Pur_pay_134 : decode M_Pur_pay.2.1 134 = .ok (.getfield 14, 3) := by decide +kernel
theorem d_Pur_pay_137 : decode M_Pur_pay.2.1 137 = .ok (.aload_n 0, 1) := by decide +kernel
theorem d_Pur_pay_138 : decode M_Pur_pay.2.1 138 = .ok (.getfield 18, 3) := by decide +kernel
theorem d_Pur_pay_141 : decode M_Pur_pay.2.1 141 = .ok (.invokevirtual 49, 3) := by decide +kernel
theorem d_Pur_pay_144 : decode M_Pur_pay.2.1 144 = .ok (.istore 8, 2) := by decide +kernel
theorem d_Pur_pay_146 : decode M_Pur_pay.2.1 146 = .ok (.iload 8, 2) := by decide +kernel
theorem d_Pur_pay_148 : decode M_Pur_pay.2.1 148 = .ok (.ldc 125, 2) := by decide +kernel
theorem d_Pur_pay_150 : decode M_Pur_pay.2.1 150 = .ok (.if_icmp .eq 7, 3) := by decide +kernel
theorem d_Pur_pay_153 : decode M_Pur_pay.2.1 153 = .ok (.iload 8, 2) := by decide +kernel
theorem d_Pur_pay_155 : decode M_Pur_pay.2.1 155 = .ok (.ineg, 1) := by decide +kernel
theorem d_Pur_pay_156 : decode M_Pur_pay.2.1 156 = .ok (.ireturn, 1) := by decide +kernel
theorem d_Pur_pay_157 : decode M_Pur_pay.2.1 157 = .ok (.aload_n 0, 1) := by decide +kernel
theorem d_Pur_pay_158 : decode M_Pur_pay.2.1 158 = .ok (.invokevirtual 137, 3) := by decide +kernel
theorem d_Pur_pay_161 : decode M_Pur_pay.2.1 161 = .ok (.bipush 64, 2) := by decide +kernel
theorem d_Pur_pay_163 : decode M_Pur_pay.2.1 163 = .ok (.if_icmp .ne 5, 3) := by decide +kernel
theorem d_Pur_pay_166 : decode M_Pur_pay.2.1 166 = .ok (.iconst 1, 1) := by decide +kernel
theorem d_Pur_pay_167 : decode M_Pur_pay.2.1 167 = .ok (.ireturn, 1) := by decide +kernel
theorem d_Pur_pay_168 : decode M_Pur_pay.2.1 168 = .ok (.aload_n 0, 1) := by decide +kernel
theorem d_Pur_pay_169 : decode M_Pur_pay.2.1 169 = .ok (.invokevirtual 137, 3) := by decide +kernel
theorem d_Pur_pay_172 : decode M_Pur_pay.2.1 172 = .ok (.sipush 128, 3) := by decide +kernel
theorem d_Pur_pay_175 : decode M_Pur_pay.2.1 175 = .ok (.if_icmp .eq 5, 3) := by decide +kernel
theorem d_Pur_pay_178 : decode M_Pur_pay.2.1 178 = .ok (.iconst 0, 1) := by decide +kernel
theorem d_Pur_pay_179 : decode M_Pur_pay.2.1 179 = .ok (.ireturn, 1) := by decide +kernel
theorem d_Pur_pay_180 : decode M_Pur_pay.2.1 180 = .ok (.aload_n 0, 1) := by decide +kernel
theorem d_Pur_pay_181 : decode M_Pur_pay.2.1 181 = .ok (.lload_n 1, 1) := by decide +kernel
theorem d_Pur_pay_182 : decode M_Pur_pay.2.1 182 = .ok (.iload 5, 2) := by decide +kernel
theorem d_Pur_pay_184 : decode M_Pur_pay.2.1 184 = .ok (.iload 9, 2) := by decide +kernel
theorem d_Pur_pay_186 : decode M_Pur_pay.2.1 186 = .ok (.invokevirtual 140, 3) := by decide +kernel
theorem d_Pur_pay_189 : decode M_Pur_pay.2.1 189 = .ok (.istore 10, 2) := by decide +kernel
theorem d_Pur_pay_191 : decode M_Pur_pay.2.1 191 = .ok (.aload_n 0, 1) := by decide +kernel
theorem d_Pur_pay_192 : decode M_Pur_pay.2.1 192 = .ok (.iload 10, 2) := by decide +kernel
theorem d_Pur_pay_194 : decode M_Pur_pay.2.1 194 = .ok (.ifCond .eq 8, 3) := by decide +kernel
theorem d_Pur_pay_197 : decode M_Pur_pay.2.1 197 = .ok (.bipush 64, 2) := by decide +kernel
theorem d_Pur_pay_199 : decode M_Pur_pay.2.1 199 = .ok (.goto 4, 3) := by decide +kernel
theorem d_Pur_pay_202 : decode M_Pur_pay.2.1 202 = .ok (.iconst 0, 1) := by decide +kernel
theorem d_Pur_pay_203 : decode M_Pur_pay.2.1 203 = .ok (.lload_n 3, 1) := by decide +kernel
theorem d_Pur_pay_204 : decode M_Pur_pay.2.1 204 = .ok (.iload 5, 2) := by decide +kernel
theorem d_Pur_pay_206 : decode M_Pur_pay.2.1 206 = .ok (.bipush 12, 2) := by decide +kernel
theorem d_Pur_pay_208 : decode M_Pur_pay.2.1 208 = .ok (.invokevirtual 133, 3) := by decide +kernel
theorem d_Pur_pay_211 : decode M_Pur_pay.2.1 211 = .ok (.aload_n 0, 1) := by decide +kernel
theorem d_Pur_pay_212 : decode M_Pur_pay.2.1 212 = .ok (.getfield 14, 3) := by decide +kernel
theorem d_Pur_pay_215 : decode M_Pur_pay.2.1 215 = .ok (.bipush 48, 2) := by decide +kernel
theorem d_Pur_pay_217 : decode M_Pur_pay.2.1 217 = .ok (.invokevirtual 38, 3) := by decide +kernel
theorem d_Pur_pay_220 : decode M_Pur_pay.2.1 220 = .ok (.pop, 1) := by decide +kernel
theorem d_Pur_pay_221 : decode M_Pur_pay.2.1 221 = .ok (.aload_n 0, 1) := by decide +kernel
theorem d_Pur_pay_222 : decode M_Pur_pay.2.1 222 = .ok (.getfield 14, 3) := by decide +kernel
theorem d_Pur_pay_225 : decode M_Pur_pay.2.1 225 = .ok (.iload 10, 2) := by decide +kernel
theorem d_Pur_pay_227 : decode M_Pur_pay.2.1 227 = .ok (.ifCond .eq 8, 3) := by decide +kernel
theorem d_Pur_pay_230 : decode M_Pur_pay.2.1 230 = .ok (.bipush 48, 2) := by decide +kernel
theorem d_Pur_pay_232 : decode M_Pur_pay.2.1 232 = .ok (.goto 5, 3) := by decide +kernel
theorem d_Pur_pay_235 : decode M_Pur_pay.2.1 235 = .ok (.bipush 53, 2) := by decide +kernel
theorem d_Pur_pay_237 : decode M_Pur_pay.2.1 237 = .ok (.invokevirtual 38, 3) := by decide +kernel
theorem d_Pur_pay_240 : decode M_Pur_pay.2.1 240 = .ok (.pop, 1) := by decide +kernel
theorem d_Pur_pay_241 : decode M_Pur_pay.2.1 241 = .ok (.aload_n 0, 1) := by decide +kernel
theorem d_Pur_pay_242 : decode M_Pur_pay.2.1 242 = .ok (.getfield 34, 3) := by decide +kernel
theorem d_Pur_pay_245 : decode M_Pur_pay.2.1 245 = .ok (.aload_n 0, 1) := by decide +kernel
theorem d_Pur_pay_246 : decode M_Pur_pay.2.1 246 = .ok (.getfield 14, 3) := by decide +kernel
theorem d_Pur_pay_249 : decode M_Pur_pay.2.1 249 = .ok (.aload_n 0, 1) := by decide +kernel
theorem d_Pur_pay_250 : decode M_Pur_pay.2.1 250 = .ok (.getfield 18, 3) := by decide +kernel
theorem d_Pur_pay_253 : decode M_Pur_pay.2.1 253 = .ok (.invokevirtual 49, 3) := by decide +kernel
theorem d_Pur_pay_256 : decode M_Pur_pay.2.1 256 = .ok (.istore 8, 2) := by decide +kernel
theorem d_Pur_pay_258 : decode M_Pur_pay.2.1 258 = .ok (.iload 8, 2) := by decide +kernel
theorem d_Pur_pay_260 : decode M_Pur_pay.2.1 260 = .ok (.ldc 125, 2) := by decide +kernel
theorem d_Pur_pay_262 : decode M_Pur_pay.2.1 262 = .ok (.if_icmp .eq 7, 3) := by decide +kernel
theorem d_Pur_pay_265 : decode M_Pur_pay.2.1 265 = .ok (.iload 8, 2) := by decide +kernel
theorem d_Pur_pay_267 : decode M_Pur_pay.2.1 267 = .ok (.ineg, 1) := by decide +kernel
theorem d_Pur_pay_268 : decode M_Pur_pay.2.1 268 = .ok (.ireturn, 1) := by decide +kernel
theorem d_Pur_pay_269 : decode M_Pur_pay.2.1 269 = .ok (.aload_n 0, 1) := by decide +kernel
theorem d_Pur_pay_270 : decode M_Pur_pay.2.1 270 = .ok (.invokevirtual 137, 3) := by decide +kernel
theorem d_Pur_pay_273 : decode M_Pur_pay.2.1 273 = .ok (.bipush 64, 2) := by decide +kernel
theorem d_Pur_pay_275 : decode M_Pur_pay.2.1 275 = .ok (.if_icmp .ne 7, 3) := by decide +kernel
theorem d_Pur_pay_278 : decode M_Pur_pay.2.1 278 = .ok (.iconst 2, 1) := by decide +kernel
theorem d_Pur_pay_279 : decode M_Pur_pay.2.1 279 = .ok (.goto 4, 3) := by decide +kernel
theorem d_Pur_pay_282 : decode M_Pur_pay.2.1 282 = .ok (.iconst 0, 1) := by decide +kernel
theorem d_Pur_pay_283 : decode M_Pur_pay.2.1 283 = .ok (.ireturn, 1) := by decide +kernel
theorem d_Pur_openPayment_0 : decode M_Pur_openPayment.2.1 0 = .ok (.aload_n 0, 1) := by decide +kernel
theorem d_Pur_openPayment_1 : decode M_Pur_openPayment.2.1 1 = .ok (.sipush 164, 3) := by decide +kernel
theorem d_Pur_openPayment_4 : decode M_Pur_openPayment.2.1 4 = .ok (.iconst 4, 1) := by decide +kernel
theorem d_Pur_openPayment_5 : decode M_Pur_openPayment.2.1 5 = .ok (.iconst 0, 1) := by decide +kernel
theorem d_Pur_openPayment_6 : decode M_Pur_openPayment.2.1 6 = .ok (.bipush 7, 2) := by decide +kernel
theorem d_Pur_openPayment_8 : decode M_Pur_openPayment.2.1 8 = .ok (.invokevirtual 149, 3) := by decide +kernel
theorem d_Pur_openPayment_11 : decode M_Pur_openPayment.2.1 11 = .ok (.aload_n 0, 1) := by decide +kernel
theorem d_Pur_openPayment_12 : decode M_Pur_openPayment.2.1 12 = .ok (.getfield 14, 3) := by decide +kernel
theorem d_Pur_openPayment_15 : decode M_Pur_openPayment.2.1 15 = .ok (.aload_n 0, 1) := by decide +kernel
theorem d_Pur_openPayment_16 : decode M_Pur_openPayment.2.1 16 = .ok (.getfield 34, 3) := by decide +kernel
theorem d_Pur_openPayment_19 : decode M_Pur_openPayment.2.1 19 = .ok (.getfield 153, 3) := by decide +kernel
theorem d_Pur_openPayment_22 : decode M_Pur_openPayment.2.1 22 = .ok (.invokevirtual 156, 3) := by decide +kernel
theorem d_Pur_openPayment_25 : decode M_Pur_openPayment.2.1 25 = .ok (.aload_n 0, 1) := by decide +kernel
theorem d_Pur_openPayment_26 : decode M_Pur_openPayment.2.1 26 = .ok (.getfield 34, 3) := by decide +kernel
theorem d_Pur_openPayment_29 : decode M_Pur_openPayment.2.1 29 = .ok (.aload_n 0, 1) := by decide +kernel
theorem d_Pur_openPayment_30 : decode M_Pur_openPayment.2.1 30 = .ok (.getfield 14, 3) := by decide +kernel
theorem d_Pur_openPayment_33 : decode M_Pur_openPayment.2.1 33 = .ok (.aload_n 0, 1) := by decide +kernel
theorem d_Pur_openPayment_34 : decode M_Pur_openPayment.2.1 34 = .ok (.getfield 18, 3) := by decide +kernel
theorem d_Pur_openPayment_37 : decode M_Pur_openPayment.2.1 37 = .ok (.invokevirtual 49, 3) := by decide +kernel
theorem d_Pur_openPayment_40 : decode M_Pur_openPayment.2.1 40 = .ok (.istore_n 3, 1) := by decide +kernel
theorem d_Pur_openPayment_41 : decode M_Pur_openPayment.2.1 41 = .ok (.iload_n 3, 1) := by decide +kernel
theorem d_Pur_openPayment_42 : decode M_Pur_openPayment.2.1 42 = .ok (.ldc 125, 2) := by decide +kernel
theorem d_Pur_openPayment_44 : decode M_Pur_openPayment.2.1 44 = .ok (.if_icmp .eq 5, 3) := by decide +kernel
theorem d_Pur_openPayment_47 : decode M_Pur_openPayment.2.1 47 = .ok (.iload_n 3, 1) := by decide +kernel
theorem d_Pur_openPayment_48 : decode M_Pur_openPayment.2.1 48 = .ok (.ireturn, 1) := by decide +kernel
theorem d_Pur_openPayment_49 : decode M_Pur_openPayment.2.1 49 = .ok (.aload_n 0, 1) := by decide +kernel
theorem d_Pur_openPayment_50 : decode M_Pur_openPayment.2.1 50 = .ok (.ldc 159, 2) := by decide +kernel
theorem d_Pur_openPayment_52 : decode M_Pur_openPayment.2.1 52 = .ok (.iconst 0, 1) := by decide +kernel
theorem d_Pur_openPayment_53 : decode M_Pur_openPayment.2.1 53 = .ok (.iconst 0, 1) := by decide +kernel
theorem d_Pur_openPayment_54 : decode M_Pur_openPayment.2.1 54 = .ok (.bipush 8, 2) := by decide +kernel
theorem d_Pur_openPayment_56 : decode M_Pur_openPayment.2.1 56 = .ok (.invokevirtual 149, 3) := by decide +kernel
theorem d_Pur_openPayment_59 : decode M_Pur_openPayment.2.1 59 = .ok (.aload_n 0, 1) := by decide +kernel
theorem d_Pur_openPayment_60 : decode M_Pur_openPayment.2.1 60 = .ok (.getfield 14, 3) := by decide +kernel
theorem d_Pur_openPayment_63 : decode M_Pur_openPayment.2.1 63 = .ok (.ldc2_w 160, 3) := by decide +kernel
theorem d_Pur_openPayment_66 : decode M_Pur_openPayment.2.1 66 = .ok (.iconst 2, 1) := by decide +kernel
theorem d_Pur_openPayment_67 : decode M_Pur_openPayment.2.1 67 = .ok (.invokevirtual 162, 3) := by decide +kernel
theorem d_Pur_openPayment_70 : decode M_Pur_openPayment.2.1 70 = .ok (.aload_n 0, 1) := by decide +kernel
theorem d_Pur_openPayment_71 : decode M_Pur_openPayment.2.1 71 = .ok (.getfield 14, 3) := by decide +kernel
theorem d_Pur_openPayment_74 : decode M_Pur_openPayment.2.1 74 = .ok (.lload_n 1, 1) := by decide +kernel
theorem d_Pur_openPayment_75 : decode M_Pur_openPayment.2.1 75 = .ok (.bipush 6, 2) := by decide +kernel
theorem d_Pur_openPayment_77 : decode M_Pur_openPayment.2.1 77 = .ok (.invokevirtual 162, 3) := by decide +kernel
theorem d_Pur_openPayment_80 : decode M_Pur_openPayment.2.1 80 = .ok (.aload_n 0, 1) := by decide +kernel
theorem d_Pur_openPayment_81 : decode M_Pur_openPayment.2.1 81 = .ok (.getfield 34, 3) := by decide +kernel
theorem d_Pur_openPayment_84 : decode M_Pur_openPayment.2.1 84 = .ok (.aload_n 0, 1) := by decide +kernel
theorem d_Pur_openPayment_85 : decode M_Pur_openPayment.2.1 85 = .ok (.getfield 14, 3) := by decide +kernel
theorem d_Pur_openPayment_88 : decode M_Pur_openPayment.2.1 88 = .ok (.aload_n 0, 1) := by decide +kernel
theorem d_Pur_openPayment_89 : decode M_Pur_openPayment.2.1 89 = .ok (.getfield 18, 3) := by decide +kernel
theorem d_Pur_openPayment_92 : decode M_Pur_openPayment.2.1 92 = .ok (.invokevirtual 49, 3) := by decide +kernel
theorem d_Pur_openPayment_95 : decode M_Pur_openPayment.2.1 95 = .ok (.ireturn, 1) := by decide +kernel
theorem d_Pur_typeHead_0 : decode M_Pur_typeHead.2.1 0 = .ok (.aload_n 0, 1) := by decide +kernel
theorem d_Pur_typeHead_1 : decode M_Pur_typeHead.2.1 1 = .ok (.getfield 14, 3) := by decide +kernel
theorem d_Pur_typeHead_4 : decode M_Pur_typeHead.2.1 4 = .ok (.invokevirtual 46, 3) := by decide +kernel
theorem d_Pur_typeHead_7 : decode M_Pur_typeHead.2.1 7 = .ok (.aload_n 0, 1) := by decide +kernel
theorem d_Pur_typeHead_8 : decode M_Pur_typeHead.2.1 8 = .ok (.getfield 14, 3) := by decide +kernel
theorem d_Pur_typeHead_11 : decode M_Pur_typeHead.2.1 11 = .ok (.iload_n 1, 1) := by decide +kernel
theorem d_Pur_typeHead_12 : decode M_Pur_typeHead.2.1 12 = .ok (.i2l, 1) := by decide +kernel
theorem d_Pur_typeHead_13 : decode M_Pur_typeHead.2.1 13 = .ok (.iconst 2, 1) := by decide +kernel
theorem d_Pur_typeHead_14 : decode M_Pur_typeHead.2.1 14 = .ok (.invokevirtual 162, 3) := by decide +kernel
theorem d_Pur_typeHead_17 : decode M_Pur_typeHead.2.1 17 = .ok (.aload_n 0, 1) := by decide +kernel
theorem d_Pur_typeHead_18 : decode M_Pur_typeHead.2.1 18 = .ok (.getfield 14, 3) := by decide +kernel
theorem d_Pur_typeHead_21 : decode M_Pur_typeHead.2.1 21 = .ok (.iload_n 2, 1) := by decide +kernel
theorem d_Pur_typeHead_22 : decode M_Pur_typeHead.2.1 22 = .ok (.invokevirtual 38, 3) := by decide +kernel
theorem d_Pur_typeHead_25 : decode M_Pur_typeHead.2.1 25 = .ok (.pop, 1) := by decide +kernel
theorem d_Pur_typeHead_26 : decode M_Pur_typeHead.2.1 26 = .ok (.aload_n 0, 1) := by decide +kernel
theorem d_Pur_typeHead_27 : decode M_Pur_typeHead.2.1 27 = .ok (.getfield 14, 3) := by decide +kernel
theorem d_Pur_typeHead_30 : decode M_Pur_typeHead.2.1 30 = .ok (.iload_n 3, 1) := by decide +kernel
theorem d_Pur_typeHead_31 : decode M_Pur_typeHead.2.1 31 = .ok (.invokevirtual 38, 3) := by decide +kernel
theorem d_Pur_typeHead_34 : decode M_Pur_typeHead.2.1 34 = .ok (.pop, 1) := by decide +kernel
theorem d_Pur_typeHead_35 : decode M_Pur_typeHead.2.1 35 = .ok (.iload 4, 2) := by decide +kernel
theorem d_Pur_typeHead_37 : decode M_Pur_typeHead.2.1 37 = .ok (.ifCond .le 13, 3) := by decide +kernel
theorem d_Pur_typeHead_40 : decode M_Pur_typeHead.2.1 40 = .ok (.aload_n 0, 1) := by decide +kernel
theorem d_Pur_typeHead_41 : decode M_Pur_typeHead.2.1 41 = .ok (.getfield 14, 3) := by decide +kernel
theorem d_Pur_typeHead_44 : decode M_Pur_typeHead.2.1 44 = .ok (.iload 4, 2) := by decide +kernel
theorem d_Pur_typeHead_46 : decode M_Pur_typeHead.2.1 46 = .ok (.invokevirtual 38, 3) := by decide +kernel
theorem d_Pur_typeHead_49 : decode M_Pur_typeHead.2.1 49 = .ok (.pop, 1) := by decide +kernel
theorem d_Pur_typeHead_50 : decode M_Pur_typeHead.2.1 50 = .ok (.return_, 1) := by decide +kernel
theorem d_Pur_readRecords_0 : decode M_Pur_readRecords.2.1 0 = .ok (.aload_n 0, 1) := by decide +kernel
theorem d_Pur_readRecords_1 : decode M_Pur_readRecords.2.1 1 = .ok (.getfield 21, 3) := by decide +kernel
theorem d_Pur_readRecords_4 : decode M_Pur_readRecords.2.1 4 = .ok (.invokevirtual 46, 3) := by decide +kernel
theorem d_Pur_readRecords_7 : decode M_Pur_readRecords.2.1 7 = .ok (.aload_n 0, 1) := by decide +kernel
theorem d_Pur_readRecords_8 : decode M_Pur_readRecords.2.1 8 = .ok (.getfield 21, 3) := by decide +kernel
theorem d_Pur_readRecords_11 : decode M_Pur_readRecords.2.1 11 = .ok (.aload_n 0, 1) := by decide +kernel
theorem d_Pur_readRecords_12 : decode M_Pur_readRecords.2.1 12 = .ok (.getfield 18, 3) := by decide +kernel
theorem d_Pur_readRecords_15 : decode M_Pur_readRecords.2.1 15 = .ok (.invokevirtual 156, 3) := by decide +kernel
theorem d_Pur_readRecords_18 : decode M_Pur_readRecords.2.1 18 = .ok (.iconst 4, 1) := by decide +kernel
theorem d_Pur_readRecords_19 : decode M_Pur_readRecords.2.1 19 = .ok (.istore_n 1, 1) := by decide +kernel
theorem d_Pur_readRecords_20 : decode M_Pur_readRecords.2.1 20 = .ok (.iload_n 1, 1) := by decide +kernel
theorem d_Pur_readRecords_21 : decode M_Pur_readRecords.2.1 21 = .ok (.iconst 3, 1) := by decide +kernel
theorem d_Pur_readRecords_22 : decode M_Pur_readRecords.2.1 22 = .ok (.iadd, 1) := by decide +kernel
theorem d_Pur_readRecords_23 : decode M_Pur_readRecords.2.1 23 = .ok (.aload_n 0, 1) := by decide +kernel
theorem d_Pur_readRecords_24 : decode M_Pur_readRecords.2.1 24 = .ok (.getfield 21, 3) := by decide +kernel
theorem d_Pur_readRecords_27 : decode M_Pur_readRecords.2.1 27 = .ok (.invokevirtual 42, 3) := by decide +kernel
theorem d_Pur_readRecords_30 : decode M_Pur_readRecords.2.1 30 = .ok (.if_icmp .ge 83, 3) := by decide +kernel
theorem d_Pur_readRecords_33 : decode M_Pur_readRecords.2.1 33 = .ok (.aload_n 0, 1) := by decide +kernel
theorem d_Pur_readRecords_34 : decode M_Pur_readRecords.2.1 34 = .ok (.getfield 21, 3) := by decide +kernel
theorem d_Pur_readRecords_37 : decode M_Pur_readRecords.2.1 37 = .ok (.iload_n 1, 1) := by decide +kernel
theorem d_Pur_readRecords_38 : decode M_Pur_readRecords.2.1 38 = .ok (.iconst 1, 1) := by decide +kernel
theorem d_Pur_readRecords_39 : decode M_Pur_readRecords.2.1 39 = .ok (.iadd, 1) := by decide +kernel
theorem d_Pur_readRecords_40 : decode M_Pur_readRecords.2.1 40 = .ok (.invokevirtual 53, 3) := by decide +kernel
theorem d_Pur_readRecords_43 : decode M_Pur_readRecords.2.1 43 = .ok (.istore_n 2, 1) := by decide +kernel
theorem d_Pur_readRecords_44 : decode M_Pur_readRecords.2.1 44 = .ok (.iload_n 2, 1) := by decide +kernel
theorem d_Pur_readRecords_45 : decode M_Pur_readRecords.2.1 45 = .ok (.aload_n 0, 1) := by decide +kernel
theorem d_Pur_readRecords_46 : decode M_Pur_readRecords.2.1 46 = .ok (.getfield 21, 3) := by decide +kernel
theorem d_Pur_readRecords_49 : decode M_Pur_readRecords.2.1 49 = .ok (.iload_n 1, 1) := by decide +kernel
theorem d_Pur_readRecords_50 : decode M_Pur_readRecords.2.1 50 = .ok (.iconst 2, 1) := by decide +kernel
theorem d_Pur_readRecords_51 : decode M_Pur_readRecords.2.1 51 = .ok (.iadd, 1) := by decide +kernel
theorem d_Pur_readRecords_52 : decode M_Pur_readRecords.2.1 52 = .ok (.invokevirtual 53, 3) := by decide +kernel
theorem d_Pur_readRecords_55 : decode M_Pur_readRecords.2.1 55 = .ok (.if_icmp .gt 52, 3) := by decide +kernel
theorem d_Pur_readRecords_58 : decode M_Pur_readRecords.2.1 58 = .ok (.aload_n 0, 1) := by decide +kernel
theorem d_Pur_readRecords_59 : decode M_Pur_readRecords.2.1 59 = .ok (.sipush 178, 3) := by decide +kernel
theorem d_Pur_readRecords_62 : decode M_Pur_readRecords.2.1 62 = .ok (.iload_n 2, 1) := by decide +kernel
theorem d_Pur_readRecords_63 : decode M_Pur_readRecords.2.1 63 = .ok (.aload_n 0, 1) := by decide +kernel
theorem d_Pur_readRecords_64 : decode M_Pur_readRecords.2.1 64 = .ok (.getfield 21, 3) := by decide +kernel
theorem d_Pur_readRecords_67 : decode M_Pur_readRecords.2.1 67 = .ok (.iload_n 1, 1) := by decide +kernel
theorem d_Pur_readRecords_68 : decode M_Pur_readRecords.2.1 68 = .ok (.invokevirtual 53, 3) := by decide +kernel
theorem d_Pur_readRecords_71 : decode M_Pur_readRecords.2.1 71 = .ok (.iconst 4, 1) := by decide +kernel
theorem d_Pur_readRecords_72 : decode M_Pur_readRecords.2.1 72 = .ok (.iadd, 1) := by decide +kernel
theorem d_Pur_readRecords_73 : decode M_Pur_readRecords.2.1 73 = .ok (.iconst 0, 1) := by decide +kernel
theorem d_Pur_readRecords_74 : decode M_Pur_readRecords.2.1 74 = .ok (.invokevirtual 149, 3) := by decide +kernel
theorem d_Pur_readRecords_77 : decode M_Pur_readRecords.2.1 77 = .ok (.aload_n 0, 1) := by decide +kernel
theorem d_Pur_readRecords_78 : decode M_Pur_readRecords.2.1 78 = .ok (.getfield 34, 3) := by decide +kernel
theorem d_Pur_readRecords_81 : decode M_Pur_readRecords.2.1 81 = .ok (.aload_n 0, 1) := by decide +kernel
theorem d_Pur_readRecords_82 : decode M_Pur_readRecords.2.1 82 = .ok (.getfield 14, 3) := by decide +kernel
theorem d_Pur_readRecords_85 : decode M_Pur_readRecords.2.1 85 = .ok (.aload_n 0, 1) := by decide +kernel
theorem d_Pur_readRecords_86 : decode M_Pur_readRecords.2.1 86 = .ok (.getfield 18, 3) := by decide +kernel
theorem d_Pur_readRecords_89 : decode M_Pur_readRecords.2.1 89 = .ok (.invokevirtual 49, 3) := by decide +kernel
theorem d_Pur_readRecords_92 : decode M_Pur_readRecords.2.1 92 = .ok (.istore_n 3, 1) := by decide +kernel
theorem d_Pur_readRecords_93 : decode M_Pur_readRecords.2.1 93 = .ok (.iload_n 3, 1) := by decide +kernel
theorem d_Pur_readRecords_94 : decode M_Pur_readRecords.2.1 94 = .ok (.ldc 125, 2) := by decide +kernel
theorem d_Pur_readRecords_96 : decode M_Pur_readRecords.2.1 96 = .ok (.if_icmp .eq 5, 3) := by decide +kernel
theorem d_Pur_readRecords_99 : decode M_Pur_readRecords.2.1 99 = .ok (.iload_n 3, 1) := by decide +kernel
theorem d_Pur_readRecords_100 : decode M_Pur_readRecords.2.1 100 = .ok (.ireturn, 1) := by decide +kernel
theorem d_Pur_readRecords_101 : decode M_Pur_readRecords.2.1 101 = .ok (.iinc 2 1, 3) := by decide +kernel
theorem d_Pur_readRecords_104 : decode M_Pur_readRecords.2.1 104 = .ok (.goto (-60), 3) := by decide +kernel
theorem d_Pur_readRecords_107 : decode M_Pur_readRecords.2.1 107 = .ok (.iinc 1 4, 3) := by decide +kernel
theorem d_Pur_readRecords_110 : decode M_Pur_readRecords.2.1 110 = .ok (.goto (-90), 3) := by decide +kernel
theorem d_Pur_readRecords_113 : decode M_Pur_readRecords.2.1 113 = .ok (.ldc 125, 2) := by decide +kernel
theorem d_Pur_readRecords_115 : decode M_Pur_readRecords.2.1 115 = .ok (.ireturn, 1) := by decide +kernel
theorem d_Pur_provePin_0 : decode M_Pur_provePin.2.1 0 = .ok (.aload_n 0, 1) := by decide +kernel
theorem d_Pur_provePin_1 : decode M_Pur_provePin.2.1 1 = .ok (.bipush 32, 2) := by decide +kernel
theorem d_Pur_provePin_3 : decode M_Pur_provePin.2.1 3 = .ok (.iconst 0, 1) := by decide +kernel
theorem d_Pur_provePin_4 : decode M_Pur_provePin.2.1 4 = .ok (.sipush 128, 3) := by decide +kernel
theorem d_Pur_provePin_7 : decode M_Pur_provePin.2.1 7 = .ok (.bipush 8, 2) := by decide +kernel
theorem d_Pur_provePin_9 : decode M_Pur_provePin.2.1 9 = .ok (.invokevirtual 149, 3) := by decide +kernel
theorem d_Pur_provePin_12 : decode M_Pur_provePin.2.1 12 = .ok (.aload_n 0, 1) := by decide +kernel
theorem d_Pur_provePin_13 : decode M_Pur_provePin.2.1 13 = .ok (.getfield 14, 3) := by decide +kernel
theorem d_Pur_provePin_16 : decode M_Pur_provePin.2.1 16 = .ok (.bipush 36, 2) := by decide +kernel
theorem d_Pur_provePin_18 : decode M_Pur_provePin.2.1 18 = .ok (.invokevirtual 38, 3) := by decide +kernel
theorem d_Pur_provePin_21 : decode M_Pur_provePin.2.1 21 = .ok (.pop, 1) := by decide +kernel
theorem d_Pur_provePin_22 : decode M_Pur_provePin.2.1 22 = .ok (.aload_n 0, 1) := by decide +kernel
theorem d_Pur_provePin_23 : decode M_Pur_provePin.2.1 23 = .ok (.getfield 14, 3) := by decide +kernel
theorem d_Pur_provePin_26 : decode M_Pur_provePin.2.1 26 = .ok (.iload_n 1, 1) := by decide +kernel
theorem d_Pur_provePin_27 : decode M_Pur_provePin.2.1 27 = .ok (.sipush 1000, 3) := by decide +kernel
theorem d_Pur_provePin_30 : decode M_Pur_provePin.2.1 30 = .ok (.idiv, 1) := by decide +kernel
theorem d_Pur_provePin_31 : decode M_Pur_provePin.2.1 31 = .ok (.bipush 16, 2) := by decide +kernel
theorem d_Pur_provePin_33 : decode M_Pur_provePin.2.1 33 = .ok (.imul, 1) := by decide +kernel
theorem d_Pur_provePin_34 : decode M_Pur_provePin.2.1 34 = .ok (.iload_n 1, 1) := by decide +kernel
theorem d_Pur_provePin_35 : decode M_Pur_provePin.2.1 35 = .ok (.bipush 100, 2) := by decide +kernel
theorem d_Pur_provePin_37 : decode M_Pur_provePin.2.1 37 = .ok (.idiv, 1) := by decide +kernel
theorem d_Pur_provePin_38 : decode M_Pur_provePin.2.1 38 = .ok (.bipush 10, 2) := by decide +kernel
theorem d_Pur_provePin_40 : decode M_Pur_provePin.2.1 40 = .ok (.irem, 1) := by decide +kernel
theorem d_Pur_provePin_41 : decode M_Pur_provePin.2.1 41 = .ok (.iadd, 1) := by decide +kernel
theorem d_Pur_provePin_42 : decode M_Pur_provePin.2.1 42 = .ok (.invokevirtual 38, 3) := by decide +kernel
theorem d_Pur_provePin_45 : decode M_Pur_provePin.2.1 45 = .ok (.pop, 1) := by decide +kernel
theorem d_Pur_provePin_46 : decode M_Pur_provePin.2.1 46 = .ok (.aload_n 0, 1) := by decide +kernel
theorem d_Pur_provePin_47 : decode M_Pur_provePin.2.1 47 = .ok (.getfield 14, 3) := by decide +kernel
theorem d_Pur_provePin_50 : decode M_Pur_provePin.2.1 50 = .ok (.iload_n 1, 1) := by decide +kernel
theorem d_Pur_provePin_51 : decode M_Pur_provePin.2.1 51 = .ok (.bipush 10, 2) := by decide +kernel
theorem d_Pur_provePin_53 : decode M_Pur_provePin.2.1 53 = .ok (.idiv, 1) := by decide +kernel
theorem d_Pur_provePin_54 : decode M_Pur_provePin.2.1 54 = .ok (.bipush 10, 2) := by decide +kernel
theorem d_Pur_provePin_56 : decode M_Pur_provePin.2.1 56 = .ok (.irem, 1) := by decide +kernel
theorem d_Pur_provePin_57 : decode M_Pur_provePin.2.1 57 = .ok (.bipush 16, 2) := by decide +kernel
theorem d_Pur_provePin_59 : decode M_Pur_provePin.2.1 59 = .ok (.imul, 1) := by decide +kernel
theorem d_Pur_provePin_60 : decode M_Pur_provePin.2.1 60 = .ok (.iload_n 1, 1) := by decide +kernel
theorem d_Pur_provePin_61 : decode M_Pur_provePin.2.1 61 = .ok (.bipush 10, 2) := by decide +kernel
theorem d_Pur_provePin_63 : decode M_Pur_provePin.2.1 63 = .ok (.irem, 1) := by decide +kernel
theorem d_Pur_provePin_64 : decode M_Pur_provePin.2.1 64 = .ok (.iadd, 1) := by decide +kernel
theorem d_Pur_provePin_65 : decode M_Pur_provePin.2.1 65 = .ok (.invokevirtual 38, 3) := by decide +kernel
theorem d_Pur_provePin_68 : decode M_Pur_provePin.2.1 68 = .ok (.pop, 1) := by decide +kernel
theorem d_Pur_provePin_69 : decode M_Pur_provePin.2.1 69 = .ok (.iconst 0, 1) := by decide +kernel
theorem d_Pur_provePin_70 : decode M_Pur_provePin.2.1 70 = .ok (.istore_n 2, 1) := by decide +kernel
theorem d_Pur_provePin_71 : decode M_Pur_provePin.2.1 71 = .ok (.iload_n 2, 1) := by decide +kernel
theorem d_Pur_provePin_72 : decode M_Pur_provePin.2.1 72 = .ok (.iconst 5, 1) := by decide +kernel
theorem d_Pur_provePin_73 : decode M_Pur_provePin.2.1 73 = .ok (.if_icmp .ge 20, 3) := by decide +kernel
theorem d_Pur_provePin_76 : decode M_Pur_provePin.2.1 76 = .ok (.aload_n 0, 1) := by decide +kernel
theorem d_Pur_provePin_77 : decode M_Pur_provePin.2.1 77 = .ok (.getfield 14, 3) := by decide +kernel
theorem d_Pur_provePin_80 : decode M_Pur_provePin.2.1 80 = .ok (.sipush 255, 3) := by decide +kernel
theorem d_Pur_provePin_83 : decode M_Pur_provePin.2.1 83 = .ok (.invokevirtual 38, 3) := by decide +kernel
theorem d_Pur_provePin_86 : decode M_Pur_provePin.2.1 86 = .ok (.pop, 1) := by decide +kernel
theorem d_Pur_provePin_87 : decode M_Pur_provePin.2.1 87 = .ok (.iinc 2 1, 3) := by decide +kernel
theorem d_Pur_provePin_90 : decode M_Pur_provePin.2.1 90 = .ok (.goto (-19), 3) := by decide +kernel
theorem d_Pur_provePin_93 : decode M_Pur_provePin.2.1 93 = .ok (.aload_n 0, 1) := by decide +kernel
theorem d_Pur_provePin_94 : decode M_Pur_provePin.2.1 94 = .ok (.getfield 34, 3) := by decide +kernel
theorem d_Pur_provePin_97 : decode M_Pur_provePin.2.1 97 = .ok (.aload_n 0, 1) := by decide +kernel
theorem d_Pur_provePin_98 : decode M_Pur_provePin.2.1 98 = .ok (.getfield 14, 3) := by decide +kernel
theorem d_Pur_provePin_101 : decode M_Pur_provePin.2.1 101 = .ok (.aload_n 0, 1) := by decide +kernel
theorem d_Pur_provePin_102 : decode M_Pur_provePin.2.1 102 = .ok (.getfield 18, 3) := by decide +kernel
theorem d_Pur_provePin_105 : decode M_Pur_provePin.2.1 105 = .ok (.invokevirtual 49, 3) := by decide +kernel
theorem d_Pur_provePin_108 : decode M_Pur_provePin.2.1 108 = .ok (.ireturn, 1) := by decide +kernel
theorem d_Pur_typeSeal_0 : decode M_Pur_typeSeal.2.1 0 = .ok (.aload_n 0, 1) := by decide +kernel
theorem d_Pur_typeSeal_1 : decode M_Pur_typeSeal.2.1 1 = .ok (.ldc 166, 2) := by decide +kernel
theorem d_Pur_typeSeal_3 : decode M_Pur_typeSeal.2.1 3 = .ok (.iload_n 1, 1) := by decide +kernel
theorem d_Pur_typeSeal_4 : decode M_Pur_typeSeal.2.1 4 = .ok (.iconst 0, 1) := by decide +kernel
theorem d_Pur_typeSeal_5 : decode M_Pur_typeSeal.2.1 5 = .ok (.iload 5, 2) := by decide +kernel
theorem d_Pur_typeSeal_7 : decode M_Pur_typeSeal.2.1 7 = .ok (.invokevirtual 149, 3) := by decide +kernel
theorem d_Pur_typeSeal_10 : decode M_Pur_typeSeal.2.1 10 = .ok (.aload_n 0, 1) := by decide +kernel
theorem d_Pur_typeSeal_11 : decode M_Pur_typeSeal.2.1 11 = .ok (.getfield 14, 3) := by decide +kernel
theorem d_Pur_typeSeal_14 : decode M_Pur_typeSeal.2.1 14 = .ok (.lload_n 2, 1) := by decide +kernel
theorem d_Pur_typeSeal_15 : decode M_Pur_typeSeal.2.1 15 = .ok (.bipush 6, 2) := by decide +kernel
theorem d_Pur_typeSeal_17 : decode M_Pur_typeSeal.2.1 17 = .ok (.invokevirtual 162, 3) := by decide +kernel
theorem d_Pur_typeSeal_20 : decode M_Pur_typeSeal.2.1 20 = .ok (.aload_n 0, 1) := by decide +kernel
theorem d_Pur_typeSeal_21 : decode M_Pur_typeSeal.2.1 21 = .ok (.getfield 14, 3) := by decide +kernel
theorem d_Pur_typeSeal_24 : decode M_Pur_typeSeal.2.1 24 = .ok (.iload 4, 2) := by decide +kernel
theorem d_Pur_typeSeal_26 : decode M_Pur_typeSeal.2.1 26 = .ok (.i2l, 1) := by decide +kernel
theorem d_Pur_typeSeal_27 : decode M_Pur_typeSeal.2.1 27 = .ok (.iconst 4, 1) := by decide +kernel
theorem d_Pur_typeSeal_28 : decode M_Pur_typeSeal.2.1 28 = .ok (.invokevirtual 162, 3) := by decide +kernel
theorem d_Pur_typeSeal_31 : decode M_Pur_typeSeal.2.1 31 = .ok (.return_, 1) := by decide +kernel
theorem d_Pur_givenByCard_0 : decode M_Pur_givenByCard.2.1 0 = .ok (.aload_n 0, 1) := by decide +kernel
theorem d_Pur_givenByCard_1 : decode M_Pur_givenByCard.2.1 1 = .ok (.getfield 18, 3) := by decide +kernel
theorem d_Pur_givenByCard_4 : decode M_Pur_givenByCard.2.1 4 = .ok (.aload_n 0, 1) := by decide +kernel
theorem d_Pur_givenByCard_5 : decode M_Pur_givenByCard.2.1 5 = .ok (.getfield 27, 3) := by decide +kernel
theorem d_Pur_givenByCard_8 : decode M_Pur_givenByCard.2.1 8 = .ok (.ldc 106, 2) := by decide +kernel
theorem d_Pur_givenByCard_10 : decode M_Pur_givenByCard.2.1 10 = .ok (.aload_n 0, 1) := by decide +kernel
theorem d_Pur_givenByCard_11 : decode M_Pur_givenByCard.2.1 11 = .ok (.getfield 18, 3) := by decide +kernel
theorem d_Pur_givenByCard_14 : decode M_Pur_givenByCard.2.1 14 = .ok (.invokevirtual 57, 3) := by decide +kernel
theorem d_Pur_givenByCard_17 : decode M_Pur_givenByCard.2.1 17 = .ok (.invokevirtual 53, 3) := by decide +kernel
theorem d_Pur_givenByCard_20 : decode M_Pur_givenByCard.2.1 20 = .ok (.ireturn, 1) := by decide +kernel
theorem d_Pur_stage_0 : decode M_Pur_stage.2.1 0 = .ok (.aload_n 0, 1) := by decide +kernel
theorem d_Pur_stage_1 : decode M_Pur_stage.2.1 1 = .ok (.getfield 34, 3) := by decide +kernel
theorem d_Pur_stage_4 : decode M_Pur_stage.2.1 4 = .ok (.getfield 144, 3) := by decide +kernel
theorem d_Pur_stage_7 : decode M_Pur_stage.2.1 7 = .ok (.ireturn, 1) := by decide +kernel
theorem d_Pur_counter_0 : decode M_Pur_counter.2.1 0 = .ok (.aload_n 0, 1) := by decide +kernel
theorem d_Pur_counter_1 : decode M_Pur_counter.2.1 1 = .ok (.getfield 34, 3) := by decide +kernel
theorem d_Pur_counter_4 : decode M_Pur_counter.2.1 4 = .ok (.getfield 91, 3) := by decide +kernel
theorem d_Pur_counter_7 : decode M_Pur_counter.2.1 7 = .ok (.ireturn, 1) := by decide +kernel
theorem d_Pur_tries_0 : decode M_Pur_tries.2.1 0 = .ok (.aload_n 0, 1) := by decide +kernel
theorem d_Pur_tries_1 : decode M_Pur_tries.2.1 1 = .ok (.getfield 34, 3) := by decide +kernel
theorem d_Pur_tries_4 : decode M_Pur_tries.2.1 4 = .ok (.getfield 88, 3) := by decide +kernel
theorem d_Pur_tries_7 : decode M_Pur_tries.2.1 7 = .ok (.ireturn, 1) := by decide +kernel

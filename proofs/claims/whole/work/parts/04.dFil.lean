theorem d_Fil_init_0 : decode M_Fil_init.2.1 0 = .ok (.aload_n 0, 1) := by decide +kernel
theorem d_Fil_init_1 : decode M_Fil_init.2.1 1 = .ok (.invokespecial 3, 3) := by decide +kernel
theorem d_Fil_init_4 : decode M_Fil_init.2.1 4 = .ok (.aload_n 0, 1) := by decide +kernel
theorem d_Fil_init_5 : decode M_Fil_init.2.1 5 = .ok (.sipush 360, 3) := by decide +kernel
theorem d_Fil_init_8 : decode M_Fil_init.2.1 8 = .ok (.newarray .int, 2) := by decide +kernel
theorem d_Fil_init_10 : decode M_Fil_init.2.1 10 = .ok (.putfield 9, 3) := by decide +kernel
theorem d_Fil_init_13 : decode M_Fil_init.2.1 13 = .ok (.aload_n 0, 1) := by decide +kernel
theorem d_Fil_init_14 : decode M_Fil_init.2.1 14 = .ok (.bipush 12, 2) := by decide +kernel
theorem d_Fil_init_16 : decode M_Fil_init.2.1 16 = .ok (.newarray .int, 2) := by decide +kernel
theorem d_Fil_init_18 : decode M_Fil_init.2.1 18 = .ok (.putfield 15, 3) := by decide +kernel
theorem d_Fil_init_21 : decode M_Fil_init.2.1 21 = .ok (.aload_n 0, 1) := by decide +kernel
theorem d_Fil_init_22 : decode M_Fil_init.2.1 22 = .ok (.iconst 4, 1) := by decide +kernel
theorem d_Fil_init_23 : decode M_Fil_init.2.1 23 = .ok (.newarray .int, 2) := by decide +kernel
theorem d_Fil_init_25 : decode M_Fil_init.2.1 25 = .ok (.putfield 18, 3) := by decide +kernel
theorem d_Fil_init_28 : decode M_Fil_init.2.1 28 = .ok (.return_, 1) := by decide +kernel
theorem d_Fil_count_0 : decode M_Fil_count.2.1 0 = .ok (.iload_n 1, 1) := by decide +kernel
theorem d_Fil_count_1 : decode M_Fil_count.2.1 1 = .ok (.iconst 1, 1) := by decide +kernel
theorem d_Fil_count_2 : decode M_Fil_count.2.1 2 = .ok (.if_icmp .lt 19, 3) := by decide +kernel
theorem d_Fil_count_5 : decode M_Fil_count.2.1 5 = .ok (.iload_n 1, 1) := by decide +kernel
theorem d_Fil_count_6 : decode M_Fil_count.2.1 6 = .ok (.iconst 4, 1) := by decide +kernel
theorem d_Fil_count_7 : decode M_Fil_count.2.1 7 = .ok (.if_icmp .gt 14, 3) := by decide +kernel
theorem d_Fil_count_10 : decode M_Fil_count.2.1 10 = .ok (.aload_n 0, 1) := by decide +kernel
theorem d_Fil_count_11 : decode M_Fil_count.2.1 11 = .ok (.getfield 18, 3) := by decide +kernel
theorem d_Fil_count_14 : decode M_Fil_count.2.1 14 = .ok (.iload_n 1, 1) := by decide +kernel
theorem d_Fil_count_15 : decode M_Fil_count.2.1 15 = .ok (.iconst 1, 1) := by decide +kernel
theorem d_Fil_count_16 : decode M_Fil_count.2.1 16 = .ok (.isub, 1) := by decide +kernel
theorem d_Fil_count_17 : decode M_Fil_count.2.1 17 = .ok (.iaload, 1) := by decide +kernel
theorem d_Fil_count_18 : decode M_Fil_count.2.1 18 = .ok (.goto 4, 3) := by decide +kernel
theorem d_Fil_count_21 : decode M_Fil_count.2.1 21 = .ok (.iconst 0, 1) := by decide +kernel
theorem d_Fil_count_22 : decode M_Fil_count.2.1 22 = .ok (.ireturn, 1) := by decide +kernel
theorem d_Fil_copy_0 : decode M_Fil_copy.2.1 0 = .ok (.iload_n 2, 1) := by decide +kernel
theorem d_Fil_copy_1 : decode M_Fil_copy.2.1 1 = .ok (.iconst 1, 1) := by decide +kernel
theorem d_Fil_copy_2 : decode M_Fil_copy.2.1 2 = .ok (.if_icmp .lt 12, 3) := by decide +kernel
theorem d_Fil_copy_5 : decode M_Fil_copy.2.1 5 = .ok (.iload_n 2, 1) := by decide +kernel
theorem d_Fil_copy_6 : decode M_Fil_copy.2.1 6 = .ok (.aload_n 0, 1) := by decide +kernel
theorem d_Fil_copy_7 : decode M_Fil_copy.2.1 7 = .ok (.iload_n 1, 1) := by decide +kernel
theorem d_Fil_copy_8 : decode M_Fil_copy.2.1 8 = .ok (.invokevirtual 21, 3) := by decide +kernel
theorem d_Fil_copy_11 : decode M_Fil_copy.2.1 11 = .ok (.if_icmp .le 4, 3) := by decide +kernel
theorem d_Fil_copy_14 : decode M_Fil_copy.2.1 14 = .ok (.return_, 1) := by decide +kernel
theorem d_Fil_copy_15 : decode M_Fil_copy.2.1 15 = .ok (.iload_n 1, 1) := by decide +kernel
theorem d_Fil_copy_16 : decode M_Fil_copy.2.1 16 = .ok (.iconst 1, 1) := by decide +kernel
theorem d_Fil_copy_17 : decode M_Fil_copy.2.1 17 = .ok (.isub, 1) := by decide +kernel
theorem d_Fil_copy_18 : decode M_Fil_copy.2.1 18 = .ok (.iconst 3, 1) := by decide +kernel
theorem d_Fil_copy_19 : decode M_Fil_copy.2.1 19 = .ok (.imul, 1) := by decide +kernel
theorem d_Fil_copy_20 : decode M_Fil_copy.2.1 20 = .ok (.iload_n 2, 1) := by decide +kernel
theorem d_Fil_copy_21 : decode M_Fil_copy.2.1 21 = .ok (.iadd, 1) := by decide +kernel
theorem d_Fil_copy_22 : decode M_Fil_copy.2.1 22 = .ok (.iconst 1, 1) := by decide +kernel
theorem d_Fil_copy_23 : decode M_Fil_copy.2.1 23 = .ok (.isub, 1) := by decide +kernel
theorem d_Fil_copy_24 : decode M_Fil_copy.2.1 24 = .ok (.istore 4, 2) := by decide +kernel
theorem d_Fil_copy_26 : decode M_Fil_copy.2.1 26 = .ok (.iconst 0, 1) := by decide +kernel
theorem d_Fil_copy_27 : decode M_Fil_copy.2.1 27 = .ok (.istore 5, 2) := by decide +kernel
theorem d_Fil_copy_29 : decode M_Fil_copy.2.1 29 = .ok (.iload 5, 2) := by decide +kernel
theorem d_Fil_copy_31 : decode M_Fil_copy.2.1 31 = .ok (.aload_n 0, 1) := by decide +kernel
theorem d_Fil_copy_32 : decode M_Fil_copy.2.1 32 = .ok (.getfield 15, 3) := by decide +kernel
theorem d_Fil_copy_35 : decode M_Fil_copy.2.1 35 = .ok (.iload 4, 2) := by decide +kernel
theorem d_Fil_copy_37 : decode M_Fil_copy.2.1 37 = .ok (.iaload, 1) := by decide +kernel
theorem d_Fil_copy_38 : decode M_Fil_copy.2.1 38 = .ok (.if_icmp .ge 27, 3) := by decide +kernel
theorem d_Fil_copy_41 : decode M_Fil_copy.2.1 41 = .ok (.aload_n 3, 1) := by decide +kernel
theorem d_Fil_copy_42 : decode M_Fil_copy.2.1 42 = .ok (.aload_n 0, 1) := by decide +kernel
theorem d_Fil_copy_43 : decode M_Fil_copy.2.1 43 = .ok (.getfield 9, 3) := by decide +kernel
theorem d_Fil_copy_46 : decode M_Fil_copy.2.1 46 = .ok (.iload 4, 2) := by decide +kernel
theorem d_Fil_copy_48 : decode M_Fil_copy.2.1 48 = .ok (.bipush 30, 2) := by decide +kernel
theorem d_Fil_copy_50 : decode M_Fil_copy.2.1 50 = .ok (.imul, 1) := by decide +kernel
theorem d_Fil_copy_51 : decode M_Fil_copy.2.1 51 = .ok (.iload 5, 2) := by decide +kernel
theorem d_Fil_copy_53 : decode M_Fil_copy.2.1 53 = .ok (.iadd, 1) := by decide +kernel
theorem d_Fil_copy_54 : decode M_Fil_copy.2.1 54 = .ok (.iaload, 1) := by decide +kernel
theorem d_Fil_copy_55 : decode M_Fil_copy.2.1 55 = .ok (.invokevirtual 34, 3) := by decide +kernel
theorem d_Fil_copy_58 : decode M_Fil_copy.2.1 58 = .ok (.pop, 1) := by decide +kernel
theorem d_Fil_copy_59 : decode M_Fil_copy.2.1 59 = .ok (.iinc 5 1, 3) := by decide +kernel
theorem d_Fil_copy_62 : decode M_Fil_copy.2.1 62 = .ok (.goto (-33), 3) := by decide +kernel
theorem d_Fil_copy_65 : decode M_Fil_copy.2.1 65 = .ok (.return_, 1) := by decide +kernel
theorem d_Fil_store_0 : decode M_Fil_store.2.1 0 = .ok (.iload_n 1, 1) := by decide +kernel
theorem d_Fil_store_1 : decode M_Fil_store.2.1 1 = .ok (.iconst 1, 1) := by decide +kernel
theorem d_Fil_store_2 : decode M_Fil_store.2.1 2 = .ok (.if_icmp .lt 17, 3) := by decide +kernel
theorem d_Fil_store_5 : decode M_Fil_store.2.1 5 = .ok (.iload_n 1, 1) := by decide +kernel
theorem d_Fil_store_6 : decode M_Fil_store.2.1 6 = .ok (.iconst 4, 1) := by decide +kernel
theorem d_Fil_store_7 : decode M_Fil_store.2.1 7 = .ok (.if_icmp .gt 12, 3) := by decide +kernel
theorem d_Fil_store_10 : decode M_Fil_store.2.1 10 = .ok (.aload_n 0, 1) := by decide +kernel
theorem d_Fil_store_11 : decode M_Fil_store.2.1 11 = .ok (.iload_n 1, 1) := by decide +kernel
theorem d_Fil_store_12 : decode M_Fil_store.2.1 12 = .ok (.invokevirtual 21, 3) := by decide +kernel
theorem d_Fil_store_15 : decode M_Fil_store.2.1 15 = .ok (.iconst 3, 1) := by decide +kernel
theorem d_Fil_store_16 : decode M_Fil_store.2.1 16 = .ok (.if_icmp .lt 5, 3) := by decide +kernel
theorem d_Fil_store_19 : decode M_Fil_store.2.1 19 = .ok (.iconst 0, 1) := by decide +kernel
theorem d_Fil_store_20 : decode M_Fil_store.2.1 20 = .ok (.ireturn, 1) := by decide +kernel
theorem d_Fil_store_21 : decode M_Fil_store.2.1 21 = .ok (.aload_n 2, 1) := by decide +kernel
theorem d_Fil_store_22 : decode M_Fil_store.2.1 22 = .ok (.invokevirtual 25, 3) := by decide +kernel
theorem d_Fil_store_25 : decode M_Fil_store.2.1 25 = .ok (.iconst 1, 1) := by decide +kernel
theorem d_Fil_store_26 : decode M_Fil_store.2.1 26 = .ok (.if_icmp .lt 12, 3) := by decide +kernel
theorem d_Fil_store_29 : decode M_Fil_store.2.1 29 = .ok (.aload_n 2, 1) := by decide +kernel
theorem d_Fil_store_30 : decode M_Fil_store.2.1 30 = .ok (.invokevirtual 25, 3) := by decide +kernel
theorem d_Fil_store_33 : decode M_Fil_store.2.1 33 = .ok (.bipush 30, 2) := by decide +kernel
theorem d_Fil_store_35 : decode M_Fil_store.2.1 35 = .ok (.if_icmp .le 5, 3) := by decide +kernel
theorem d_Fil_store_38 : decode M_Fil_store.2.1 38 = .ok (.iconst 0, 1) := by decide +kernel
theorem d_Fil_store_39 : decode M_Fil_store.2.1 39 = .ok (.ireturn, 1) := by decide +kernel
theorem d_Fil_store_40 : decode M_Fil_store.2.1 40 = .ok (.iload_n 1, 1) := by decide +kernel
theorem d_Fil_store_41 : decode M_Fil_store.2.1 41 = .ok (.iconst 1, 1) := by decide +kernel
theorem d_Fil_store_42 : decode M_Fil_store.2.1 42 = .ok (.isub, 1) := by decide +kernel
theorem d_Fil_store_43 : decode M_Fil_store.2.1 43 = .ok (.iconst 3, 1) := by decide +kernel
theorem d_Fil_store_44 : decode M_Fil_store.2.1 44 = .ok (.imul, 1) := by decide +kernel
theorem d_Fil_store_45 : decode M_Fil_store.2.1 45 = .ok (.aload_n 0, 1) := by decide +kernel
theorem d_Fil_store_46 : decode M_Fil_store.2.1 46 = .ok (.iload_n 1, 1) := by decide +kernel
theorem d_Fil_store_47 : decode M_Fil_store.2.1 47 = .ok (.invokevirtual 21, 3) := by decide +kernel
theorem d_Fil_store_50 : decode M_Fil_store.2.1 50 = .ok (.iadd, 1) := by decide +kernel
theorem d_Fil_store_51 : decode M_Fil_store.2.1 51 = .ok (.istore_n 3, 1) := by decide +kernel
theorem d_Fil_store_52 : decode M_Fil_store.2.1 52 = .ok (.iconst 0, 1) := by decide +kernel
theorem d_Fil_store_53 : decode M_Fil_store.2.1 53 = .ok (.istore 4, 2) := by decide +kernel
theorem d_Fil_store_55 : decode M_Fil_store.2.1 55 = .ok (.iload 4, 2) := by decide +kernel
theorem d_Fil_store_57 : decode M_Fil_store.2.1 57 = .ok (.aload_n 2, 1) := by decide +kernel
theorem d_Fil_store_58 : decode M_Fil_store.2.1 58 = .ok (.invokevirtual 25, 3) := by decide +kernel
theorem d_Fil_store_61 : decode M_Fil_store.2.1 61 = .ok (.if_icmp .ge 27, 3) := by decide +kernel
theorem d_Fil_store_64 : decode M_Fil_store.2.1 64 = .ok (.aload_n 0, 1) := by decide +kernel
theorem d_Fil_store_65 : decode M_Fil_store.2.1 65 = .ok (.getfield 9, 3) := by decide +kernel
theorem d_Fil_store_68 : decode M_Fil_store.2.1 68 = .ok (.iload_n 3, 1) := by decide +kernel
theorem d_Fil_store_69 : decode M_Fil_store.2.1 69 = .ok (.bipush 30, 2) := by decide +kernel
theorem d_Fil_store_71 : decode M_Fil_store.2.1 71 = .ok (.imul, 1) := by decide +kernel
theorem d_Fil_store_72 : decode M_Fil_store.2.1 72 = .ok (.iload 4, 2) := by decide +kernel
theorem d_Fil_store_74 : decode M_Fil_store.2.1 74 = .ok (.iadd, 1) := by decide +kernel
theorem d_Fil_store_75 : decode M_Fil_store.2.1 75 = .ok (.aload_n 2, 1) := by decide +kernel
theorem d_Fil_store_76 : decode M_Fil_store.2.1 76 = .ok (.iload 4, 2) := by decide +kernel
theorem d_Fil_store_78 : decode M_Fil_store.2.1 78 = .ok (.invokevirtual 31, 3) := by decide +kernel
theorem d_Fil_store_81 : decode M_Fil_store.2.1 81 = .ok (.iastore, 1) := by decide +kernel
theorem d_Fil_store_82 : decode M_Fil_store.2.1 82 = .ok (.iinc 4 1, 3) := by decide +kernel
theorem d_Fil_store_85 : decode M_Fil_store.2.1 85 = .ok (.goto (-30), 3) := by decide +kernel
theorem d_Fil_store_88 : decode M_Fil_store.2.1 88 = .ok (.aload_n 0, 1) := by decide +kernel
theorem d_Fil_store_89 : decode M_Fil_store.2.1 89 = .ok (.getfield 15, 3) := by decide +kernel
theorem d_Fil_store_92 : decode M_Fil_store.2.1 92 = .ok (.iload_n 3, 1) := by decide +kernel
theorem d_Fil_store_93 : decode M_Fil_store.2.1 93 = .ok (.aload_n 2, 1) := by decide +kernel
theorem d_Fil_store_94 : decode M_Fil_store.2.1 94 = .ok (.invokevirtual 25, 3) := by decide +kernel
theorem d_Fil_store_97 : decode M_Fil_store.2.1 97 = .ok (.iastore, 1) := by decide +kernel
theorem d_Fil_store_98 : decode M_Fil_store.2.1 98 = .ok (.aload_n 0, 1) := by decide +kernel
theorem d_Fil_store_99 : decode M_Fil_store.2.1 99 = .ok (.getfield 18, 3) := by decide +kernel
theorem d_Fil_store_102 : decode M_Fil_store.2.1 102 = .ok (.iload_n 1, 1) := by decide +kernel
theorem d_Fil_store_103 : decode M_Fil_store.2.1 103 = .ok (.iconst 1, 1) := by decide +kernel
theorem d_Fil_store_104 : decode M_Fil_store.2.1 104 = .ok (.isub, 1) := by decide +kernel
theorem d_Fil_store_105 : decode M_Fil_store.2.1 105 = .ok (.dup2, 1) := by decide +kernel
theorem d_Fil_store_106 : decode M_Fil_store.2.1 106 = .ok (.iaload, 1) := by decide +kernel
theorem d_Fil_store_107 : decode M_Fil_store.2.1 107 = .ok (.iconst 1, 1) := by decide +kernel
theorem d_Fil_store_108 : decode M_Fil_store.2.1 108 = .ok (.iadd, 1) := by decide +kernel
theorem d_Fil_store_109 : decode M_Fil_store.2.1 109 = .ok (.iastore, 1) := by decide +kernel
theorem d_Fil_store_110 : decode M_Fil_store.2.1 110 = .ok (.iconst 1, 1) := by decide +kernel
theorem d_Fil_store_111 : decode M_Fil_store.2.1 111 = .ok (.ireturn, 1) := by decide +kernel

theorem d_Crd_init_0 : decode M_Crd_init.2.1 0 = .ok (.aload_n 0, 1) := by decide +kernel
theorem d_Crd_init_1 : decode M_Crd_init.2.1 1 = .ok (.invokespecial 3, 3) := by decide +kernel
theorem d_Crd_init_4 : decode M_Crd_init.2.1 4 = .ok (.aload_n 0, 1) := by decide +kernel
theorem d_Crd_init_5 : decode M_Crd_init.2.1 5 = .ok (.new 9, 3) := by decide +kernel
theorem d_Crd_init_8 : decode M_Crd_init.2.1 8 = .ok (.dup, 1) := by decide +kernel
theorem d_Crd_init_9 : decode M_Crd_init.2.1 9 = .ok (.bipush 7, 2) := by decide +kernel
theorem d_Crd_init_11 : decode M_Crd_init.2.1 11 = .ok (.invokespecial 11, 3) := by decide +kernel
theorem d_Crd_init_14 : decode M_Crd_init.2.1 14 = .ok (.putfield 14, 3) := by decide +kernel
theorem d_Crd_init_17 : decode M_Crd_init.2.1 17 = .ok (.aload_n 0, 1) := by decide +kernel
theorem d_Crd_init_18 : decode M_Crd_init.2.1 18 = .ok (.new 20, 3) := by decide +kernel
theorem d_Crd_init_21 : decode M_Crd_init.2.1 21 = .ok (.dup, 1) := by decide +kernel
theorem d_Crd_init_22 : decode M_Crd_init.2.1 22 = .ok (.invokespecial 22, 3) := by decide +kernel
theorem d_Crd_init_25 : decode M_Crd_init.2.1 25 = .ok (.putfield 23, 3) := by decide +kernel
theorem d_Crd_init_28 : decode M_Crd_init.2.1 28 = .ok (.aload_n 0, 1) := by decide +kernel
theorem d_Crd_init_29 : decode M_Crd_init.2.1 29 = .ok (.new 27, 3) := by decide +kernel
theorem d_Crd_init_32 : decode M_Crd_init.2.1 32 = .ok (.dup, 1) := by decide +kernel
theorem d_Crd_init_33 : decode M_Crd_init.2.1 33 = .ok (.invokespecial 29, 3) := by decide +kernel
theorem d_Crd_init_36 : decode M_Crd_init.2.1 36 = .ok (.putfield 30, 3) := by decide +kernel
theorem d_Crd_init_39 : decode M_Crd_init.2.1 39 = .ok (.aload_n 0, 1) := by decide +kernel
theorem d_Crd_init_40 : decode M_Crd_init.2.1 40 = .ok (.iconst 0, 1) := by decide +kernel
theorem d_Crd_init_41 : decode M_Crd_init.2.1 41 = .ok (.putfield 34, 3) := by decide +kernel
theorem d_Crd_init_44 : decode M_Crd_init.2.1 44 = .ok (.aload_n 0, 1) := by decide +kernel
theorem d_Crd_init_45 : decode M_Crd_init.2.1 45 = .ok (.iconst 0, 1) := by decide +kernel
theorem d_Crd_init_46 : decode M_Crd_init.2.1 46 = .ok (.putfield 38, 3) := by decide +kernel
theorem d_Crd_init_49 : decode M_Crd_init.2.1 49 = .ok (.aload_n 0, 1) := by decide +kernel
theorem d_Crd_init_50 : decode M_Crd_init.2.1 50 = .ok (.iconst 3, 1) := by decide +kernel
theorem d_Crd_init_51 : decode M_Crd_init.2.1 51 = .ok (.putfield 41, 3) := by decide +kernel
theorem d_Crd_init_54 : decode M_Crd_init.2.1 54 = .ok (.aload_n 0, 1) := by decide +kernel
theorem d_Crd_init_55 : decode M_Crd_init.2.1 55 = .ok (.iconst 0, 1) := by decide +kernel
theorem d_Crd_init_56 : decode M_Crd_init.2.1 56 = .ok (.putfield 44, 3) := by decide +kernel
theorem d_Crd_init_59 : decode M_Crd_init.2.1 59 = .ok (.aload_n 0, 1) := by decide +kernel
theorem d_Crd_init_60 : decode M_Crd_init.2.1 60 = .ok (.iconst 0, 1) := by decide +kernel
theorem d_Crd_init_61 : decode M_Crd_init.2.1 61 = .ok (.putfield 47, 3) := by decide +kernel
theorem d_Crd_init_64 : decode M_Crd_init.2.1 64 = .ok (.aload_n 0, 1) := by decide +kernel
theorem d_Crd_init_65 : decode M_Crd_init.2.1 65 = .ok (.lconst 0, 1) := by decide +kernel
theorem d_Crd_init_66 : decode M_Crd_init.2.1 66 = .ok (.putfield 50, 3) := by decide +kernel
theorem d_Crd_init_69 : decode M_Crd_init.2.1 69 = .ok (.aload_n 0, 1) := by decide +kernel
theorem d_Crd_init_70 : decode M_Crd_init.2.1 70 = .ok (.iconst 0, 1) := by decide +kernel
theorem d_Crd_init_71 : decode M_Crd_init.2.1 71 = .ok (.putfield 54, 3) := by decide +kernel
theorem d_Crd_init_74 : decode M_Crd_init.2.1 74 = .ok (.aload_n 0, 1) := by decide +kernel
theorem d_Crd_init_75 : decode M_Crd_init.2.1 75 = .ok (.getfield 14, 3) := by decide +kernel
theorem d_Crd_init_78 : decode M_Crd_init.2.1 78 = .ok (.ldc2_w 58, 3) := by decide +kernel
theorem d_Crd_init_81 : decode M_Crd_init.2.1 81 = .ok (.iconst 4, 1) := by decide +kernel
theorem d_Crd_init_82 : decode M_Crd_init.2.1 82 = .ok (.invokevirtual 60, 3) := by decide +kernel
theorem d_Crd_init_85 : decode M_Crd_init.2.1 85 = .ok (.aload_n 0, 1) := by decide +kernel
theorem d_Crd_init_86 : decode M_Crd_init.2.1 86 = .ok (.getfield 14, 3) := by decide +kernel
theorem d_Crd_init_89 : decode M_Crd_init.2.1 89 = .ok (.iload_n 1, 1) := by decide +kernel
theorem d_Crd_init_90 : decode M_Crd_init.2.1 90 = .ok (.i2l, 1) := by decide +kernel
theorem d_Crd_init_91 : decode M_Crd_init.2.1 91 = .ok (.iconst 3, 1) := by decide +kernel
theorem d_Crd_init_92 : decode M_Crd_init.2.1 92 = .ok (.invokevirtual 60, 3) := by decide +kernel
theorem d_Crd_init_95 : decode M_Crd_init.2.1 95 = .ok (.return_, 1) := by decide +kernel
theorem d_Crd_obey_0 : decode M_Crd_obey.2.1 0 = .ok (.aload_n 2, 1) := by decide +kernel
theorem d_Crd_obey_1 : decode M_Crd_obey.2.1 1 = .ok (.invokevirtual 64, 3) := by decide +kernel
theorem d_Crd_obey_4 : decode M_Crd_obey.2.1 4 = .ok (.aload_n 0, 1) := by decide +kernel
theorem d_Crd_obey_5 : decode M_Crd_obey.2.1 5 = .ok (.aload_n 1, 1) := by decide +kernel
theorem d_Crd_obey_6 : decode M_Crd_obey.2.1 6 = .ok (.invokevirtual 67, 3) := by decide +kernel
theorem d_Crd_obey_9 : decode M_Crd_obey.2.1 9 = .ok (.istore_n 3, 1) := by decide +kernel
theorem d_Crd_obey_10 : decode M_Crd_obey.2.1 10 = .ok (.iload_n 3, 1) := by decide +kernel
theorem d_Crd_obey_11 : decode M_Crd_obey.2.1 11 = .ok (.ldc 71, 2) := by decide +kernel
theorem d_Crd_obey_13 : decode M_Crd_obey.2.1 13 = .ok (.if_icmp .ne 115, 3) := by decide +kernel
theorem d_Crd_obey_16 : decode M_Crd_obey.2.1 16 = .ok (.aload_n 1, 1) := by decide +kernel
theorem d_Crd_obey_17 : decode M_Crd_obey.2.1 17 = .ok (.invokestatic 72, 3) := by decide +kernel
theorem d_Crd_obey_20 : decode M_Crd_obey.2.1 20 = .ok (.lookupswitch 101 #[(32, 82), (164, 52), (178, 72), (32936, 62), (32970, 91)], 52) := by decide +kernel
theorem d_Crd_obey_72 : decode M_Crd_obey.2.1 72 = .ok (.aload_n 0, 1) := by decide +kernel
theorem d_Crd_obey_73 : decode M_Crd_obey.2.1 73 = .ok (.aload_n 1, 1) := by decide +kernel
theorem d_Crd_obey_74 : decode M_Crd_obey.2.1 74 = .ok (.aload_n 2, 1) := by decide +kernel
theorem d_Crd_obey_75 : decode M_Crd_obey.2.1 75 = .ok (.invokevirtual 75, 3) := by decide +kernel
theorem d_Crd_obey_78 : decode M_Crd_obey.2.1 78 = .ok (.istore_n 3, 1) := by decide +kernel
theorem d_Crd_obey_79 : decode M_Crd_obey.2.1 79 = .ok (.goto 49, 3) := by decide +kernel
theorem d_Crd_obey_82 : decode M_Crd_obey.2.1 82 = .ok (.aload_n 0, 1) := by decide +kernel
theorem d_Crd_obey_83 : decode M_Crd_obey.2.1 83 = .ok (.aload_n 1, 1) := by decide +kernel
theorem d_Crd_obey_84 : decode M_Crd_obey.2.1 84 = .ok (.aload_n 2, 1) := by decide +kernel
theorem d_Crd_obey_85 : decode M_Crd_obey.2.1 85 = .ok (.invokevirtual 79, 3) := by decide +kernel
theorem d_Crd_obey_88 : decode M_Crd_obey.2.1 88 = .ok (.istore_n 3, 1) := by decide +kernel
theorem d_Crd_obey_89 : decode M_Crd_obey.2.1 89 = .ok (.goto 39, 3) := by decide +kernel
theorem d_Crd_obey_92 : decode M_Crd_obey.2.1 92 = .ok (.aload_n 0, 1) := by decide +kernel
theorem d_Crd_obey_93 : decode M_Crd_obey.2.1 93 = .ok (.aload_n 1, 1) := by decide +kernel
theorem d_Crd_obey_94 : decode M_Crd_obey.2.1 94 = .ok (.aload_n 2, 1) := by decide +kernel
theorem d_Crd_obey_95 : decode M_Crd_obey.2.1 95 = .ok (.invokevirtual 82, 3) := by decide +kernel
theorem d_Crd_obey_98 : decode M_Crd_obey.2.1 98 = .ok (.istore_n 3, 1) := by decide +kernel
theorem d_Crd_obey_99 : decode M_Crd_obey.2.1 99 = .ok (.goto 29, 3) := by decide +kernel
theorem d_Crd_obey_102 : decode M_Crd_obey.2.1 102 = .ok (.aload_n 0, 1) := by decide +kernel
theorem d_Crd_obey_103 : decode M_Crd_obey.2.1 103 = .ok (.aload_n 1, 1) := by decide +kernel
theorem d_Crd_obey_104 : decode M_Crd_obey.2.1 104 = .ok (.invokevirtual 85, 3) := by decide +kernel
theorem d_Crd_obey_107 : decode M_Crd_obey.2.1 107 = .ok (.istore_n 3, 1) := by decide +kernel
theorem d_Crd_obey_108 : decode M_Crd_obey.2.1 108 = .ok (.goto 20, 3) := by decide +kernel
theorem d_Crd_obey_111 : decode M_Crd_obey.2.1 111 = .ok (.aload_n 0, 1) := by decide +kernel
theorem d_Crd_obey_112 : decode M_Crd_obey.2.1 112 = .ok (.aload_n 1, 1) := by decide +kernel
theorem d_Crd_obey_113 : decode M_Crd_obey.2.1 113 = .ok (.aload_n 2, 1) := by decide +kernel
theorem d_Crd_obey_114 : decode M_Crd_obey.2.1 114 = .ok (.invokevirtual 88, 3) := by decide +kernel
theorem d_Crd_obey_117 : decode M_Crd_obey.2.1 117 = .ok (.istore_n 3, 1) := by decide +kernel
theorem d_Crd_obey_118 : decode M_Crd_obey.2.1 118 = .ok (.goto 10, 3) := by decide +kernel
theorem d_Crd_obey_121 : decode M_Crd_obey.2.1 121 = .ok (.aload_n 0, 1) := by decide +kernel
theorem d_Crd_obey_122 : decode M_Crd_obey.2.1 122 = .ok (.aload_n 1, 1) := by decide +kernel
theorem d_Crd_obey_123 : decode M_Crd_obey.2.1 123 = .ok (.aload_n 2, 1) := by decide +kernel
theorem d_Crd_obey_124 : decode M_Crd_obey.2.1 124 = .ok (.invokevirtual 91, 3) := by decide +kernel
theorem d_Crd_obey_127 : decode M_Crd_obey.2.1 127 = .ok (.istore_n 3, 1) := by decide +kernel
theorem d_Crd_obey_128 : decode M_Crd_obey.2.1 128 = .ok (.aload_n 1, 1) := by decide +kernel
theorem d_Crd_obey_129 : decode M_Crd_obey.2.1 129 = .ok (.invokevirtual 64, 3) := by decide +kernel
theorem d_Crd_obey_132 : decode M_Crd_obey.2.1 132 = .ok (.iload_n 3, 1) := by decide +kernel
theorem d_Crd_obey_133 : decode M_Crd_obey.2.1 133 = .ok (.ireturn, 1) := by decide +kernel
theorem d_Crd_firstFault_0 : decode M_Crd_firstFault.2.1 0 = .ok (.aload_n 1, 1) := by decide +kernel
theorem d_Crd_firstFault_1 : decode M_Crd_firstFault.2.1 1 = .ok (.invokestatic 94, 3) := by decide +kernel
theorem d_Crd_firstFault_4 : decode M_Crd_firstFault.2.1 4 = .ok (.ifCond .ne 7, 3) := by decide +kernel
theorem d_Crd_firstFault_7 : decode M_Crd_firstFault.2.1 7 = .ok (.sipush 26368, 3) := by decide +kernel
theorem d_Crd_firstFault_10 : decode M_Crd_firstFault.2.1 10 = .ok (.ireturn, 1) := by decide +kernel
theorem d_Crd_firstFault_11 : decode M_Crd_firstFault.2.1 11 = .ok (.aload_n 1, 1) := by decide +kernel
theorem d_Crd_firstFault_12 : decode M_Crd_firstFault.2.1 12 = .ok (.iconst 0, 1) := by decide +kernel
theorem d_Crd_firstFault_13 : decode M_Crd_firstFault.2.1 13 = .ok (.invokevirtual 98, 3) := by decide +kernel
theorem d_Crd_firstFault_16 : decode M_Crd_firstFault.2.1 16 = .ok (.ifCond .eq 18, 3) := by decide +kernel
theorem d_Crd_firstFault_19 : decode M_Crd_firstFault.2.1 19 = .ok (.aload_n 1, 1) := by decide +kernel
theorem d_Crd_firstFault_20 : decode M_Crd_firstFault.2.1 20 = .ok (.iconst 0, 1) := by decide +kernel
theorem d_Crd_firstFault_21 : decode M_Crd_firstFault.2.1 21 = .ok (.invokevirtual 98, 3) := by decide +kernel
theorem d_Crd_firstFault_24 : decode M_Crd_firstFault.2.1 24 = .ok (.sipush 128, 3) := by decide +kernel
theorem d_Crd_firstFault_27 : decode M_Crd_firstFault.2.1 27 = .ok (.if_icmp .eq 7, 3) := by decide +kernel
theorem d_Crd_firstFault_30 : decode M_Crd_firstFault.2.1 30 = .ok (.sipush 28160, 3) := by decide +kernel
theorem d_Crd_firstFault_33 : decode M_Crd_firstFault.2.1 33 = .ok (.ireturn, 1) := by decide +kernel
theorem d_Crd_firstFault_34 : decode M_Crd_firstFault.2.1 34 = .ok (.aload_n 1, 1) := by decide +kernel
theorem d_Crd_firstFault_35 : decode M_Crd_firstFault.2.1 35 = .ok (.invokestatic 72, 3) := by decide +kernel
theorem d_Crd_firstFault_38 : decode M_Crd_firstFault.2.1 38 = .ok (.istore_n 2, 1) := by decide +kernel
theorem d_Crd_firstFault_39 : decode M_Crd_firstFault.2.1 39 = .ok (.iload_n 2, 1) := by decide +kernel
theorem d_Crd_firstFault_40 : decode M_Crd_firstFault.2.1 40 = .ok (.invokestatic 102, 3) := by decide +kernel
theorem d_Crd_firstFault_43 : decode M_Crd_firstFault.2.1 43 = .ok (.ifCond .ne 7, 3) := by decide +kernel
theorem d_Crd_firstFault_46 : decode M_Crd_firstFault.2.1 46 = .ok (.sipush 27904, 3) := by decide +kernel
theorem d_Crd_firstFault_49 : decode M_Crd_firstFault.2.1 49 = .ok (.ireturn, 1) := by decide +kernel
theorem d_Crd_firstFault_50 : decode M_Crd_firstFault.2.1 50 = .ok (.iload_n 2, 1) := by decide +kernel
theorem d_Crd_firstFault_51 : decode M_Crd_firstFault.2.1 51 = .ok (.aload_n 1, 1) := by decide +kernel
theorem d_Crd_firstFault_52 : decode M_Crd_firstFault.2.1 52 = .ok (.iconst 2, 1) := by decide +kernel
theorem d_Crd_firstFault_53 : decode M_Crd_firstFault.2.1 53 = .ok (.invokevirtual 98, 3) := by decide +kernel
theorem d_Crd_firstFault_56 : decode M_Crd_firstFault.2.1 56 = .ok (.aload_n 1, 1) := by decide +kernel
theorem d_Crd_firstFault_57 : decode M_Crd_firstFault.2.1 57 = .ok (.iconst 3, 1) := by decide +kernel
theorem d_Crd_firstFault_58 : decode M_Crd_firstFault.2.1 58 = .ok (.invokevirtual 98, 3) := by decide +kernel
theorem d_Crd_firstFault_61 : decode M_Crd_firstFault.2.1 61 = .ok (.invokestatic 106, 3) := by decide +kernel
theorem d_Crd_firstFault_64 : decode M_Crd_firstFault.2.1 64 = .ok (.ifCond .ne 7, 3) := by decide +kernel
theorem d_Crd_firstFault_67 : decode M_Crd_firstFault.2.1 67 = .ok (.sipush 27270, 3) := by decide +kernel
theorem d_Crd_firstFault_70 : decode M_Crd_firstFault.2.1 70 = .ok (.ireturn, 1) := by decide +kernel
theorem d_Crd_firstFault_71 : decode M_Crd_firstFault.2.1 71 = .ok (.aload_n 0, 1) := by decide +kernel
theorem d_Crd_firstFault_72 : decode M_Crd_firstFault.2.1 72 = .ok (.iload_n 2, 1) := by decide +kernel
theorem d_Crd_firstFault_73 : decode M_Crd_firstFault.2.1 73 = .ok (.invokevirtual 110, 3) := by decide +kernel
theorem d_Crd_firstFault_76 : decode M_Crd_firstFault.2.1 76 = .ok (.ifCond .ne 7, 3) := by decide +kernel
theorem d_Crd_firstFault_79 : decode M_Crd_firstFault.2.1 79 = .ok (.sipush 27013, 3) := by decide +kernel
theorem d_Crd_firstFault_82 : decode M_Crd_firstFault.2.1 82 = .ok (.ireturn, 1) := by decide +kernel
theorem d_Crd_firstFault_83 : decode M_Crd_firstFault.2.1 83 = .ok (.aload_n 0, 1) := by decide +kernel
theorem d_Crd_firstFault_84 : decode M_Crd_firstFault.2.1 84 = .ok (.iload_n 2, 1) := by decide +kernel
theorem d_Crd_firstFault_85 : decode M_Crd_firstFault.2.1 85 = .ok (.aload_n 1, 1) := by decide +kernel
theorem d_Crd_firstFault_86 : decode M_Crd_firstFault.2.1 86 = .ok (.invokestatic 113, 3) := by decide +kernel
theorem d_Crd_firstFault_89 : decode M_Crd_firstFault.2.1 89 = .ok (.invokevirtual 116, 3) := by decide +kernel
theorem d_Crd_firstFault_92 : decode M_Crd_firstFault.2.1 92 = .ok (.ifCond .eq 8, 3) := by decide +kernel
theorem d_Crd_firstFault_95 : decode M_Crd_firstFault.2.1 95 = .ok (.ldc 71, 2) := by decide +kernel
theorem d_Crd_firstFault_97 : decode M_Crd_firstFault.2.1 97 = .ok (.goto 6, 3) := by decide +kernel
theorem d_Crd_firstFault_100 : decode M_Crd_firstFault.2.1 100 = .ok (.sipush 26368, 3) := by decide +kernel
theorem d_Crd_firstFault_103 : decode M_Crd_firstFault.2.1 103 = .ok (.ireturn, 1) := by decide +kernel
theorem d_Crd_isWellFormed_0 : decode M_Crd_isWellFormed.2.1 0 = .ok (.aload_n 0, 1) := by decide +kernel
theorem d_Crd_isWellFormed_1 : decode M_Crd_isWellFormed.2.1 1 = .ok (.invokevirtual 120, 3) := by decide +kernel
theorem d_Crd_isWellFormed_4 : decode M_Crd_isWellFormed.2.1 4 = .ok (.istore_n 1, 1) := by decide +kernel
theorem d_Crd_isWellFormed_5 : decode M_Crd_isWellFormed.2.1 5 = .ok (.iload_n 1, 1) := by decide +kernel
theorem d_Crd_isWellFormed_6 : decode M_Crd_isWellFormed.2.1 6 = .ok (.iconst 4, 1) := by decide +kernel
theorem d_Crd_isWellFormed_7 : decode M_Crd_isWellFormed.2.1 7 = .ok (.if_icmp .eq 19, 3) := by decide +kernel
theorem d_Crd_isWellFormed_10 : decode M_Crd_isWellFormed.2.1 10 = .ok (.iload_n 1, 1) := by decide +kernel
theorem d_Crd_isWellFormed_11 : decode M_Crd_isWellFormed.2.1 11 = .ok (.iconst 5, 1) := by decide +kernel
theorem d_Crd_isWellFormed_12 : decode M_Crd_isWellFormed.2.1 12 = .ok (.if_icmp .le 18, 3) := by decide +kernel
theorem d_Crd_isWellFormed_15 : decode M_Crd_isWellFormed.2.1 15 = .ok (.aload_n 0, 1) := by decide +kernel
theorem d_Crd_isWellFormed_16 : decode M_Crd_isWellFormed.2.1 16 = .ok (.iconst 4, 1) := by decide +kernel
theorem d_Crd_isWellFormed_17 : decode M_Crd_isWellFormed.2.1 17 = .ok (.invokevirtual 98, 3) := by decide +kernel
theorem d_Crd_isWellFormed_20 : decode M_Crd_isWellFormed.2.1 20 = .ok (.iload_n 1, 1) := by decide +kernel
theorem d_Crd_isWellFormed_21 : decode M_Crd_isWellFormed.2.1 21 = .ok (.iconst 5, 1) := by decide +kernel
theorem d_Crd_isWellFormed_22 : decode M_Crd_isWellFormed.2.1 22 = .ok (.isub, 1) := by decide +kernel
theorem d_Crd_isWellFormed_23 : decode M_Crd_isWellFormed.2.1 23 = .ok (.if_icmp .ne 7, 3) := by decide +kernel
theorem d_Crd_isWellFormed_26 : decode M_Crd_isWellFormed.2.1 26 = .ok (.iconst 1, 1) := by decide +kernel
theorem d_Crd_isWellFormed_27 : decode M_Crd_isWellFormed.2.1 27 = .ok (.goto 4, 3) := by decide +kernel
theorem d_Crd_isWellFormed_30 : decode M_Crd_isWellFormed.2.1 30 = .ok (.iconst 0, 1) := by decide +kernel
theorem d_Crd_isWellFormed_31 : decode M_Crd_isWellFormed.2.1 31 = .ok (.ireturn, 1) := by decide +kernel
theorem d_Crd_instructionOf_0 : decode M_Crd_instructionOf.2.1 0 = .ok (.aload_n 0, 1) := by decide +kernel
theorem d_Crd_instructionOf_1 : decode M_Crd_instructionOf.2.1 1 = .ok (.iconst 0, 1) := by decide +kernel
theorem d_Crd_instructionOf_2 : decode M_Crd_instructionOf.2.1 2 = .ok (.iconst 2, 1) := by decide +kernel
theorem d_Crd_instructionOf_3 : decode M_Crd_instructionOf.2.1 3 = .ok (.invokevirtual 124, 3) := by decide +kernel
theorem d_Crd_instructionOf_6 : decode M_Crd_instructionOf.2.1 6 = .ok (.l2i, 1) := by decide +kernel
theorem d_Crd_instructionOf_7 : decode M_Crd_instructionOf.2.1 7 = .ok (.ireturn, 1) := by decide +kernel
theorem d_Crd_isKnown_0 : decode M_Crd_isKnown.2.1 0 = .ok (.iload_n 0, 1) := by decide +kernel
theorem d_Crd_isKnown_1 : decode M_Crd_isKnown.2.1 1 = .ok (.lookupswitch 61 #[(32, 59), (164, 59), (178, 59), (32936, 59), (32942, 59), (32970, 59)], 59) := by decide +kernel
theorem d_Crd_isKnown_60 : decode M_Crd_isKnown.2.1 60 = .ok (.iconst 1, 1) := by decide +kernel
theorem d_Crd_isKnown_61 : decode M_Crd_isKnown.2.1 61 = .ok (.ireturn, 1) := by decide +kernel
theorem d_Crd_isKnown_62 : decode M_Crd_isKnown.2.1 62 = .ok (.iconst 0, 1) := by decide +kernel
theorem d_Crd_isKnown_63 : decode M_Crd_isKnown.2.1 63 = .ok (.ireturn, 1) := by decide +kernel
theorem d_Crd_takesParameters_0 : decode M_Crd_takesParameters.2.1 0 = .ok (.iload_n 0, 1) := by decide +kernel
theorem d_Crd_takesParameters_1 : decode M_Crd_takesParameters.2.1 1 = .ok (.lookupswitch 136 #[(32, 94), (164, 51), (178, 80), (32936, 66), (32970, 111)], 51) := by decide +kernel
theorem d_Crd_takesParameters_52 : decode M_Crd_takesParameters.2.1 52 = .ok (.iload_n 1, 1) := by decide +kernel
theorem d_Crd_takesParameters_53 : decode M_Crd_takesParameters.2.1 53 = .ok (.iconst 4, 1) := by decide +kernel
theorem d_Crd_takesParameters_54 : decode M_Crd_takesParameters.2.1 54 = .ok (.if_icmp .ne 11, 3) := by decide +kernel
theorem d_Crd_takesParameters_57 : decode M_Crd_takesParameters.2.1 57 = .ok (.iload_n 2, 1) := by decide +kernel
theorem d_Crd_takesParameters_58 : decode M_Crd_takesParameters.2.1 58 = .ok (.ifCond .ne 7, 3) := by decide +kernel
theorem d_Crd_takesParameters_61 : decode M_Crd_takesParameters.2.1 61 = .ok (.iconst 1, 1) := by decide +kernel
theorem d_Crd_takesParameters_62 : decode M_Crd_takesParameters.2.1 62 = .ok (.goto 4, 3) := by decide +kernel
theorem d_Crd_takesParameters_65 : decode M_Crd_takesParameters.2.1 65 = .ok (.iconst 0, 1) := by decide +kernel
theorem d_Crd_takesParameters_66 : decode M_Crd_takesParameters.2.1 66 = .ok (.ireturn, 1) := by decide +kernel
theorem d_Crd_takesParameters_67 : decode M_Crd_takesParameters.2.1 67 = .ok (.iload_n 1, 1) := by decide +kernel
theorem d_Crd_takesParameters_68 : decode M_Crd_takesParameters.2.1 68 = .ok (.ifCond .ne 11, 3) := by decide +kernel
theorem d_Crd_takesParameters_71 : decode M_Crd_takesParameters.2.1 71 = .ok (.iload_n 2, 1) := by decide +kernel
theorem d_Crd_takesParameters_72 : decode M_Crd_takesParameters.2.1 72 = .ok (.ifCond .ne 7, 3) := by decide +kernel
theorem d_Crd_takesParameters_75 : decode M_Crd_takesParameters.2.1 75 = .ok (.iconst 1, 1) := by decide +kernel
theorem d_Crd_takesParameters_76 : decode M_Crd_takesParameters.2.1 76 = .ok (.goto 4, 3) := by decide +kernel
theorem d_Crd_takesParameters_79 : decode M_Crd_takesParameters.2.1 79 = .ok (.iconst 0, 1) := by decide +kernel
theorem d_Crd_takesParameters_80 : decode M_Crd_takesParameters.2.1 80 = .ok (.ireturn, 1) := by decide +kernel
theorem d_Crd_takesParameters_81 : decode M_Crd_takesParameters.2.1 81 = .ok (.iload_n 2, 1) := by decide +kernel
theorem d_Crd_takesParameters_82 : decode M_Crd_takesParameters.2.1 82 = .ok (.bipush 8, 2) := by decide +kernel
theorem d_Crd_takesParameters_84 : decode M_Crd_takesParameters.2.1 84 = .ok (.irem, 1) := by decide +kernel
theorem d_Crd_takesParameters_85 : decode M_Crd_takesParameters.2.1 85 = .ok (.iconst 4, 1) := by decide +kernel
theorem d_Crd_takesParameters_86 : decode M_Crd_takesParameters.2.1 86 = .ok (.if_icmp .ne 7, 3) := by decide +kernel
theorem d_Crd_takesParameters_89 : decode M_Crd_takesParameters.2.1 89 = .ok (.iconst 1, 1) := by decide +kernel
theorem d_Crd_takesParameters_90 : decode M_Crd_takesParameters.2.1 90 = .ok (.goto 4, 3) := by decide +kernel
theorem d_Crd_takesParameters_93 : decode M_Crd_takesParameters.2.1 93 = .ok (.iconst 0, 1) := by decide +kernel
theorem d_Crd_takesParameters_94 : decode M_Crd_takesParameters.2.1 94 = .ok (.ireturn, 1) := by decide +kernel
theorem d_Crd_takesParameters_95 : decode M_Crd_takesParameters.2.1 95 = .ok (.iload_n 1, 1) := by decide +kernel
theorem d_Crd_takesParameters_96 : decode M_Crd_takesParameters.2.1 96 = .ok (.ifCond .ne 14, 3) := by decide +kernel
theorem d_Crd_takesParameters_99 : decode M_Crd_takesParameters.2.1 99 = .ok (.iload_n 2, 1) := by decide +kernel
theorem d_Crd_takesParameters_100 : decode M_Crd_takesParameters.2.1 100 = .ok (.sipush 128, 3) := by decide +kernel
theorem d_Crd_takesParameters_103 : decode M_Crd_takesParameters.2.1 103 = .ok (.if_icmp .ne 7, 3) := by decide +kernel
theorem d_Crd_takesParameters_106 : decode M_Crd_takesParameters.2.1 106 = .ok (.iconst 1, 1) := by decide +kernel
theorem d_Crd_takesParameters_107 : decode M_Crd_takesParameters.2.1 107 = .ok (.goto 4, 3) := by decide +kernel
theorem d_Crd_takesParameters_110 : decode M_Crd_takesParameters.2.1 110 = .ok (.iconst 0, 1) := by decide +kernel
theorem d_Crd_takesParameters_111 : decode M_Crd_takesParameters.2.1 111 = .ok (.ireturn, 1) := by decide +kernel
theorem d_Crd_takesParameters_112 : decode M_Crd_takesParameters.2.1 112 = .ok (.iload_n 1, 1) := by decide +kernel
theorem d_Crd_takesParameters_113 : decode M_Crd_takesParameters.2.1 113 = .ok (.sipush 159, 3) := by decide +kernel
theorem d_Crd_takesParameters_116 : decode M_Crd_takesParameters.2.1 116 = .ok (.if_icmp .ne 19, 3) := by decide +kernel
theorem d_Crd_takesParameters_119 : decode M_Crd_takesParameters.2.1 119 = .ok (.iload_n 2, 1) := by decide +kernel
theorem d_Crd_takesParameters_120 : decode M_Crd_takesParameters.2.1 120 = .ok (.bipush 54, 2) := by decide +kernel
theorem d_Crd_takesParameters_122 : decode M_Crd_takesParameters.2.1 122 = .ok (.if_icmp .eq 9, 3) := by decide +kernel
theorem d_Crd_takesParameters_125 : decode M_Crd_takesParameters.2.1 125 = .ok (.iload_n 2, 1) := by decide +kernel
theorem d_Crd_takesParameters_126 : decode M_Crd_takesParameters.2.1 126 = .ok (.bipush 23, 2) := by decide +kernel
theorem d_Crd_takesParameters_128 : decode M_Crd_takesParameters.2.1 128 = .ok (.if_icmp .ne 7, 3) := by decide +kernel
theorem d_Crd_takesParameters_131 : decode M_Crd_takesParameters.2.1 131 = .ok (.iconst 1, 1) := by decide +kernel
theorem d_Crd_takesParameters_132 : decode M_Crd_takesParameters.2.1 132 = .ok (.goto 4, 3) := by decide +kernel
theorem d_Crd_takesParameters_135 : decode M_Crd_takesParameters.2.1 135 = .ok (.iconst 0, 1) := by decide +kernel
theorem d_Crd_takesParameters_136 : decode M_Crd_takesParameters.2.1 136 = .ok (.ireturn, 1) := by decide +kernel
theorem d_Crd_takesParameters_137 : decode M_Crd_takesParameters.2.1 137 = .ok (.iload_n 1, 1) := by decide +kernel
theorem d_Crd_takesParameters_138 : decode M_Crd_takesParameters.2.1 138 = .ok (.ifCond .eq 16, 3) := by decide +kernel
theorem d_Crd_takesParameters_141 : decode M_Crd_takesParameters.2.1 141 = .ok (.iload_n 1, 1) := by decide +kernel
theorem d_Crd_takesParameters_142 : decode M_Crd_takesParameters.2.1 142 = .ok (.bipush 64, 2) := by decide +kernel
theorem d_Crd_takesParameters_144 : decode M_Crd_takesParameters.2.1 144 = .ok (.if_icmp .eq 10, 3) := by decide +kernel
theorem d_Crd_takesParameters_147 : decode M_Crd_takesParameters.2.1 147 = .ok (.iload_n 1, 1) := by decide +kernel
theorem d_Crd_takesParameters_148 : decode M_Crd_takesParameters.2.1 148 = .ok (.sipush 128, 3) := by decide +kernel
theorem d_Crd_takesParameters_151 : decode M_Crd_takesParameters.2.1 151 = .ok (.if_icmp .ne 11, 3) := by decide +kernel
theorem d_Crd_takesParameters_154 : decode M_Crd_takesParameters.2.1 154 = .ok (.iload_n 2, 1) := by decide +kernel
theorem d_Crd_takesParameters_155 : decode M_Crd_takesParameters.2.1 155 = .ok (.ifCond .ne 7, 3) := by decide +kernel
theorem d_Crd_takesParameters_158 : decode M_Crd_takesParameters.2.1 158 = .ok (.iconst 1, 1) := by decide +kernel
theorem d_Crd_takesParameters_159 : decode M_Crd_takesParameters.2.1 159 = .ok (.goto 4, 3) := by decide +kernel
theorem d_Crd_takesParameters_162 : decode M_Crd_takesParameters.2.1 162 = .ok (.iconst 0, 1) := by decide +kernel
theorem d_Crd_takesParameters_163 : decode M_Crd_takesParameters.2.1 163 = .ok (.ireturn, 1) := by decide +kernel
theorem d_Crd_fitsStage_0 : decode M_Crd_fitsStage.2.1 0 = .ok (.iload_n 1, 1) := by decide +kernel
theorem d_Crd_fitsStage_1 : decode M_Crd_fitsStage.2.1 1 = .ok (.lookupswitch 116 #[(32, 80), (178, 66), (32936, 43), (32942, 94)], 43) := by decide +kernel
theorem d_Crd_fitsStage_44 : decode M_Crd_fitsStage.2.1 44 = .ok (.aload_n 0, 1) := by decide +kernel
theorem d_Crd_fitsStage_45 : decode M_Crd_fitsStage.2.1 45 = .ok (.getfield 47, 3) := by decide +kernel
theorem d_Crd_fitsStage_48 : decode M_Crd_fitsStage.2.1 48 = .ok (.iconst 1, 1) := by decide +kernel
theorem d_Crd_fitsStage_49 : decode M_Crd_fitsStage.2.1 49 = .ok (.if_icmp .ne 16, 3) := by decide +kernel
theorem d_Crd_fitsStage_52 : decode M_Crd_fitsStage.2.1 52 = .ok (.aload_n 0, 1) := by decide +kernel
theorem d_Crd_fitsStage_53 : decode M_Crd_fitsStage.2.1 53 = .ok (.getfield 38, 3) := by decide +kernel
theorem d_Crd_fitsStage_56 : decode M_Crd_fitsStage.2.1 56 = .ok (.ldc 128, 2) := by decide +kernel
theorem d_Crd_fitsStage_58 : decode M_Crd_fitsStage.2.1 58 = .ok (.if_icmp .ge 7, 3) := by decide +kernel
theorem d_Crd_fitsStage_61 : decode M_Crd_fitsStage.2.1 61 = .ok (.iconst 1, 1) := by decide +kernel
theorem d_Crd_fitsStage_62 : decode M_Crd_fitsStage.2.1 62 = .ok (.goto 4, 3) := by decide +kernel
theorem d_Crd_fitsStage_65 : decode M_Crd_fitsStage.2.1 65 = .ok (.iconst 0, 1) := by decide +kernel
theorem d_Crd_fitsStage_66 : decode M_Crd_fitsStage.2.1 66 = .ok (.ireturn, 1) := by decide +kernel
theorem d_Crd_fitsStage_67 : decode M_Crd_fitsStage.2.1 67 = .ok (.aload_n 0, 1) := by decide +kernel
theorem d_Crd_fitsStage_68 : decode M_Crd_fitsStage.2.1 68 = .ok (.getfield 47, 3) := by decide +kernel
theorem d_Crd_fitsStage_71 : decode M_Crd_fitsStage.2.1 71 = .ok (.iconst 2, 1) := by decide +kernel
theorem d_Crd_fitsStage_72 : decode M_Crd_fitsStage.2.1 72 = .ok (.if_icmp .lt 7, 3) := by decide +kernel
theorem d_Crd_fitsStage_75 : decode M_Crd_fitsStage.2.1 75 = .ok (.iconst 1, 1) := by decide +kernel
theorem d_Crd_fitsStage_76 : decode M_Crd_fitsStage.2.1 76 = .ok (.goto 4, 3) := by decide +kernel
theorem d_Crd_fitsStage_79 : decode M_Crd_fitsStage.2.1 79 = .ok (.iconst 0, 1) := by decide +kernel
theorem d_Crd_fitsStage_80 : decode M_Crd_fitsStage.2.1 80 = .ok (.ireturn, 1) := by decide +kernel
theorem d_Crd_fitsStage_81 : decode M_Crd_fitsStage.2.1 81 = .ok (.aload_n 0, 1) := by decide +kernel
theorem d_Crd_fitsStage_82 : decode M_Crd_fitsStage.2.1 82 = .ok (.getfield 47, 3) := by decide +kernel
theorem d_Crd_fitsStage_85 : decode M_Crd_fitsStage.2.1 85 = .ok (.iconst 2, 1) := by decide +kernel
theorem d_Crd_fitsStage_86 : decode M_Crd_fitsStage.2.1 86 = .ok (.if_icmp .ne 7, 3) := by decide +kernel
theorem d_Crd_fitsStage_89 : decode M_Crd_fitsStage.2.1 89 = .ok (.iconst 1, 1) := by decide +kernel
theorem d_Crd_fitsStage_90 : decode M_Crd_fitsStage.2.1 90 = .ok (.goto 4, 3) := by decide +kernel
theorem d_Crd_fitsStage_93 : decode M_Crd_fitsStage.2.1 93 = .ok (.iconst 0, 1) := by decide +kernel
theorem d_Crd_fitsStage_94 : decode M_Crd_fitsStage.2.1 94 = .ok (.ireturn, 1) := by decide +kernel
theorem d_Crd_fitsStage_95 : decode M_Crd_fitsStage.2.1 95 = .ok (.aload_n 0, 1) := by decide +kernel
theorem d_Crd_fitsStage_96 : decode M_Crd_fitsStage.2.1 96 = .ok (.getfield 47, 3) := by decide +kernel
theorem d_Crd_fitsStage_99 : decode M_Crd_fitsStage.2.1 99 = .ok (.iconst 2, 1) := by decide +kernel
theorem d_Crd_fitsStage_100 : decode M_Crd_fitsStage.2.1 100 = .ok (.if_icmp .eq 11, 3) := by decide +kernel
theorem d_Crd_fitsStage_103 : decode M_Crd_fitsStage.2.1 103 = .ok (.aload_n 0, 1) := by decide +kernel
theorem d_Crd_fitsStage_104 : decode M_Crd_fitsStage.2.1 104 = .ok (.getfield 47, 3) := by decide +kernel
theorem d_Crd_fitsStage_107 : decode M_Crd_fitsStage.2.1 107 = .ok (.iconst 3, 1) := by decide +kernel
theorem d_Crd_fitsStage_108 : decode M_Crd_fitsStage.2.1 108 = .ok (.if_icmp .ne 7, 3) := by decide +kernel
theorem d_Crd_fitsStage_111 : decode M_Crd_fitsStage.2.1 111 = .ok (.iconst 1, 1) := by decide +kernel
theorem d_Crd_fitsStage_112 : decode M_Crd_fitsStage.2.1 112 = .ok (.goto 4, 3) := by decide +kernel
theorem d_Crd_fitsStage_115 : decode M_Crd_fitsStage.2.1 115 = .ok (.iconst 0, 1) := by decide +kernel
theorem d_Crd_fitsStage_116 : decode M_Crd_fitsStage.2.1 116 = .ok (.ireturn, 1) := by decide +kernel
theorem d_Crd_fitsStage_117 : decode M_Crd_fitsStage.2.1 117 = .ok (.iconst 1, 1) := by decide +kernel
theorem d_Crd_fitsStage_118 : decode M_Crd_fitsStage.2.1 118 = .ok (.ireturn, 1) := by decide +kernel
theorem d_Crd_dataSize_0 : decode M_Crd_dataSize.2.1 0 = .ok (.aload_n 0, 1) := by decide +kernel
theorem d_Crd_dataSize_1 : decode M_Crd_dataSize.2.1 1 = .ok (.invokevirtual 120, 3) := by decide +kernel
theorem d_Crd_dataSize_4 : decode M_Crd_dataSize.2.1 4 = .ok (.iconst 5, 1) := by decide +kernel
theorem d_Crd_dataSize_5 : decode M_Crd_dataSize.2.1 5 = .ok (.if_icmp .le 12, 3) := by decide +kernel
theorem d_Crd_dataSize_8 : decode M_Crd_dataSize.2.1 8 = .ok (.aload_n 0, 1) := by decide +kernel
theorem d_Crd_dataSize_9 : decode M_Crd_dataSize.2.1 9 = .ok (.invokevirtual 120, 3) := by decide +kernel
theorem d_Crd_dataSize_12 : decode M_Crd_dataSize.2.1 12 = .ok (.iconst 5, 1) := by decide +kernel
theorem d_Crd_dataSize_13 : decode M_Crd_dataSize.2.1 13 = .ok (.isub, 1) := by decide +kernel
theorem d_Crd_dataSize_14 : decode M_Crd_dataSize.2.1 14 = .ok (.goto 4, 3) := by decide +kernel
theorem d_Crd_dataSize_17 : decode M_Crd_dataSize.2.1 17 = .ok (.iconst 0, 1) := by decide +kernel
theorem d_Crd_dataSize_18 : decode M_Crd_dataSize.2.1 18 = .ok (.ireturn, 1) := by decide +kernel
theorem d_Crd_takesData_0 : decode M_Crd_takesData.2.1 0 = .ok (.iload_n 1, 1) := by decide +kernel
theorem d_Crd_takesData_1 : decode M_Crd_takesData.2.1 1 = .ok (.lookupswitch 97 #[(32, 60), (164, 43), (32936, 60), (32942, 72)], 43) := by decide +kernel
theorem d_Crd_takesData_44 : decode M_Crd_takesData.2.1 44 = .ok (.iload_n 2, 1) := by decide +kernel
theorem d_Crd_takesData_45 : decode M_Crd_takesData.2.1 45 = .ok (.iconst 5, 1) := by decide +kernel
theorem d_Crd_takesData_46 : decode M_Crd_takesData.2.1 46 = .ok (.if_icmp .lt 13, 3) := by decide +kernel
theorem d_Crd_takesData_49 : decode M_Crd_takesData.2.1 49 = .ok (.iload_n 2, 1) := by decide +kernel
theorem d_Crd_takesData_50 : decode M_Crd_takesData.2.1 50 = .ok (.bipush 16, 2) := by decide +kernel
theorem d_Crd_takesData_52 : decode M_Crd_takesData.2.1 52 = .ok (.if_icmp .gt 7, 3) := by decide +kernel
theorem d_Crd_takesData_55 : decode M_Crd_takesData.2.1 55 = .ok (.iconst 1, 1) := by decide +kernel
theorem d_Crd_takesData_56 : decode M_Crd_takesData.2.1 56 = .ok (.goto 4, 3) := by decide +kernel
theorem d_Crd_takesData_59 : decode M_Crd_takesData.2.1 59 = .ok (.iconst 0, 1) := by decide +kernel
theorem d_Crd_takesData_60 : decode M_Crd_takesData.2.1 60 = .ok (.ireturn, 1) := by decide +kernel
theorem d_Crd_takesData_61 : decode M_Crd_takesData.2.1 61 = .ok (.iload_n 2, 1) := by decide +kernel
theorem d_Crd_takesData_62 : decode M_Crd_takesData.2.1 62 = .ok (.bipush 8, 2) := by decide +kernel
theorem d_Crd_takesData_64 : decode M_Crd_takesData.2.1 64 = .ok (.if_icmp .ne 7, 3) := by decide +kernel
theorem d_Crd_takesData_67 : decode M_Crd_takesData.2.1 67 = .ok (.iconst 1, 1) := by decide +kernel
theorem d_Crd_takesData_68 : decode M_Crd_takesData.2.1 68 = .ok (.goto 4, 3) := by decide +kernel
theorem d_Crd_takesData_71 : decode M_Crd_takesData.2.1 71 = .ok (.iconst 0, 1) := by decide +kernel
theorem d_Crd_takesData_72 : decode M_Crd_takesData.2.1 72 = .ok (.ireturn, 1) := by decide +kernel
theorem d_Crd_takesData_73 : decode M_Crd_takesData.2.1 73 = .ok (.iload_n 2, 1) := by decide +kernel
theorem d_Crd_takesData_74 : decode M_Crd_takesData.2.1 74 = .ok (.aload_n 0, 1) := by decide +kernel
theorem d_Crd_takesData_75 : decode M_Crd_takesData.2.1 75 = .ok (.getfield 47, 3) := by decide +kernel
theorem d_Crd_takesData_78 : decode M_Crd_takesData.2.1 78 = .ok (.iconst 2, 1) := by decide +kernel
theorem d_Crd_takesData_79 : decode M_Crd_takesData.2.1 79 = .ok (.if_icmp .ne 8, 3) := by decide +kernel
theorem d_Crd_takesData_82 : decode M_Crd_takesData.2.1 82 = .ok (.bipush 10, 2) := by decide +kernel
theorem d_Crd_takesData_84 : decode M_Crd_takesData.2.1 84 = .ok (.goto 5, 3) := by decide +kernel
theorem d_Crd_takesData_87 : decode M_Crd_takesData.2.1 87 = .ok (.bipush 12, 2) := by decide +kernel
theorem d_Crd_takesData_89 : decode M_Crd_takesData.2.1 89 = .ok (.if_icmp .ne 7, 3) := by decide +kernel
theorem d_Crd_takesData_92 : decode M_Crd_takesData.2.1 92 = .ok (.iconst 1, 1) := by decide +kernel
theorem d_Crd_takesData_93 : decode M_Crd_takesData.2.1 93 = .ok (.goto 4, 3) := by decide +kernel
theorem d_Crd_takesData_96 : decode M_Crd_takesData.2.1 96 = .ok (.iconst 0, 1) := by decide +kernel
theorem d_Crd_takesData_97 : decode M_Crd_takesData.2.1 97 = .ok (.ireturn, 1) := by decide +kernel
theorem d_Crd_takesData_98 : decode M_Crd_takesData.2.1 98 = .ok (.iload_n 2, 1) := by decide +kernel
theorem d_Crd_takesData_99 : decode M_Crd_takesData.2.1 99 = .ok (.ifCond .ne 7, 3) := by decide +kernel
theorem d_Crd_takesData_102 : decode M_Crd_takesData.2.1 102 = .ok (.iconst 1, 1) := by decide +kernel
theorem d_Crd_takesData_103 : decode M_Crd_takesData.2.1 103 = .ok (.goto 4, 3) := by decide +kernel
theorem d_Crd_takesData_106 : decode M_Crd_takesData.2.1 106 = .ok (.iconst 0, 1) := by decide +kernel
theorem d_Crd_takesData_107 : decode M_Crd_takesData.2.1 107 = .ok (.ireturn, 1) := by decide +kernel
theorem d_Crd_select_0 : decode M_Crd_select.2.1 0 = .ok (.aload_n 1, 1) := by decide +kernel
theorem d_Crd_select_1 : decode M_Crd_select.2.1 1 = .ok (.invokestatic 113, 3) := by decide +kernel
theorem d_Crd_select_4 : decode M_Crd_select.2.1 4 = .ok (.istore_n 3, 1) := by decide +kernel
theorem d_Crd_select_5 : decode M_Crd_select.2.1 5 = .ok (.iload_n 3, 1) := by decide +kernel
theorem d_Crd_select_6 : decode M_Crd_select.2.1 6 = .ok (.bipush 7, 2) := by decide +kernel
theorem d_Crd_select_8 : decode M_Crd_select.2.1 8 = .ok (.if_icmp .le 7, 3) := by decide +kernel
theorem d_Crd_select_11 : decode M_Crd_select.2.1 11 = .ok (.sipush 27266, 3) := by decide +kernel
theorem d_Crd_select_14 : decode M_Crd_select.2.1 14 = .ok (.ireturn, 1) := by decide +kernel
theorem d_Crd_select_15 : decode M_Crd_select.2.1 15 = .ok (.iconst 0, 1) := by decide +kernel
theorem d_Crd_select_16 : decode M_Crd_select.2.1 16 = .ok (.istore 4, 2) := by decide +kernel
theorem d_Crd_select_18 : decode M_Crd_select.2.1 18 = .ok (.iload 4, 2) := by decide +kernel
theorem d_Crd_select_20 : decode M_Crd_select.2.1 20 = .ok (.iload_n 3, 1) := by decide +kernel
theorem d_Crd_select_21 : decode M_Crd_select.2.1 21 = .ok (.if_icmp .ge 33, 3) := by decide +kernel
theorem d_Crd_select_24 : decode M_Crd_select.2.1 24 = .ok (.aload_n 1, 1) := by decide +kernel
theorem d_Crd_select_25 : decode M_Crd_select.2.1 25 = .ok (.iconst 5, 1) := by decide +kernel
theorem d_Crd_select_26 : decode M_Crd_select.2.1 26 = .ok (.iload 4, 2) := by decide +kernel
theorem d_Crd_select_28 : decode M_Crd_select.2.1 28 = .ok (.iadd, 1) := by decide +kernel
theorem d_Crd_select_29 : decode M_Crd_select.2.1 29 = .ok (.invokevirtual 98, 3) := by decide +kernel
theorem d_Crd_select_32 : decode M_Crd_select.2.1 32 = .ok (.aload_n 0, 1) := by decide +kernel
theorem d_Crd_select_33 : decode M_Crd_select.2.1 33 = .ok (.getfield 14, 3) := by decide +kernel
theorem d_Crd_select_36 : decode M_Crd_select.2.1 36 = .ok (.iload 4, 2) := by decide +kernel
theorem d_Crd_select_38 : decode M_Crd_select.2.1 38 = .ok (.invokevirtual 98, 3) := by decide +kernel
theorem d_Crd_select_41 : decode M_Crd_select.2.1 41 = .ok (.if_icmp .eq 7, 3) := by decide +kernel
theorem d_Crd_select_44 : decode M_Crd_select.2.1 44 = .ok (.sipush 27266, 3) := by decide +kernel
theorem d_Crd_select_47 : decode M_Crd_select.2.1 47 = .ok (.ireturn, 1) := by decide +kernel
theorem d_Crd_select_48 : decode M_Crd_select.2.1 48 = .ok (.iinc 4 1, 3) := by decide +kernel
theorem d_Crd_select_51 : decode M_Crd_select.2.1 51 = .ok (.goto (-33), 3) := by decide +kernel
theorem d_Crd_select_54 : decode M_Crd_select.2.1 54 = .ok (.aload_n 0, 1) := by decide +kernel
theorem d_Crd_select_55 : decode M_Crd_select.2.1 55 = .ok (.iconst 1, 1) := by decide +kernel
theorem d_Crd_select_56 : decode M_Crd_select.2.1 56 = .ok (.putfield 47, 3) := by decide +kernel
theorem d_Crd_select_59 : decode M_Crd_select.2.1 59 = .ok (.aload_n 2, 1) := by decide +kernel
theorem d_Crd_select_60 : decode M_Crd_select.2.1 60 = .ok (.bipush 111, 2) := by decide +kernel
theorem d_Crd_select_62 : decode M_Crd_select.2.1 62 = .ok (.invokevirtual 129, 3) := by decide +kernel
theorem d_Crd_select_65 : decode M_Crd_select.2.1 65 = .ok (.istore 4, 2) := by decide +kernel
theorem d_Crd_select_67 : decode M_Crd_select.2.1 67 = .ok (.aload_n 2, 1) := by decide +kernel
theorem d_Crd_select_68 : decode M_Crd_select.2.1 68 = .ok (.sipush 132, 3) := by decide +kernel
theorem d_Crd_select_71 : decode M_Crd_select.2.1 71 = .ok (.invokevirtual 129, 3) := by decide +kernel
theorem d_Crd_select_74 : decode M_Crd_select.2.1 74 = .ok (.istore 5, 2) := by decide +kernel
theorem d_Crd_select_76 : decode M_Crd_select.2.1 76 = .ok (.aload_n 2, 1) := by decide +kernel
theorem d_Crd_select_77 : decode M_Crd_select.2.1 77 = .ok (.aload_n 0, 1) := by decide +kernel
theorem d_Crd_select_78 : decode M_Crd_select.2.1 78 = .ok (.getfield 14, 3) := by decide +kernel
theorem d_Crd_select_81 : decode M_Crd_select.2.1 81 = .ok (.invokevirtual 132, 3) := by decide +kernel
theorem d_Crd_select_84 : decode M_Crd_select.2.1 84 = .ok (.aload_n 2, 1) := by decide +kernel
theorem d_Crd_select_85 : decode M_Crd_select.2.1 85 = .ok (.iload 5, 2) := by decide +kernel
theorem d_Crd_select_87 : decode M_Crd_select.2.1 87 = .ok (.invokevirtual 136, 3) := by decide +kernel
theorem d_Crd_select_90 : decode M_Crd_select.2.1 90 = .ok (.aload_n 2, 1) := by decide +kernel
theorem d_Crd_select_91 : decode M_Crd_select.2.1 91 = .ok (.sipush 165, 3) := by decide +kernel
theorem d_Crd_select_94 : decode M_Crd_select.2.1 94 = .ok (.invokevirtual 129, 3) := by decide +kernel
theorem d_Crd_select_97 : decode M_Crd_select.2.1 97 = .ok (.istore 6, 2) := by decide +kernel
theorem d_Crd_select_99 : decode M_Crd_select.2.1 99 = .ok (.aload_n 2, 1) := by decide +kernel
theorem d_Crd_select_100 : decode M_Crd_select.2.1 100 = .ok (.bipush 80, 2) := by decide +kernel
theorem d_Crd_select_102 : decode M_Crd_select.2.1 102 = .ok (.ldc2_w 139, 3) := by decide +kernel
theorem d_Crd_select_105 : decode M_Crd_select.2.1 105 = .ok (.iconst 4, 1) := by decide +kernel
theorem d_Crd_select_106 : decode M_Crd_select.2.1 106 = .ok (.invokevirtual 141, 3) := by decide +kernel
theorem d_Crd_select_109 : decode M_Crd_select.2.1 109 = .ok (.aload_n 2, 1) := by decide +kernel
theorem d_Crd_select_110 : decode M_Crd_select.2.1 110 = .ok (.ldc 145, 2) := by decide +kernel
theorem d_Crd_select_112 : decode M_Crd_select.2.1 112 = .ok (.ldc2_w 146, 3) := by decide +kernel
theorem d_Crd_select_115 : decode M_Crd_select.2.1 115 = .ok (.iconst 3, 1) := by decide +kernel
theorem d_Crd_select_116 : decode M_Crd_select.2.1 116 = .ok (.invokevirtual 141, 3) := by decide +kernel
theorem d_Crd_select_119 : decode M_Crd_select.2.1 119 = .ok (.aload_n 2, 1) := by decide +kernel
theorem d_Crd_select_120 : decode M_Crd_select.2.1 120 = .ok (.iload 6, 2) := by decide +kernel
theorem d_Crd_select_122 : decode M_Crd_select.2.1 122 = .ok (.invokevirtual 136, 3) := by decide +kernel
theorem d_Crd_select_125 : decode M_Crd_select.2.1 125 = .ok (.aload_n 2, 1) := by decide +kernel
theorem d_Crd_select_126 : decode M_Crd_select.2.1 126 = .ok (.iload 4, 2) := by decide +kernel
theorem d_Crd_select_128 : decode M_Crd_select.2.1 128 = .ok (.invokevirtual 136, 3) := by decide +kernel
theorem d_Crd_select_131 : decode M_Crd_select.2.1 131 = .ok (.ldc 71, 2) := by decide +kernel
theorem d_Crd_select_133 : decode M_Crd_select.2.1 133 = .ok (.ireturn, 1) := by decide +kernel
theorem d_Crd_ready_0 : decode M_Crd_ready.2.1 0 = .ok (.aload_n 1, 1) := by decide +kernel
theorem d_Crd_ready_1 : decode M_Crd_ready.2.1 1 = .ok (.iconst 5, 1) := by decide +kernel
theorem d_Crd_ready_2 : decode M_Crd_ready.2.1 2 = .ok (.iconst 2, 1) := by decide +kernel
theorem d_Crd_ready_3 : decode M_Crd_ready.2.1 3 = .ok (.invokevirtual 124, 3) := by decide +kernel
theorem d_Crd_ready_6 : decode M_Crd_ready.2.1 6 = .ok (.ldc2_w 148, 3) := by decide +kernel
theorem d_Crd_ready_9 : decode M_Crd_ready.2.1 9 = .ok (.lcmp, 1) := by decide +kernel
theorem d_Crd_ready_10 : decode M_Crd_ready.2.1 10 = .ok (.ifCond .eq 7, 3) := by decide +kernel
theorem d_Crd_ready_13 : decode M_Crd_ready.2.1 13 = .ok (.sipush 27264, 3) := by decide +kernel
theorem d_Crd_ready_16 : decode M_Crd_ready.2.1 16 = .ok (.ireturn, 1) := by decide +kernel
theorem d_Crd_ready_17 : decode M_Crd_ready.2.1 17 = .ok (.aload_n 0, 1) := by decide +kernel
theorem d_Crd_ready_18 : decode M_Crd_ready.2.1 18 = .ok (.dup, 1) := by decide +kernel
theorem d_Crd_ready_19 : decode M_Crd_ready.2.1 19 = .ok (.getfield 38, 3) := by decide +kernel
theorem d_Crd_ready_22 : decode M_Crd_ready.2.1 22 = .ok (.iconst 1, 1) := by decide +kernel
theorem d_Crd_ready_23 : decode M_Crd_ready.2.1 23 = .ok (.iadd, 1) := by decide +kernel
theorem d_Crd_ready_24 : decode M_Crd_ready.2.1 24 = .ok (.putfield 38, 3) := by decide +kernel
theorem d_Crd_ready_27 : decode M_Crd_ready.2.1 27 = .ok (.aload_n 0, 1) := by decide +kernel
theorem d_Crd_ready_28 : decode M_Crd_ready.2.1 28 = .ok (.aload_n 1, 1) := by decide +kernel
theorem d_Crd_ready_29 : decode M_Crd_ready.2.1 29 = .ok (.bipush 7, 2) := by decide +kernel
theorem d_Crd_ready_31 : decode M_Crd_ready.2.1 31 = .ok (.bipush 6, 2) := by decide +kernel
theorem d_Crd_ready_33 : decode M_Crd_ready.2.1 33 = .ok (.invokevirtual 124, 3) := by decide +kernel
theorem d_Crd_ready_36 : decode M_Crd_ready.2.1 36 = .ok (.putfield 50, 3) := by decide +kernel
theorem d_Crd_ready_39 : decode M_Crd_ready.2.1 39 = .ok (.aload_n 0, 1) := by decide +kernel
theorem d_Crd_ready_40 : decode M_Crd_ready.2.1 40 = .ok (.iconst 0, 1) := by decide +kernel
theorem d_Crd_ready_41 : decode M_Crd_ready.2.1 41 = .ok (.putfield 54, 3) := by decide +kernel
theorem d_Crd_ready_44 : decode M_Crd_ready.2.1 44 = .ok (.aload_n 0, 1) := by decide +kernel
theorem d_Crd_ready_45 : decode M_Crd_ready.2.1 45 = .ok (.iconst 2, 1) := by decide +kernel
theorem d_Crd_ready_46 : decode M_Crd_ready.2.1 46 = .ok (.putfield 47, 3) := by decide +kernel
theorem d_Crd_ready_49 : decode M_Crd_ready.2.1 49 = .ok (.aload_n 2, 1) := by decide +kernel
theorem d_Crd_ready_50 : decode M_Crd_ready.2.1 50 = .ok (.sipush 128, 3) := by decide +kernel
theorem d_Crd_ready_53 : decode M_Crd_ready.2.1 53 = .ok (.invokevirtual 129, 3) := by decide +kernel
theorem d_Crd_ready_56 : decode M_Crd_ready.2.1 56 = .ok (.istore_n 3, 1) := by decide +kernel
theorem d_Crd_ready_57 : decode M_Crd_ready.2.1 57 = .ok (.aload_n 2, 1) := by decide +kernel
theorem d_Crd_ready_58 : decode M_Crd_ready.2.1 58 = .ok (.ldc2_w 150, 3) := by decide +kernel
theorem d_Crd_ready_61 : decode M_Crd_ready.2.1 61 = .ok (.iconst 2, 1) := by decide +kernel
theorem d_Crd_ready_62 : decode M_Crd_ready.2.1 62 = .ok (.invokevirtual 60, 3) := by decide +kernel
theorem d_Crd_ready_65 : decode M_Crd_ready.2.1 65 = .ok (.iconst 1, 1) := by decide +kernel
theorem d_Crd_ready_66 : decode M_Crd_ready.2.1 66 = .ok (.istore 4, 2) := by decide +kernel
theorem d_Crd_ready_68 : decode M_Crd_ready.2.1 68 = .ok (.iload 4, 2) := by decide +kernel
theorem d_Crd_ready_70 : decode M_Crd_ready.2.1 70 = .ok (.iconst 4, 1) := by decide +kernel
theorem d_Crd_ready_71 : decode M_Crd_ready.2.1 71 = .ok (.if_icmp .gt 57, 3) := by decide +kernel
theorem d_Crd_ready_74 : decode M_Crd_ready.2.1 74 = .ok (.aload_n 0, 1) := by decide +kernel
theorem d_Crd_ready_75 : decode M_Crd_ready.2.1 75 = .ok (.getfield 23, 3) := by decide +kernel
theorem d_Crd_ready_78 : decode M_Crd_ready.2.1 78 = .ok (.iload 4, 2) := by decide +kernel
theorem d_Crd_ready_80 : decode M_Crd_ready.2.1 80 = .ok (.invokevirtual 152, 3) := by decide +kernel
theorem d_Crd_ready_83 : decode M_Crd_ready.2.1 83 = .ok (.ifCond .le 39, 3) := by decide +kernel
theorem d_Crd_ready_86 : decode M_Crd_ready.2.1 86 = .ok (.aload_n 2, 1) := by decide +kernel
theorem d_Crd_ready_87 : decode M_Crd_ready.2.1 87 = .ok (.bipush 8, 2) := by decide +kernel
theorem d_Crd_ready_89 : decode M_Crd_ready.2.1 89 = .ok (.iload 4, 2) := by decide +kernel
theorem d_Crd_ready_91 : decode M_Crd_ready.2.1 91 = .ok (.imul, 1) := by decide +kernel
theorem d_Crd_ready_92 : decode M_Crd_ready.2.1 92 = .ok (.invokevirtual 155, 3) := by decide +kernel
theorem d_Crd_ready_95 : decode M_Crd_ready.2.1 95 = .ok (.pop, 1) := by decide +kernel
theorem d_Crd_ready_96 : decode M_Crd_ready.2.1 96 = .ok (.aload_n 2, 1) := by decide +kernel
theorem d_Crd_ready_97 : decode M_Crd_ready.2.1 97 = .ok (.iconst 1, 1) := by decide +kernel
theorem d_Crd_ready_98 : decode M_Crd_ready.2.1 98 = .ok (.invokevirtual 155, 3) := by decide +kernel
theorem d_Crd_ready_101 : decode M_Crd_ready.2.1 101 = .ok (.pop, 1) := by decide +kernel
theorem d_Crd_ready_102 : decode M_Crd_ready.2.1 102 = .ok (.aload_n 2, 1) := by decide +kernel
theorem d_Crd_ready_103 : decode M_Crd_ready.2.1 103 = .ok (.aload_n 0, 1) := by decide +kernel
theorem d_Crd_ready_104 : decode M_Crd_ready.2.1 104 = .ok (.getfield 23, 3) := by decide +kernel
theorem d_Crd_ready_107 : decode M_Crd_ready.2.1 107 = .ok (.iload 4, 2) := by decide +kernel
theorem d_Crd_ready_109 : decode M_Crd_ready.2.1 109 = .ok (.invokevirtual 152, 3) := by decide +kernel
theorem d_Crd_ready_112 : decode M_Crd_ready.2.1 112 = .ok (.invokevirtual 155, 3) := by decide +kernel
theorem d_Crd_ready_115 : decode M_Crd_ready.2.1 115 = .ok (.pop, 1) := by decide +kernel
theorem d_Crd_ready_116 : decode M_Crd_ready.2.1 116 = .ok (.aload_n 2, 1) := by decide +kernel
theorem d_Crd_ready_117 : decode M_Crd_ready.2.1 117 = .ok (.iconst 0, 1) := by decide +kernel
theorem d_Crd_ready_118 : decode M_Crd_ready.2.1 118 = .ok (.invokevirtual 155, 3) := by decide +kernel
theorem d_Crd_ready_121 : decode M_Crd_ready.2.1 121 = .ok (.pop, 1) := by decide +kernel
theorem d_Crd_ready_122 : decode M_Crd_ready.2.1 122 = .ok (.iinc 4 1, 3) := by decide +kernel
theorem d_Crd_ready_125 : decode M_Crd_ready.2.1 125 = .ok (.goto (-57), 3) := by decide +kernel
theorem d_Crd_ready_128 : decode M_Crd_ready.2.1 128 = .ok (.aload_n 2, 1) := by decide +kernel
theorem d_Crd_ready_129 : decode M_Crd_ready.2.1 129 = .ok (.iload_n 3, 1) := by decide +kernel
theorem d_Crd_ready_130 : decode M_Crd_ready.2.1 130 = .ok (.invokevirtual 136, 3) := by decide +kernel
theorem d_Crd_ready_133 : decode M_Crd_ready.2.1 133 = .ok (.ldc 71, 2) := by decide +kernel
theorem d_Crd_ready_135 : decode M_Crd_ready.2.1 135 = .ok (.ireturn, 1) := by decide +kernel
theorem d_Crd_read_0 : decode M_Crd_read.2.1 0 = .ok (.aload_n 1, 1) := by decide +kernel
theorem d_Crd_read_1 : decode M_Crd_read.2.1 1 = .ok (.iconst 2, 1) := by decide +kernel
theorem d_Crd_read_2 : decode M_Crd_read.2.1 2 = .ok (.invokevirtual 98, 3) := by decide +kernel
theorem d_Crd_read_5 : decode M_Crd_read.2.1 5 = .ok (.istore_n 3, 1) := by decide +kernel
theorem d_Crd_read_6 : decode M_Crd_read.2.1 6 = .ok (.aload_n 1, 1) := by decide +kernel
theorem d_Crd_read_7 : decode M_Crd_read.2.1 7 = .ok (.iconst 3, 1) := by decide +kernel
theorem d_Crd_read_8 : decode M_Crd_read.2.1 8 = .ok (.invokevirtual 98, 3) := by decide +kernel
theorem d_Crd_read_11 : decode M_Crd_read.2.1 11 = .ok (.bipush 8, 2) := by decide +kernel
theorem d_Crd_read_13 : decode M_Crd_read.2.1 13 = .ok (.idiv, 1) := by decide +kernel
theorem d_Crd_read_14 : decode M_Crd_read.2.1 14 = .ok (.istore 4, 2) := by decide +kernel
theorem d_Crd_read_16 : decode M_Crd_read.2.1 16 = .ok (.aload_n 0, 1) := by decide +kernel
theorem d_Crd_read_17 : decode M_Crd_read.2.1 17 = .ok (.getfield 23, 3) := by decide +kernel
theorem d_Crd_read_20 : decode M_Crd_read.2.1 20 = .ok (.iload 4, 2) := by decide +kernel
theorem d_Crd_read_22 : decode M_Crd_read.2.1 22 = .ok (.invokevirtual 152, 3) := by decide +kernel
theorem d_Crd_read_25 : decode M_Crd_read.2.1 25 = .ok (.ifCond .ne 7, 3) := by decide +kernel
theorem d_Crd_read_28 : decode M_Crd_read.2.1 28 = .ok (.sipush 27266, 3) := by decide +kernel
theorem d_Crd_read_31 : decode M_Crd_read.2.1 31 = .ok (.ireturn, 1) := by decide +kernel
theorem d_Crd_read_32 : decode M_Crd_read.2.1 32 = .ok (.iload_n 3, 1) := by decide +kernel
theorem d_Crd_read_33 : decode M_Crd_read.2.1 33 = .ok (.iconst 1, 1) := by decide +kernel
theorem d_Crd_read_34 : decode M_Crd_read.2.1 34 = .ok (.if_icmp .lt 16, 3) := by decide +kernel
theorem d_Crd_read_37 : decode M_Crd_read.2.1 37 = .ok (.iload_n 3, 1) := by decide +kernel
theorem d_Crd_read_38 : decode M_Crd_read.2.1 38 = .ok (.aload_n 0, 1) := by decide +kernel
theorem d_Crd_read_39 : decode M_Crd_read.2.1 39 = .ok (.getfield 23, 3) := by decide +kernel
theorem d_Crd_read_42 : decode M_Crd_read.2.1 42 = .ok (.iload 4, 2) := by decide +kernel
theorem d_Crd_read_44 : decode M_Crd_read.2.1 44 = .ok (.invokevirtual 152, 3) := by decide +kernel
theorem d_Crd_read_47 : decode M_Crd_read.2.1 47 = .ok (.if_icmp .le 7, 3) := by decide +kernel
theorem d_Crd_read_50 : decode M_Crd_read.2.1 50 = .ok (.sipush 27267, 3) := by decide +kernel
theorem d_Crd_read_53 : decode M_Crd_read.2.1 53 = .ok (.ireturn, 1) := by decide +kernel
theorem d_Crd_read_54 : decode M_Crd_read.2.1 54 = .ok (.aload_n 2, 1) := by decide +kernel
theorem d_Crd_read_55 : decode M_Crd_read.2.1 55 = .ok (.bipush 112, 2) := by decide +kernel
theorem d_Crd_read_57 : decode M_Crd_read.2.1 57 = .ok (.invokevirtual 129, 3) := by decide +kernel
theorem d_Crd_read_60 : decode M_Crd_read.2.1 60 = .ok (.istore 5, 2) := by decide +kernel
theorem d_Crd_read_62 : decode M_Crd_read.2.1 62 = .ok (.aload_n 0, 1) := by decide +kernel
theorem d_Crd_read_63 : decode M_Crd_read.2.1 63 = .ok (.getfield 23, 3) := by decide +kernel
theorem d_Crd_read_66 : decode M_Crd_read.2.1 66 = .ok (.iload 4, 2) := by decide +kernel
theorem d_Crd_read_68 : decode M_Crd_read.2.1 68 = .ok (.iload_n 3, 1) := by decide +kernel
theorem d_Crd_read_69 : decode M_Crd_read.2.1 69 = .ok (.aload_n 2, 1) := by decide +kernel
theorem d_Crd_read_70 : decode M_Crd_read.2.1 70 = .ok (.invokevirtual 158, 3) := by decide +kernel
theorem d_Crd_read_73 : decode M_Crd_read.2.1 73 = .ok (.aload_n 2, 1) := by decide +kernel
theorem d_Crd_read_74 : decode M_Crd_read.2.1 74 = .ok (.iload 5, 2) := by decide +kernel
theorem d_Crd_read_76 : decode M_Crd_read.2.1 76 = .ok (.invokevirtual 136, 3) := by decide +kernel
theorem d_Crd_read_79 : decode M_Crd_read.2.1 79 = .ok (.ldc 71, 2) := by decide +kernel
theorem d_Crd_read_81 : decode M_Crd_read.2.1 81 = .ok (.ireturn, 1) := by decide +kernel
theorem d_Crd_prove_0 : decode M_Crd_prove.2.1 0 = .ok (.aload_n 0, 1) := by decide +kernel
theorem d_Crd_prove_1 : decode M_Crd_prove.2.1 1 = .ok (.getfield 41, 3) := by decide +kernel
theorem d_Crd_prove_4 : decode M_Crd_prove.2.1 4 = .ok (.ifCond .ne 7, 3) := by decide +kernel
theorem d_Crd_prove_7 : decode M_Crd_prove.2.1 7 = .ok (.sipush 27011, 3) := by decide +kernel
theorem d_Crd_prove_10 : decode M_Crd_prove.2.1 10 = .ok (.ireturn, 1) := by decide +kernel
theorem d_Crd_prove_11 : decode M_Crd_prove.2.1 11 = .ok (.aload_n 1, 1) := by decide +kernel
theorem d_Crd_prove_12 : decode M_Crd_prove.2.1 12 = .ok (.invokestatic 162, 3) := by decide +kernel
theorem d_Crd_prove_15 : decode M_Crd_prove.2.1 15 = .ok (.ifCond .ne 7, 3) := by decide +kernel
theorem d_Crd_prove_18 : decode M_Crd_prove.2.1 18 = .ok (.sipush 27264, 3) := by decide +kernel
theorem d_Crd_prove_21 : decode M_Crd_prove.2.1 21 = .ok (.ireturn, 1) := by decide +kernel
theorem d_Crd_prove_22 : decode M_Crd_prove.2.1 22 = .ok (.aload_n 0, 1) := by decide +kernel
theorem d_Crd_prove_23 : decode M_Crd_prove.2.1 23 = .ok (.aload_n 1, 1) := by decide +kernel
theorem d_Crd_prove_24 : decode M_Crd_prove.2.1 24 = .ok (.bipush 6, 2) := by decide +kernel
theorem d_Crd_prove_26 : decode M_Crd_prove.2.1 26 = .ok (.invokevirtual 98, 3) := by decide +kernel
theorem d_Crd_prove_29 : decode M_Crd_prove.2.1 29 = .ok (.invokestatic 165, 3) := by decide +kernel
theorem d_Crd_prove_32 : decode M_Crd_prove.2.1 32 = .ok (.bipush 100, 2) := by decide +kernel
theorem d_Crd_prove_34 : decode M_Crd_prove.2.1 34 = .ok (.imul, 1) := by decide +kernel
theorem d_Crd_prove_35 : decode M_Crd_prove.2.1 35 = .ok (.aload_n 1, 1) := by decide +kernel
theorem d_Crd_prove_36 : decode M_Crd_prove.2.1 36 = .ok (.bipush 7, 2) := by decide +kernel
theorem d_Crd_prove_38 : decode M_Crd_prove.2.1 38 = .ok (.invokevirtual 98, 3) := by decide +kernel
theorem d_Crd_prove_41 : decode M_Crd_prove.2.1 41 = .ok (.invokestatic 165, 3) := by decide +kernel
theorem d_Crd_prove_44 : decode M_Crd_prove.2.1 44 = .ok (.iadd, 1) := by decide +kernel
theorem d_Crd_prove_45 : decode M_Crd_prove.2.1 45 = .ok (.aload_n 0, 1) := by decide +kernel
theorem d_Crd_prove_46 : decode M_Crd_prove.2.1 46 = .ok (.getfield 34, 3) := by decide +kernel
theorem d_Crd_prove_49 : decode M_Crd_prove.2.1 49 = .ok (.if_icmp .ne 7, 3) := by decide +kernel
theorem d_Crd_prove_52 : decode M_Crd_prove.2.1 52 = .ok (.iconst 1, 1) := by decide +kernel
theorem d_Crd_prove_53 : decode M_Crd_prove.2.1 53 = .ok (.goto 4, 3) := by decide +kernel
theorem d_Crd_prove_56 : decode M_Crd_prove.2.1 56 = .ok (.iconst 0, 1) := by decide +kernel
theorem d_Crd_prove_57 : decode M_Crd_prove.2.1 57 = .ok (.putfield 54, 3) := by decide +kernel
theorem d_Crd_prove_60 : decode M_Crd_prove.2.1 60 = .ok (.aload_n 0, 1) := by decide +kernel
theorem d_Crd_prove_61 : decode M_Crd_prove.2.1 61 = .ok (.getfield 54, 3) := by decide +kernel
theorem d_Crd_prove_64 : decode M_Crd_prove.2.1 64 = .ok (.ifCond .eq 11, 3) := by decide +kernel
theorem d_Crd_prove_67 : decode M_Crd_prove.2.1 67 = .ok (.aload_n 0, 1) := by decide +kernel
theorem d_Crd_prove_68 : decode M_Crd_prove.2.1 68 = .ok (.iconst 3, 1) := by decide +kernel
theorem d_Crd_prove_69 : decode M_Crd_prove.2.1 69 = .ok (.putfield 41, 3) := by decide +kernel
theorem d_Crd_prove_72 : decode M_Crd_prove.2.1 72 = .ok (.ldc 71, 2) := by decide +kernel
theorem d_Crd_prove_74 : decode M_Crd_prove.2.1 74 = .ok (.ireturn, 1) := by decide +kernel
theorem d_Crd_prove_75 : decode M_Crd_prove.2.1 75 = .ok (.aload_n 0, 1) := by decide +kernel
theorem d_Crd_prove_76 : decode M_Crd_prove.2.1 76 = .ok (.dup, 1) := by decide +kernel
theorem d_Crd_prove_77 : decode M_Crd_prove.2.1 77 = .ok (.getfield 41, 3) := by decide +kernel
theorem d_Crd_prove_80 : decode M_Crd_prove.2.1 80 = .ok (.iconst 1, 1) := by decide +kernel
theorem d_Crd_prove_81 : decode M_Crd_prove.2.1 81 = .ok (.isub, 1) := by decide +kernel
theorem d_Crd_prove_82 : decode M_Crd_prove.2.1 82 = .ok (.putfield 41, 3) := by decide +kernel
theorem d_Crd_prove_85 : decode M_Crd_prove.2.1 85 = .ok (.sipush 25536, 3) := by decide +kernel
theorem d_Crd_prove_88 : decode M_Crd_prove.2.1 88 = .ok (.aload_n 0, 1) := by decide +kernel
theorem d_Crd_prove_89 : decode M_Crd_prove.2.1 89 = .ok (.getfield 41, 3) := by decide +kernel
theorem d_Crd_prove_92 : decode M_Crd_prove.2.1 92 = .ok (.iadd, 1) := by decide +kernel
theorem d_Crd_prove_93 : decode M_Crd_prove.2.1 93 = .ok (.ireturn, 1) := by decide +kernel
theorem d_Crd_holdsDigits_0 : decode M_Crd_holdsDigits.2.1 0 = .ok (.bipush 8, 2) := by decide +kernel
theorem d_Crd_holdsDigits_2 : decode M_Crd_holdsDigits.2.1 2 = .ok (.istore_n 1, 1) := by decide +kernel
theorem d_Crd_holdsDigits_3 : decode M_Crd_holdsDigits.2.1 3 = .ok (.iload_n 1, 1) := by decide +kernel
theorem d_Crd_holdsDigits_4 : decode M_Crd_holdsDigits.2.1 4 = .ok (.bipush 13, 2) := by decide +kernel
theorem d_Crd_holdsDigits_6 : decode M_Crd_holdsDigits.2.1 6 = .ok (.if_icmp .ge 22, 3) := by decide +kernel
theorem d_Crd_holdsDigits_9 : decode M_Crd_holdsDigits.2.1 9 = .ok (.aload_n 0, 1) := by decide +kernel
theorem d_Crd_holdsDigits_10 : decode M_Crd_holdsDigits.2.1 10 = .ok (.iload_n 1, 1) := by decide +kernel
theorem d_Crd_holdsDigits_11 : decode M_Crd_holdsDigits.2.1 11 = .ok (.invokevirtual 98, 3) := by decide +kernel
theorem d_Crd_holdsDigits_14 : decode M_Crd_holdsDigits.2.1 14 = .ok (.sipush 255, 3) := by decide +kernel
theorem d_Crd_holdsDigits_17 : decode M_Crd_holdsDigits.2.1 17 = .ok (.if_icmp .eq 5, 3) := by decide +kernel
theorem d_Crd_holdsDigits_20 : decode M_Crd_holdsDigits.2.1 20 = .ok (.iconst 0, 1) := by decide +kernel
theorem d_Crd_holdsDigits_21 : decode M_Crd_holdsDigits.2.1 21 = .ok (.ireturn, 1) := by decide +kernel
theorem d_Crd_holdsDigits_22 : decode M_Crd_holdsDigits.2.1 22 = .ok (.iinc 1 1, 3) := by decide +kernel
theorem d_Crd_holdsDigits_25 : decode M_Crd_holdsDigits.2.1 25 = .ok (.goto (-22), 3) := by decide +kernel
theorem d_Crd_holdsDigits_28 : decode M_Crd_holdsDigits.2.1 28 = .ok (.aload_n 0, 1) := by decide +kernel
theorem d_Crd_holdsDigits_29 : decode M_Crd_holdsDigits.2.1 29 = .ok (.iconst 5, 1) := by decide +kernel
theorem d_Crd_holdsDigits_30 : decode M_Crd_holdsDigits.2.1 30 = .ok (.invokevirtual 98, 3) := by decide +kernel
theorem d_Crd_holdsDigits_33 : decode M_Crd_holdsDigits.2.1 33 = .ok (.bipush 36, 2) := by decide +kernel
theorem d_Crd_holdsDigits_35 : decode M_Crd_holdsDigits.2.1 35 = .ok (.if_icmp .ne 33, 3) := by decide +kernel
theorem d_Crd_holdsDigits_38 : decode M_Crd_holdsDigits.2.1 38 = .ok (.aload_n 0, 1) := by decide +kernel
theorem d_Crd_holdsDigits_39 : decode M_Crd_holdsDigits.2.1 39 = .ok (.bipush 6, 2) := by decide +kernel
theorem d_Crd_holdsDigits_41 : decode M_Crd_holdsDigits.2.1 41 = .ok (.invokevirtual 98, 3) := by decide +kernel
theorem d_Crd_holdsDigits_44 : decode M_Crd_holdsDigits.2.1 44 = .ok (.invokestatic 165, 3) := by decide +kernel
theorem d_Crd_holdsDigits_47 : decode M_Crd_holdsDigits.2.1 47 = .ok (.iconst (-1), 1) := by decide +kernel
theorem d_Crd_holdsDigits_48 : decode M_Crd_holdsDigits.2.1 48 = .ok (.if_icmp .eq 20, 3) := by decide +kernel
theorem d_Crd_holdsDigits_51 : decode M_Crd_holdsDigits.2.1 51 = .ok (.aload_n 0, 1) := by decide +kernel
theorem d_Crd_holdsDigits_52 : decode M_Crd_holdsDigits.2.1 52 = .ok (.bipush 7, 2) := by decide +kernel
theorem d_Crd_holdsDigits_54 : decode M_Crd_holdsDigits.2.1 54 = .ok (.invokevirtual 98, 3) := by decide +kernel
theorem d_Crd_holdsDigits_57 : decode M_Crd_holdsDigits.2.1 57 = .ok (.invokestatic 165, 3) := by decide +kernel
theorem d_Crd_holdsDigits_60 : decode M_Crd_holdsDigits.2.1 60 = .ok (.iconst (-1), 1) := by decide +kernel
theorem d_Crd_holdsDigits_61 : decode M_Crd_holdsDigits.2.1 61 = .ok (.if_icmp .eq 7, 3) := by decide +kernel
theorem d_Crd_holdsDigits_64 : decode M_Crd_holdsDigits.2.1 64 = .ok (.iconst 1, 1) := by decide +kernel
theorem d_Crd_holdsDigits_65 : decode M_Crd_holdsDigits.2.1 65 = .ok (.goto 4, 3) := by decide +kernel
theorem d_Crd_holdsDigits_68 : decode M_Crd_holdsDigits.2.1 68 = .ok (.iconst 0, 1) := by decide +kernel
theorem d_Crd_holdsDigits_69 : decode M_Crd_holdsDigits.2.1 69 = .ok (.ireturn, 1) := by decide +kernel
theorem d_Crd_digitsOf_0 : decode M_Crd_digitsOf.2.1 0 = .ok (.iload_n 0, 1) := by decide +kernel
theorem d_Crd_digitsOf_1 : decode M_Crd_digitsOf.2.1 1 = .ok (.bipush 16, 2) := by decide +kernel
theorem d_Crd_digitsOf_3 : decode M_Crd_digitsOf.2.1 3 = .ok (.idiv, 1) := by decide +kernel
theorem d_Crd_digitsOf_4 : decode M_Crd_digitsOf.2.1 4 = .ok (.istore_n 1, 1) := by decide +kernel
theorem d_Crd_digitsOf_5 : decode M_Crd_digitsOf.2.1 5 = .ok (.iload_n 0, 1) := by decide +kernel
theorem d_Crd_digitsOf_6 : decode M_Crd_digitsOf.2.1 6 = .ok (.bipush 16, 2) := by decide +kernel
theorem d_Crd_digitsOf_8 : decode M_Crd_digitsOf.2.1 8 = .ok (.irem, 1) := by decide +kernel
theorem d_Crd_digitsOf_9 : decode M_Crd_digitsOf.2.1 9 = .ok (.istore_n 2, 1) := by decide +kernel
theorem d_Crd_digitsOf_10 : decode M_Crd_digitsOf.2.1 10 = .ok (.iload_n 1, 1) := by decide +kernel
theorem d_Crd_digitsOf_11 : decode M_Crd_digitsOf.2.1 11 = .ok (.bipush 9, 2) := by decide +kernel
theorem d_Crd_digitsOf_13 : decode M_Crd_digitsOf.2.1 13 = .ok (.if_icmp .gt 18, 3) := by decide +kernel
theorem d_Crd_digitsOf_16 : decode M_Crd_digitsOf.2.1 16 = .ok (.iload_n 2, 1) := by decide +kernel
theorem d_Crd_digitsOf_17 : decode M_Crd_digitsOf.2.1 17 = .ok (.bipush 9, 2) := by decide +kernel
theorem d_Crd_digitsOf_19 : decode M_Crd_digitsOf.2.1 19 = .ok (.if_icmp .gt 12, 3) := by decide +kernel
theorem d_Crd_digitsOf_22 : decode M_Crd_digitsOf.2.1 22 = .ok (.iload_n 1, 1) := by decide +kernel
theorem d_Crd_digitsOf_23 : decode M_Crd_digitsOf.2.1 23 = .ok (.bipush 10, 2) := by decide +kernel
theorem d_Crd_digitsOf_25 : decode M_Crd_digitsOf.2.1 25 = .ok (.imul, 1) := by decide +kernel
theorem d_Crd_digitsOf_26 : decode M_Crd_digitsOf.2.1 26 = .ok (.iload_n 2, 1) := by decide +kernel
theorem d_Crd_digitsOf_27 : decode M_Crd_digitsOf.2.1 27 = .ok (.iadd, 1) := by decide +kernel
theorem d_Crd_digitsOf_28 : decode M_Crd_digitsOf.2.1 28 = .ok (.goto 4, 3) := by decide +kernel
theorem d_Crd_digitsOf_31 : decode M_Crd_digitsOf.2.1 31 = .ok (.iconst (-1), 1) := by decide +kernel
theorem d_Crd_digitsOf_32 : decode M_Crd_digitsOf.2.1 32 = .ok (.ireturn, 1) := by decide +kernel
theorem d_Crd_tell_0 : decode M_Crd_tell.2.1 0 = .ok (.aload_n 1, 1) := by decide +kernel
theorem d_Crd_tell_1 : decode M_Crd_tell.2.1 1 = .ok (.iconst 3, 1) := by decide +kernel
theorem d_Crd_tell_2 : decode M_Crd_tell.2.1 2 = .ok (.invokevirtual 98, 3) := by decide +kernel
theorem d_Crd_tell_5 : decode M_Crd_tell.2.1 5 = .ok (.bipush 54, 2) := by decide +kernel
theorem d_Crd_tell_7 : decode M_Crd_tell.2.1 7 = .ok (.if_icmp .ne 18, 3) := by decide +kernel
theorem d_Crd_tell_10 : decode M_Crd_tell.2.1 10 = .ok (.aload_n 2, 1) := by decide +kernel
theorem d_Crd_tell_11 : decode M_Crd_tell.2.1 11 = .ok (.ldc 168, 2) := by decide +kernel
theorem d_Crd_tell_13 : decode M_Crd_tell.2.1 13 = .ok (.aload_n 0, 1) := by decide +kernel
theorem d_Crd_tell_14 : decode M_Crd_tell.2.1 14 = .ok (.getfield 38, 3) := by decide +kernel
theorem d_Crd_tell_17 : decode M_Crd_tell.2.1 17 = .ok (.i2l, 1) := by decide +kernel
theorem d_Crd_tell_18 : decode M_Crd_tell.2.1 18 = .ok (.iconst 2, 1) := by decide +kernel
theorem d_Crd_tell_19 : decode M_Crd_tell.2.1 19 = .ok (.invokevirtual 141, 3) := by decide +kernel
theorem d_Crd_tell_22 : decode M_Crd_tell.2.1 22 = .ok (.goto 15, 3) := by decide +kernel
theorem d_Crd_tell_25 : decode M_Crd_tell.2.1 25 = .ok (.aload_n 2, 1) := by decide +kernel
theorem d_Crd_tell_26 : decode M_Crd_tell.2.1 26 = .ok (.ldc 169, 2) := by decide +kernel
theorem d_Crd_tell_28 : decode M_Crd_tell.2.1 28 = .ok (.aload_n 0, 1) := by decide +kernel
theorem d_Crd_tell_29 : decode M_Crd_tell.2.1 29 = .ok (.getfield 41, 3) := by decide +kernel
theorem d_Crd_tell_32 : decode M_Crd_tell.2.1 32 = .ok (.i2l, 1) := by decide +kernel
theorem d_Crd_tell_33 : decode M_Crd_tell.2.1 33 = .ok (.iconst 1, 1) := by decide +kernel
theorem d_Crd_tell_34 : decode M_Crd_tell.2.1 34 = .ok (.invokevirtual 141, 3) := by decide +kernel
theorem d_Crd_tell_37 : decode M_Crd_tell.2.1 37 = .ok (.ldc 71, 2) := by decide +kernel
theorem d_Crd_tell_39 : decode M_Crd_tell.2.1 39 = .ok (.ireturn, 1) := by decide +kernel
theorem d_Crd_giveSeal_0 : decode M_Crd_giveSeal.2.1 0 = .ok (.aload_n 1, 1) := by decide +kernel
theorem d_Crd_giveSeal_1 : decode M_Crd_giveSeal.2.1 1 = .ok (.iconst 5, 1) := by decide +kernel
theorem d_Crd_giveSeal_2 : decode M_Crd_giveSeal.2.1 2 = .ok (.bipush 6, 2) := by decide +kernel
theorem d_Crd_giveSeal_4 : decode M_Crd_giveSeal.2.1 4 = .ok (.invokevirtual 124, 3) := by decide +kernel
theorem d_Crd_giveSeal_7 : decode M_Crd_giveSeal.2.1 7 = .ok (.lstore_n 3, 1) := by decide +kernel
theorem d_Crd_giveSeal_8 : decode M_Crd_giveSeal.2.1 8 = .ok (.aload_n 1, 1) := by decide +kernel
theorem d_Crd_giveSeal_9 : decode M_Crd_giveSeal.2.1 9 = .ok (.bipush 11, 2) := by decide +kernel
theorem d_Crd_giveSeal_11 : decode M_Crd_giveSeal.2.1 11 = .ok (.iconst 4, 1) := by decide +kernel
theorem d_Crd_giveSeal_12 : decode M_Crd_giveSeal.2.1 12 = .ok (.invokevirtual 124, 3) := by decide +kernel
theorem d_Crd_giveSeal_15 : decode M_Crd_giveSeal.2.1 15 = .ok (.lstore 5, 2) := by decide +kernel
theorem d_Crd_giveSeal_17 : decode M_Crd_giveSeal.2.1 17 = .ok (.aload_n 0, 1) := by decide +kernel
theorem d_Crd_giveSeal_18 : decode M_Crd_giveSeal.2.1 18 = .ok (.aload_n 1, 1) := by decide +kernel
theorem d_Crd_giveSeal_19 : decode M_Crd_giveSeal.2.1 19 = .ok (.iconst 2, 1) := by decide +kernel
theorem d_Crd_giveSeal_20 : decode M_Crd_giveSeal.2.1 20 = .ok (.invokevirtual 98, 3) := by decide +kernel
theorem d_Crd_giveSeal_23 : decode M_Crd_giveSeal.2.1 23 = .ok (.lload_n 3, 1) := by decide +kernel
theorem d_Crd_giveSeal_24 : decode M_Crd_giveSeal.2.1 24 = .ok (.aload_n 1, 1) := by decide +kernel
theorem d_Crd_giveSeal_25 : decode M_Crd_giveSeal.2.1 25 = .ok (.bipush 15, 2) := by decide +kernel
theorem d_Crd_giveSeal_27 : decode M_Crd_giveSeal.2.1 27 = .ok (.iconst 2, 1) := by decide +kernel
theorem d_Crd_giveSeal_28 : decode M_Crd_giveSeal.2.1 28 = .ok (.invokevirtual 124, 3) := by decide +kernel
theorem d_Crd_giveSeal_31 : decode M_Crd_giveSeal.2.1 31 = .ok (.invokevirtual 170, 3) := by decide +kernel
theorem d_Crd_giveSeal_34 : decode M_Crd_giveSeal.2.1 34 = .ok (.istore 7, 2) := by decide +kernel
theorem d_Crd_giveSeal_36 : decode M_Crd_giveSeal.2.1 36 = .ok (.iload 7, 2) := by decide +kernel
theorem d_Crd_giveSeal_38 : decode M_Crd_giveSeal.2.1 38 = .ok (.bipush 64, 2) := by decide +kernel
theorem d_Crd_giveSeal_40 : decode M_Crd_giveSeal.2.1 40 = .ok (.if_icmp .ne 25, 3) := by decide +kernel
theorem d_Crd_giveSeal_43 : decode M_Crd_giveSeal.2.1 43 = .ok (.aload_n 0, 1) := by decide +kernel
theorem d_Crd_giveSeal_44 : decode M_Crd_giveSeal.2.1 44 = .ok (.aload_n 0, 1) := by decide +kernel
theorem d_Crd_giveSeal_45 : decode M_Crd_giveSeal.2.1 45 = .ok (.getfield 47, 3) := by decide +kernel
theorem d_Crd_giveSeal_48 : decode M_Crd_giveSeal.2.1 48 = .ok (.iconst 2, 1) := by decide +kernel
theorem d_Crd_giveSeal_49 : decode M_Crd_giveSeal.2.1 49 = .ok (.if_icmp .ne 12, 3) := by decide +kernel
theorem d_Crd_giveSeal_52 : decode M_Crd_giveSeal.2.1 52 = .ok (.aload_n 0, 1) := by decide +kernel
theorem d_Crd_giveSeal_53 : decode M_Crd_giveSeal.2.1 53 = .ok (.getfield 44, 3) := by decide +kernel
theorem d_Crd_giveSeal_56 : decode M_Crd_giveSeal.2.1 56 = .ok (.iconst 1, 1) := by decide +kernel
theorem d_Crd_giveSeal_57 : decode M_Crd_giveSeal.2.1 57 = .ok (.iadd, 1) := by decide +kernel
theorem d_Crd_giveSeal_58 : decode M_Crd_giveSeal.2.1 58 = .ok (.goto 4, 3) := by decide +kernel
theorem d_Crd_giveSeal_61 : decode M_Crd_giveSeal.2.1 61 = .ok (.iconst 0, 1) := by decide +kernel
theorem d_Crd_giveSeal_62 : decode M_Crd_giveSeal.2.1 62 = .ok (.putfield 44, 3) := by decide +kernel
theorem d_Crd_giveSeal_65 : decode M_Crd_giveSeal.2.1 65 = .ok (.aload_n 0, 1) := by decide +kernel
theorem d_Crd_giveSeal_66 : decode M_Crd_giveSeal.2.1 66 = .ok (.iload 7, 2) := by decide +kernel
theorem d_Crd_giveSeal_68 : decode M_Crd_giveSeal.2.1 68 = .ok (.sipush 128, 3) := by decide +kernel
theorem d_Crd_giveSeal_71 : decode M_Crd_giveSeal.2.1 71 = .ok (.if_icmp .ne 7, 3) := by decide +kernel
theorem d_Crd_giveSeal_74 : decode M_Crd_giveSeal.2.1 74 = .ok (.iconst 3, 1) := by decide +kernel
theorem d_Crd_giveSeal_75 : decode M_Crd_giveSeal.2.1 75 = .ok (.goto 4, 3) := by decide +kernel
theorem d_Crd_giveSeal_78 : decode M_Crd_giveSeal.2.1 78 = .ok (.iconst 4, 1) := by decide +kernel
theorem d_Crd_giveSeal_79 : decode M_Crd_giveSeal.2.1 79 = .ok (.putfield 47, 3) := by decide +kernel
theorem d_Crd_giveSeal_82 : decode M_Crd_giveSeal.2.1 82 = .ok (.aload_n 0, 1) := by decide +kernel
theorem d_Crd_giveSeal_83 : decode M_Crd_giveSeal.2.1 83 = .ok (.getfield 30, 3) := by decide +kernel
theorem d_Crd_giveSeal_86 : decode M_Crd_giveSeal.2.1 86 = .ok (.aload_n 0, 1) := by decide +kernel
theorem d_Crd_giveSeal_87 : decode M_Crd_giveSeal.2.1 87 = .ok (.getfield 30, 3) := by decide +kernel
theorem d_Crd_giveSeal_90 : decode M_Crd_giveSeal.2.1 90 = .ok (.lload_n 3, 1) := by decide +kernel
theorem d_Crd_giveSeal_91 : decode M_Crd_giveSeal.2.1 91 = .ok (.lload 5, 2) := by decide +kernel
theorem d_Crd_giveSeal_93 : decode M_Crd_giveSeal.2.1 93 = .ok (.aload_n 0, 1) := by decide +kernel
theorem d_Crd_giveSeal_94 : decode M_Crd_giveSeal.2.1 94 = .ok (.getfield 38, 3) := by decide +kernel
theorem d_Crd_giveSeal_97 : decode M_Crd_giveSeal.2.1 97 = .ok (.i2l, 1) := by decide +kernel
theorem d_Crd_giveSeal_98 : decode M_Crd_giveSeal.2.1 98 = .ok (.iload 7, 2) := by decide +kernel
theorem d_Crd_giveSeal_100 : decode M_Crd_giveSeal.2.1 100 = .ok (.aload_n 0, 1) := by decide +kernel
theorem d_Crd_giveSeal_101 : decode M_Crd_giveSeal.2.1 101 = .ok (.getfield 54, 3) := by decide +kernel
theorem d_Crd_giveSeal_104 : decode M_Crd_giveSeal.2.1 104 = .ok (.invokevirtual 174, 3) := by decide +kernel
theorem d_Crd_giveSeal_107 : decode M_Crd_giveSeal.2.1 107 = .ok (.invokevirtual 178, 3) := by decide +kernel
theorem d_Crd_giveSeal_110 : decode M_Crd_giveSeal.2.1 110 = .ok (.aload_n 2, 1) := by decide +kernel
theorem d_Crd_giveSeal_111 : decode M_Crd_giveSeal.2.1 111 = .ok (.bipush 119, 2) := by decide +kernel
theorem d_Crd_giveSeal_113 : decode M_Crd_giveSeal.2.1 113 = .ok (.invokevirtual 129, 3) := by decide +kernel
theorem d_Crd_giveSeal_116 : decode M_Crd_giveSeal.2.1 116 = .ok (.istore 8, 2) := by decide +kernel
theorem d_Crd_giveSeal_118 : decode M_Crd_giveSeal.2.1 118 = .ok (.aload_n 2, 1) := by decide +kernel
theorem d_Crd_giveSeal_119 : decode M_Crd_giveSeal.2.1 119 = .ok (.ldc 181, 2) := by decide +kernel
theorem d_Crd_giveSeal_121 : decode M_Crd_giveSeal.2.1 121 = .ok (.iload 7, 2) := by decide +kernel
theorem d_Crd_giveSeal_123 : decode M_Crd_giveSeal.2.1 123 = .ok (.i2l, 1) := by decide +kernel
theorem d_Crd_giveSeal_124 : decode M_Crd_giveSeal.2.1 124 = .ok (.iconst 1, 1) := by decide +kernel
theorem d_Crd_giveSeal_125 : decode M_Crd_giveSeal.2.1 125 = .ok (.invokevirtual 141, 3) := by decide +kernel
theorem d_Crd_giveSeal_128 : decode M_Crd_giveSeal.2.1 128 = .ok (.aload_n 2, 1) := by decide +kernel
theorem d_Crd_giveSeal_129 : decode M_Crd_giveSeal.2.1 129 = .ok (.ldc 168, 2) := by decide +kernel
theorem d_Crd_giveSeal_131 : decode M_Crd_giveSeal.2.1 131 = .ok (.aload_n 0, 1) := by decide +kernel
theorem d_Crd_giveSeal_132 : decode M_Crd_giveSeal.2.1 132 = .ok (.getfield 38, 3) := by decide +kernel
theorem d_Crd_giveSeal_135 : decode M_Crd_giveSeal.2.1 135 = .ok (.i2l, 1) := by decide +kernel
theorem d_Crd_giveSeal_136 : decode M_Crd_giveSeal.2.1 136 = .ok (.iconst 2, 1) := by decide +kernel
theorem d_Crd_giveSeal_137 : decode M_Crd_giveSeal.2.1 137 = .ok (.invokevirtual 141, 3) := by decide +kernel
theorem d_Crd_giveSeal_140 : decode M_Crd_giveSeal.2.1 140 = .ok (.aload_n 2, 1) := by decide +kernel
theorem d_Crd_giveSeal_141 : decode M_Crd_giveSeal.2.1 141 = .ok (.ldc 182, 2) := by decide +kernel
theorem d_Crd_giveSeal_143 : decode M_Crd_giveSeal.2.1 143 = .ok (.invokevirtual 129, 3) := by decide +kernel
theorem d_Crd_giveSeal_146 : decode M_Crd_giveSeal.2.1 146 = .ok (.istore 9, 2) := by decide +kernel
theorem d_Crd_giveSeal_148 : decode M_Crd_giveSeal.2.1 148 = .ok (.iconst 0, 1) := by decide +kernel
theorem d_Crd_giveSeal_149 : decode M_Crd_giveSeal.2.1 149 = .ok (.istore 10, 2) := by decide +kernel
theorem d_Crd_giveSeal_151 : decode M_Crd_giveSeal.2.1 151 = .ok (.iload 10, 2) := by decide +kernel
theorem d_Crd_giveSeal_153 : decode M_Crd_giveSeal.2.1 153 = .ok (.bipush 8, 2) := by decide +kernel
theorem d_Crd_giveSeal_155 : decode M_Crd_giveSeal.2.1 155 = .ok (.if_icmp .ge 23, 3) := by decide +kernel
theorem d_Crd_giveSeal_158 : decode M_Crd_giveSeal.2.1 158 = .ok (.aload_n 2, 1) := by decide +kernel
theorem d_Crd_giveSeal_159 : decode M_Crd_giveSeal.2.1 159 = .ok (.aload_n 0, 1) := by decide +kernel
theorem d_Crd_giveSeal_160 : decode M_Crd_giveSeal.2.1 160 = .ok (.getfield 30, 3) := by decide +kernel
theorem d_Crd_giveSeal_163 : decode M_Crd_giveSeal.2.1 163 = .ok (.iload 10, 2) := by decide +kernel
theorem d_Crd_giveSeal_165 : decode M_Crd_giveSeal.2.1 165 = .ok (.invokevirtual 183, 3) := by decide +kernel
theorem d_Crd_giveSeal_168 : decode M_Crd_giveSeal.2.1 168 = .ok (.invokevirtual 155, 3) := by decide +kernel
theorem d_Crd_giveSeal_171 : decode M_Crd_giveSeal.2.1 171 = .ok (.pop, 1) := by decide +kernel
theorem d_Crd_giveSeal_172 : decode M_Crd_giveSeal.2.1 172 = .ok (.iinc 10 1, 3) := by decide +kernel
theorem d_Crd_giveSeal_175 : decode M_Crd_giveSeal.2.1 175 = .ok (.goto (-24), 3) := by decide +kernel
theorem d_Crd_giveSeal_178 : decode M_Crd_giveSeal.2.1 178 = .ok (.aload_n 2, 1) := by decide +kernel
theorem d_Crd_giveSeal_179 : decode M_Crd_giveSeal.2.1 179 = .ok (.iload 9, 2) := by decide +kernel
theorem d_Crd_giveSeal_181 : decode M_Crd_giveSeal.2.1 181 = .ok (.invokevirtual 136, 3) := by decide +kernel
theorem d_Crd_giveSeal_184 : decode M_Crd_giveSeal.2.1 184 = .ok (.aload_n 2, 1) := by decide +kernel
theorem d_Crd_giveSeal_185 : decode M_Crd_giveSeal.2.1 185 = .ok (.iload 8, 2) := by decide +kernel
theorem d_Crd_giveSeal_187 : decode M_Crd_giveSeal.2.1 187 = .ok (.invokevirtual 136, 3) := by decide +kernel
theorem d_Crd_giveSeal_190 : decode M_Crd_giveSeal.2.1 190 = .ok (.ldc 71, 2) := by decide +kernel
theorem d_Crd_giveSeal_192 : decode M_Crd_giveSeal.2.1 192 = .ok (.ireturn, 1) := by decide +kernel
theorem d_Crd_decide_0 : decode M_Crd_decide.2.1 0 = .ok (.lload_n 2, 1) := by decide +kernel
theorem d_Crd_decide_1 : decode M_Crd_decide.2.1 1 = .ok (.aload_n 0, 1) := by decide +kernel
theorem d_Crd_decide_2 : decode M_Crd_decide.2.1 2 = .ok (.getfield 50, 3) := by decide +kernel
theorem d_Crd_decide_5 : decode M_Crd_decide.2.1 5 = .ok (.lcmp, 1) := by decide +kernel
theorem d_Crd_decide_6 : decode M_Crd_decide.2.1 6 = .ok (.ifCond .ne 7, 3) := by decide +kernel
theorem d_Crd_decide_9 : decode M_Crd_decide.2.1 9 = .ok (.iload_n 1, 1) := by decide +kernel
theorem d_Crd_decide_10 : decode M_Crd_decide.2.1 10 = .ok (.ifCond .ne 5, 3) := by decide +kernel
theorem d_Crd_decide_13 : decode M_Crd_decide.2.1 13 = .ok (.iconst 0, 1) := by decide +kernel
theorem d_Crd_decide_14 : decode M_Crd_decide.2.1 14 = .ok (.ireturn, 1) := by decide +kernel
theorem d_Crd_decide_15 : decode M_Crd_decide.2.1 15 = .ok (.aload_n 0, 1) := by decide +kernel
theorem d_Crd_decide_16 : decode M_Crd_decide.2.1 16 = .ok (.getfield 47, 3) := by decide +kernel
theorem d_Crd_decide_19 : decode M_Crd_decide.2.1 19 = .ok (.iconst 2, 1) := by decide +kernel
theorem d_Crd_decide_20 : decode M_Crd_decide.2.1 20 = .ok (.if_icmp .ne 34, 3) := by decide +kernel
theorem d_Crd_decide_23 : decode M_Crd_decide.2.1 23 = .ok (.iload_n 1, 1) := by decide +kernel
theorem d_Crd_decide_24 : decode M_Crd_decide.2.1 24 = .ok (.sipush 128, 3) := by decide +kernel
theorem d_Crd_decide_27 : decode M_Crd_decide.2.1 27 = .ok (.if_icmp .eq 18, 3) := by decide +kernel
theorem d_Crd_decide_30 : decode M_Crd_decide.2.1 30 = .ok (.aload_n 0, 1) := by decide +kernel
theorem d_Crd_decide_31 : decode M_Crd_decide.2.1 31 = .ok (.getfield 54, 3) := by decide +kernel
theorem d_Crd_decide_34 : decode M_Crd_decide.2.1 34 = .ok (.ifCond .eq 11, 3) := by decide +kernel
theorem d_Crd_decide_37 : decode M_Crd_decide.2.1 37 = .ok (.aload_n 0, 1) := by decide +kernel
theorem d_Crd_decide_38 : decode M_Crd_decide.2.1 38 = .ok (.getfield 44, 3) := by decide +kernel
theorem d_Crd_decide_41 : decode M_Crd_decide.2.1 41 = .ok (.iconst 2, 1) := by decide +kernel
theorem d_Crd_decide_42 : decode M_Crd_decide.2.1 42 = .ok (.if_icmp .lt 9, 3) := by decide +kernel
theorem d_Crd_decide_45 : decode M_Crd_decide.2.1 45 = .ok (.sipush 128, 3) := by decide +kernel
theorem d_Crd_decide_48 : decode M_Crd_decide.2.1 48 = .ok (.goto 5, 3) := by decide +kernel
theorem d_Crd_decide_51 : decode M_Crd_decide.2.1 51 = .ok (.bipush 64, 2) := by decide +kernel
theorem d_Crd_decide_53 : decode M_Crd_decide.2.1 53 = .ok (.ireturn, 1) := by decide +kernel
theorem d_Crd_decide_54 : decode M_Crd_decide.2.1 54 = .ok (.iload_n 1, 1) := by decide +kernel
theorem d_Crd_decide_55 : decode M_Crd_decide.2.1 55 = .ok (.bipush 64, 2) := by decide +kernel
theorem d_Crd_decide_57 : decode M_Crd_decide.2.1 57 = .ok (.if_icmp .ne 17, 3) := by decide +kernel
theorem d_Crd_decide_60 : decode M_Crd_decide.2.1 60 = .ok (.lload 4, 2) := by decide +kernel
theorem d_Crd_decide_62 : decode M_Crd_decide.2.1 62 = .ok (.ldc2_w 186, 3) := by decide +kernel
theorem d_Crd_decide_65 : decode M_Crd_decide.2.1 65 = .ok (.lcmp, 1) := by decide +kernel
theorem d_Crd_decide_66 : decode M_Crd_decide.2.1 66 = .ok (.ifCond .ne 8, 3) := by decide +kernel
theorem d_Crd_decide_69 : decode M_Crd_decide.2.1 69 = .ok (.bipush 64, 2) := by decide +kernel
theorem d_Crd_decide_71 : decode M_Crd_decide.2.1 71 = .ok (.goto 4, 3) := by decide +kernel
theorem d_Crd_decide_74 : decode M_Crd_decide.2.1 74 = .ok (.iconst 0, 1) := by decide +kernel
theorem d_Crd_decide_75 : decode M_Crd_decide.2.1 75 = .ok (.ireturn, 1) := by decide +kernel

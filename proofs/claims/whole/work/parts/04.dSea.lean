theorem d_Sea_init_0 : decode M_Sea_init.2.1 0 = .ok (.aload_n 0, 1) := by decide +kernel
theorem d_Sea_init_1 : decode M_Sea_init.2.1 1 = .ok (.invokespecial 3, 3) := by decide +kernel
theorem d_Sea_init_4 : decode M_Sea_init.2.1 4 = .ok (.aload_n 0, 1) := by decide +kernel
theorem d_Sea_init_5 : decode M_Sea_init.2.1 5 = .ok (.sipush 176, 3) := by decide +kernel
theorem d_Sea_init_8 : decode M_Sea_init.2.1 8 = .ok (.newarray .int, 2) := by decide +kernel
theorem d_Sea_init_10 : decode M_Sea_init.2.1 10 = .ok (.putfield 11, 3) := by decide +kernel
theorem d_Sea_init_13 : decode M_Sea_init.2.1 13 = .ok (.aload_n 0, 1) := by decide +kernel
theorem d_Sea_init_14 : decode M_Sea_init.2.1 14 = .ok (.bipush 16, 2) := by decide +kernel
theorem d_Sea_init_16 : decode M_Sea_init.2.1 16 = .ok (.newarray .int, 2) := by decide +kernel
theorem d_Sea_init_18 : decode M_Sea_init.2.1 18 = .ok (.putfield 15, 3) := by decide +kernel
theorem d_Sea_init_21 : decode M_Sea_init.2.1 21 = .ok (.aload_n 0, 1) := by decide +kernel
theorem d_Sea_init_22 : decode M_Sea_init.2.1 22 = .ok (.bipush 16, 2) := by decide +kernel
theorem d_Sea_init_24 : decode M_Sea_init.2.1 24 = .ok (.newarray .int, 2) := by decide +kernel
theorem d_Sea_init_26 : decode M_Sea_init.2.1 26 = .ok (.putfield 18, 3) := by decide +kernel
theorem d_Sea_init_29 : decode M_Sea_init.2.1 29 = .ok (.aload_n 0, 1) := by decide +kernel
theorem d_Sea_init_30 : decode M_Sea_init.2.1 30 = .ok (.bipush 16, 2) := by decide +kernel
theorem d_Sea_init_32 : decode M_Sea_init.2.1 32 = .ok (.newarray .int, 2) := by decide +kernel
theorem d_Sea_init_34 : decode M_Sea_init.2.1 34 = .ok (.putfield 21, 3) := by decide +kernel
theorem d_Sea_init_37 : decode M_Sea_init.2.1 37 = .ok (.aload_n 0, 1) := by decide +kernel
theorem d_Sea_init_38 : decode M_Sea_init.2.1 38 = .ok (.bipush 16, 2) := by decide +kernel
theorem d_Sea_init_40 : decode M_Sea_init.2.1 40 = .ok (.newarray .int, 2) := by decide +kernel
theorem d_Sea_init_42 : decode M_Sea_init.2.1 42 = .ok (.putfield 24, 3) := by decide +kernel
theorem d_Sea_init_45 : decode M_Sea_init.2.1 45 = .ok (.aload_n 0, 1) := by decide +kernel
theorem d_Sea_init_46 : decode M_Sea_init.2.1 46 = .ok (.new 27, 3) := by decide +kernel
theorem d_Sea_init_49 : decode M_Sea_init.2.1 49 = .ok (.dup, 1) := by decide +kernel
theorem d_Sea_init_50 : decode M_Sea_init.2.1 50 = .ok (.bipush 16, 2) := by decide +kernel
theorem d_Sea_init_52 : decode M_Sea_init.2.1 52 = .ok (.invokespecial 29, 3) := by decide +kernel
theorem d_Sea_init_55 : decode M_Sea_init.2.1 55 = .ok (.putfield 32, 3) := by decide +kernel
theorem d_Sea_init_58 : decode M_Sea_init.2.1 58 = .ok (.aload_n 0, 1) := by decide +kernel
theorem d_Sea_init_59 : decode M_Sea_init.2.1 59 = .ok (.lconst 0, 1) := by decide +kernel
theorem d_Sea_init_60 : decode M_Sea_init.2.1 60 = .ok (.lconst 0, 1) := by decide +kernel
theorem d_Sea_init_61 : decode M_Sea_init.2.1 61 = .ok (.invokevirtual 36, 3) := by decide +kernel
theorem d_Sea_init_64 : decode M_Sea_init.2.1 64 = .ok (.return_, 1) := by decide +kernel
theorem d_Sea_takeKey_0 : decode M_Sea_takeKey.2.1 0 = .ok (.iconst 0, 1) := by decide +kernel
theorem d_Sea_takeKey_1 : decode M_Sea_takeKey.2.1 1 = .ok (.istore 5, 2) := by decide +kernel
theorem d_Sea_takeKey_3 : decode M_Sea_takeKey.2.1 3 = .ok (.iload 5, 2) := by decide +kernel
theorem d_Sea_takeKey_5 : decode M_Sea_takeKey.2.1 5 = .ok (.bipush 8, 2) := by decide +kernel
theorem d_Sea_takeKey_7 : decode M_Sea_takeKey.2.1 7 = .ok (.if_icmp .ge 56, 3) := by decide +kernel
theorem d_Sea_takeKey_10 : decode M_Sea_takeKey.2.1 10 = .ok (.aload_n 0, 1) := by decide +kernel
theorem d_Sea_takeKey_11 : decode M_Sea_takeKey.2.1 11 = .ok (.getfield 11, 3) := by decide +kernel
theorem d_Sea_takeKey_14 : decode M_Sea_takeKey.2.1 14 = .ok (.iload 5, 2) := by decide +kernel
theorem d_Sea_takeKey_16 : decode M_Sea_takeKey.2.1 16 = .ok (.lload_n 1, 1) := by decide +kernel
theorem d_Sea_takeKey_17 : decode M_Sea_takeKey.2.1 17 = .ok (.bipush 56, 2) := by decide +kernel
theorem d_Sea_takeKey_19 : decode M_Sea_takeKey.2.1 19 = .ok (.bipush 8, 2) := by decide +kernel
theorem d_Sea_takeKey_21 : decode M_Sea_takeKey.2.1 21 = .ok (.iload 5, 2) := by decide +kernel
theorem d_Sea_takeKey_23 : decode M_Sea_takeKey.2.1 23 = .ok (.imul, 1) := by decide +kernel
theorem d_Sea_takeKey_24 : decode M_Sea_takeKey.2.1 24 = .ok (.isub, 1) := by decide +kernel
theorem d_Sea_takeKey_25 : decode M_Sea_takeKey.2.1 25 = .ok (.lshr, 1) := by decide +kernel
theorem d_Sea_takeKey_26 : decode M_Sea_takeKey.2.1 26 = .ok (.l2i, 1) := by decide +kernel
theorem d_Sea_takeKey_27 : decode M_Sea_takeKey.2.1 27 = .ok (.sipush 255, 3) := by decide +kernel
theorem d_Sea_takeKey_30 : decode M_Sea_takeKey.2.1 30 = .ok (.iand, 1) := by decide +kernel
theorem d_Sea_takeKey_31 : decode M_Sea_takeKey.2.1 31 = .ok (.iastore, 1) := by decide +kernel
theorem d_Sea_takeKey_32 : decode M_Sea_takeKey.2.1 32 = .ok (.aload_n 0, 1) := by decide +kernel
theorem d_Sea_takeKey_33 : decode M_Sea_takeKey.2.1 33 = .ok (.getfield 11, 3) := by decide +kernel
theorem d_Sea_takeKey_36 : decode M_Sea_takeKey.2.1 36 = .ok (.bipush 8, 2) := by decide +kernel
theorem d_Sea_takeKey_38 : decode M_Sea_takeKey.2.1 38 = .ok (.iload 5, 2) := by decide +kernel
theorem d_Sea_takeKey_40 : decode M_Sea_takeKey.2.1 40 = .ok (.iadd, 1) := by decide +kernel
theorem d_Sea_takeKey_41 : decode M_Sea_takeKey.2.1 41 = .ok (.lload_n 3, 1) := by decide +kernel
theorem d_Sea_takeKey_42 : decode M_Sea_takeKey.2.1 42 = .ok (.bipush 56, 2) := by decide +kernel
theorem d_Sea_takeKey_44 : decode M_Sea_takeKey.2.1 44 = .ok (.bipush 8, 2) := by decide +kernel
theorem d_Sea_takeKey_46 : decode M_Sea_takeKey.2.1 46 = .ok (.iload 5, 2) := by decide +kernel
theorem d_Sea_takeKey_48 : decode M_Sea_takeKey.2.1 48 = .ok (.imul, 1) := by decide +kernel
theorem d_Sea_takeKey_49 : decode M_Sea_takeKey.2.1 49 = .ok (.isub, 1) := by decide +kernel
theorem d_Sea_takeKey_50 : decode M_Sea_takeKey.2.1 50 = .ok (.lshr, 1) := by decide +kernel
theorem d_Sea_takeKey_51 : decode M_Sea_takeKey.2.1 51 = .ok (.l2i, 1) := by decide +kernel
theorem d_Sea_takeKey_52 : decode M_Sea_takeKey.2.1 52 = .ok (.sipush 255, 3) := by decide +kernel
theorem d_Sea_takeKey_55 : decode M_Sea_takeKey.2.1 55 = .ok (.iand, 1) := by decide +kernel
theorem d_Sea_takeKey_56 : decode M_Sea_takeKey.2.1 56 = .ok (.iastore, 1) := by decide +kernel
theorem d_Sea_takeKey_57 : decode M_Sea_takeKey.2.1 57 = .ok (.iinc 5 1, 3) := by decide +kernel
theorem d_Sea_takeKey_60 : decode M_Sea_takeKey.2.1 60 = .ok (.goto (-57), 3) := by decide +kernel
theorem d_Sea_takeKey_63 : decode M_Sea_takeKey.2.1 63 = .ok (.aload_n 0, 1) := by decide +kernel
theorem d_Sea_takeKey_64 : decode M_Sea_takeKey.2.1 64 = .ok (.invokevirtual 40, 3) := by decide +kernel
theorem d_Sea_takeKey_67 : decode M_Sea_takeKey.2.1 67 = .ok (.aload_n 0, 1) := by decide +kernel
theorem d_Sea_takeKey_68 : decode M_Sea_takeKey.2.1 68 = .ok (.getfield 21, 3) := by decide +kernel
theorem d_Sea_takeKey_71 : decode M_Sea_takeKey.2.1 71 = .ok (.iconst 0, 1) := by decide +kernel
theorem d_Sea_takeKey_72 : decode M_Sea_takeKey.2.1 72 = .ok (.invokestatic 43, 3) := by decide +kernel
theorem d_Sea_takeKey_75 : decode M_Sea_takeKey.2.1 75 = .ok (.aload_n 0, 1) := by decide +kernel
theorem d_Sea_takeKey_76 : decode M_Sea_takeKey.2.1 76 = .ok (.invokevirtual 49, 3) := by decide +kernel
theorem d_Sea_takeKey_79 : decode M_Sea_takeKey.2.1 79 = .ok (.aload_n 0, 1) := by decide +kernel
theorem d_Sea_takeKey_80 : decode M_Sea_takeKey.2.1 80 = .ok (.getfield 21, 3) := by decide +kernel
theorem d_Sea_takeKey_83 : decode M_Sea_takeKey.2.1 83 = .ok (.aload_n 0, 1) := by decide +kernel
theorem d_Sea_takeKey_84 : decode M_Sea_takeKey.2.1 84 = .ok (.getfield 15, 3) := by decide +kernel
theorem d_Sea_takeKey_87 : decode M_Sea_takeKey.2.1 87 = .ok (.invokestatic 52, 3) := by decide +kernel
theorem d_Sea_takeKey_90 : decode M_Sea_takeKey.2.1 90 = .ok (.aload_n 0, 1) := by decide +kernel
theorem d_Sea_takeKey_91 : decode M_Sea_takeKey.2.1 91 = .ok (.getfield 15, 3) := by decide +kernel
theorem d_Sea_takeKey_94 : decode M_Sea_takeKey.2.1 94 = .ok (.aload_n 0, 1) := by decide +kernel
theorem d_Sea_takeKey_95 : decode M_Sea_takeKey.2.1 95 = .ok (.getfield 18, 3) := by decide +kernel
theorem d_Sea_takeKey_98 : decode M_Sea_takeKey.2.1 98 = .ok (.invokestatic 52, 3) := by decide +kernel
theorem d_Sea_takeKey_101 : decode M_Sea_takeKey.2.1 101 = .ok (.return_, 1) := by decide +kernel
theorem d_Sea_growRoundKeys_0 : decode M_Sea_growRoundKeys.2.1 0 = .ok (.iconst 1, 1) := by decide +kernel
theorem d_Sea_growRoundKeys_1 : decode M_Sea_growRoundKeys.2.1 1 = .ok (.istore_n 1, 1) := by decide +kernel
theorem d_Sea_growRoundKeys_2 : decode M_Sea_growRoundKeys.2.1 2 = .ok (.bipush 16, 2) := by decide +kernel
theorem d_Sea_growRoundKeys_4 : decode M_Sea_growRoundKeys.2.1 4 = .ok (.istore_n 2, 1) := by decide +kernel
theorem d_Sea_growRoundKeys_5 : decode M_Sea_growRoundKeys.2.1 5 = .ok (.iload_n 2, 1) := by decide +kernel
theorem d_Sea_growRoundKeys_6 : decode M_Sea_growRoundKeys.2.1 6 = .ok (.aload_n 0, 1) := by decide +kernel
theorem d_Sea_growRoundKeys_7 : decode M_Sea_growRoundKeys.2.1 7 = .ok (.getfield 11, 3) := by decide +kernel
theorem d_Sea_growRoundKeys_10 : decode M_Sea_growRoundKeys.2.1 10 = .ok (.arraylength, 1) := by decide +kernel
theorem d_Sea_growRoundKeys_11 : decode M_Sea_growRoundKeys.2.1 11 = .ok (.if_icmp .ge 127, 3) := by decide +kernel
theorem d_Sea_growRoundKeys_14 : decode M_Sea_growRoundKeys.2.1 14 = .ok (.iconst 0, 1) := by decide +kernel
theorem d_Sea_growRoundKeys_15 : decode M_Sea_growRoundKeys.2.1 15 = .ok (.istore_n 3, 1) := by decide +kernel
theorem d_Sea_growRoundKeys_16 : decode M_Sea_growRoundKeys.2.1 16 = .ok (.iload_n 3, 1) := by decide +kernel
theorem d_Sea_growRoundKeys_17 : decode M_Sea_growRoundKeys.2.1 17 = .ok (.iconst 4, 1) := by decide +kernel
theorem d_Sea_growRoundKeys_18 : decode M_Sea_growRoundKeys.2.1 18 = .ok (.if_icmp .ge 55, 3) := by decide +kernel
theorem d_Sea_growRoundKeys_21 : decode M_Sea_growRoundKeys.2.1 21 = .ok (.aload_n 0, 1) := by decide +kernel
theorem d_Sea_growRoundKeys_22 : decode M_Sea_growRoundKeys.2.1 22 = .ok (.getfield 11, 3) := by decide +kernel
theorem d_Sea_growRoundKeys_25 : decode M_Sea_growRoundKeys.2.1 25 = .ok (.iload_n 2, 1) := by decide +kernel
theorem d_Sea_growRoundKeys_26 : decode M_Sea_growRoundKeys.2.1 26 = .ok (.iconst 4, 1) := by decide +kernel
theorem d_Sea_growRoundKeys_27 : decode M_Sea_growRoundKeys.2.1 27 = .ok (.isub, 1) := by decide +kernel
theorem d_Sea_growRoundKeys_28 : decode M_Sea_growRoundKeys.2.1 28 = .ok (.iload_n 3, 1) := by decide +kernel
theorem d_Sea_growRoundKeys_29 : decode M_Sea_growRoundKeys.2.1 29 = .ok (.iconst 1, 1) := by decide +kernel
theorem d_Sea_growRoundKeys_30 : decode M_Sea_growRoundKeys.2.1 30 = .ok (.iadd, 1) := by decide +kernel
theorem d_Sea_growRoundKeys_31 : decode M_Sea_growRoundKeys.2.1 31 = .ok (.iconst 4, 1) := by decide +kernel
theorem d_Sea_growRoundKeys_32 : decode M_Sea_growRoundKeys.2.1 32 = .ok (.irem, 1) := by decide +kernel
theorem d_Sea_growRoundKeys_33 : decode M_Sea_growRoundKeys.2.1 33 = .ok (.iadd, 1) := by decide +kernel
theorem d_Sea_growRoundKeys_34 : decode M_Sea_growRoundKeys.2.1 34 = .ok (.iaload, 1) := by decide +kernel
theorem d_Sea_growRoundKeys_35 : decode M_Sea_growRoundKeys.2.1 35 = .ok (.istore 4, 2) := by decide +kernel
theorem d_Sea_growRoundKeys_37 : decode M_Sea_growRoundKeys.2.1 37 = .ok (.aload_n 0, 1) := by decide +kernel
theorem d_Sea_growRoundKeys_38 : decode M_Sea_growRoundKeys.2.1 38 = .ok (.getfield 11, 3) := by decide +kernel
theorem d_Sea_growRoundKeys_41 : decode M_Sea_growRoundKeys.2.1 41 = .ok (.iload_n 2, 1) := by decide +kernel
theorem d_Sea_growRoundKeys_42 : decode M_Sea_growRoundKeys.2.1 42 = .ok (.iload_n 3, 1) := by decide +kernel
theorem d_Sea_growRoundKeys_43 : decode M_Sea_growRoundKeys.2.1 43 = .ok (.iadd, 1) := by decide +kernel
theorem d_Sea_growRoundKeys_44 : decode M_Sea_growRoundKeys.2.1 44 = .ok (.aload_n 0, 1) := by decide +kernel
theorem d_Sea_growRoundKeys_45 : decode M_Sea_growRoundKeys.2.1 45 = .ok (.getfield 11, 3) := by decide +kernel
theorem d_Sea_growRoundKeys_48 : decode M_Sea_growRoundKeys.2.1 48 = .ok (.iload_n 2, 1) := by decide +kernel
theorem d_Sea_growRoundKeys_49 : decode M_Sea_growRoundKeys.2.1 49 = .ok (.iload_n 3, 1) := by decide +kernel
theorem d_Sea_growRoundKeys_50 : decode M_Sea_growRoundKeys.2.1 50 = .ok (.iadd, 1) := by decide +kernel
theorem d_Sea_growRoundKeys_51 : decode M_Sea_growRoundKeys.2.1 51 = .ok (.bipush 16, 2) := by decide +kernel
theorem d_Sea_growRoundKeys_53 : decode M_Sea_growRoundKeys.2.1 53 = .ok (.isub, 1) := by decide +kernel
theorem d_Sea_growRoundKeys_54 : decode M_Sea_growRoundKeys.2.1 54 = .ok (.iaload, 1) := by decide +kernel
theorem d_Sea_growRoundKeys_55 : decode M_Sea_growRoundKeys.2.1 55 = .ok (.getstatic 75, 3) := by decide +kernel
theorem d_Sea_growRoundKeys_58 : decode M_Sea_growRoundKeys.2.1 58 = .ok (.iload 4, 2) := by decide +kernel
theorem d_Sea_growRoundKeys_60 : decode M_Sea_growRoundKeys.2.1 60 = .ok (.sipush 255, 3) := by decide +kernel
theorem d_Sea_growRoundKeys_63 : decode M_Sea_growRoundKeys.2.1 63 = .ok (.iand, 1) := by decide +kernel
theorem d_Sea_growRoundKeys_64 : decode M_Sea_growRoundKeys.2.1 64 = .ok (.iaload, 1) := by decide +kernel
theorem d_Sea_growRoundKeys_65 : decode M_Sea_growRoundKeys.2.1 65 = .ok (.ixor, 1) := by decide +kernel
theorem d_Sea_growRoundKeys_66 : decode M_Sea_growRoundKeys.2.1 66 = .ok (.iastore, 1) := by decide +kernel
theorem d_Sea_growRoundKeys_67 : decode M_Sea_growRoundKeys.2.1 67 = .ok (.iinc 3 1, 3) := by decide +kernel
theorem d_Sea_growRoundKeys_70 : decode M_Sea_growRoundKeys.2.1 70 = .ok (.goto (-54), 3) := by decide +kernel
theorem d_Sea_growRoundKeys_73 : decode M_Sea_growRoundKeys.2.1 73 = .ok (.aload_n 0, 1) := by decide +kernel
theorem d_Sea_growRoundKeys_74 : decode M_Sea_growRoundKeys.2.1 74 = .ok (.getfield 11, 3) := by decide +kernel
theorem d_Sea_growRoundKeys_77 : decode M_Sea_growRoundKeys.2.1 77 = .ok (.iload_n 2, 1) := by decide +kernel
theorem d_Sea_growRoundKeys_78 : decode M_Sea_growRoundKeys.2.1 78 = .ok (.dup2, 1) := by decide +kernel
theorem d_Sea_growRoundKeys_79 : decode M_Sea_growRoundKeys.2.1 79 = .ok (.iaload, 1) := by decide +kernel
theorem d_Sea_growRoundKeys_80 : decode M_Sea_growRoundKeys.2.1 80 = .ok (.iload_n 1, 1) := by decide +kernel
theorem d_Sea_growRoundKeys_81 : decode M_Sea_growRoundKeys.2.1 81 = .ok (.ixor, 1) := by decide +kernel
theorem d_Sea_growRoundKeys_82 : decode M_Sea_growRoundKeys.2.1 82 = .ok (.iastore, 1) := by decide +kernel
theorem d_Sea_growRoundKeys_83 : decode M_Sea_growRoundKeys.2.1 83 = .ok (.iload_n 1, 1) := by decide +kernel
theorem d_Sea_growRoundKeys_84 : decode M_Sea_growRoundKeys.2.1 84 = .ok (.invokestatic 78, 3) := by decide +kernel
theorem d_Sea_growRoundKeys_87 : decode M_Sea_growRoundKeys.2.1 87 = .ok (.istore_n 1, 1) := by decide +kernel
theorem d_Sea_growRoundKeys_88 : decode M_Sea_growRoundKeys.2.1 88 = .ok (.iconst 4, 1) := by decide +kernel
theorem d_Sea_growRoundKeys_89 : decode M_Sea_growRoundKeys.2.1 89 = .ok (.istore_n 3, 1) := by decide +kernel
theorem d_Sea_growRoundKeys_90 : decode M_Sea_growRoundKeys.2.1 90 = .ok (.iload_n 3, 1) := by decide +kernel
theorem d_Sea_growRoundKeys_91 : decode M_Sea_growRoundKeys.2.1 91 = .ok (.bipush 16, 2) := by decide +kernel
theorem d_Sea_growRoundKeys_93 : decode M_Sea_growRoundKeys.2.1 93 = .ok (.if_icmp .ge 39, 3) := by decide +kernel
theorem d_Sea_growRoundKeys_96 : decode M_Sea_growRoundKeys.2.1 96 = .ok (.aload_n 0, 1) := by decide +kernel
theorem d_Sea_growRoundKeys_97 : decode M_Sea_growRoundKeys.2.1 97 = .ok (.getfield 11, 3) := by decide +kernel
theorem d_Sea_growRoundKeys_100 : decode M_Sea_growRoundKeys.2.1 100 = .ok (.iload_n 2, 1) := by decide +kernel
theorem d_Sea_growRoundKeys_101 : decode M_Sea_growRoundKeys.2.1 101 = .ok (.iload_n 3, 1) := by decide +kernel
theorem d_Sea_growRoundKeys_102 : decode M_Sea_growRoundKeys.2.1 102 = .ok (.iadd, 1) := by decide +kernel
theorem d_Sea_growRoundKeys_103 : decode M_Sea_growRoundKeys.2.1 103 = .ok (.aload_n 0, 1) := by decide +kernel
theorem d_Sea_growRoundKeys_104 : decode M_Sea_growRoundKeys.2.1 104 = .ok (.getfield 11, 3) := by decide +kernel
theorem d_Sea_growRoundKeys_107 : decode M_Sea_growRoundKeys.2.1 107 = .ok (.iload_n 2, 1) := by decide +kernel
theorem d_Sea_growRoundKeys_108 : decode M_Sea_growRoundKeys.2.1 108 = .ok (.iload_n 3, 1) := by decide +kernel
theorem d_Sea_growRoundKeys_109 : decode M_Sea_growRoundKeys.2.1 109 = .ok (.iadd, 1) := by decide +kernel
theorem d_Sea_growRoundKeys_110 : decode M_Sea_growRoundKeys.2.1 110 = .ok (.bipush 16, 2) := by decide +kernel
theorem d_Sea_growRoundKeys_112 : decode M_Sea_growRoundKeys.2.1 112 = .ok (.isub, 1) := by decide +kernel
theorem d_Sea_growRoundKeys_113 : decode M_Sea_growRoundKeys.2.1 113 = .ok (.iaload, 1) := by decide +kernel
theorem d_Sea_growRoundKeys_114 : decode M_Sea_growRoundKeys.2.1 114 = .ok (.aload_n 0, 1) := by decide +kernel
theorem d_Sea_growRoundKeys_115 : decode M_Sea_growRoundKeys.2.1 115 = .ok (.getfield 11, 3) := by decide +kernel
theorem d_Sea_growRoundKeys_118 : decode M_Sea_growRoundKeys.2.1 118 = .ok (.iload_n 2, 1) := by decide +kernel
theorem d_Sea_growRoundKeys_119 : decode M_Sea_growRoundKeys.2.1 119 = .ok (.iload_n 3, 1) := by decide +kernel
theorem d_Sea_growRoundKeys_120 : decode M_Sea_growRoundKeys.2.1 120 = .ok (.iadd, 1) := by decide +kernel
theorem d_Sea_growRoundKeys_121 : decode M_Sea_growRoundKeys.2.1 121 = .ok (.iconst 4, 1) := by decide +kernel
theorem d_Sea_growRoundKeys_122 : decode M_Sea_growRoundKeys.2.1 122 = .ok (.isub, 1) := by decide +kernel
theorem d_Sea_growRoundKeys_123 : decode M_Sea_growRoundKeys.2.1 123 = .ok (.iaload, 1) := by decide +kernel
theorem d_Sea_growRoundKeys_124 : decode M_Sea_growRoundKeys.2.1 124 = .ok (.ixor, 1) := by decide +kernel
theorem d_Sea_growRoundKeys_125 : decode M_Sea_growRoundKeys.2.1 125 = .ok (.iastore, 1) := by decide +kernel
theorem d_Sea_growRoundKeys_126 : decode M_Sea_growRoundKeys.2.1 126 = .ok (.iinc 3 1, 3) := by decide +kernel
theorem d_Sea_growRoundKeys_129 : decode M_Sea_growRoundKeys.2.1 129 = .ok (.goto (-39), 3) := by decide +kernel
theorem d_Sea_growRoundKeys_132 : decode M_Sea_growRoundKeys.2.1 132 = .ok (.iinc 2 16, 3) := by decide +kernel
theorem d_Sea_growRoundKeys_135 : decode M_Sea_growRoundKeys.2.1 135 = .ok (.goto (-130), 3) := by decide +kernel
theorem d_Sea_growRoundKeys_138 : decode M_Sea_growRoundKeys.2.1 138 = .ok (.return_, 1) := by decide +kernel
theorem d_Sea_twice_0 : decode M_Sea_twice.2.1 0 = .ok (.iload_n 0, 1) := by decide +kernel
theorem d_Sea_twice_1 : decode M_Sea_twice.2.1 1 = .ok (.iconst 1, 1) := by decide +kernel
theorem d_Sea_twice_2 : decode M_Sea_twice.2.1 2 = .ok (.ishl, 1) := by decide +kernel
theorem d_Sea_twice_3 : decode M_Sea_twice.2.1 3 = .ok (.iload_n 0, 1) := by decide +kernel
theorem d_Sea_twice_4 : decode M_Sea_twice.2.1 4 = .ok (.bipush 127, 2) := by decide +kernel
theorem d_Sea_twice_6 : decode M_Sea_twice.2.1 6 = .ok (.if_icmp .le 9, 3) := by decide +kernel
theorem d_Sea_twice_9 : decode M_Sea_twice.2.1 9 = .ok (.sipush 283, 3) := by decide +kernel
theorem d_Sea_twice_12 : decode M_Sea_twice.2.1 12 = .ok (.goto 4, 3) := by decide +kernel
theorem d_Sea_twice_15 : decode M_Sea_twice.2.1 15 = .ok (.iconst 0, 1) := by decide +kernel
theorem d_Sea_twice_16 : decode M_Sea_twice.2.1 16 = .ok (.ixor, 1) := by decide +kernel
theorem d_Sea_twice_17 : decode M_Sea_twice.2.1 17 = .ok (.ireturn, 1) := by decide +kernel
theorem d_Sea_encipher_0 : decode M_Sea_encipher.2.1 0 = .ok (.aload_n 0, 1) := by decide +kernel
theorem d_Sea_encipher_1 : decode M_Sea_encipher.2.1 1 = .ok (.iconst 0, 1) := by decide +kernel
theorem d_Sea_encipher_2 : decode M_Sea_encipher.2.1 2 = .ok (.invokevirtual 81, 3) := by decide +kernel
theorem d_Sea_encipher_5 : decode M_Sea_encipher.2.1 5 = .ok (.iconst 1, 1) := by decide +kernel
theorem d_Sea_encipher_6 : decode M_Sea_encipher.2.1 6 = .ok (.istore_n 1, 1) := by decide +kernel
theorem d_Sea_encipher_7 : decode M_Sea_encipher.2.1 7 = .ok (.iload_n 1, 1) := by decide +kernel
theorem d_Sea_encipher_8 : decode M_Sea_encipher.2.1 8 = .ok (.bipush 10, 2) := by decide +kernel
theorem d_Sea_encipher_10 : decode M_Sea_encipher.2.1 10 = .ok (.if_icmp .gt 28, 3) := by decide +kernel
theorem d_Sea_encipher_13 : decode M_Sea_encipher.2.1 13 = .ok (.aload_n 0, 1) := by decide +kernel
theorem d_Sea_encipher_14 : decode M_Sea_encipher.2.1 14 = .ok (.invokevirtual 84, 3) := by decide +kernel
theorem d_Sea_encipher_17 : decode M_Sea_encipher.2.1 17 = .ok (.iload_n 1, 1) := by decide +kernel
theorem d_Sea_encipher_18 : decode M_Sea_encipher.2.1 18 = .ok (.bipush 10, 2) := by decide +kernel
theorem d_Sea_encipher_20 : decode M_Sea_encipher.2.1 20 = .ok (.if_icmp .ge 7, 3) := by decide +kernel
theorem d_Sea_encipher_23 : decode M_Sea_encipher.2.1 23 = .ok (.aload_n 0, 1) := by decide +kernel
theorem d_Sea_encipher_24 : decode M_Sea_encipher.2.1 24 = .ok (.invokevirtual 87, 3) := by decide +kernel
theorem d_Sea_encipher_27 : decode M_Sea_encipher.2.1 27 = .ok (.aload_n 0, 1) := by decide +kernel
theorem d_Sea_encipher_28 : decode M_Sea_encipher.2.1 28 = .ok (.iload_n 1, 1) := by decide +kernel
theorem d_Sea_encipher_29 : decode M_Sea_encipher.2.1 29 = .ok (.invokevirtual 81, 3) := by decide +kernel
theorem d_Sea_encipher_32 : decode M_Sea_encipher.2.1 32 = .ok (.iinc 1 1, 3) := by decide +kernel
theorem d_Sea_encipher_35 : decode M_Sea_encipher.2.1 35 = .ok (.goto (-28), 3) := by decide +kernel
theorem d_Sea_encipher_38 : decode M_Sea_encipher.2.1 38 = .ok (.return_, 1) := by decide +kernel
theorem d_Sea_combineRoundKey_0 : decode M_Sea_combineRoundKey.2.1 0 = .ok (.iconst 0, 1) := by decide +kernel
theorem d_Sea_combineRoundKey_1 : decode M_Sea_combineRoundKey.2.1 1 = .ok (.istore_n 2, 1) := by decide +kernel
theorem d_Sea_combineRoundKey_2 : decode M_Sea_combineRoundKey.2.1 2 = .ok (.iload_n 2, 1) := by decide +kernel
theorem d_Sea_combineRoundKey_3 : decode M_Sea_combineRoundKey.2.1 3 = .ok (.bipush 16, 2) := by decide +kernel
theorem d_Sea_combineRoundKey_5 : decode M_Sea_combineRoundKey.2.1 5 = .ok (.if_icmp .ge 29, 3) := by decide +kernel
theorem d_Sea_combineRoundKey_8 : decode M_Sea_combineRoundKey.2.1 8 = .ok (.aload_n 0, 1) := by decide +kernel
theorem d_Sea_combineRoundKey_9 : decode M_Sea_combineRoundKey.2.1 9 = .ok (.getfield 21, 3) := by decide +kernel
theorem d_Sea_combineRoundKey_12 : decode M_Sea_combineRoundKey.2.1 12 = .ok (.iload_n 2, 1) := by decide +kernel
theorem d_Sea_combineRoundKey_13 : decode M_Sea_combineRoundKey.2.1 13 = .ok (.dup2, 1) := by decide +kernel
theorem d_Sea_combineRoundKey_14 : decode M_Sea_combineRoundKey.2.1 14 = .ok (.iaload, 1) := by decide +kernel
theorem d_Sea_combineRoundKey_15 : decode M_Sea_combineRoundKey.2.1 15 = .ok (.aload_n 0, 1) := by decide +kernel
theorem d_Sea_combineRoundKey_16 : decode M_Sea_combineRoundKey.2.1 16 = .ok (.getfield 11, 3) := by decide +kernel
theorem d_Sea_combineRoundKey_19 : decode M_Sea_combineRoundKey.2.1 19 = .ok (.iload_n 1, 1) := by decide +kernel
theorem d_Sea_combineRoundKey_20 : decode M_Sea_combineRoundKey.2.1 20 = .ok (.bipush 16, 2) := by decide +kernel
theorem d_Sea_combineRoundKey_22 : decode M_Sea_combineRoundKey.2.1 22 = .ok (.imul, 1) := by decide +kernel
theorem d_Sea_combineRoundKey_23 : decode M_Sea_combineRoundKey.2.1 23 = .ok (.iload_n 2, 1) := by decide +kernel
theorem d_Sea_combineRoundKey_24 : decode M_Sea_combineRoundKey.2.1 24 = .ok (.iadd, 1) := by decide +kernel
theorem d_Sea_combineRoundKey_25 : decode M_Sea_combineRoundKey.2.1 25 = .ok (.iaload, 1) := by decide +kernel
theorem d_Sea_combineRoundKey_26 : decode M_Sea_combineRoundKey.2.1 26 = .ok (.ixor, 1) := by decide +kernel
theorem d_Sea_combineRoundKey_27 : decode M_Sea_combineRoundKey.2.1 27 = .ok (.iastore, 1) := by decide +kernel
theorem d_Sea_combineRoundKey_28 : decode M_Sea_combineRoundKey.2.1 28 = .ok (.iinc 2 1, 3) := by decide +kernel
theorem d_Sea_combineRoundKey_31 : decode M_Sea_combineRoundKey.2.1 31 = .ok (.goto (-29), 3) := by decide +kernel
theorem d_Sea_combineRoundKey_34 : decode M_Sea_combineRoundKey.2.1 34 = .ok (.return_, 1) := by decide +kernel
theorem d_Sea_substituteAndTurn_0 : decode M_Sea_substituteAndTurn.2.1 0 = .ok (.iconst 0, 1) := by decide +kernel
theorem d_Sea_substituteAndTurn_1 : decode M_Sea_substituteAndTurn.2.1 1 = .ok (.istore_n 1, 1) := by decide +kernel
theorem d_Sea_substituteAndTurn_2 : decode M_Sea_substituteAndTurn.2.1 2 = .ok (.iload_n 1, 1) := by decide +kernel
theorem d_Sea_substituteAndTurn_3 : decode M_Sea_substituteAndTurn.2.1 3 = .ok (.iconst 4, 1) := by decide +kernel
theorem d_Sea_substituteAndTurn_4 : decode M_Sea_substituteAndTurn.2.1 4 = .ok (.if_icmp .ge 54, 3) := by decide +kernel
theorem d_Sea_substituteAndTurn_7 : decode M_Sea_substituteAndTurn.2.1 7 = .ok (.iconst 0, 1) := by decide +kernel
theorem d_Sea_substituteAndTurn_8 : decode M_Sea_substituteAndTurn.2.1 8 = .ok (.istore_n 2, 1) := by decide +kernel
theorem d_Sea_substituteAndTurn_9 : decode M_Sea_substituteAndTurn.2.1 9 = .ok (.iload_n 2, 1) := by decide +kernel
theorem d_Sea_substituteAndTurn_10 : decode M_Sea_substituteAndTurn.2.1 10 = .ok (.iconst 4, 1) := by decide +kernel
theorem d_Sea_substituteAndTurn_11 : decode M_Sea_substituteAndTurn.2.1 11 = .ok (.if_icmp .ge 41, 3) := by decide +kernel
theorem d_Sea_substituteAndTurn_14 : decode M_Sea_substituteAndTurn.2.1 14 = .ok (.aload_n 0, 1) := by decide +kernel
theorem d_Sea_substituteAndTurn_15 : decode M_Sea_substituteAndTurn.2.1 15 = .ok (.getfield 24, 3) := by decide +kernel
theorem d_Sea_substituteAndTurn_18 : decode M_Sea_substituteAndTurn.2.1 18 = .ok (.iload_n 2, 1) := by decide +kernel
theorem d_Sea_substituteAndTurn_19 : decode M_Sea_substituteAndTurn.2.1 19 = .ok (.iconst 4, 1) := by decide +kernel
theorem d_Sea_substituteAndTurn_20 : decode M_Sea_substituteAndTurn.2.1 20 = .ok (.iload_n 1, 1) := by decide +kernel
theorem d_Sea_substituteAndTurn_21 : decode M_Sea_substituteAndTurn.2.1 21 = .ok (.imul, 1) := by decide +kernel
theorem d_Sea_substituteAndTurn_22 : decode M_Sea_substituteAndTurn.2.1 22 = .ok (.iadd, 1) := by decide +kernel
theorem d_Sea_substituteAndTurn_23 : decode M_Sea_substituteAndTurn.2.1 23 = .ok (.getstatic 75, 3) := by decide +kernel
theorem d_Sea_substituteAndTurn_26 : decode M_Sea_substituteAndTurn.2.1 26 = .ok (.aload_n 0, 1) := by decide +kernel
theorem d_Sea_substituteAndTurn_27 : decode M_Sea_substituteAndTurn.2.1 27 = .ok (.getfield 21, 3) := by decide +kernel
theorem d_Sea_substituteAndTurn_30 : decode M_Sea_substituteAndTurn.2.1 30 = .ok (.iload_n 2, 1) := by decide +kernel
theorem d_Sea_substituteAndTurn_31 : decode M_Sea_substituteAndTurn.2.1 31 = .ok (.iconst 4, 1) := by decide +kernel
theorem d_Sea_substituteAndTurn_32 : decode M_Sea_substituteAndTurn.2.1 32 = .ok (.iload_n 1, 1) := by decide +kernel
theorem d_Sea_substituteAndTurn_33 : decode M_Sea_substituteAndTurn.2.1 33 = .ok (.iload_n 2, 1) := by decide +kernel
theorem d_Sea_substituteAndTurn_34 : decode M_Sea_substituteAndTurn.2.1 34 = .ok (.iadd, 1) := by decide +kernel
theorem d_Sea_substituteAndTurn_35 : decode M_Sea_substituteAndTurn.2.1 35 = .ok (.iconst 4, 1) := by decide +kernel
theorem d_Sea_substituteAndTurn_36 : decode M_Sea_substituteAndTurn.2.1 36 = .ok (.irem, 1) := by decide +kernel
theorem d_Sea_substituteAndTurn_37 : decode M_Sea_substituteAndTurn.2.1 37 = .ok (.imul, 1) := by decide +kernel
theorem d_Sea_substituteAndTurn_38 : decode M_Sea_substituteAndTurn.2.1 38 = .ok (.iadd, 1) := by decide +kernel
theorem d_Sea_substituteAndTurn_39 : decode M_Sea_substituteAndTurn.2.1 39 = .ok (.iaload, 1) := by decide +kernel
theorem d_Sea_substituteAndTurn_40 : decode M_Sea_substituteAndTurn.2.1 40 = .ok (.sipush 255, 3) := by decide +kernel
theorem d_Sea_substituteAndTurn_43 : decode M_Sea_substituteAndTurn.2.1 43 = .ok (.iand, 1) := by decide +kernel
theorem d_Sea_substituteAndTurn_44 : decode M_Sea_substituteAndTurn.2.1 44 = .ok (.iaload, 1) := by decide +kernel
theorem d_Sea_substituteAndTurn_45 : decode M_Sea_substituteAndTurn.2.1 45 = .ok (.iastore, 1) := by decide +kernel
theorem d_Sea_substituteAndTurn_46 : decode M_Sea_substituteAndTurn.2.1 46 = .ok (.iinc 2 1, 3) := by decide +kernel
theorem d_Sea_substituteAndTurn_49 : decode M_Sea_substituteAndTurn.2.1 49 = .ok (.goto (-40), 3) := by decide +kernel
theorem d_Sea_substituteAndTurn_52 : decode M_Sea_substituteAndTurn.2.1 52 = .ok (.iinc 1 1, 3) := by decide +kernel
theorem d_Sea_substituteAndTurn_55 : decode M_Sea_substituteAndTurn.2.1 55 = .ok (.goto (-53), 3) := by decide +kernel
theorem d_Sea_substituteAndTurn_58 : decode M_Sea_substituteAndTurn.2.1 58 = .ok (.aload_n 0, 1) := by decide +kernel
theorem d_Sea_substituteAndTurn_59 : decode M_Sea_substituteAndTurn.2.1 59 = .ok (.getfield 24, 3) := by decide +kernel
theorem d_Sea_substituteAndTurn_62 : decode M_Sea_substituteAndTurn.2.1 62 = .ok (.iconst 0, 1) := by decide +kernel
theorem d_Sea_substituteAndTurn_63 : decode M_Sea_substituteAndTurn.2.1 63 = .ok (.aload_n 0, 1) := by decide +kernel
theorem d_Sea_substituteAndTurn_64 : decode M_Sea_substituteAndTurn.2.1 64 = .ok (.getfield 21, 3) := by decide +kernel
theorem d_Sea_substituteAndTurn_67 : decode M_Sea_substituteAndTurn.2.1 67 = .ok (.iconst 0, 1) := by decide +kernel
theorem d_Sea_substituteAndTurn_68 : decode M_Sea_substituteAndTurn.2.1 68 = .ok (.bipush 16, 2) := by decide +kernel
theorem d_Sea_substituteAndTurn_70 : decode M_Sea_substituteAndTurn.2.1 70 = .ok (.invokestatic 90, 3) := by decide +kernel
theorem d_Sea_substituteAndTurn_73 : decode M_Sea_substituteAndTurn.2.1 73 = .ok (.return_, 1) := by decide +kernel
theorem d_Sea_mixColumns_0 : decode M_Sea_mixColumns.2.1 0 = .ok (.iconst 0, 1) := by decide +kernel
theorem d_Sea_mixColumns_1 : decode M_Sea_mixColumns.2.1 1 = .ok (.istore_n 1, 1) := by decide +kernel
theorem d_Sea_mixColumns_2 : decode M_Sea_mixColumns.2.1 2 = .ok (.iload_n 1, 1) := by decide +kernel
theorem d_Sea_mixColumns_3 : decode M_Sea_mixColumns.2.1 3 = .ok (.bipush 16, 2) := by decide +kernel
theorem d_Sea_mixColumns_5 : decode M_Sea_mixColumns.2.1 5 = .ok (.if_icmp .ge 117, 3) := by decide +kernel
theorem d_Sea_mixColumns_8 : decode M_Sea_mixColumns.2.1 8 = .ok (.aload_n 0, 1) := by decide +kernel
theorem d_Sea_mixColumns_9 : decode M_Sea_mixColumns.2.1 9 = .ok (.getfield 21, 3) := by decide +kernel
theorem d_Sea_mixColumns_12 : decode M_Sea_mixColumns.2.1 12 = .ok (.iload_n 1, 1) := by decide +kernel
theorem d_Sea_mixColumns_13 : decode M_Sea_mixColumns.2.1 13 = .ok (.iaload, 1) := by decide +kernel
theorem d_Sea_mixColumns_14 : decode M_Sea_mixColumns.2.1 14 = .ok (.istore_n 2, 1) := by decide +kernel
theorem d_Sea_mixColumns_15 : decode M_Sea_mixColumns.2.1 15 = .ok (.aload_n 0, 1) := by decide +kernel
theorem d_Sea_mixColumns_16 : decode M_Sea_mixColumns.2.1 16 = .ok (.getfield 21, 3) := by decide +kernel
theorem d_Sea_mixColumns_19 : decode M_Sea_mixColumns.2.1 19 = .ok (.iload_n 1, 1) := by decide +kernel
theorem d_Sea_mixColumns_20 : decode M_Sea_mixColumns.2.1 20 = .ok (.iaload, 1) := by decide +kernel
theorem d_Sea_mixColumns_21 : decode M_Sea_mixColumns.2.1 21 = .ok (.aload_n 0, 1) := by decide +kernel
theorem d_Sea_mixColumns_22 : decode M_Sea_mixColumns.2.1 22 = .ok (.getfield 21, 3) := by decide +kernel
theorem d_Sea_mixColumns_25 : decode M_Sea_mixColumns.2.1 25 = .ok (.iload_n 1, 1) := by decide +kernel
theorem d_Sea_mixColumns_26 : decode M_Sea_mixColumns.2.1 26 = .ok (.iconst 1, 1) := by decide +kernel
theorem d_Sea_mixColumns_27 : decode M_Sea_mixColumns.2.1 27 = .ok (.iadd, 1) := by decide +kernel
theorem d_Sea_mixColumns_28 : decode M_Sea_mixColumns.2.1 28 = .ok (.iaload, 1) := by decide +kernel
theorem d_Sea_mixColumns_29 : decode M_Sea_mixColumns.2.1 29 = .ok (.ixor, 1) := by decide +kernel
theorem d_Sea_mixColumns_30 : decode M_Sea_mixColumns.2.1 30 = .ok (.aload_n 0, 1) := by decide +kernel
theorem d_Sea_mixColumns_31 : decode M_Sea_mixColumns.2.1 31 = .ok (.getfield 21, 3) := by decide +kernel
theorem d_Sea_mixColumns_34 : decode M_Sea_mixColumns.2.1 34 = .ok (.iload_n 1, 1) := by decide +kernel
theorem d_Sea_mixColumns_35 : decode M_Sea_mixColumns.2.1 35 = .ok (.iconst 2, 1) := by decide +kernel
theorem d_Sea_mixColumns_36 : decode M_Sea_mixColumns.2.1 36 = .ok (.iadd, 1) := by decide +kernel
theorem d_Sea_mixColumns_37 : decode M_Sea_mixColumns.2.1 37 = .ok (.iaload, 1) := by decide +kernel
theorem d_Sea_mixColumns_38 : decode M_Sea_mixColumns.2.1 38 = .ok (.ixor, 1) := by decide +kernel
theorem d_Sea_mixColumns_39 : decode M_Sea_mixColumns.2.1 39 = .ok (.aload_n 0, 1) := by decide +kernel
theorem d_Sea_mixColumns_40 : decode M_Sea_mixColumns.2.1 40 = .ok (.getfield 21, 3) := by decide +kernel
theorem d_Sea_mixColumns_43 : decode M_Sea_mixColumns.2.1 43 = .ok (.iload_n 1, 1) := by decide +kernel
theorem d_Sea_mixColumns_44 : decode M_Sea_mixColumns.2.1 44 = .ok (.iconst 3, 1) := by decide +kernel
theorem d_Sea_mixColumns_45 : decode M_Sea_mixColumns.2.1 45 = .ok (.iadd, 1) := by decide +kernel
theorem d_Sea_mixColumns_46 : decode M_Sea_mixColumns.2.1 46 = .ok (.iaload, 1) := by decide +kernel
theorem d_Sea_mixColumns_47 : decode M_Sea_mixColumns.2.1 47 = .ok (.ixor, 1) := by decide +kernel
theorem d_Sea_mixColumns_48 : decode M_Sea_mixColumns.2.1 48 = .ok (.istore_n 3, 1) := by decide +kernel
theorem d_Sea_mixColumns_49 : decode M_Sea_mixColumns.2.1 49 = .ok (.iconst 0, 1) := by decide +kernel
theorem d_Sea_mixColumns_50 : decode M_Sea_mixColumns.2.1 50 = .ok (.istore 4, 2) := by decide +kernel
theorem d_Sea_mixColumns_52 : decode M_Sea_mixColumns.2.1 52 = .ok (.iload 4, 2) := by decide +kernel
theorem d_Sea_mixColumns_54 : decode M_Sea_mixColumns.2.1 54 = .ok (.iconst 4, 1) := by decide +kernel
theorem d_Sea_mixColumns_55 : decode M_Sea_mixColumns.2.1 55 = .ok (.if_icmp .ge 61, 3) := by decide +kernel
theorem d_Sea_mixColumns_58 : decode M_Sea_mixColumns.2.1 58 = .ok (.iload 4, 2) := by decide +kernel
theorem d_Sea_mixColumns_60 : decode M_Sea_mixColumns.2.1 60 = .ok (.iconst 3, 1) := by decide +kernel
theorem d_Sea_mixColumns_61 : decode M_Sea_mixColumns.2.1 61 = .ok (.if_icmp .ge 17, 3) := by decide +kernel
theorem d_Sea_mixColumns_64 : decode M_Sea_mixColumns.2.1 64 = .ok (.aload_n 0, 1) := by decide +kernel
theorem d_Sea_mixColumns_65 : decode M_Sea_mixColumns.2.1 65 = .ok (.getfield 21, 3) := by decide +kernel
theorem d_Sea_mixColumns_68 : decode M_Sea_mixColumns.2.1 68 = .ok (.iload_n 1, 1) := by decide +kernel
theorem d_Sea_mixColumns_69 : decode M_Sea_mixColumns.2.1 69 = .ok (.iload 4, 2) := by decide +kernel
theorem d_Sea_mixColumns_71 : decode M_Sea_mixColumns.2.1 71 = .ok (.iadd, 1) := by decide +kernel
theorem d_Sea_mixColumns_72 : decode M_Sea_mixColumns.2.1 72 = .ok (.iconst 1, 1) := by decide +kernel
theorem d_Sea_mixColumns_73 : decode M_Sea_mixColumns.2.1 73 = .ok (.iadd, 1) := by decide +kernel
theorem d_Sea_mixColumns_74 : decode M_Sea_mixColumns.2.1 74 = .ok (.iaload, 1) := by decide +kernel
theorem d_Sea_mixColumns_75 : decode M_Sea_mixColumns.2.1 75 = .ok (.goto 4, 3) := by decide +kernel
theorem d_Sea_mixColumns_78 : decode M_Sea_mixColumns.2.1 78 = .ok (.iload_n 2, 1) := by decide +kernel
theorem d_Sea_mixColumns_79 : decode M_Sea_mixColumns.2.1 79 = .ok (.istore 5, 2) := by decide +kernel
theorem d_Sea_mixColumns_81 : decode M_Sea_mixColumns.2.1 81 = .ok (.aload_n 0, 1) := by decide +kernel
theorem d_Sea_mixColumns_82 : decode M_Sea_mixColumns.2.1 82 = .ok (.getfield 21, 3) := by decide +kernel
theorem d_Sea_mixColumns_85 : decode M_Sea_mixColumns.2.1 85 = .ok (.iload_n 1, 1) := by decide +kernel
theorem d_Sea_mixColumns_86 : decode M_Sea_mixColumns.2.1 86 = .ok (.iload 4, 2) := by decide +kernel
theorem d_Sea_mixColumns_88 : decode M_Sea_mixColumns.2.1 88 = .ok (.iadd, 1) := by decide +kernel
theorem d_Sea_mixColumns_89 : decode M_Sea_mixColumns.2.1 89 = .ok (.dup2, 1) := by decide +kernel
theorem d_Sea_mixColumns_90 : decode M_Sea_mixColumns.2.1 90 = .ok (.iaload, 1) := by decide +kernel
theorem d_Sea_mixColumns_91 : decode M_Sea_mixColumns.2.1 91 = .ok (.iload_n 3, 1) := by decide +kernel
theorem d_Sea_mixColumns_92 : decode M_Sea_mixColumns.2.1 92 = .ok (.aload_n 0, 1) := by decide +kernel
theorem d_Sea_mixColumns_93 : decode M_Sea_mixColumns.2.1 93 = .ok (.getfield 21, 3) := by decide +kernel
theorem d_Sea_mixColumns_96 : decode M_Sea_mixColumns.2.1 96 = .ok (.iload_n 1, 1) := by decide +kernel
theorem d_Sea_mixColumns_97 : decode M_Sea_mixColumns.2.1 97 = .ok (.iload 4, 2) := by decide +kernel
theorem d_Sea_mixColumns_99 : decode M_Sea_mixColumns.2.1 99 = .ok (.iadd, 1) := by decide +kernel
theorem d_Sea_mixColumns_100 : decode M_Sea_mixColumns.2.1 100 = .ok (.iaload, 1) := by decide +kernel
theorem d_Sea_mixColumns_101 : decode M_Sea_mixColumns.2.1 101 = .ok (.iload 5, 2) := by decide +kernel
theorem d_Sea_mixColumns_103 : decode M_Sea_mixColumns.2.1 103 = .ok (.ixor, 1) := by decide +kernel
theorem d_Sea_mixColumns_104 : decode M_Sea_mixColumns.2.1 104 = .ok (.invokestatic 78, 3) := by decide +kernel
theorem d_Sea_mixColumns_107 : decode M_Sea_mixColumns.2.1 107 = .ok (.ixor, 1) := by decide +kernel
theorem d_Sea_mixColumns_108 : decode M_Sea_mixColumns.2.1 108 = .ok (.ixor, 1) := by decide +kernel
theorem d_Sea_mixColumns_109 : decode M_Sea_mixColumns.2.1 109 = .ok (.iastore, 1) := by decide +kernel
theorem d_Sea_mixColumns_110 : decode M_Sea_mixColumns.2.1 110 = .ok (.iinc 4 1, 3) := by decide +kernel
theorem d_Sea_mixColumns_113 : decode M_Sea_mixColumns.2.1 113 = .ok (.goto (-61), 3) := by decide +kernel
theorem d_Sea_mixColumns_116 : decode M_Sea_mixColumns.2.1 116 = .ok (.iinc 1 4, 3) := by decide +kernel
theorem d_Sea_mixColumns_119 : decode M_Sea_mixColumns.2.1 119 = .ok (.goto (-117), 3) := by decide +kernel
theorem d_Sea_mixColumns_122 : decode M_Sea_mixColumns.2.1 122 = .ok (.return_, 1) := by decide +kernel
theorem d_Sea_doubleRow_0 : decode M_Sea_doubleRow.2.1 0 = .ok (.iconst 0, 1) := by decide +kernel
theorem d_Sea_doubleRow_1 : decode M_Sea_doubleRow.2.1 1 = .ok (.istore_n 2, 1) := by decide +kernel
theorem d_Sea_doubleRow_2 : decode M_Sea_doubleRow.2.1 2 = .ok (.iload_n 2, 1) := by decide +kernel
theorem d_Sea_doubleRow_3 : decode M_Sea_doubleRow.2.1 3 = .ok (.bipush 16, 2) := by decide +kernel
theorem d_Sea_doubleRow_5 : decode M_Sea_doubleRow.2.1 5 = .ok (.if_icmp .ge 44, 3) := by decide +kernel
theorem d_Sea_doubleRow_8 : decode M_Sea_doubleRow.2.1 8 = .ok (.iload_n 2, 1) := by decide +kernel
theorem d_Sea_doubleRow_9 : decode M_Sea_doubleRow.2.1 9 = .ok (.iconst 1, 1) := by decide +kernel
theorem d_Sea_doubleRow_10 : decode M_Sea_doubleRow.2.1 10 = .ok (.iadd, 1) := by decide +kernel
theorem d_Sea_doubleRow_11 : decode M_Sea_doubleRow.2.1 11 = .ok (.bipush 16, 2) := by decide +kernel
theorem d_Sea_doubleRow_13 : decode M_Sea_doubleRow.2.1 13 = .ok (.if_icmp .ge 14, 3) := by decide +kernel
theorem d_Sea_doubleRow_16 : decode M_Sea_doubleRow.2.1 16 = .ok (.aload_n 0, 1) := by decide +kernel
theorem d_Sea_doubleRow_17 : decode M_Sea_doubleRow.2.1 17 = .ok (.iload_n 2, 1) := by decide +kernel
theorem d_Sea_doubleRow_18 : decode M_Sea_doubleRow.2.1 18 = .ok (.iconst 1, 1) := by decide +kernel
theorem d_Sea_doubleRow_19 : decode M_Sea_doubleRow.2.1 19 = .ok (.iadd, 1) := by decide +kernel
theorem d_Sea_doubleRow_20 : decode M_Sea_doubleRow.2.1 20 = .ok (.iaload, 1) := by decide +kernel
theorem d_Sea_doubleRow_21 : decode M_Sea_doubleRow.2.1 21 = .ok (.bipush 7, 2) := by decide +kernel
theorem d_Sea_doubleRow_23 : decode M_Sea_doubleRow.2.1 23 = .ok (.ishr, 1) := by decide +kernel
theorem d_Sea_doubleRow_24 : decode M_Sea_doubleRow.2.1 24 = .ok (.goto 4, 3) := by decide +kernel
theorem d_Sea_doubleRow_27 : decode M_Sea_doubleRow.2.1 27 = .ok (.iconst 0, 1) := by decide +kernel
theorem d_Sea_doubleRow_28 : decode M_Sea_doubleRow.2.1 28 = .ok (.istore_n 3, 1) := by decide +kernel
theorem d_Sea_doubleRow_29 : decode M_Sea_doubleRow.2.1 29 = .ok (.aload_n 1, 1) := by decide +kernel
theorem d_Sea_doubleRow_30 : decode M_Sea_doubleRow.2.1 30 = .ok (.iload_n 2, 1) := by decide +kernel
theorem d_Sea_doubleRow_31 : decode M_Sea_doubleRow.2.1 31 = .ok (.aload_n 0, 1) := by decide +kernel
theorem d_Sea_doubleRow_32 : decode M_Sea_doubleRow.2.1 32 = .ok (.iload_n 2, 1) := by decide +kernel
theorem d_Sea_doubleRow_33 : decode M_Sea_doubleRow.2.1 33 = .ok (.iaload, 1) := by decide +kernel
theorem d_Sea_doubleRow_34 : decode M_Sea_doubleRow.2.1 34 = .ok (.iconst 1, 1) := by decide +kernel
theorem d_Sea_doubleRow_35 : decode M_Sea_doubleRow.2.1 35 = .ok (.ishl, 1) := by decide +kernel
theorem d_Sea_doubleRow_36 : decode M_Sea_doubleRow.2.1 36 = .ok (.sipush 255, 3) := by decide +kernel
theorem d_Sea_doubleRow_39 : decode M_Sea_doubleRow.2.1 39 = .ok (.iand, 1) := by decide +kernel
theorem d_Sea_doubleRow_40 : decode M_Sea_doubleRow.2.1 40 = .ok (.iload_n 3, 1) := by decide +kernel
theorem d_Sea_doubleRow_41 : decode M_Sea_doubleRow.2.1 41 = .ok (.ior, 1) := by decide +kernel
theorem d_Sea_doubleRow_42 : decode M_Sea_doubleRow.2.1 42 = .ok (.iastore, 1) := by decide +kernel
theorem d_Sea_doubleRow_43 : decode M_Sea_doubleRow.2.1 43 = .ok (.iinc 2 1, 3) := by decide +kernel
theorem d_Sea_doubleRow_46 : decode M_Sea_doubleRow.2.1 46 = .ok (.goto (-44), 3) := by decide +kernel
theorem d_Sea_doubleRow_49 : decode M_Sea_doubleRow.2.1 49 = .ok (.aload_n 0, 1) := by decide +kernel
theorem d_Sea_doubleRow_50 : decode M_Sea_doubleRow.2.1 50 = .ok (.iconst 0, 1) := by decide +kernel
theorem d_Sea_doubleRow_51 : decode M_Sea_doubleRow.2.1 51 = .ok (.iaload, 1) := by decide +kernel
theorem d_Sea_doubleRow_52 : decode M_Sea_doubleRow.2.1 52 = .ok (.bipush 127, 2) := by decide +kernel
theorem d_Sea_doubleRow_54 : decode M_Sea_doubleRow.2.1 54 = .ok (.if_icmp .le 13, 3) := by decide +kernel
theorem d_Sea_doubleRow_57 : decode M_Sea_doubleRow.2.1 57 = .ok (.aload_n 1, 1) := by decide +kernel
theorem d_Sea_doubleRow_58 : decode M_Sea_doubleRow.2.1 58 = .ok (.bipush 15, 2) := by decide +kernel
theorem d_Sea_doubleRow_60 : decode M_Sea_doubleRow.2.1 60 = .ok (.dup2, 1) := by decide +kernel
theorem d_Sea_doubleRow_61 : decode M_Sea_doubleRow.2.1 61 = .ok (.iaload, 1) := by decide +kernel
theorem d_Sea_doubleRow_62 : decode M_Sea_doubleRow.2.1 62 = .ok (.sipush 135, 3) := by decide +kernel
theorem d_Sea_doubleRow_65 : decode M_Sea_doubleRow.2.1 65 = .ok (.ixor, 1) := by decide +kernel
theorem d_Sea_doubleRow_66 : decode M_Sea_doubleRow.2.1 66 = .ok (.iastore, 1) := by decide +kernel
theorem d_Sea_doubleRow_67 : decode M_Sea_doubleRow.2.1 67 = .ok (.return_, 1) := by decide +kernel
theorem d_Sea_payment_0 : decode M_Sea_payment.2.1 0 = .ok (.aload_n 0, 1) := by decide +kernel
theorem d_Sea_payment_1 : decode M_Sea_payment.2.1 1 = .ok (.getfield 32, 3) := by decide +kernel
theorem d_Sea_payment_4 : decode M_Sea_payment.2.1 4 = .ok (.invokevirtual 56, 3) := by decide +kernel
theorem d_Sea_payment_7 : decode M_Sea_payment.2.1 7 = .ok (.aload_n 0, 1) := by decide +kernel
theorem d_Sea_payment_8 : decode M_Sea_payment.2.1 8 = .ok (.getfield 32, 3) := by decide +kernel
theorem d_Sea_payment_11 : decode M_Sea_payment.2.1 11 = .ok (.lload_n 1, 1) := by decide +kernel
theorem d_Sea_payment_12 : decode M_Sea_payment.2.1 12 = .ok (.bipush 6, 2) := by decide +kernel
theorem d_Sea_payment_14 : decode M_Sea_payment.2.1 14 = .ok (.invokevirtual 59, 3) := by decide +kernel
theorem d_Sea_payment_17 : decode M_Sea_payment.2.1 17 = .ok (.aload_n 0, 1) := by decide +kernel
theorem d_Sea_payment_18 : decode M_Sea_payment.2.1 18 = .ok (.getfield 32, 3) := by decide +kernel
theorem d_Sea_payment_21 : decode M_Sea_payment.2.1 21 = .ok (.lload_n 3, 1) := by decide +kernel
theorem d_Sea_payment_22 : decode M_Sea_payment.2.1 22 = .ok (.iconst 4, 1) := by decide +kernel
theorem d_Sea_payment_23 : decode M_Sea_payment.2.1 23 = .ok (.invokevirtual 59, 3) := by decide +kernel
theorem d_Sea_payment_26 : decode M_Sea_payment.2.1 26 = .ok (.aload_n 0, 1) := by decide +kernel
theorem d_Sea_payment_27 : decode M_Sea_payment.2.1 27 = .ok (.getfield 32, 3) := by decide +kernel
theorem d_Sea_payment_30 : decode M_Sea_payment.2.1 30 = .ok (.lload 5, 2) := by decide +kernel
theorem d_Sea_payment_32 : decode M_Sea_payment.2.1 32 = .ok (.iconst 2, 1) := by decide +kernel
theorem d_Sea_payment_33 : decode M_Sea_payment.2.1 33 = .ok (.invokevirtual 59, 3) := by decide +kernel
theorem d_Sea_payment_36 : decode M_Sea_payment.2.1 36 = .ok (.aload_n 0, 1) := by decide +kernel
theorem d_Sea_payment_37 : decode M_Sea_payment.2.1 37 = .ok (.getfield 32, 3) := by decide +kernel
theorem d_Sea_payment_40 : decode M_Sea_payment.2.1 40 = .ok (.iload 7, 2) := by decide +kernel
theorem d_Sea_payment_42 : decode M_Sea_payment.2.1 42 = .ok (.invokevirtual 63, 3) := by decide +kernel
theorem d_Sea_payment_45 : decode M_Sea_payment.2.1 45 = .ok (.pop, 1) := by decide +kernel
theorem d_Sea_payment_46 : decode M_Sea_payment.2.1 46 = .ok (.aload_n 0, 1) := by decide +kernel
theorem d_Sea_payment_47 : decode M_Sea_payment.2.1 47 = .ok (.getfield 32, 3) := by decide +kernel
theorem d_Sea_payment_50 : decode M_Sea_payment.2.1 50 = .ok (.iload 8, 2) := by decide +kernel
theorem d_Sea_payment_52 : decode M_Sea_payment.2.1 52 = .ok (.ifCond .eq 7, 3) := by decide +kernel
theorem d_Sea_payment_55 : decode M_Sea_payment.2.1 55 = .ok (.iconst 1, 1) := by decide +kernel
theorem d_Sea_payment_56 : decode M_Sea_payment.2.1 56 = .ok (.goto 4, 3) := by decide +kernel
theorem d_Sea_payment_59 : decode M_Sea_payment.2.1 59 = .ok (.iconst 0, 1) := by decide +kernel
theorem d_Sea_payment_60 : decode M_Sea_payment.2.1 60 = .ok (.invokevirtual 63, 3) := by decide +kernel
theorem d_Sea_payment_63 : decode M_Sea_payment.2.1 63 = .ok (.pop, 1) := by decide +kernel
theorem d_Sea_payment_64 : decode M_Sea_payment.2.1 64 = .ok (.aload_n 0, 1) := by decide +kernel
theorem d_Sea_payment_65 : decode M_Sea_payment.2.1 65 = .ok (.getfield 32, 3) := by decide +kernel
theorem d_Sea_payment_68 : decode M_Sea_payment.2.1 68 = .ok (.areturn, 1) := by decide +kernel
theorem d_Sea_run_0 : decode M_Sea_run.2.1 0 = .ok (.aload_n 1, 1) := by decide +kernel
theorem d_Sea_run_1 : decode M_Sea_run.2.1 1 = .ok (.invokevirtual 67, 3) := by decide +kernel
theorem d_Sea_run_4 : decode M_Sea_run.2.1 4 = .ok (.istore_n 2, 1) := by decide +kernel
theorem d_Sea_run_5 : decode M_Sea_run.2.1 5 = .ok (.iload_n 2, 1) := by decide +kernel
theorem d_Sea_run_6 : decode M_Sea_run.2.1 6 = .ok (.ifCond .le 14, 3) := by decide +kernel
theorem d_Sea_run_9 : decode M_Sea_run.2.1 9 = .ok (.iload_n 2, 1) := by decide +kernel
theorem d_Sea_run_10 : decode M_Sea_run.2.1 10 = .ok (.bipush 16, 2) := by decide +kernel
theorem d_Sea_run_12 : decode M_Sea_run.2.1 12 = .ok (.irem, 1) := by decide +kernel
theorem d_Sea_run_13 : decode M_Sea_run.2.1 13 = .ok (.ifCond .ne 7, 3) := by decide +kernel
theorem d_Sea_run_16 : decode M_Sea_run.2.1 16 = .ok (.iconst 1, 1) := by decide +kernel
theorem d_Sea_run_17 : decode M_Sea_run.2.1 17 = .ok (.goto 4, 3) := by decide +kernel
theorem d_Sea_run_20 : decode M_Sea_run.2.1 20 = .ok (.iconst 0, 1) := by decide +kernel
theorem d_Sea_run_21 : decode M_Sea_run.2.1 21 = .ok (.istore_n 3, 1) := by decide +kernel
theorem d_Sea_run_22 : decode M_Sea_run.2.1 22 = .ok (.iload_n 3, 1) := by decide +kernel
theorem d_Sea_run_23 : decode M_Sea_run.2.1 23 = .ok (.ifCond .eq 10, 3) := by decide +kernel
theorem d_Sea_run_26 : decode M_Sea_run.2.1 26 = .ok (.iload_n 2, 1) := by decide +kernel
theorem d_Sea_run_27 : decode M_Sea_run.2.1 27 = .ok (.bipush 16, 2) := by decide +kernel
theorem d_Sea_run_29 : decode M_Sea_run.2.1 29 = .ok (.idiv, 1) := by decide +kernel
theorem d_Sea_run_30 : decode M_Sea_run.2.1 30 = .ok (.goto 9, 3) := by decide +kernel
theorem d_Sea_run_33 : decode M_Sea_run.2.1 33 = .ok (.iload_n 2, 1) := by decide +kernel
theorem d_Sea_run_34 : decode M_Sea_run.2.1 34 = .ok (.bipush 16, 2) := by decide +kernel
theorem d_Sea_run_36 : decode M_Sea_run.2.1 36 = .ok (.idiv, 1) := by decide +kernel
theorem d_Sea_run_37 : decode M_Sea_run.2.1 37 = .ok (.iconst 1, 1) := by decide +kernel
theorem d_Sea_run_38 : decode M_Sea_run.2.1 38 = .ok (.iadd, 1) := by decide +kernel
theorem d_Sea_run_39 : decode M_Sea_run.2.1 39 = .ok (.istore 4, 2) := by decide +kernel
theorem d_Sea_run_41 : decode M_Sea_run.2.1 41 = .ok (.aload_n 0, 1) := by decide +kernel
theorem d_Sea_run_42 : decode M_Sea_run.2.1 42 = .ok (.getfield 21, 3) := by decide +kernel
theorem d_Sea_run_45 : decode M_Sea_run.2.1 45 = .ok (.iconst 0, 1) := by decide +kernel
theorem d_Sea_run_46 : decode M_Sea_run.2.1 46 = .ok (.invokestatic 43, 3) := by decide +kernel
theorem d_Sea_run_49 : decode M_Sea_run.2.1 49 = .ok (.iconst 0, 1) := by decide +kernel
theorem d_Sea_run_50 : decode M_Sea_run.2.1 50 = .ok (.istore 5, 2) := by decide +kernel
theorem d_Sea_run_52 : decode M_Sea_run.2.1 52 = .ok (.iload 5, 2) := by decide +kernel
theorem d_Sea_run_54 : decode M_Sea_run.2.1 54 = .ok (.iload 4, 2) := by decide +kernel
theorem d_Sea_run_56 : decode M_Sea_run.2.1 56 = .ok (.if_icmp .ge 121, 3) := by decide +kernel
theorem d_Sea_run_59 : decode M_Sea_run.2.1 59 = .ok (.iconst 0, 1) := by decide +kernel
theorem d_Sea_run_60 : decode M_Sea_run.2.1 60 = .ok (.istore 6, 2) := by decide +kernel
theorem d_Sea_run_62 : decode M_Sea_run.2.1 62 = .ok (.iload 6, 2) := by decide +kernel
theorem d_Sea_run_64 : decode M_Sea_run.2.1 64 = .ok (.bipush 16, 2) := by decide +kernel
theorem d_Sea_run_66 : decode M_Sea_run.2.1 66 = .ok (.if_icmp .ge 101, 3) := by decide +kernel
theorem d_Sea_run_69 : decode M_Sea_run.2.1 69 = .ok (.iload 5, 2) := by decide +kernel
theorem d_Sea_run_71 : decode M_Sea_run.2.1 71 = .ok (.bipush 16, 2) := by decide +kernel
theorem d_Sea_run_73 : decode M_Sea_run.2.1 73 = .ok (.imul, 1) := by decide +kernel
theorem d_Sea_run_74 : decode M_Sea_run.2.1 74 = .ok (.iload 6, 2) := by decide +kernel
theorem d_Sea_run_76 : decode M_Sea_run.2.1 76 = .ok (.iadd, 1) := by decide +kernel
theorem d_Sea_run_77 : decode M_Sea_run.2.1 77 = .ok (.istore 7, 2) := by decide +kernel
theorem d_Sea_run_79 : decode M_Sea_run.2.1 79 = .ok (.iload 7, 2) := by decide +kernel
theorem d_Sea_run_81 : decode M_Sea_run.2.1 81 = .ok (.iload_n 2, 1) := by decide +kernel
theorem d_Sea_run_82 : decode M_Sea_run.2.1 82 = .ok (.if_icmp .ne 9, 3) := by decide +kernel
theorem d_Sea_run_85 : decode M_Sea_run.2.1 85 = .ok (.sipush 128, 3) := by decide +kernel
theorem d_Sea_run_88 : decode M_Sea_run.2.1 88 = .ok (.goto 4, 3) := by decide +kernel
theorem d_Sea_run_91 : decode M_Sea_run.2.1 91 = .ok (.iconst 0, 1) := by decide +kernel
theorem d_Sea_run_92 : decode M_Sea_run.2.1 92 = .ok (.istore 8, 2) := by decide +kernel
theorem d_Sea_run_94 : decode M_Sea_run.2.1 94 = .ok (.aload_n 0, 1) := by decide +kernel
theorem d_Sea_run_95 : decode M_Sea_run.2.1 95 = .ok (.getfield 21, 3) := by decide +kernel
theorem d_Sea_run_98 : decode M_Sea_run.2.1 98 = .ok (.iload 6, 2) := by decide +kernel
theorem d_Sea_run_100 : decode M_Sea_run.2.1 100 = .ok (.dup2, 1) := by decide +kernel
theorem d_Sea_run_101 : decode M_Sea_run.2.1 101 = .ok (.iaload, 1) := by decide +kernel
theorem d_Sea_run_102 : decode M_Sea_run.2.1 102 = .ok (.iload 7, 2) := by decide +kernel
theorem d_Sea_run_104 : decode M_Sea_run.2.1 104 = .ok (.iload_n 2, 1) := by decide +kernel
theorem d_Sea_run_105 : decode M_Sea_run.2.1 105 = .ok (.if_icmp .ge 12, 3) := by decide +kernel
theorem d_Sea_run_108 : decode M_Sea_run.2.1 108 = .ok (.aload_n 1, 1) := by decide +kernel
theorem d_Sea_run_109 : decode M_Sea_run.2.1 109 = .ok (.iload 7, 2) := by decide +kernel
theorem d_Sea_run_111 : decode M_Sea_run.2.1 111 = .ok (.invokevirtual 71, 3) := by decide +kernel
theorem d_Sea_run_114 : decode M_Sea_run.2.1 114 = .ok (.goto 5, 3) := by decide +kernel
theorem d_Sea_run_117 : decode M_Sea_run.2.1 117 = .ok (.iload 8, 2) := by decide +kernel
theorem d_Sea_run_119 : decode M_Sea_run.2.1 119 = .ok (.ixor, 1) := by decide +kernel
theorem d_Sea_run_120 : decode M_Sea_run.2.1 120 = .ok (.iastore, 1) := by decide +kernel
theorem d_Sea_run_121 : decode M_Sea_run.2.1 121 = .ok (.iload 5, 2) := by decide +kernel
theorem d_Sea_run_123 : decode M_Sea_run.2.1 123 = .ok (.iload 4, 2) := by decide +kernel
theorem d_Sea_run_125 : decode M_Sea_run.2.1 125 = .ok (.iconst 1, 1) := by decide +kernel
theorem d_Sea_run_126 : decode M_Sea_run.2.1 126 = .ok (.isub, 1) := by decide +kernel
theorem d_Sea_run_127 : decode M_Sea_run.2.1 127 = .ok (.if_icmp .ne 34, 3) := by decide +kernel
theorem d_Sea_run_130 : decode M_Sea_run.2.1 130 = .ok (.aload_n 0, 1) := by decide +kernel
theorem d_Sea_run_131 : decode M_Sea_run.2.1 131 = .ok (.getfield 21, 3) := by decide +kernel
theorem d_Sea_run_134 : decode M_Sea_run.2.1 134 = .ok (.iload 6, 2) := by decide +kernel
theorem d_Sea_run_136 : decode M_Sea_run.2.1 136 = .ok (.dup2, 1) := by decide +kernel
theorem d_Sea_run_137 : decode M_Sea_run.2.1 137 = .ok (.iaload, 1) := by decide +kernel
theorem d_Sea_run_138 : decode M_Sea_run.2.1 138 = .ok (.iload_n 3, 1) := by decide +kernel
theorem d_Sea_run_139 : decode M_Sea_run.2.1 139 = .ok (.ifCond .eq 13, 3) := by decide +kernel
theorem d_Sea_run_142 : decode M_Sea_run.2.1 142 = .ok (.aload_n 0, 1) := by decide +kernel
theorem d_Sea_run_143 : decode M_Sea_run.2.1 143 = .ok (.getfield 15, 3) := by decide +kernel
theorem d_Sea_run_146 : decode M_Sea_run.2.1 146 = .ok (.iload 6, 2) := by decide +kernel
theorem d_Sea_run_148 : decode M_Sea_run.2.1 148 = .ok (.iaload, 1) := by decide +kernel
theorem d_Sea_run_149 : decode M_Sea_run.2.1 149 = .ok (.goto 10, 3) := by decide +kernel
theorem d_Sea_run_152 : decode M_Sea_run.2.1 152 = .ok (.aload_n 0, 1) := by decide +kernel
theorem d_Sea_run_153 : decode M_Sea_run.2.1 153 = .ok (.getfield 18, 3) := by decide +kernel
theorem d_Sea_run_156 : decode M_Sea_run.2.1 156 = .ok (.iload 6, 2) := by decide +kernel
theorem d_Sea_run_158 : decode M_Sea_run.2.1 158 = .ok (.iaload, 1) := by decide +kernel
theorem d_Sea_run_159 : decode M_Sea_run.2.1 159 = .ok (.ixor, 1) := by decide +kernel
theorem d_Sea_run_160 : decode M_Sea_run.2.1 160 = .ok (.iastore, 1) := by decide +kernel
theorem d_Sea_run_161 : decode M_Sea_run.2.1 161 = .ok (.iinc 6 1, 3) := by decide +kernel
theorem d_Sea_run_164 : decode M_Sea_run.2.1 164 = .ok (.goto (-102), 3) := by decide +kernel
theorem d_Sea_run_167 : decode M_Sea_run.2.1 167 = .ok (.aload_n 0, 1) := by decide +kernel
theorem d_Sea_run_168 : decode M_Sea_run.2.1 168 = .ok (.invokevirtual 49, 3) := by decide +kernel
theorem d_Sea_run_171 : decode M_Sea_run.2.1 171 = .ok (.iinc 5 1, 3) := by decide +kernel
theorem d_Sea_run_174 : decode M_Sea_run.2.1 174 = .ok (.goto (-122), 3) := by decide +kernel
theorem d_Sea_run_177 : decode M_Sea_run.2.1 177 = .ok (.return_, 1) := by decide +kernel
theorem d_Sea_byteAt_0 : decode M_Sea_byteAt.2.1 0 = .ok (.iload_n 1, 1) := by decide +kernel
theorem d_Sea_byteAt_1 : decode M_Sea_byteAt.2.1 1 = .ok (.ifCond .lt 18, 3) := by decide +kernel
theorem d_Sea_byteAt_4 : decode M_Sea_byteAt.2.1 4 = .ok (.iload_n 1, 1) := by decide +kernel
theorem d_Sea_byteAt_5 : decode M_Sea_byteAt.2.1 5 = .ok (.bipush 16, 2) := by decide +kernel
theorem d_Sea_byteAt_7 : decode M_Sea_byteAt.2.1 7 = .ok (.if_icmp .ge 12, 3) := by decide +kernel
theorem d_Sea_byteAt_10 : decode M_Sea_byteAt.2.1 10 = .ok (.aload_n 0, 1) := by decide +kernel
theorem d_Sea_byteAt_11 : decode M_Sea_byteAt.2.1 11 = .ok (.getfield 21, 3) := by decide +kernel
theorem d_Sea_byteAt_14 : decode M_Sea_byteAt.2.1 14 = .ok (.iload_n 1, 1) := by decide +kernel
theorem d_Sea_byteAt_15 : decode M_Sea_byteAt.2.1 15 = .ok (.iaload, 1) := by decide +kernel
theorem d_Sea_byteAt_16 : decode M_Sea_byteAt.2.1 16 = .ok (.goto 4, 3) := by decide +kernel
theorem d_Sea_byteAt_19 : decode M_Sea_byteAt.2.1 19 = .ok (.iconst (-1), 1) := by decide +kernel
theorem d_Sea_byteAt_20 : decode M_Sea_byteAt.2.1 20 = .ok (.ireturn, 1) := by decide +kernel

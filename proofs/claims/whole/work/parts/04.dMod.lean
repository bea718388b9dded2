theorem d_Mod_init_0 : decode M_Mod_init.2.1 0 = .ok (.aload_n 0, 1) := by decide +kernel
theorem d_Mod_init_1 : decode M_Mod_init.2.1 1 = .ok (.invokespecial 1, 3) := by decide +kernel
theorem d_Mod_init_4 : decode M_Mod_init.2.1 4 = .ok (.aload_n 0, 1) := by decide +kernel
theorem d_Mod_init_5 : decode M_Mod_init.2.1 5 = .ok (.bipush 16, 2) := by decide +kernel
theorem d_Mod_init_7 : decode M_Mod_init.2.1 7 = .ok (.newarray .int, 2) := by decide +kernel
theorem d_Mod_init_9 : decode M_Mod_init.2.1 9 = .ok (.putfield 7, 3) := by decide +kernel
theorem d_Mod_init_12 : decode M_Mod_init.2.1 12 = .ok (.aload_n 0, 1) := by decide +kernel
theorem d_Mod_init_13 : decode M_Mod_init.2.1 13 = .ok (.iconst 4, 1) := by decide +kernel
theorem d_Mod_init_14 : decode M_Mod_init.2.1 14 = .ok (.newarray .int, 2) := by decide +kernel
theorem d_Mod_init_16 : decode M_Mod_init.2.1 16 = .ok (.putfield 13, 3) := by decide +kernel
theorem d_Mod_init_19 : decode M_Mod_init.2.1 19 = .ok (.aload_n 0, 1) := by decide +kernel
theorem d_Mod_init_20 : decode M_Mod_init.2.1 20 = .ok (.bipush 7, 2) := by decide +kernel
theorem d_Mod_init_22 : decode M_Mod_init.2.1 22 = .ok (.newarray .int, 2) := by decide +kernel
theorem d_Mod_init_24 : decode M_Mod_init.2.1 24 = .ok (.putfield 16, 3) := by decide +kernel
theorem d_Mod_init_27 : decode M_Mod_init.2.1 27 = .ok (.aload_n 0, 1) := by decide +kernel
theorem d_Mod_init_28 : decode M_Mod_init.2.1 28 = .ok (.iconst 4, 1) := by decide +kernel
theorem d_Mod_init_29 : decode M_Mod_init.2.1 29 = .ok (.newarray .int, 2) := by decide +kernel
theorem d_Mod_init_31 : decode M_Mod_init.2.1 31 = .ok (.putfield 19, 3) := by decide +kernel
theorem d_Mod_init_34 : decode M_Mod_init.2.1 34 = .ok (.aload_n 0, 1) := by decide +kernel
theorem d_Mod_init_35 : decode M_Mod_init.2.1 35 = .ok (.bipush 12, 2) := by decide +kernel
theorem d_Mod_init_37 : decode M_Mod_init.2.1 37 = .ok (.newarray .int, 2) := by decide +kernel
theorem d_Mod_init_39 : decode M_Mod_init.2.1 39 = .ok (.putfield 22, 3) := by decide +kernel
theorem d_Mod_init_42 : decode M_Mod_init.2.1 42 = .ok (.aload_n 0, 1) := by decide +kernel
theorem d_Mod_init_43 : decode M_Mod_init.2.1 43 = .ok (.sipush 360, 3) := by decide +kernel
theorem d_Mod_init_46 : decode M_Mod_init.2.1 46 = .ok (.newarray .int, 2) := by decide +kernel
theorem d_Mod_init_48 : decode M_Mod_init.2.1 48 = .ok (.putfield 25, 3) := by decide +kernel
theorem d_Mod_init_51 : decode M_Mod_init.2.1 51 = .ok (.aload_n 0, 1) := by decide +kernel
theorem d_Mod_init_52 : decode M_Mod_init.2.1 52 = .ok (.iconst 3, 1) := by decide +kernel
theorem d_Mod_init_53 : decode M_Mod_init.2.1 53 = .ok (.putfield 28, 3) := by decide +kernel
theorem d_Mod_init_56 : decode M_Mod_init.2.1 56 = .ok (.aload_n 0, 1) := by decide +kernel
theorem d_Mod_init_57 : decode M_Mod_init.2.1 57 = .ok (.bipush 40, 2) := by decide +kernel
theorem d_Mod_init_59 : decode M_Mod_init.2.1 59 = .ok (.newarray .int, 2) := by decide +kernel
theorem d_Mod_init_61 : decode M_Mod_init.2.1 61 = .ok (.putfield 32, 3) := by decide +kernel
theorem d_Mod_init_64 : decode M_Mod_init.2.1 64 = .ok (.aload_n 0, 1) := by decide +kernel
theorem d_Mod_init_65 : decode M_Mod_init.2.1 65 = .ok (.bipush 64, 2) := by decide +kernel
theorem d_Mod_init_67 : decode M_Mod_init.2.1 67 = .ok (.newarray .int, 2) := by decide +kernel
theorem d_Mod_init_69 : decode M_Mod_init.2.1 69 = .ok (.putfield 35, 3) := by decide +kernel
theorem d_Mod_init_72 : decode M_Mod_init.2.1 72 = .ok (.aload_n 0, 1) := by decide +kernel
theorem d_Mod_init_73 : decode M_Mod_init.2.1 73 = .ok (.bipush 16, 2) := by decide +kernel
theorem d_Mod_init_75 : decode M_Mod_init.2.1 75 = .ok (.newarray .int, 2) := by decide +kernel
theorem d_Mod_init_77 : decode M_Mod_init.2.1 77 = .ok (.putfield 38, 3) := by decide +kernel
theorem d_Mod_init_80 : decode M_Mod_init.2.1 80 = .ok (.aload_n 0, 1) := by decide +kernel
theorem d_Mod_init_81 : decode M_Mod_init.2.1 81 = .ok (.sipush 256, 3) := by decide +kernel
theorem d_Mod_init_84 : decode M_Mod_init.2.1 84 = .ok (.newarray .int, 2) := by decide +kernel
theorem d_Mod_init_86 : decode M_Mod_init.2.1 86 = .ok (.putfield 41, 3) := by decide +kernel
theorem d_Mod_init_89 : decode M_Mod_init.2.1 89 = .ok (.aload_n 0, 1) := by decide +kernel
theorem d_Mod_init_90 : decode M_Mod_init.2.1 90 = .ok (.sipush 176, 3) := by decide +kernel
theorem d_Mod_init_93 : decode M_Mod_init.2.1 93 = .ok (.newarray .int, 2) := by decide +kernel
theorem d_Mod_init_95 : decode M_Mod_init.2.1 95 = .ok (.putfield 44, 3) := by decide +kernel
theorem d_Mod_init_98 : decode M_Mod_init.2.1 98 = .ok (.aload_n 0, 1) := by decide +kernel
theorem d_Mod_init_99 : decode M_Mod_init.2.1 99 = .ok (.bipush 16, 2) := by decide +kernel
theorem d_Mod_init_101 : decode M_Mod_init.2.1 101 = .ok (.newarray .int, 2) := by decide +kernel
theorem d_Mod_init_103 : decode M_Mod_init.2.1 103 = .ok (.putfield 47, 3) := by decide +kernel
theorem d_Mod_init_106 : decode M_Mod_init.2.1 106 = .ok (.aload_n 0, 1) := by decide +kernel
theorem d_Mod_init_107 : decode M_Mod_init.2.1 107 = .ok (.bipush 16, 2) := by decide +kernel
theorem d_Mod_init_109 : decode M_Mod_init.2.1 109 = .ok (.newarray .int, 2) := by decide +kernel
theorem d_Mod_init_111 : decode M_Mod_init.2.1 111 = .ok (.putfield 50, 3) := by decide +kernel
theorem d_Mod_init_114 : decode M_Mod_init.2.1 114 = .ok (.aload_n 0, 1) := by decide +kernel
theorem d_Mod_init_115 : decode M_Mod_init.2.1 115 = .ok (.bipush 64, 2) := by decide +kernel
theorem d_Mod_init_117 : decode M_Mod_init.2.1 117 = .ok (.newarray .int, 2) := by decide +kernel
theorem d_Mod_init_119 : decode M_Mod_init.2.1 119 = .ok (.putfield 53, 3) := by decide +kernel
theorem d_Mod_init_122 : decode M_Mod_init.2.1 122 = .ok (.aload_n 0, 1) := by decide +kernel
theorem d_Mod_init_123 : decode M_Mod_init.2.1 123 = .ok (.bipush 16, 2) := by decide +kernel
theorem d_Mod_init_125 : decode M_Mod_init.2.1 125 = .ok (.newarray .int, 2) := by decide +kernel
theorem d_Mod_init_127 : decode M_Mod_init.2.1 127 = .ok (.putfield 56, 3) := by decide +kernel
theorem d_Mod_init_130 : decode M_Mod_init.2.1 130 = .ok (.aload_n 0, 1) := by decide +kernel
theorem d_Mod_init_131 : decode M_Mod_init.2.1 131 = .ok (.bipush 16, 2) := by decide +kernel
theorem d_Mod_init_133 : decode M_Mod_init.2.1 133 = .ok (.newarray .int, 2) := by decide +kernel
theorem d_Mod_init_135 : decode M_Mod_init.2.1 135 = .ok (.putfield 59, 3) := by decide +kernel
theorem d_Mod_init_138 : decode M_Mod_init.2.1 138 = .ok (.aload_n 0, 1) := by decide +kernel
theorem d_Mod_init_139 : decode M_Mod_init.2.1 139 = .ok (.bipush 40, 2) := by decide +kernel
theorem d_Mod_init_141 : decode M_Mod_init.2.1 141 = .ok (.newarray .int, 2) := by decide +kernel
theorem d_Mod_init_143 : decode M_Mod_init.2.1 143 = .ok (.putfield 62, 3) := by decide +kernel
theorem d_Mod_init_146 : decode M_Mod_init.2.1 146 = .ok (.iconst 0, 1) := by decide +kernel
theorem d_Mod_init_147 : decode M_Mod_init.2.1 147 = .ok (.istore_n 2, 1) := by decide +kernel
theorem d_Mod_init_148 : decode M_Mod_init.2.1 148 = .ok (.iload_n 2, 1) := by decide +kernel
theorem d_Mod_init_149 : decode M_Mod_init.2.1 149 = .ok (.sipush 256, 3) := by decide +kernel
theorem d_Mod_init_152 : decode M_Mod_init.2.1 152 = .ok (.if_icmp .ge 19, 3) := by decide +kernel
theorem d_Mod_init_155 : decode M_Mod_init.2.1 155 = .ok (.aload_n 0, 1) := by decide +kernel
theorem d_Mod_init_156 : decode M_Mod_init.2.1 156 = .ok (.getfield 41, 3) := by decide +kernel
theorem d_Mod_init_159 : decode M_Mod_init.2.1 159 = .ok (.iload_n 2, 1) := by decide +kernel
theorem d_Mod_init_160 : decode M_Mod_init.2.1 160 = .ok (.iload_n 2, 1) := by decide +kernel
theorem d_Mod_init_161 : decode M_Mod_init.2.1 161 = .ok (.invokestatic 65, 3) := by decide +kernel
theorem d_Mod_init_164 : decode M_Mod_init.2.1 164 = .ok (.iastore, 1) := by decide +kernel
theorem d_Mod_init_165 : decode M_Mod_init.2.1 165 = .ok (.iinc 2 1, 3) := by decide +kernel
theorem d_Mod_init_168 : decode M_Mod_init.2.1 168 = .ok (.goto (-20), 3) := by decide +kernel
theorem d_Mod_init_171 : decode M_Mod_init.2.1 171 = .ok (.aload_n 0, 1) := by decide +kernel
theorem d_Mod_init_172 : decode M_Mod_init.2.1 172 = .ok (.getfield 16, 3) := by decide +kernel
theorem d_Mod_init_175 : decode M_Mod_init.2.1 175 = .ok (.iconst 0, 1) := by decide +kernel
theorem d_Mod_init_176 : decode M_Mod_init.2.1 176 = .ok (.sipush 160, 3) := by decide +kernel
theorem d_Mod_init_179 : decode M_Mod_init.2.1 179 = .ok (.iastore, 1) := by decide +kernel
theorem d_Mod_init_180 : decode M_Mod_init.2.1 180 = .ok (.iconst 0, 1) := by decide +kernel
theorem d_Mod_init_181 : decode M_Mod_init.2.1 181 = .ok (.istore_n 2, 1) := by decide +kernel
theorem d_Mod_init_182 : decode M_Mod_init.2.1 182 = .ok (.iload_n 2, 1) := by decide +kernel
theorem d_Mod_init_183 : decode M_Mod_init.2.1 183 = .ok (.iconst 3, 1) := by decide +kernel
theorem d_Mod_init_184 : decode M_Mod_init.2.1 184 = .ok (.if_icmp .ge 30, 3) := by decide +kernel
theorem d_Mod_init_187 : decode M_Mod_init.2.1 187 = .ok (.aload_n 0, 1) := by decide +kernel
theorem d_Mod_init_188 : decode M_Mod_init.2.1 188 = .ok (.getfield 16, 3) := by decide +kernel
theorem d_Mod_init_191 : decode M_Mod_init.2.1 191 = .ok (.iconst 4, 1) := by decide +kernel
theorem d_Mod_init_192 : decode M_Mod_init.2.1 192 = .ok (.iload_n 2, 1) := by decide +kernel
theorem d_Mod_init_193 : decode M_Mod_init.2.1 193 = .ok (.iadd, 1) := by decide +kernel
theorem d_Mod_init_194 : decode M_Mod_init.2.1 194 = .ok (.iload_n 1, 1) := by decide +kernel
theorem d_Mod_init_195 : decode M_Mod_init.2.1 195 = .ok (.bipush 16, 2) := by decide +kernel
theorem d_Mod_init_197 : decode M_Mod_init.2.1 197 = .ok (.bipush 8, 2) := by decide +kernel
theorem d_Mod_init_199 : decode M_Mod_init.2.1 199 = .ok (.iload_n 2, 1) := by decide +kernel
theorem d_Mod_init_200 : decode M_Mod_init.2.1 200 = .ok (.imul, 1) := by decide +kernel
theorem d_Mod_init_201 : decode M_Mod_init.2.1 201 = .ok (.isub, 1) := by decide +kernel
theorem d_Mod_init_202 : decode M_Mod_init.2.1 202 = .ok (.ishr, 1) := by decide +kernel
theorem d_Mod_init_203 : decode M_Mod_init.2.1 203 = .ok (.sipush 255, 3) := by decide +kernel
theorem d_Mod_init_206 : decode M_Mod_init.2.1 206 = .ok (.iand, 1) := by decide +kernel
theorem d_Mod_init_207 : decode M_Mod_init.2.1 207 = .ok (.iastore, 1) := by decide +kernel
theorem d_Mod_init_208 : decode M_Mod_init.2.1 208 = .ok (.iinc 2 1, 3) := by decide +kernel
theorem d_Mod_init_211 : decode M_Mod_init.2.1 211 = .ok (.goto (-29), 3) := by decide +kernel
theorem d_Mod_init_214 : decode M_Mod_init.2.1 214 = .ok (.aload_n 0, 1) := by decide +kernel
theorem d_Mod_init_215 : decode M_Mod_init.2.1 215 = .ok (.invokevirtual 69, 3) := by decide +kernel
theorem d_Mod_init_218 : decode M_Mod_init.2.1 218 = .ok (.return_, 1) := by decide +kernel
theorem d_Mod_substitute_0 : decode M_Mod_substitute.2.1 0 = .ok (.iload_n 0, 1) := by decide +kernel
theorem d_Mod_substitute_1 : decode M_Mod_substitute.2.1 1 = .ok (.ifCond .ne 7, 3) := by decide +kernel
theorem d_Mod_substitute_4 : decode M_Mod_substitute.2.1 4 = .ok (.iconst 0, 1) := by decide +kernel
theorem d_Mod_substitute_5 : decode M_Mod_substitute.2.1 5 = .ok (.goto 7, 3) := by decide +kernel
theorem d_Mod_substitute_8 : decode M_Mod_substitute.2.1 8 = .ok (.iload_n 0, 1) := by decide +kernel
theorem d_Mod_substitute_9 : decode M_Mod_substitute.2.1 9 = .ok (.invokestatic 76, 3) := by decide +kernel
theorem d_Mod_substitute_12 : decode M_Mod_substitute.2.1 12 = .ok (.istore_n 1, 1) := by decide +kernel
theorem d_Mod_substitute_13 : decode M_Mod_substitute.2.1 13 = .ok (.iconst 0, 1) := by decide +kernel
theorem d_Mod_substitute_14 : decode M_Mod_substitute.2.1 14 = .ok (.istore_n 2, 1) := by decide +kernel
theorem d_Mod_substitute_15 : decode M_Mod_substitute.2.1 15 = .ok (.iconst 0, 1) := by decide +kernel
theorem d_Mod_substitute_16 : decode M_Mod_substitute.2.1 16 = .ok (.istore_n 3, 1) := by decide +kernel
theorem d_Mod_substitute_17 : decode M_Mod_substitute.2.1 17 = .ok (.iload_n 3, 1) := by decide +kernel
theorem d_Mod_substitute_18 : decode M_Mod_substitute.2.1 18 = .ok (.bipush 8, 2) := by decide +kernel
theorem d_Mod_substitute_20 : decode M_Mod_substitute.2.1 20 = .ok (.if_icmp .ge 66, 3) := by decide +kernel
theorem d_Mod_substitute_23 : decode M_Mod_substitute.2.1 23 = .ok (.iload_n 1, 1) := by decide +kernel
theorem d_Mod_substitute_24 : decode M_Mod_substitute.2.1 24 = .ok (.iload_n 3, 1) := by decide +kernel
theorem d_Mod_substitute_25 : decode M_Mod_substitute.2.1 25 = .ok (.ishr, 1) := by decide +kernel
theorem d_Mod_substitute_26 : decode M_Mod_substitute.2.1 26 = .ok (.iload_n 1, 1) := by decide +kernel
theorem d_Mod_substitute_27 : decode M_Mod_substitute.2.1 27 = .ok (.iload_n 3, 1) := by decide +kernel
theorem d_Mod_substitute_28 : decode M_Mod_substitute.2.1 28 = .ok (.iconst 4, 1) := by decide +kernel
theorem d_Mod_substitute_29 : decode M_Mod_substitute.2.1 29 = .ok (.iadd, 1) := by decide +kernel
theorem d_Mod_substitute_30 : decode M_Mod_substitute.2.1 30 = .ok (.bipush 8, 2) := by decide +kernel
theorem d_Mod_substitute_32 : decode M_Mod_substitute.2.1 32 = .ok (.irem, 1) := by decide +kernel
theorem d_Mod_substitute_33 : decode M_Mod_substitute.2.1 33 = .ok (.ishr, 1) := by decide +kernel
theorem d_Mod_substitute_34 : decode M_Mod_substitute.2.1 34 = .ok (.iadd, 1) := by decide +kernel
theorem d_Mod_substitute_35 : decode M_Mod_substitute.2.1 35 = .ok (.iload_n 1, 1) := by decide +kernel
theorem d_Mod_substitute_36 : decode M_Mod_substitute.2.1 36 = .ok (.iload_n 3, 1) := by decide +kernel
theorem d_Mod_substitute_37 : decode M_Mod_substitute.2.1 37 = .ok (.iconst 5, 1) := by decide +kernel
theorem d_Mod_substitute_38 : decode M_Mod_substitute.2.1 38 = .ok (.iadd, 1) := by decide +kernel
theorem d_Mod_substitute_39 : decode M_Mod_substitute.2.1 39 = .ok (.bipush 8, 2) := by decide +kernel
theorem d_Mod_substitute_41 : decode M_Mod_substitute.2.1 41 = .ok (.irem, 1) := by decide +kernel
theorem d_Mod_substitute_42 : decode M_Mod_substitute.2.1 42 = .ok (.ishr, 1) := by decide +kernel
theorem d_Mod_substitute_43 : decode M_Mod_substitute.2.1 43 = .ok (.iadd, 1) := by decide +kernel
theorem d_Mod_substitute_44 : decode M_Mod_substitute.2.1 44 = .ok (.iload_n 1, 1) := by decide +kernel
theorem d_Mod_substitute_45 : decode M_Mod_substitute.2.1 45 = .ok (.iload_n 3, 1) := by decide +kernel
theorem d_Mod_substitute_46 : decode M_Mod_substitute.2.1 46 = .ok (.bipush 6, 2) := by decide +kernel
theorem d_Mod_substitute_48 : decode M_Mod_substitute.2.1 48 = .ok (.iadd, 1) := by decide +kernel
theorem d_Mod_substitute_49 : decode M_Mod_substitute.2.1 49 = .ok (.bipush 8, 2) := by decide +kernel
theorem d_Mod_substitute_51 : decode M_Mod_substitute.2.1 51 = .ok (.irem, 1) := by decide +kernel
theorem d_Mod_substitute_52 : decode M_Mod_substitute.2.1 52 = .ok (.ishr, 1) := by decide +kernel
theorem d_Mod_substitute_53 : decode M_Mod_substitute.2.1 53 = .ok (.iadd, 1) := by decide +kernel
theorem d_Mod_substitute_54 : decode M_Mod_substitute.2.1 54 = .ok (.iload_n 1, 1) := by decide +kernel
theorem d_Mod_substitute_55 : decode M_Mod_substitute.2.1 55 = .ok (.iload_n 3, 1) := by decide +kernel
theorem d_Mod_substitute_56 : decode M_Mod_substitute.2.1 56 = .ok (.bipush 7, 2) := by decide +kernel
theorem d_Mod_substitute_58 : decode M_Mod_substitute.2.1 58 = .ok (.iadd, 1) := by decide +kernel
theorem d_Mod_substitute_59 : decode M_Mod_substitute.2.1 59 = .ok (.bipush 8, 2) := by decide +kernel
theorem d_Mod_substitute_61 : decode M_Mod_substitute.2.1 61 = .ok (.irem, 1) := by decide +kernel
theorem d_Mod_substitute_62 : decode M_Mod_substitute.2.1 62 = .ok (.ishr, 1) := by decide +kernel
theorem d_Mod_substitute_63 : decode M_Mod_substitute.2.1 63 = .ok (.iadd, 1) := by decide +kernel
theorem d_Mod_substitute_64 : decode M_Mod_substitute.2.1 64 = .ok (.bipush 99, 2) := by decide +kernel
theorem d_Mod_substitute_66 : decode M_Mod_substitute.2.1 66 = .ok (.iload_n 3, 1) := by decide +kernel
theorem d_Mod_substitute_67 : decode M_Mod_substitute.2.1 67 = .ok (.ishr, 1) := by decide +kernel
theorem d_Mod_substitute_68 : decode M_Mod_substitute.2.1 68 = .ok (.iadd, 1) := by decide +kernel
theorem d_Mod_substitute_69 : decode M_Mod_substitute.2.1 69 = .ok (.iconst 1, 1) := by decide +kernel
theorem d_Mod_substitute_70 : decode M_Mod_substitute.2.1 70 = .ok (.iand, 1) := by decide +kernel
theorem d_Mod_substitute_71 : decode M_Mod_substitute.2.1 71 = .ok (.istore 4, 2) := by decide +kernel
theorem d_Mod_substitute_73 : decode M_Mod_substitute.2.1 73 = .ok (.iload_n 2, 1) := by decide +kernel
theorem d_Mod_substitute_74 : decode M_Mod_substitute.2.1 74 = .ok (.iload 4, 2) := by decide +kernel
theorem d_Mod_substitute_76 : decode M_Mod_substitute.2.1 76 = .ok (.iload_n 3, 1) := by decide +kernel
theorem d_Mod_substitute_77 : decode M_Mod_substitute.2.1 77 = .ok (.ishl, 1) := by decide +kernel
theorem d_Mod_substitute_78 : decode M_Mod_substitute.2.1 78 = .ok (.ior, 1) := by decide +kernel
theorem d_Mod_substitute_79 : decode M_Mod_substitute.2.1 79 = .ok (.istore_n 2, 1) := by decide +kernel
theorem d_Mod_substitute_80 : decode M_Mod_substitute.2.1 80 = .ok (.iinc 3 1, 3) := by decide +kernel
theorem d_Mod_substitute_83 : decode M_Mod_substitute.2.1 83 = .ok (.goto (-66), 3) := by decide +kernel
theorem d_Mod_substitute_86 : decode M_Mod_substitute.2.1 86 = .ok (.iload_n 2, 1) := by decide +kernel
theorem d_Mod_substitute_87 : decode M_Mod_substitute.2.1 87 = .ok (.ireturn, 1) := by decide +kernel
theorem d_Mod_inverse_0 : decode M_Mod_inverse.2.1 0 = .ok (.iconst 1, 1) := by decide +kernel
theorem d_Mod_inverse_1 : decode M_Mod_inverse.2.1 1 = .ok (.istore_n 1, 1) := by decide +kernel
theorem d_Mod_inverse_2 : decode M_Mod_inverse.2.1 2 = .ok (.iconst 0, 1) := by decide +kernel
theorem d_Mod_inverse_3 : decode M_Mod_inverse.2.1 3 = .ok (.istore_n 2, 1) := by decide +kernel
theorem d_Mod_inverse_4 : decode M_Mod_inverse.2.1 4 = .ok (.iload_n 2, 1) := by decide +kernel
theorem d_Mod_inverse_5 : decode M_Mod_inverse.2.1 5 = .ok (.sipush 254, 3) := by decide +kernel
theorem d_Mod_inverse_8 : decode M_Mod_inverse.2.1 8 = .ok (.if_icmp .ge 15, 3) := by decide +kernel
theorem d_Mod_inverse_11 : decode M_Mod_inverse.2.1 11 = .ok (.iload_n 1, 1) := by decide +kernel
theorem d_Mod_inverse_12 : decode M_Mod_inverse.2.1 12 = .ok (.iload_n 0, 1) := by decide +kernel
theorem d_Mod_inverse_13 : decode M_Mod_inverse.2.1 13 = .ok (.invokestatic 72, 3) := by decide +kernel
theorem d_Mod_inverse_16 : decode M_Mod_inverse.2.1 16 = .ok (.istore_n 1, 1) := by decide +kernel
theorem d_Mod_inverse_17 : decode M_Mod_inverse.2.1 17 = .ok (.iinc 2 1, 3) := by decide +kernel
theorem d_Mod_inverse_20 : decode M_Mod_inverse.2.1 20 = .ok (.goto (-16), 3) := by decide +kernel
theorem d_Mod_inverse_23 : decode M_Mod_inverse.2.1 23 = .ok (.iload_n 1, 1) := by decide +kernel
theorem d_Mod_inverse_24 : decode M_Mod_inverse.2.1 24 = .ok (.ireturn, 1) := by decide +kernel
theorem d_Mod_times_0 : decode M_Mod_times.2.1 0 = .ok (.iconst 0, 1) := by decide +kernel
theorem d_Mod_times_1 : decode M_Mod_times.2.1 1 = .ok (.istore_n 2, 1) := by decide +kernel
theorem d_Mod_times_2 : decode M_Mod_times.2.1 2 = .ok (.iload_n 0, 1) := by decide +kernel
theorem d_Mod_times_3 : decode M_Mod_times.2.1 3 = .ok (.istore_n 3, 1) := by decide +kernel
theorem d_Mod_times_4 : decode M_Mod_times.2.1 4 = .ok (.iconst 0, 1) := by decide +kernel
theorem d_Mod_times_5 : decode M_Mod_times.2.1 5 = .ok (.istore 4, 2) := by decide +kernel
theorem d_Mod_times_7 : decode M_Mod_times.2.1 7 = .ok (.iload 4, 2) := by decide +kernel
theorem d_Mod_times_9 : decode M_Mod_times.2.1 9 = .ok (.bipush 8, 2) := by decide +kernel
theorem d_Mod_times_11 : decode M_Mod_times.2.1 11 = .ok (.if_icmp .ge 47, 3) := by decide +kernel
theorem d_Mod_times_14 : decode M_Mod_times.2.1 14 = .ok (.iload_n 1, 1) := by decide +kernel
theorem d_Mod_times_15 : decode M_Mod_times.2.1 15 = .ok (.iload 4, 2) := by decide +kernel
theorem d_Mod_times_17 : decode M_Mod_times.2.1 17 = .ok (.ishr, 1) := by decide +kernel
theorem d_Mod_times_18 : decode M_Mod_times.2.1 18 = .ok (.iconst 1, 1) := by decide +kernel
theorem d_Mod_times_19 : decode M_Mod_times.2.1 19 = .ok (.iand, 1) := by decide +kernel
theorem d_Mod_times_20 : decode M_Mod_times.2.1 20 = .ok (.iconst 1, 1) := by decide +kernel
theorem d_Mod_times_21 : decode M_Mod_times.2.1 21 = .ok (.if_icmp .ne 9, 3) := by decide +kernel
theorem d_Mod_times_24 : decode M_Mod_times.2.1 24 = .ok (.iload_n 2, 1) := by decide +kernel
theorem d_Mod_times_25 : decode M_Mod_times.2.1 25 = .ok (.iload_n 3, 1) := by decide +kernel
theorem d_Mod_times_26 : decode M_Mod_times.2.1 26 = .ok (.ixor, 1) := by decide +kernel
theorem d_Mod_times_27 : decode M_Mod_times.2.1 27 = .ok (.goto 4, 3) := by decide +kernel
theorem d_Mod_times_30 : decode M_Mod_times.2.1 30 = .ok (.iload_n 2, 1) := by decide +kernel
theorem d_Mod_times_31 : decode M_Mod_times.2.1 31 = .ok (.istore_n 2, 1) := by decide +kernel
theorem d_Mod_times_32 : decode M_Mod_times.2.1 32 = .ok (.iload_n 3, 1) := by decide +kernel
theorem d_Mod_times_33 : decode M_Mod_times.2.1 33 = .ok (.bipush 127, 2) := by decide +kernel
theorem d_Mod_times_35 : decode M_Mod_times.2.1 35 = .ok (.if_icmp .le 13, 3) := by decide +kernel
theorem d_Mod_times_38 : decode M_Mod_times.2.1 38 = .ok (.iconst 2, 1) := by decide +kernel
theorem d_Mod_times_39 : decode M_Mod_times.2.1 39 = .ok (.iload_n 3, 1) := by decide +kernel
theorem d_Mod_times_40 : decode M_Mod_times.2.1 40 = .ok (.imul, 1) := by decide +kernel
theorem d_Mod_times_41 : decode M_Mod_times.2.1 41 = .ok (.sipush 283, 3) := by decide +kernel
theorem d_Mod_times_44 : decode M_Mod_times.2.1 44 = .ok (.ixor, 1) := by decide +kernel
theorem d_Mod_times_45 : decode M_Mod_times.2.1 45 = .ok (.goto 6, 3) := by decide +kernel
theorem d_Mod_times_48 : decode M_Mod_times.2.1 48 = .ok (.iconst 2, 1) := by decide +kernel
theorem d_Mod_times_49 : decode M_Mod_times.2.1 49 = .ok (.iload_n 3, 1) := by decide +kernel
theorem d_Mod_times_50 : decode M_Mod_times.2.1 50 = .ok (.imul, 1) := by decide +kernel
theorem d_Mod_times_51 : decode M_Mod_times.2.1 51 = .ok (.istore_n 3, 1) := by decide +kernel
theorem d_Mod_times_52 : decode M_Mod_times.2.1 52 = .ok (.iinc 4 1, 3) := by decide +kernel
theorem d_Mod_times_55 : decode M_Mod_times.2.1 55 = .ok (.goto (-48), 3) := by decide +kernel
theorem d_Mod_times_58 : decode M_Mod_times.2.1 58 = .ok (.iload_n 2, 1) := by decide +kernel
theorem d_Mod_times_59 : decode M_Mod_times.2.1 59 = .ok (.ireturn, 1) := by decide +kernel
theorem d_Mod_expand_0 : decode M_Mod_expand.2.1 0 = .ok (.iconst 0, 1) := by decide +kernel
theorem d_Mod_expand_1 : decode M_Mod_expand.2.1 1 = .ok (.istore_n 1, 1) := by decide +kernel
theorem d_Mod_expand_2 : decode M_Mod_expand.2.1 2 = .ok (.iload_n 1, 1) := by decide +kernel
theorem d_Mod_expand_3 : decode M_Mod_expand.2.1 3 = .ok (.bipush 16, 2) := by decide +kernel
theorem d_Mod_expand_5 : decode M_Mod_expand.2.1 5 = .ok (.if_icmp .ge 21, 3) := by decide +kernel
theorem d_Mod_expand_8 : decode M_Mod_expand.2.1 8 = .ok (.aload_n 0, 1) := by decide +kernel
theorem d_Mod_expand_9 : decode M_Mod_expand.2.1 9 = .ok (.getfield 44, 3) := by decide +kernel
theorem d_Mod_expand_12 : decode M_Mod_expand.2.1 12 = .ok (.iload_n 1, 1) := by decide +kernel
theorem d_Mod_expand_13 : decode M_Mod_expand.2.1 13 = .ok (.aload_n 0, 1) := by decide +kernel
theorem d_Mod_expand_14 : decode M_Mod_expand.2.1 14 = .ok (.getfield 7, 3) := by decide +kernel
theorem d_Mod_expand_17 : decode M_Mod_expand.2.1 17 = .ok (.iload_n 1, 1) := by decide +kernel
theorem d_Mod_expand_18 : decode M_Mod_expand.2.1 18 = .ok (.iaload, 1) := by decide +kernel
theorem d_Mod_expand_19 : decode M_Mod_expand.2.1 19 = .ok (.iastore, 1) := by decide +kernel
theorem d_Mod_expand_20 : decode M_Mod_expand.2.1 20 = .ok (.iinc 1 1, 3) := by decide +kernel
theorem d_Mod_expand_23 : decode M_Mod_expand.2.1 23 = .ok (.goto (-21), 3) := by decide +kernel
theorem d_Mod_expand_26 : decode M_Mod_expand.2.1 26 = .ok (.iconst 1, 1) := by decide +kernel
theorem d_Mod_expand_27 : decode M_Mod_expand.2.1 27 = .ok (.istore_n 1, 1) := by decide +kernel
theorem d_Mod_expand_28 : decode M_Mod_expand.2.1 28 = .ok (.iconst 4, 1) := by decide +kernel
theorem d_Mod_expand_29 : decode M_Mod_expand.2.1 29 = .ok (.istore_n 2, 1) := by decide +kernel
theorem d_Mod_expand_30 : decode M_Mod_expand.2.1 30 = .ok (.iload_n 2, 1) := by decide +kernel
theorem d_Mod_expand_31 : decode M_Mod_expand.2.1 31 = .ok (.bipush 44, 2) := by decide +kernel
theorem d_Mod_expand_33 : decode M_Mod_expand.2.1 33 = .ok (.if_icmp .ge 142, 3) := by decide +kernel
theorem d_Mod_expand_36 : decode M_Mod_expand.2.1 36 = .ok (.iload_n 2, 1) := by decide +kernel
theorem d_Mod_expand_37 : decode M_Mod_expand.2.1 37 = .ok (.iconst 4, 1) := by decide +kernel
theorem d_Mod_expand_38 : decode M_Mod_expand.2.1 38 = .ok (.irem, 1) := by decide +kernel
theorem d_Mod_expand_39 : decode M_Mod_expand.2.1 39 = .ok (.ifCond .ne 7, 3) := by decide +kernel
theorem d_Mod_expand_42 : decode M_Mod_expand.2.1 42 = .ok (.iconst 1, 1) := by decide +kernel
theorem d_Mod_expand_43 : decode M_Mod_expand.2.1 43 = .ok (.goto 4, 3) := by decide +kernel
theorem d_Mod_expand_46 : decode M_Mod_expand.2.1 46 = .ok (.iconst 0, 1) := by decide +kernel
theorem d_Mod_expand_47 : decode M_Mod_expand.2.1 47 = .ok (.istore_n 3, 1) := by decide +kernel
theorem d_Mod_expand_48 : decode M_Mod_expand.2.1 48 = .ok (.iconst 0, 1) := by decide +kernel
theorem d_Mod_expand_49 : decode M_Mod_expand.2.1 49 = .ok (.istore 4, 2) := by decide +kernel
theorem d_Mod_expand_51 : decode M_Mod_expand.2.1 51 = .ok (.iload 4, 2) := by decide +kernel
theorem d_Mod_expand_53 : decode M_Mod_expand.2.1 53 = .ok (.iconst 4, 1) := by decide +kernel
theorem d_Mod_expand_54 : decode M_Mod_expand.2.1 54 = .ok (.if_icmp .ge 101, 3) := by decide +kernel
theorem d_Mod_expand_57 : decode M_Mod_expand.2.1 57 = .ok (.iload_n 3, 1) := by decide +kernel
theorem d_Mod_expand_58 : decode M_Mod_expand.2.1 58 = .ok (.ifCond .eq 28, 3) := by decide +kernel
theorem d_Mod_expand_61 : decode M_Mod_expand.2.1 61 = .ok (.aload_n 0, 1) := by decide +kernel
theorem d_Mod_expand_62 : decode M_Mod_expand.2.1 62 = .ok (.getfield 41, 3) := by decide +kernel
theorem d_Mod_expand_65 : decode M_Mod_expand.2.1 65 = .ok (.aload_n 0, 1) := by decide +kernel
theorem d_Mod_expand_66 : decode M_Mod_expand.2.1 66 = .ok (.getfield 44, 3) := by decide +kernel
theorem d_Mod_expand_69 : decode M_Mod_expand.2.1 69 = .ok (.iconst 4, 1) := by decide +kernel
theorem d_Mod_expand_70 : decode M_Mod_expand.2.1 70 = .ok (.iload_n 2, 1) := by decide +kernel
theorem d_Mod_expand_71 : decode M_Mod_expand.2.1 71 = .ok (.imul, 1) := by decide +kernel
theorem d_Mod_expand_72 : decode M_Mod_expand.2.1 72 = .ok (.iconst 4, 1) := by decide +kernel
theorem d_Mod_expand_73 : decode M_Mod_expand.2.1 73 = .ok (.isub, 1) := by decide +kernel
theorem d_Mod_expand_74 : decode M_Mod_expand.2.1 74 = .ok (.iload 4, 2) := by decide +kernel
theorem d_Mod_expand_76 : decode M_Mod_expand.2.1 76 = .ok (.iconst 1, 1) := by decide +kernel
theorem d_Mod_expand_77 : decode M_Mod_expand.2.1 77 = .ok (.iadd, 1) := by decide +kernel
theorem d_Mod_expand_78 : decode M_Mod_expand.2.1 78 = .ok (.iconst 4, 1) := by decide +kernel
theorem d_Mod_expand_79 : decode M_Mod_expand.2.1 79 = .ok (.irem, 1) := by decide +kernel
theorem d_Mod_expand_80 : decode M_Mod_expand.2.1 80 = .ok (.iadd, 1) := by decide +kernel
theorem d_Mod_expand_81 : decode M_Mod_expand.2.1 81 = .ok (.iaload, 1) := by decide +kernel
theorem d_Mod_expand_82 : decode M_Mod_expand.2.1 82 = .ok (.iaload, 1) := by decide +kernel
theorem d_Mod_expand_83 : decode M_Mod_expand.2.1 83 = .ok (.goto 16, 3) := by decide +kernel
theorem d_Mod_expand_86 : decode M_Mod_expand.2.1 86 = .ok (.aload_n 0, 1) := by decide +kernel
theorem d_Mod_expand_87 : decode M_Mod_expand.2.1 87 = .ok (.getfield 44, 3) := by decide +kernel
theorem d_Mod_expand_90 : decode M_Mod_expand.2.1 90 = .ok (.iconst 4, 1) := by decide +kernel
theorem d_Mod_expand_91 : decode M_Mod_expand.2.1 91 = .ok (.iload_n 2, 1) := by decide +kernel
theorem d_Mod_expand_92 : decode M_Mod_expand.2.1 92 = .ok (.imul, 1) := by decide +kernel
theorem d_Mod_expand_93 : decode M_Mod_expand.2.1 93 = .ok (.iconst 4, 1) := by decide +kernel
theorem d_Mod_expand_94 : decode M_Mod_expand.2.1 94 = .ok (.isub, 1) := by decide +kernel
theorem d_Mod_expand_95 : decode M_Mod_expand.2.1 95 = .ok (.iload 4, 2) := by decide +kernel
theorem d_Mod_expand_97 : decode M_Mod_expand.2.1 97 = .ok (.iadd, 1) := by decide +kernel
theorem d_Mod_expand_98 : decode M_Mod_expand.2.1 98 = .ok (.iaload, 1) := by decide +kernel
theorem d_Mod_expand_99 : decode M_Mod_expand.2.1 99 = .ok (.istore 5, 2) := by decide +kernel
theorem d_Mod_expand_101 : decode M_Mod_expand.2.1 101 = .ok (.iload_n 3, 1) := by decide +kernel
theorem d_Mod_expand_102 : decode M_Mod_expand.2.1 102 = .ok (.ifCond .eq 15, 3) := by decide +kernel
theorem d_Mod_expand_105 : decode M_Mod_expand.2.1 105 = .ok (.iload 4, 2) := by decide +kernel
theorem d_Mod_expand_107 : decode M_Mod_expand.2.1 107 = .ok (.ifCond .ne 10, 3) := by decide +kernel
theorem d_Mod_expand_110 : decode M_Mod_expand.2.1 110 = .ok (.iload 5, 2) := by decide +kernel
theorem d_Mod_expand_112 : decode M_Mod_expand.2.1 112 = .ok (.iload_n 1, 1) := by decide +kernel
theorem d_Mod_expand_113 : decode M_Mod_expand.2.1 113 = .ok (.ixor, 1) := by decide +kernel
theorem d_Mod_expand_114 : decode M_Mod_expand.2.1 114 = .ok (.goto 5, 3) := by decide +kernel
theorem d_Mod_expand_117 : decode M_Mod_expand.2.1 117 = .ok (.iload 5, 2) := by decide +kernel
theorem d_Mod_expand_119 : decode M_Mod_expand.2.1 119 = .ok (.istore 5, 2) := by decide +kernel
theorem d_Mod_expand_121 : decode M_Mod_expand.2.1 121 = .ok (.aload_n 0, 1) := by decide +kernel
theorem d_Mod_expand_122 : decode M_Mod_expand.2.1 122 = .ok (.getfield 44, 3) := by decide +kernel
theorem d_Mod_expand_125 : decode M_Mod_expand.2.1 125 = .ok (.iconst 4, 1) := by decide +kernel
theorem d_Mod_expand_126 : decode M_Mod_expand.2.1 126 = .ok (.iload_n 2, 1) := by decide +kernel
theorem d_Mod_expand_127 : decode M_Mod_expand.2.1 127 = .ok (.imul, 1) := by decide +kernel
theorem d_Mod_expand_128 : decode M_Mod_expand.2.1 128 = .ok (.iload 4, 2) := by decide +kernel
theorem d_Mod_expand_130 : decode M_Mod_expand.2.1 130 = .ok (.iadd, 1) := by decide +kernel
theorem d_Mod_expand_131 : decode M_Mod_expand.2.1 131 = .ok (.aload_n 0, 1) := by decide +kernel
theorem d_Mod_expand_132 : decode M_Mod_expand.2.1 132 = .ok (.getfield 44, 3) := by decide +kernel
theorem d_Mod_expand_135 : decode M_Mod_expand.2.1 135 = .ok (.iconst 4, 1) := by decide +kernel
theorem d_Mod_expand_136 : decode M_Mod_expand.2.1 136 = .ok (.iload_n 2, 1) := by decide +kernel
theorem d_Mod_expand_137 : decode M_Mod_expand.2.1 137 = .ok (.imul, 1) := by decide +kernel
theorem d_Mod_expand_138 : decode M_Mod_expand.2.1 138 = .ok (.bipush 16, 2) := by decide +kernel
theorem d_Mod_expand_140 : decode M_Mod_expand.2.1 140 = .ok (.isub, 1) := by decide +kernel
theorem d_Mod_expand_141 : decode M_Mod_expand.2.1 141 = .ok (.iload 4, 2) := by decide +kernel
theorem d_Mod_expand_143 : decode M_Mod_expand.2.1 143 = .ok (.iadd, 1) := by decide +kernel
theorem d_Mod_expand_144 : decode M_Mod_expand.2.1 144 = .ok (.iaload, 1) := by decide +kernel
theorem d_Mod_expand_145 : decode M_Mod_expand.2.1 145 = .ok (.iload 5, 2) := by decide +kernel
theorem d_Mod_expand_147 : decode M_Mod_expand.2.1 147 = .ok (.ixor, 1) := by decide +kernel
theorem d_Mod_expand_148 : decode M_Mod_expand.2.1 148 = .ok (.iastore, 1) := by decide +kernel
theorem d_Mod_expand_149 : decode M_Mod_expand.2.1 149 = .ok (.iinc 4 1, 3) := by decide +kernel
theorem d_Mod_expand_152 : decode M_Mod_expand.2.1 152 = .ok (.goto (-101), 3) := by decide +kernel
theorem d_Mod_expand_155 : decode M_Mod_expand.2.1 155 = .ok (.iload_n 3, 1) := by decide +kernel
theorem d_Mod_expand_156 : decode M_Mod_expand.2.1 156 = .ok (.ifCond .eq 11, 3) := by decide +kernel
theorem d_Mod_expand_159 : decode M_Mod_expand.2.1 159 = .ok (.iload_n 1, 1) := by decide +kernel
theorem d_Mod_expand_160 : decode M_Mod_expand.2.1 160 = .ok (.iconst 2, 1) := by decide +kernel
theorem d_Mod_expand_161 : decode M_Mod_expand.2.1 161 = .ok (.invokestatic 72, 3) := by decide +kernel
theorem d_Mod_expand_164 : decode M_Mod_expand.2.1 164 = .ok (.goto 4, 3) := by decide +kernel
theorem d_Mod_expand_167 : decode M_Mod_expand.2.1 167 = .ok (.iload_n 1, 1) := by decide +kernel
theorem d_Mod_expand_168 : decode M_Mod_expand.2.1 168 = .ok (.istore_n 1, 1) := by decide +kernel
theorem d_Mod_expand_169 : decode M_Mod_expand.2.1 169 = .ok (.iinc 2 1, 3) := by decide +kernel
theorem d_Mod_expand_172 : decode M_Mod_expand.2.1 172 = .ok (.goto (-142), 3) := by decide +kernel
theorem d_Mod_expand_175 : decode M_Mod_expand.2.1 175 = .ok (.return_, 1) := by decide +kernel
theorem d_Mod_put_0 : decode M_Mod_put.2.1 0 = .ok (.iload_n 1, 1) := by decide +kernel
theorem d_Mod_put_1 : decode M_Mod_put.2.1 1 = .ok (.ifCond .lt 19, 3) := by decide +kernel
theorem d_Mod_put_4 : decode M_Mod_put.2.1 4 = .ok (.iload_n 1, 1) := by decide +kernel
theorem d_Mod_put_5 : decode M_Mod_put.2.1 5 = .ok (.sipush 255, 3) := by decide +kernel
theorem d_Mod_put_8 : decode M_Mod_put.2.1 8 = .ok (.if_icmp .gt 12, 3) := by decide +kernel
theorem d_Mod_put_11 : decode M_Mod_put.2.1 11 = .ok (.aload_n 0, 1) := by decide +kernel
theorem d_Mod_put_12 : decode M_Mod_put.2.1 12 = .ok (.getfield 97, 3) := by decide +kernel
theorem d_Mod_put_15 : decode M_Mod_put.2.1 15 = .ok (.bipush 40, 2) := by decide +kernel
theorem d_Mod_put_17 : decode M_Mod_put.2.1 17 = .ok (.if_icmp .ne 5, 3) := by decide +kernel
theorem d_Mod_put_20 : decode M_Mod_put.2.1 20 = .ok (.iconst 0, 1) := by decide +kernel
theorem d_Mod_put_21 : decode M_Mod_put.2.1 21 = .ok (.ireturn, 1) := by decide +kernel
theorem d_Mod_put_22 : decode M_Mod_put.2.1 22 = .ok (.aload_n 0, 1) := by decide +kernel
theorem d_Mod_put_23 : decode M_Mod_put.2.1 23 = .ok (.getfield 32, 3) := by decide +kernel
theorem d_Mod_put_26 : decode M_Mod_put.2.1 26 = .ok (.aload_n 0, 1) := by decide +kernel
theorem d_Mod_put_27 : decode M_Mod_put.2.1 27 = .ok (.getfield 97, 3) := by decide +kernel
theorem d_Mod_put_30 : decode M_Mod_put.2.1 30 = .ok (.iload_n 1, 1) := by decide +kernel
theorem d_Mod_put_31 : decode M_Mod_put.2.1 31 = .ok (.iastore, 1) := by decide +kernel
theorem d_Mod_put_32 : decode M_Mod_put.2.1 32 = .ok (.aload_n 0, 1) := by decide +kernel
theorem d_Mod_put_33 : decode M_Mod_put.2.1 33 = .ok (.dup, 1) := by decide +kernel
theorem d_Mod_put_34 : decode M_Mod_put.2.1 34 = .ok (.getfield 97, 3) := by decide +kernel
theorem d_Mod_put_37 : decode M_Mod_put.2.1 37 = .ok (.iconst 1, 1) := by decide +kernel
theorem d_Mod_put_38 : decode M_Mod_put.2.1 38 = .ok (.iadd, 1) := by decide +kernel
theorem d_Mod_put_39 : decode M_Mod_put.2.1 39 = .ok (.putfield 97, 3) := by decide +kernel
theorem d_Mod_put_42 : decode M_Mod_put.2.1 42 = .ok (.iconst 1, 1) := by decide +kernel
theorem d_Mod_put_43 : decode M_Mod_put.2.1 43 = .ok (.ireturn, 1) := by decide +kernel
theorem d_Mod_wipe_0 : decode M_Mod_wipe.2.1 0 = .ok (.aload_n 0, 1) := by decide +kernel
theorem d_Mod_wipe_1 : decode M_Mod_wipe.2.1 1 = .ok (.getfield 97, 3) := by decide +kernel
theorem d_Mod_wipe_4 : decode M_Mod_wipe.2.1 4 = .ok (.istore_n 1, 1) := by decide +kernel
theorem d_Mod_wipe_5 : decode M_Mod_wipe.2.1 5 = .ok (.aload_n 0, 1) := by decide +kernel
theorem d_Mod_wipe_6 : decode M_Mod_wipe.2.1 6 = .ok (.iconst 0, 1) := by decide +kernel
theorem d_Mod_wipe_7 : decode M_Mod_wipe.2.1 7 = .ok (.putfield 97, 3) := by decide +kernel
theorem d_Mod_wipe_10 : decode M_Mod_wipe.2.1 10 = .ok (.iload_n 1, 1) := by decide +kernel
theorem d_Mod_wipe_11 : decode M_Mod_wipe.2.1 11 = .ok (.ireturn, 1) := by decide +kernel
theorem d_Mod_answered_0 : decode M_Mod_answered.2.1 0 = .ok (.aload_n 0, 1) := by decide +kernel
theorem d_Mod_answered_1 : decode M_Mod_answered.2.1 1 = .ok (.getfield 100, 3) := by decide +kernel
theorem d_Mod_answered_4 : decode M_Mod_answered.2.1 4 = .ok (.ireturn, 1) := by decide +kernel
theorem d_Mod_answer_0 : decode M_Mod_answer.2.1 0 = .ok (.iload_n 1, 1) := by decide +kernel
theorem d_Mod_answer_1 : decode M_Mod_answer.2.1 1 = .ok (.ifCond .lt 20, 3) := by decide +kernel
theorem d_Mod_answer_4 : decode M_Mod_answer.2.1 4 = .ok (.iload_n 1, 1) := by decide +kernel
theorem d_Mod_answer_5 : decode M_Mod_answer.2.1 5 = .ok (.aload_n 0, 1) := by decide +kernel
theorem d_Mod_answer_6 : decode M_Mod_answer.2.1 6 = .ok (.getfield 100, 3) := by decide +kernel
theorem d_Mod_answer_9 : decode M_Mod_answer.2.1 9 = .ok (.if_icmp .ge 12, 3) := by decide +kernel
theorem d_Mod_answer_12 : decode M_Mod_answer.2.1 12 = .ok (.aload_n 0, 1) := by decide +kernel
theorem d_Mod_answer_13 : decode M_Mod_answer.2.1 13 = .ok (.getfield 35, 3) := by decide +kernel
theorem d_Mod_answer_16 : decode M_Mod_answer.2.1 16 = .ok (.iload_n 1, 1) := by decide +kernel
theorem d_Mod_answer_17 : decode M_Mod_answer.2.1 17 = .ok (.iaload, 1) := by decide +kernel
theorem d_Mod_answer_18 : decode M_Mod_answer.2.1 18 = .ok (.goto 4, 3) := by decide +kernel
theorem d_Mod_answer_21 : decode M_Mod_answer.2.1 21 = .ok (.iconst (-1), 1) := by decide +kernel
theorem d_Mod_answer_22 : decode M_Mod_answer.2.1 22 = .ok (.ireturn, 1) := by decide +kernel
theorem d_Mod_send_0 : decode M_Mod_send.2.1 0 = .ok (.aload_n 0, 1) := by decide +kernel
theorem d_Mod_send_1 : decode M_Mod_send.2.1 1 = .ok (.invokevirtual 148, 3) := by decide +kernel
theorem d_Mod_send_4 : decode M_Mod_send.2.1 4 = .ok (.istore_n 1, 1) := by decide +kernel
theorem d_Mod_send_5 : decode M_Mod_send.2.1 5 = .ok (.aload_n 0, 1) := by decide +kernel
theorem d_Mod_send_6 : decode M_Mod_send.2.1 6 = .ok (.iconst 0, 1) := by decide +kernel
theorem d_Mod_send_7 : decode M_Mod_send.2.1 7 = .ok (.putfield 97, 3) := by decide +kernel
theorem d_Mod_send_10 : decode M_Mod_send.2.1 10 = .ok (.iload_n 1, 1) := by decide +kernel
theorem d_Mod_send_11 : decode M_Mod_send.2.1 11 = .ok (.ireturn, 1) := by decide +kernel
theorem d_Mod_take_0 : decode M_Mod_take.2.1 0 = .ok (.aload_n 0, 1) := by decide +kernel
theorem d_Mod_take_1 : decode M_Mod_take.2.1 1 = .ok (.iconst 0, 1) := by decide +kernel
theorem d_Mod_take_2 : decode M_Mod_take.2.1 2 = .ok (.putfield 100, 3) := by decide +kernel
theorem d_Mod_take_5 : decode M_Mod_take.2.1 5 = .ok (.aload_n 0, 1) := by decide +kernel
theorem d_Mod_take_6 : decode M_Mod_take.2.1 6 = .ok (.getfield 97, 3) := by decide +kernel
theorem d_Mod_take_9 : decode M_Mod_take.2.1 9 = .ok (.iconst 4, 1) := by decide +kernel
theorem d_Mod_take_10 : decode M_Mod_take.2.1 10 = .ok (.if_icmp .lt 35, 3) := by decide +kernel
theorem d_Mod_take_13 : decode M_Mod_take.2.1 13 = .ok (.aload_n 0, 1) := by decide +kernel
theorem d_Mod_take_14 : decode M_Mod_take.2.1 14 = .ok (.getfield 97, 3) := by decide +kernel
theorem d_Mod_take_17 : decode M_Mod_take.2.1 17 = .ok (.iconst 4, 1) := by decide +kernel
theorem d_Mod_take_18 : decode M_Mod_take.2.1 18 = .ok (.if_icmp .le 31, 3) := by decide +kernel
theorem d_Mod_take_21 : decode M_Mod_take.2.1 21 = .ok (.aload_n 0, 1) := by decide +kernel
theorem d_Mod_take_22 : decode M_Mod_take.2.1 22 = .ok (.getfield 97, 3) := by decide +kernel
theorem d_Mod_take_25 : decode M_Mod_take.2.1 25 = .ok (.bipush 6, 2) := by decide +kernel
theorem d_Mod_take_27 : decode M_Mod_take.2.1 27 = .ok (.if_icmp .lt 18, 3) := by decide +kernel
theorem d_Mod_take_30 : decode M_Mod_take.2.1 30 = .ok (.aload_n 0, 1) := by decide +kernel
theorem d_Mod_take_31 : decode M_Mod_take.2.1 31 = .ok (.getfield 32, 3) := by decide +kernel
theorem d_Mod_take_34 : decode M_Mod_take.2.1 34 = .ok (.iconst 4, 1) := by decide +kernel
theorem d_Mod_take_35 : decode M_Mod_take.2.1 35 = .ok (.iaload, 1) := by decide +kernel
theorem d_Mod_take_36 : decode M_Mod_take.2.1 36 = .ok (.aload_n 0, 1) := by decide +kernel
theorem d_Mod_take_37 : decode M_Mod_take.2.1 37 = .ok (.getfield 97, 3) := by decide +kernel
theorem d_Mod_take_40 : decode M_Mod_take.2.1 40 = .ok (.iconst 5, 1) := by decide +kernel
theorem d_Mod_take_41 : decode M_Mod_take.2.1 41 = .ok (.isub, 1) := by decide +kernel
theorem d_Mod_take_42 : decode M_Mod_take.2.1 42 = .ok (.if_icmp .eq 7, 3) := by decide +kernel
theorem d_Mod_take_45 : decode M_Mod_take.2.1 45 = .ok (.sipush 26368, 3) := by decide +kernel
theorem d_Mod_take_48 : decode M_Mod_take.2.1 48 = .ok (.ireturn, 1) := by decide +kernel
theorem d_Mod_take_49 : decode M_Mod_take.2.1 49 = .ok (.aload_n 0, 1) := by decide +kernel
theorem d_Mod_take_50 : decode M_Mod_take.2.1 50 = .ok (.getfield 32, 3) := by decide +kernel
theorem d_Mod_take_53 : decode M_Mod_take.2.1 53 = .ok (.iconst 0, 1) := by decide +kernel
theorem d_Mod_take_54 : decode M_Mod_take.2.1 54 = .ok (.iaload, 1) := by decide +kernel
theorem d_Mod_take_55 : decode M_Mod_take.2.1 55 = .ok (.ifCond .eq 19, 3) := by decide +kernel
theorem d_Mod_take_58 : decode M_Mod_take.2.1 58 = .ok (.aload_n 0, 1) := by decide +kernel
theorem d_Mod_take_59 : decode M_Mod_take.2.1 59 = .ok (.getfield 32, 3) := by decide +kernel
theorem d_Mod_take_62 : decode M_Mod_take.2.1 62 = .ok (.iconst 0, 1) := by decide +kernel
theorem d_Mod_take_63 : decode M_Mod_take.2.1 63 = .ok (.iaload, 1) := by decide +kernel
theorem d_Mod_take_64 : decode M_Mod_take.2.1 64 = .ok (.sipush 128, 3) := by decide +kernel
theorem d_Mod_take_67 : decode M_Mod_take.2.1 67 = .ok (.if_icmp .eq 7, 3) := by decide +kernel
theorem d_Mod_take_70 : decode M_Mod_take.2.1 70 = .ok (.sipush 28160, 3) := by decide +kernel
theorem d_Mod_take_73 : decode M_Mod_take.2.1 73 = .ok (.ireturn, 1) := by decide +kernel
theorem d_Mod_take_74 : decode M_Mod_take.2.1 74 = .ok (.aload_n 0, 1) := by decide +kernel
theorem d_Mod_take_75 : decode M_Mod_take.2.1 75 = .ok (.invokevirtual 116, 3) := by decide +kernel
theorem d_Mod_take_78 : decode M_Mod_take.2.1 78 = .ok (.istore_n 1, 1) := by decide +kernel
theorem d_Mod_take_79 : decode M_Mod_take.2.1 79 = .ok (.iload_n 1, 1) := by decide +kernel
theorem d_Mod_take_80 : decode M_Mod_take.2.1 80 = .ok (.ifCond .ne 7, 3) := by decide +kernel
theorem d_Mod_take_83 : decode M_Mod_take.2.1 83 = .ok (.sipush 27904, 3) := by decide +kernel
theorem d_Mod_take_86 : decode M_Mod_take.2.1 86 = .ok (.ireturn, 1) := by decide +kernel
theorem d_Mod_take_87 : decode M_Mod_take.2.1 87 = .ok (.aload_n 0, 1) := by decide +kernel
theorem d_Mod_take_88 : decode M_Mod_take.2.1 88 = .ok (.iload_n 1, 1) := by decide +kernel
theorem d_Mod_take_89 : decode M_Mod_take.2.1 89 = .ok (.invokevirtual 120, 3) := by decide +kernel
theorem d_Mod_take_92 : decode M_Mod_take.2.1 92 = .ok (.ifCond .ne 7, 3) := by decide +kernel
theorem d_Mod_take_95 : decode M_Mod_take.2.1 95 = .ok (.sipush 27270, 3) := by decide +kernel
theorem d_Mod_take_98 : decode M_Mod_take.2.1 98 = .ok (.ireturn, 1) := by decide +kernel
theorem d_Mod_take_99 : decode M_Mod_take.2.1 99 = .ok (.aload_n 0, 1) := by decide +kernel
theorem d_Mod_take_100 : decode M_Mod_take.2.1 100 = .ok (.iload_n 1, 1) := by decide +kernel
theorem d_Mod_take_101 : decode M_Mod_take.2.1 101 = .ok (.invokevirtual 124, 3) := by decide +kernel
theorem d_Mod_take_104 : decode M_Mod_take.2.1 104 = .ok (.ifCond .ne 7, 3) := by decide +kernel
theorem d_Mod_take_107 : decode M_Mod_take.2.1 107 = .ok (.sipush 27013, 3) := by decide +kernel
theorem d_Mod_take_110 : decode M_Mod_take.2.1 110 = .ok (.ireturn, 1) := by decide +kernel
theorem d_Mod_take_111 : decode M_Mod_take.2.1 111 = .ok (.aload_n 0, 1) := by decide +kernel
theorem d_Mod_take_112 : decode M_Mod_take.2.1 112 = .ok (.iload_n 1, 1) := by decide +kernel
theorem d_Mod_take_113 : decode M_Mod_take.2.1 113 = .ok (.invokevirtual 127, 3) := by decide +kernel
theorem d_Mod_take_116 : decode M_Mod_take.2.1 116 = .ok (.ifCond .ne 7, 3) := by decide +kernel
theorem d_Mod_take_119 : decode M_Mod_take.2.1 119 = .ok (.sipush 26368, 3) := by decide +kernel
theorem d_Mod_take_122 : decode M_Mod_take.2.1 122 = .ok (.ireturn, 1) := by decide +kernel
theorem d_Mod_take_123 : decode M_Mod_take.2.1 123 = .ok (.iload_n 1, 1) := by decide +kernel
theorem d_Mod_take_124 : decode M_Mod_take.2.1 124 = .ok (.tableswitch 61 1 5 #[36, 41, 46, 51, 56], 36) := by decide +kernel
theorem d_Mod_take_160 : decode M_Mod_take.2.1 160 = .ok (.aload_n 0, 1) := by decide +kernel
theorem d_Mod_take_161 : decode M_Mod_take.2.1 161 = .ok (.invokevirtual 130, 3) := by decide +kernel
theorem d_Mod_take_164 : decode M_Mod_take.2.1 164 = .ok (.ireturn, 1) := by decide +kernel
theorem d_Mod_take_165 : decode M_Mod_take.2.1 165 = .ok (.aload_n 0, 1) := by decide +kernel
theorem d_Mod_take_166 : decode M_Mod_take.2.1 166 = .ok (.invokevirtual 133, 3) := by decide +kernel
theorem d_Mod_take_169 : decode M_Mod_take.2.1 169 = .ok (.ireturn, 1) := by decide +kernel
theorem d_Mod_take_170 : decode M_Mod_take.2.1 170 = .ok (.aload_n 0, 1) := by decide +kernel
theorem d_Mod_take_171 : decode M_Mod_take.2.1 171 = .ok (.invokevirtual 136, 3) := by decide +kernel
theorem d_Mod_take_174 : decode M_Mod_take.2.1 174 = .ok (.ireturn, 1) := by decide +kernel
theorem d_Mod_take_175 : decode M_Mod_take.2.1 175 = .ok (.aload_n 0, 1) := by decide +kernel
theorem d_Mod_take_176 : decode M_Mod_take.2.1 176 = .ok (.invokevirtual 139, 3) := by decide +kernel
theorem d_Mod_take_179 : decode M_Mod_take.2.1 179 = .ok (.ireturn, 1) := by decide +kernel
theorem d_Mod_take_180 : decode M_Mod_take.2.1 180 = .ok (.aload_n 0, 1) := by decide +kernel
theorem d_Mod_take_181 : decode M_Mod_take.2.1 181 = .ok (.invokevirtual 142, 3) := by decide +kernel
theorem d_Mod_take_184 : decode M_Mod_take.2.1 184 = .ok (.ireturn, 1) := by decide +kernel
theorem d_Mod_take_185 : decode M_Mod_take.2.1 185 = .ok (.aload_n 0, 1) := by decide +kernel
theorem d_Mod_take_186 : decode M_Mod_take.2.1 186 = .ok (.invokevirtual 145, 3) := by decide +kernel
theorem d_Mod_take_189 : decode M_Mod_take.2.1 189 = .ok (.ireturn, 1) := by decide +kernel
theorem d_Mod_command_0 : decode M_Mod_command.2.1 0 = .ok (.sipush 256, 3) := by decide +kernel
theorem d_Mod_command_3 : decode M_Mod_command.2.1 3 = .ok (.aload_n 0, 1) := by decide +kernel
theorem d_Mod_command_4 : decode M_Mod_command.2.1 4 = .ok (.getfield 32, 3) := by decide +kernel
theorem d_Mod_command_7 : decode M_Mod_command.2.1 7 = .ok (.iconst 0, 1) := by decide +kernel
theorem d_Mod_command_8 : decode M_Mod_command.2.1 8 = .ok (.iaload, 1) := by decide +kernel
theorem d_Mod_command_9 : decode M_Mod_command.2.1 9 = .ok (.imul, 1) := by decide +kernel
theorem d_Mod_command_10 : decode M_Mod_command.2.1 10 = .ok (.aload_n 0, 1) := by decide +kernel
theorem d_Mod_command_11 : decode M_Mod_command.2.1 11 = .ok (.getfield 32, 3) := by decide +kernel
theorem d_Mod_command_14 : decode M_Mod_command.2.1 14 = .ok (.iconst 1, 1) := by decide +kernel
theorem d_Mod_command_15 : decode M_Mod_command.2.1 15 = .ok (.iaload, 1) := by decide +kernel
theorem d_Mod_command_16 : decode M_Mod_command.2.1 16 = .ok (.iadd, 1) := by decide +kernel
theorem d_Mod_command_17 : decode M_Mod_command.2.1 17 = .ok (.istore_n 1, 1) := by decide +kernel
theorem d_Mod_command_18 : decode M_Mod_command.2.1 18 = .ok (.iload_n 1, 1) := by decide +kernel
theorem d_Mod_command_19 : decode M_Mod_command.2.1 19 = .ok (.sipush 164, 3) := by decide +kernel
theorem d_Mod_command_22 : decode M_Mod_command.2.1 22 = .ok (.if_icmp .ne 7, 3) := by decide +kernel
theorem d_Mod_command_25 : decode M_Mod_command.2.1 25 = .ok (.iconst 1, 1) := by decide +kernel
theorem d_Mod_command_26 : decode M_Mod_command.2.1 26 = .ok (.goto 56, 3) := by decide +kernel
theorem d_Mod_command_29 : decode M_Mod_command.2.1 29 = .ok (.iload_n 1, 1) := by decide +kernel
theorem d_Mod_command_30 : decode M_Mod_command.2.1 30 = .ok (.ldc 106, 2) := by decide +kernel
theorem d_Mod_command_32 : decode M_Mod_command.2.1 32 = .ok (.if_icmp .ne 7, 3) := by decide +kernel
theorem d_Mod_command_35 : decode M_Mod_command.2.1 35 = .ok (.iconst 2, 1) := by decide +kernel
theorem d_Mod_command_36 : decode M_Mod_command.2.1 36 = .ok (.goto 46, 3) := by decide +kernel
theorem d_Mod_command_39 : decode M_Mod_command.2.1 39 = .ok (.iload_n 1, 1) := by decide +kernel
theorem d_Mod_command_40 : decode M_Mod_command.2.1 40 = .ok (.sipush 178, 3) := by decide +kernel
theorem d_Mod_command_43 : decode M_Mod_command.2.1 43 = .ok (.if_icmp .ne 7, 3) := by decide +kernel
theorem d_Mod_command_46 : decode M_Mod_command.2.1 46 = .ok (.iconst 3, 1) := by decide +kernel
theorem d_Mod_command_47 : decode M_Mod_command.2.1 47 = .ok (.goto 35, 3) := by decide +kernel
theorem d_Mod_command_50 : decode M_Mod_command.2.1 50 = .ok (.iload_n 1, 1) := by decide +kernel
theorem d_Mod_command_51 : decode M_Mod_command.2.1 51 = .ok (.bipush 32, 2) := by decide +kernel
theorem d_Mod_command_53 : decode M_Mod_command.2.1 53 = .ok (.if_icmp .ne 7, 3) := by decide +kernel
theorem d_Mod_command_56 : decode M_Mod_command.2.1 56 = .ok (.iconst 4, 1) := by decide +kernel
theorem d_Mod_command_57 : decode M_Mod_command.2.1 57 = .ok (.goto 25, 3) := by decide +kernel
theorem d_Mod_command_60 : decode M_Mod_command.2.1 60 = .ok (.iload_n 1, 1) := by decide +kernel
theorem d_Mod_command_61 : decode M_Mod_command.2.1 61 = .ok (.ldc 107, 2) := by decide +kernel
theorem d_Mod_command_63 : decode M_Mod_command.2.1 63 = .ok (.if_icmp .ne 7, 3) := by decide +kernel
theorem d_Mod_command_66 : decode M_Mod_command.2.1 66 = .ok (.iconst 5, 1) := by decide +kernel
theorem d_Mod_command_67 : decode M_Mod_command.2.1 67 = .ok (.goto 15, 3) := by decide +kernel
theorem d_Mod_command_70 : decode M_Mod_command.2.1 70 = .ok (.iload_n 1, 1) := by decide +kernel
theorem d_Mod_command_71 : decode M_Mod_command.2.1 71 = .ok (.ldc 108, 2) := by decide +kernel
theorem d_Mod_command_73 : decode M_Mod_command.2.1 73 = .ok (.if_icmp .ne 8, 3) := by decide +kernel
theorem d_Mod_command_76 : decode M_Mod_command.2.1 76 = .ok (.bipush 6, 2) := by decide +kernel
theorem d_Mod_command_78 : decode M_Mod_command.2.1 78 = .ok (.goto 4, 3) := by decide +kernel
theorem d_Mod_command_81 : decode M_Mod_command.2.1 81 = .ok (.iconst 0, 1) := by decide +kernel
theorem d_Mod_command_82 : decode M_Mod_command.2.1 82 = .ok (.ireturn, 1) := by decide +kernel
theorem d_Mod_parametersFit_0 : decode M_Mod_parametersFit.2.1 0 = .ok (.aload_n 0, 1) := by decide +kernel
theorem d_Mod_parametersFit_1 : decode M_Mod_parametersFit.2.1 1 = .ok (.getfield 32, 3) := by decide +kernel
theorem d_Mod_parametersFit_4 : decode M_Mod_parametersFit.2.1 4 = .ok (.iconst 2, 1) := by decide +kernel
theorem d_Mod_parametersFit_5 : decode M_Mod_parametersFit.2.1 5 = .ok (.iaload, 1) := by decide +kernel
theorem d_Mod_parametersFit_6 : decode M_Mod_parametersFit.2.1 6 = .ok (.istore_n 2, 1) := by decide +kernel
theorem d_Mod_parametersFit_7 : decode M_Mod_parametersFit.2.1 7 = .ok (.aload_n 0, 1) := by decide +kernel
theorem d_Mod_parametersFit_8 : decode M_Mod_parametersFit.2.1 8 = .ok (.getfield 32, 3) := by decide +kernel
theorem d_Mod_parametersFit_11 : decode M_Mod_parametersFit.2.1 11 = .ok (.iconst 3, 1) := by decide +kernel
theorem d_Mod_parametersFit_12 : decode M_Mod_parametersFit.2.1 12 = .ok (.iaload, 1) := by decide +kernel
theorem d_Mod_parametersFit_13 : decode M_Mod_parametersFit.2.1 13 = .ok (.istore_n 3, 1) := by decide +kernel
theorem d_Mod_parametersFit_14 : decode M_Mod_parametersFit.2.1 14 = .ok (.iload_n 1, 1) := by decide +kernel
theorem d_Mod_parametersFit_15 : decode M_Mod_parametersFit.2.1 15 = .ok (.tableswitch 118 1 5 #[33, 48, 62, 76, 93], 33) := by decide +kernel
theorem d_Mod_parametersFit_48 : decode M_Mod_parametersFit.2.1 48 = .ok (.iload_n 2, 1) := by decide +kernel
theorem d_Mod_parametersFit_49 : decode M_Mod_parametersFit.2.1 49 = .ok (.iconst 4, 1) := by decide +kernel
theorem d_Mod_parametersFit_50 : decode M_Mod_parametersFit.2.1 50 = .ok (.if_icmp .ne 11, 3) := by decide +kernel
theorem d_Mod_parametersFit_53 : decode M_Mod_parametersFit.2.1 53 = .ok (.iload_n 3, 1) := by decide +kernel
theorem d_Mod_parametersFit_54 : decode M_Mod_parametersFit.2.1 54 = .ok (.ifCond .ne 7, 3) := by decide +kernel
theorem d_Mod_parametersFit_57 : decode M_Mod_parametersFit.2.1 57 = .ok (.iconst 1, 1) := by decide +kernel
theorem d_Mod_parametersFit_58 : decode M_Mod_parametersFit.2.1 58 = .ok (.goto 4, 3) := by decide +kernel
theorem d_Mod_parametersFit_61 : decode M_Mod_parametersFit.2.1 61 = .ok (.iconst 0, 1) := by decide +kernel
theorem d_Mod_parametersFit_62 : decode M_Mod_parametersFit.2.1 62 = .ok (.ireturn, 1) := by decide +kernel
theorem d_Mod_parametersFit_63 : decode M_Mod_parametersFit.2.1 63 = .ok (.iload_n 2, 1) := by decide +kernel
theorem d_Mod_parametersFit_64 : decode M_Mod_parametersFit.2.1 64 = .ok (.ifCond .ne 11, 3) := by decide +kernel
theorem d_Mod_parametersFit_67 : decode M_Mod_parametersFit.2.1 67 = .ok (.iload_n 3, 1) := by decide +kernel
theorem d_Mod_parametersFit_68 : decode M_Mod_parametersFit.2.1 68 = .ok (.ifCond .ne 7, 3) := by decide +kernel
theorem d_Mod_parametersFit_71 : decode M_Mod_parametersFit.2.1 71 = .ok (.iconst 1, 1) := by decide +kernel
theorem d_Mod_parametersFit_72 : decode M_Mod_parametersFit.2.1 72 = .ok (.goto 4, 3) := by decide +kernel
theorem d_Mod_parametersFit_75 : decode M_Mod_parametersFit.2.1 75 = .ok (.iconst 0, 1) := by decide +kernel
theorem d_Mod_parametersFit_76 : decode M_Mod_parametersFit.2.1 76 = .ok (.ireturn, 1) := by decide +kernel
theorem d_Mod_parametersFit_77 : decode M_Mod_parametersFit.2.1 77 = .ok (.iload_n 3, 1) := by decide +kernel
theorem d_Mod_parametersFit_78 : decode M_Mod_parametersFit.2.1 78 = .ok (.bipush 8, 2) := by decide +kernel
theorem d_Mod_parametersFit_80 : decode M_Mod_parametersFit.2.1 80 = .ok (.irem, 1) := by decide +kernel
theorem d_Mod_parametersFit_81 : decode M_Mod_parametersFit.2.1 81 = .ok (.iconst 4, 1) := by decide +kernel
theorem d_Mod_parametersFit_82 : decode M_Mod_parametersFit.2.1 82 = .ok (.if_icmp .ne 7, 3) := by decide +kernel
theorem d_Mod_parametersFit_85 : decode M_Mod_parametersFit.2.1 85 = .ok (.iconst 1, 1) := by decide +kernel
theorem d_Mod_parametersFit_86 : decode M_Mod_parametersFit.2.1 86 = .ok (.goto 4, 3) := by decide +kernel
theorem d_Mod_parametersFit_89 : decode M_Mod_parametersFit.2.1 89 = .ok (.iconst 0, 1) := by decide +kernel
theorem d_Mod_parametersFit_90 : decode M_Mod_parametersFit.2.1 90 = .ok (.ireturn, 1) := by decide +kernel
theorem d_Mod_parametersFit_91 : decode M_Mod_parametersFit.2.1 91 = .ok (.iload_n 2, 1) := by decide +kernel
theorem d_Mod_parametersFit_92 : decode M_Mod_parametersFit.2.1 92 = .ok (.ifCond .ne 14, 3) := by decide +kernel
theorem d_Mod_parametersFit_95 : decode M_Mod_parametersFit.2.1 95 = .ok (.iload_n 3, 1) := by decide +kernel
theorem d_Mod_parametersFit_96 : decode M_Mod_parametersFit.2.1 96 = .ok (.sipush 128, 3) := by decide +kernel
theorem d_Mod_parametersFit_99 : decode M_Mod_parametersFit.2.1 99 = .ok (.if_icmp .ne 7, 3) := by decide +kernel
theorem d_Mod_parametersFit_102 : decode M_Mod_parametersFit.2.1 102 = .ok (.iconst 1, 1) := by decide +kernel
theorem d_Mod_parametersFit_103 : decode M_Mod_parametersFit.2.1 103 = .ok (.goto 4, 3) := by decide +kernel
theorem d_Mod_parametersFit_106 : decode M_Mod_parametersFit.2.1 106 = .ok (.iconst 0, 1) := by decide +kernel
theorem d_Mod_parametersFit_107 : decode M_Mod_parametersFit.2.1 107 = .ok (.ireturn, 1) := by decide +kernel
theorem d_Mod_parametersFit_108 : decode M_Mod_parametersFit.2.1 108 = .ok (.iload_n 2, 1) := by decide +kernel
theorem d_Mod_parametersFit_109 : decode M_Mod_parametersFit.2.1 109 = .ok (.sipush 159, 3) := by decide +kernel
theorem d_Mod_parametersFit_112 : decode M_Mod_parametersFit.2.1 112 = .ok (.if_icmp .ne 19, 3) := by decide +kernel
theorem d_Mod_parametersFit_115 : decode M_Mod_parametersFit.2.1 115 = .ok (.iload_n 3, 1) := by decide +kernel
theorem d_Mod_parametersFit_116 : decode M_Mod_parametersFit.2.1 116 = .ok (.bipush 54, 2) := by decide +kernel
theorem d_Mod_parametersFit_118 : decode M_Mod_parametersFit.2.1 118 = .ok (.if_icmp .eq 9, 3) := by decide +kernel
theorem d_Mod_parametersFit_121 : decode M_Mod_parametersFit.2.1 121 = .ok (.iload_n 3, 1) := by decide +kernel
theorem d_Mod_parametersFit_122 : decode M_Mod_parametersFit.2.1 122 = .ok (.bipush 23, 2) := by decide +kernel
theorem d_Mod_parametersFit_124 : decode M_Mod_parametersFit.2.1 124 = .ok (.if_icmp .ne 7, 3) := by decide +kernel
theorem d_Mod_parametersFit_127 : decode M_Mod_parametersFit.2.1 127 = .ok (.iconst 1, 1) := by decide +kernel
theorem d_Mod_parametersFit_128 : decode M_Mod_parametersFit.2.1 128 = .ok (.goto 4, 3) := by decide +kernel
theorem d_Mod_parametersFit_131 : decode M_Mod_parametersFit.2.1 131 = .ok (.iconst 0, 1) := by decide +kernel
theorem d_Mod_parametersFit_132 : decode M_Mod_parametersFit.2.1 132 = .ok (.ireturn, 1) := by decide +kernel
theorem d_Mod_parametersFit_133 : decode M_Mod_parametersFit.2.1 133 = .ok (.iload_n 2, 1) := by decide +kernel
theorem d_Mod_parametersFit_134 : decode M_Mod_parametersFit.2.1 134 = .ok (.ifCond .eq 16, 3) := by decide +kernel
theorem d_Mod_parametersFit_137 : decode M_Mod_parametersFit.2.1 137 = .ok (.iload_n 2, 1) := by decide +kernel
theorem d_Mod_parametersFit_138 : decode M_Mod_parametersFit.2.1 138 = .ok (.bipush 64, 2) := by decide +kernel
theorem d_Mod_parametersFit_140 : decode M_Mod_parametersFit.2.1 140 = .ok (.if_icmp .eq 10, 3) := by decide +kernel
theorem d_Mod_parametersFit_143 : decode M_Mod_parametersFit.2.1 143 = .ok (.iload_n 2, 1) := by decide +kernel
theorem d_Mod_parametersFit_144 : decode M_Mod_parametersFit.2.1 144 = .ok (.sipush 128, 3) := by decide +kernel
theorem d_Mod_parametersFit_147 : decode M_Mod_parametersFit.2.1 147 = .ok (.if_icmp .ne 11, 3) := by decide +kernel
theorem d_Mod_parametersFit_150 : decode M_Mod_parametersFit.2.1 150 = .ok (.iload_n 3, 1) := by decide +kernel
theorem d_Mod_parametersFit_151 : decode M_Mod_parametersFit.2.1 151 = .ok (.ifCond .ne 7, 3) := by decide +kernel
theorem d_Mod_parametersFit_154 : decode M_Mod_parametersFit.2.1 154 = .ok (.iconst 1, 1) := by decide +kernel
theorem d_Mod_parametersFit_155 : decode M_Mod_parametersFit.2.1 155 = .ok (.goto 4, 3) := by decide +kernel
theorem d_Mod_parametersFit_158 : decode M_Mod_parametersFit.2.1 158 = .ok (.iconst 0, 1) := by decide +kernel
theorem d_Mod_parametersFit_159 : decode M_Mod_parametersFit.2.1 159 = .ok (.ireturn, 1) := by decide +kernel
theorem d_Mod_stageFits_0 : decode M_Mod_stageFits.2.1 0 = .ok (.iload_n 1, 1) := by decide +kernel
theorem d_Mod_stageFits_1 : decode M_Mod_stageFits.2.1 1 = .ok (.tableswitch 108 2 6 #[35, 58, 72, 108, 86], 35) := by decide +kernel
theorem d_Mod_stageFits_36 : decode M_Mod_stageFits.2.1 36 = .ok (.aload_n 0, 1) := by decide +kernel
theorem d_Mod_stageFits_37 : decode M_Mod_stageFits.2.1 37 = .ok (.getfield 109, 3) := by decide +kernel
theorem d_Mod_stageFits_40 : decode M_Mod_stageFits.2.1 40 = .ok (.iconst 1, 1) := by decide +kernel
theorem d_Mod_stageFits_41 : decode M_Mod_stageFits.2.1 41 = .ok (.if_icmp .ne 16, 3) := by decide +kernel
theorem d_Mod_stageFits_44 : decode M_Mod_stageFits.2.1 44 = .ok (.aload_n 0, 1) := by decide +kernel
theorem d_Mod_stageFits_45 : decode M_Mod_stageFits.2.1 45 = .ok (.getfield 112, 3) := by decide +kernel
theorem d_Mod_stageFits_48 : decode M_Mod_stageFits.2.1 48 = .ok (.ldc 115, 2) := by decide +kernel
theorem d_Mod_stageFits_50 : decode M_Mod_stageFits.2.1 50 = .ok (.if_icmp .ge 7, 3) := by decide +kernel
theorem d_Mod_stageFits_53 : decode M_Mod_stageFits.2.1 53 = .ok (.iconst 1, 1) := by decide +kernel
theorem d_Mod_stageFits_54 : decode M_Mod_stageFits.2.1 54 = .ok (.goto 4, 3) := by decide +kernel
theorem d_Mod_stageFits_57 : decode M_Mod_stageFits.2.1 57 = .ok (.iconst 0, 1) := by decide +kernel
theorem d_Mod_stageFits_58 : decode M_Mod_stageFits.2.1 58 = .ok (.ireturn, 1) := by decide +kernel
theorem d_Mod_stageFits_59 : decode M_Mod_stageFits.2.1 59 = .ok (.aload_n 0, 1) := by decide +kernel
theorem d_Mod_stageFits_60 : decode M_Mod_stageFits.2.1 60 = .ok (.getfield 109, 3) := by decide +kernel
theorem d_Mod_stageFits_63 : decode M_Mod_stageFits.2.1 63 = .ok (.iconst 2, 1) := by decide +kernel
theorem d_Mod_stageFits_64 : decode M_Mod_stageFits.2.1 64 = .ok (.if_icmp .lt 7, 3) := by decide +kernel
theorem d_Mod_stageFits_67 : decode M_Mod_stageFits.2.1 67 = .ok (.iconst 1, 1) := by decide +kernel
theorem d_Mod_stageFits_68 : decode M_Mod_stageFits.2.1 68 = .ok (.goto 4, 3) := by decide +kernel
theorem d_Mod_stageFits_71 : decode M_Mod_stageFits.2.1 71 = .ok (.iconst 0, 1) := by decide +kernel
theorem d_Mod_stageFits_72 : decode M_Mod_stageFits.2.1 72 = .ok (.ireturn, 1) := by decide +kernel
theorem d_Mod_stageFits_73 : decode M_Mod_stageFits.2.1 73 = .ok (.aload_n 0, 1) := by decide +kernel
theorem d_Mod_stageFits_74 : decode M_Mod_stageFits.2.1 74 = .ok (.getfield 109, 3) := by decide +kernel
theorem d_Mod_stageFits_77 : decode M_Mod_stageFits.2.1 77 = .ok (.iconst 2, 1) := by decide +kernel
theorem d_Mod_stageFits_78 : decode M_Mod_stageFits.2.1 78 = .ok (.if_icmp .ne 7, 3) := by decide +kernel
theorem d_Mod_stageFits_81 : decode M_Mod_stageFits.2.1 81 = .ok (.iconst 1, 1) := by decide +kernel
theorem d_Mod_stageFits_82 : decode M_Mod_stageFits.2.1 82 = .ok (.goto 4, 3) := by decide +kernel
theorem d_Mod_stageFits_85 : decode M_Mod_stageFits.2.1 85 = .ok (.iconst 0, 1) := by decide +kernel
theorem d_Mod_stageFits_86 : decode M_Mod_stageFits.2.1 86 = .ok (.ireturn, 1) := by decide +kernel
theorem d_Mod_stageFits_87 : decode M_Mod_stageFits.2.1 87 = .ok (.aload_n 0, 1) := by decide +kernel
theorem d_Mod_stageFits_88 : decode M_Mod_stageFits.2.1 88 = .ok (.getfield 109, 3) := by decide +kernel
theorem d_Mod_stageFits_91 : decode M_Mod_stageFits.2.1 91 = .ok (.iconst 2, 1) := by decide +kernel
theorem d_Mod_stageFits_92 : decode M_Mod_stageFits.2.1 92 = .ok (.if_icmp .eq 11, 3) := by decide +kernel
theorem d_Mod_stageFits_95 : decode M_Mod_stageFits.2.1 95 = .ok (.aload_n 0, 1) := by decide +kernel
theorem d_Mod_stageFits_96 : decode M_Mod_stageFits.2.1 96 = .ok (.getfield 109, 3) := by decide +kernel
theorem d_Mod_stageFits_99 : decode M_Mod_stageFits.2.1 99 = .ok (.iconst 3, 1) := by decide +kernel
theorem d_Mod_stageFits_100 : decode M_Mod_stageFits.2.1 100 = .ok (.if_icmp .ne 7, 3) := by decide +kernel
theorem d_Mod_stageFits_103 : decode M_Mod_stageFits.2.1 103 = .ok (.iconst 1, 1) := by decide +kernel
theorem d_Mod_stageFits_104 : decode M_Mod_stageFits.2.1 104 = .ok (.goto 4, 3) := by decide +kernel
theorem d_Mod_stageFits_107 : decode M_Mod_stageFits.2.1 107 = .ok (.iconst 0, 1) := by decide +kernel
theorem d_Mod_stageFits_108 : decode M_Mod_stageFits.2.1 108 = .ok (.ireturn, 1) := by decide +kernel
theorem d_Mod_stageFits_109 : decode M_Mod_stageFits.2.1 109 = .ok (.iconst 1, 1) := by decide +kernel
theorem d_Mod_stageFits_110 : decode M_Mod_stageFits.2.1 110 = .ok (.ireturn, 1) := by decide +kernel
theorem d_Mod_lengthFits_0 : decode M_Mod_lengthFits.2.1 0 = .ok (.aload_n 0, 1) := by decide +kernel
theorem d_Mod_lengthFits_1 : decode M_Mod_lengthFits.2.1 1 = .ok (.getfield 97, 3) := by decide +kernel
theorem d_Mod_lengthFits_4 : decode M_Mod_lengthFits.2.1 4 = .ok (.iconst 4, 1) := by decide +kernel
theorem d_Mod_lengthFits_5 : decode M_Mod_lengthFits.2.1 5 = .ok (.if_icmp .ne 7, 3) := by decide +kernel
theorem d_Mod_lengthFits_8 : decode M_Mod_lengthFits.2.1 8 = .ok (.iconst 0, 1) := by decide +kernel
theorem d_Mod_lengthFits_9 : decode M_Mod_lengthFits.2.1 9 = .ok (.goto 9, 3) := by decide +kernel
theorem d_Mod_lengthFits_12 : decode M_Mod_lengthFits.2.1 12 = .ok (.aload_n 0, 1) := by decide +kernel
theorem d_Mod_lengthFits_13 : decode M_Mod_lengthFits.2.1 13 = .ok (.getfield 97, 3) := by decide +kernel
theorem d_Mod_lengthFits_16 : decode M_Mod_lengthFits.2.1 16 = .ok (.iconst 5, 1) := by decide +kernel
theorem d_Mod_lengthFits_17 : decode M_Mod_lengthFits.2.1 17 = .ok (.isub, 1) := by decide +kernel
theorem d_Mod_lengthFits_18 : decode M_Mod_lengthFits.2.1 18 = .ok (.istore_n 2, 1) := by decide +kernel
theorem d_Mod_lengthFits_19 : decode M_Mod_lengthFits.2.1 19 = .ok (.iload_n 1, 1) := by decide +kernel
theorem d_Mod_lengthFits_20 : decode M_Mod_lengthFits.2.1 20 = .ok (.tableswitch 94 1 6 #[40, 57, 94, 57, 94, 69], 40) := by decide +kernel
theorem d_Mod_lengthFits_60 : decode M_Mod_lengthFits.2.1 60 = .ok (.iload_n 2, 1) := by decide +kernel
theorem d_Mod_lengthFits_61 : decode M_Mod_lengthFits.2.1 61 = .ok (.iconst 5, 1) := by decide +kernel
theorem d_Mod_lengthFits_62 : decode M_Mod_lengthFits.2.1 62 = .ok (.if_icmp .lt 13, 3) := by decide +kernel
theorem d_Mod_lengthFits_65 : decode M_Mod_lengthFits.2.1 65 = .ok (.iload_n 2, 1) := by decide +kernel
theorem d_Mod_lengthFits_66 : decode M_Mod_lengthFits.2.1 66 = .ok (.bipush 16, 2) := by decide +kernel
theorem d_Mod_lengthFits_68 : decode M_Mod_lengthFits.2.1 68 = .ok (.if_icmp .gt 7, 3) := by decide +kernel
theorem d_Mod_lengthFits_71 : decode M_Mod_lengthFits.2.1 71 = .ok (.iconst 1, 1) := by decide +kernel
theorem d_Mod_lengthFits_72 : decode M_Mod_lengthFits.2.1 72 = .ok (.goto 4, 3) := by decide +kernel
theorem d_Mod_lengthFits_75 : decode M_Mod_lengthFits.2.1 75 = .ok (.iconst 0, 1) := by decide +kernel
theorem d_Mod_lengthFits_76 : decode M_Mod_lengthFits.2.1 76 = .ok (.ireturn, 1) := by decide +kernel
theorem d_Mod_lengthFits_77 : decode M_Mod_lengthFits.2.1 77 = .ok (.iload_n 2, 1) := by decide +kernel
theorem d_Mod_lengthFits_78 : decode M_Mod_lengthFits.2.1 78 = .ok (.bipush 8, 2) := by decide +kernel
theorem d_Mod_lengthFits_80 : decode M_Mod_lengthFits.2.1 80 = .ok (.if_icmp .ne 7, 3) := by decide +kernel
theorem d_Mod_lengthFits_83 : decode M_Mod_lengthFits.2.1 83 = .ok (.iconst 1, 1) := by decide +kernel
theorem d_Mod_lengthFits_84 : decode M_Mod_lengthFits.2.1 84 = .ok (.goto 4, 3) := by decide +kernel
theorem d_Mod_lengthFits_87 : decode M_Mod_lengthFits.2.1 87 = .ok (.iconst 0, 1) := by decide +kernel
theorem d_Mod_lengthFits_88 : decode M_Mod_lengthFits.2.1 88 = .ok (.ireturn, 1) := by decide +kernel
theorem d_Mod_lengthFits_89 : decode M_Mod_lengthFits.2.1 89 = .ok (.iload_n 2, 1) := by decide +kernel
theorem d_Mod_lengthFits_90 : decode M_Mod_lengthFits.2.1 90 = .ok (.aload_n 0, 1) := by decide +kernel
theorem d_Mod_lengthFits_91 : decode M_Mod_lengthFits.2.1 91 = .ok (.getfield 109, 3) := by decide +kernel
theorem d_Mod_lengthFits_94 : decode M_Mod_lengthFits.2.1 94 = .ok (.iconst 2, 1) := by decide +kernel
theorem d_Mod_lengthFits_95 : decode M_Mod_lengthFits.2.1 95 = .ok (.if_icmp .ne 8, 3) := by decide +kernel
theorem d_Mod_lengthFits_98 : decode M_Mod_lengthFits.2.1 98 = .ok (.bipush 10, 2) := by decide +kernel
theorem d_Mod_lengthFits_100 : decode M_Mod_lengthFits.2.1 100 = .ok (.goto 5, 3) := by decide +kernel
theorem d_Mod_lengthFits_103 : decode M_Mod_lengthFits.2.1 103 = .ok (.bipush 12, 2) := by decide +kernel
theorem d_Mod_lengthFits_105 : decode M_Mod_lengthFits.2.1 105 = .ok (.if_icmp .ne 7, 3) := by decide +kernel
theorem d_Mod_lengthFits_108 : decode M_Mod_lengthFits.2.1 108 = .ok (.iconst 1, 1) := by decide +kernel
theorem d_Mod_lengthFits_109 : decode M_Mod_lengthFits.2.1 109 = .ok (.goto 4, 3) := by decide +kernel
theorem d_Mod_lengthFits_112 : decode M_Mod_lengthFits.2.1 112 = .ok (.iconst 0, 1) := by decide +kernel
theorem d_Mod_lengthFits_113 : decode M_Mod_lengthFits.2.1 113 = .ok (.ireturn, 1) := by decide +kernel
theorem d_Mod_lengthFits_114 : decode M_Mod_lengthFits.2.1 114 = .ok (.iload_n 2, 1) := by decide +kernel
theorem d_Mod_lengthFits_115 : decode M_Mod_lengthFits.2.1 115 = .ok (.ifCond .ne 7, 3) := by decide +kernel
theorem d_Mod_lengthFits_118 : decode M_Mod_lengthFits.2.1 118 = .ok (.iconst 1, 1) := by decide +kernel
theorem d_Mod_lengthFits_119 : decode M_Mod_lengthFits.2.1 119 = .ok (.goto 4, 3) := by decide +kernel
theorem d_Mod_lengthFits_122 : decode M_Mod_lengthFits.2.1 122 = .ok (.iconst 0, 1) := by decide +kernel
theorem d_Mod_lengthFits_123 : decode M_Mod_lengthFits.2.1 123 = .ok (.ireturn, 1) := by decide +kernel
theorem d_Mod_select_0 : decode M_Mod_select.2.1 0 = .ok (.aload_n 0, 1) := by decide +kernel
theorem d_Mod_select_1 : decode M_Mod_select.2.1 1 = .ok (.getfield 97, 3) := by decide +kernel
theorem d_Mod_select_4 : decode M_Mod_select.2.1 4 = .ok (.iconst 5, 1) := by decide +kernel
theorem d_Mod_select_5 : decode M_Mod_select.2.1 5 = .ok (.isub, 1) := by decide +kernel
theorem d_Mod_select_6 : decode M_Mod_select.2.1 6 = .ok (.istore_n 1, 1) := by decide +kernel
theorem d_Mod_select_7 : decode M_Mod_select.2.1 7 = .ok (.iconst 0, 1) := by decide +kernel
theorem d_Mod_select_8 : decode M_Mod_select.2.1 8 = .ok (.istore_n 2, 1) := by decide +kernel
theorem d_Mod_select_9 : decode M_Mod_select.2.1 9 = .ok (.iload_n 2, 1) := by decide +kernel
theorem d_Mod_select_10 : decode M_Mod_select.2.1 10 = .ok (.iload_n 1, 1) := by decide +kernel
theorem d_Mod_select_11 : decode M_Mod_select.2.1 11 = .ok (.if_icmp .ge 36, 3) := by decide +kernel
theorem d_Mod_select_14 : decode M_Mod_select.2.1 14 = .ok (.iload_n 2, 1) := by decide +kernel
theorem d_Mod_select_15 : decode M_Mod_select.2.1 15 = .ok (.bipush 6, 2) := by decide +kernel
theorem d_Mod_select_17 : decode M_Mod_select.2.1 17 = .ok (.if_icmp .gt 20, 3) := by decide +kernel
theorem d_Mod_select_20 : decode M_Mod_select.2.1 20 = .ok (.aload_n 0, 1) := by decide +kernel
theorem d_Mod_select_21 : decode M_Mod_select.2.1 21 = .ok (.getfield 32, 3) := by decide +kernel
theorem d_Mod_select_24 : decode M_Mod_select.2.1 24 = .ok (.iconst 5, 1) := by decide +kernel
theorem d_Mod_select_25 : decode M_Mod_select.2.1 25 = .ok (.iload_n 2, 1) := by decide +kernel
theorem d_Mod_select_26 : decode M_Mod_select.2.1 26 = .ok (.iadd, 1) := by decide +kernel
theorem d_Mod_select_27 : decode M_Mod_select.2.1 27 = .ok (.iaload, 1) := by decide +kernel
theorem d_Mod_select_28 : decode M_Mod_select.2.1 28 = .ok (.aload_n 0, 1) := by decide +kernel
theorem d_Mod_select_29 : decode M_Mod_select.2.1 29 = .ok (.getfield 16, 3) := by decide +kernel
theorem d_Mod_select_32 : decode M_Mod_select.2.1 32 = .ok (.iload_n 2, 1) := by decide +kernel
theorem d_Mod_select_33 : decode M_Mod_select.2.1 33 = .ok (.iaload, 1) := by decide +kernel
theorem d_Mod_select_34 : decode M_Mod_select.2.1 34 = .ok (.if_icmp .eq 7, 3) := by decide +kernel
theorem d_Mod_select_37 : decode M_Mod_select.2.1 37 = .ok (.sipush 27266, 3) := by decide +kernel
theorem d_Mod_select_40 : decode M_Mod_select.2.1 40 = .ok (.ireturn, 1) := by decide +kernel
theorem d_Mod_select_41 : decode M_Mod_select.2.1 41 = .ok (.iinc 2 1, 3) := by decide +kernel
theorem d_Mod_select_44 : decode M_Mod_select.2.1 44 = .ok (.goto (-35), 3) := by decide +kernel
theorem d_Mod_select_47 : decode M_Mod_select.2.1 47 = .ok (.aload_n 0, 1) := by decide +kernel
theorem d_Mod_select_48 : decode M_Mod_select.2.1 48 = .ok (.iconst 1, 1) := by decide +kernel
theorem d_Mod_select_49 : decode M_Mod_select.2.1 49 = .ok (.putfield 109, 3) := by decide +kernel
theorem d_Mod_select_52 : decode M_Mod_select.2.1 52 = .ok (.aload_n 0, 1) := by decide +kernel
theorem d_Mod_select_53 : decode M_Mod_select.2.1 53 = .ok (.bipush 111, 2) := by decide +kernel
theorem d_Mod_select_55 : decode M_Mod_select.2.1 55 = .ok (.bipush 23, 2) := by decide +kernel
theorem d_Mod_select_57 : decode M_Mod_select.2.1 57 = .ok (.invokevirtual 151, 3) := by decide +kernel
theorem d_Mod_select_60 : decode M_Mod_select.2.1 60 = .ok (.aload_n 0, 1) := by decide +kernel
theorem d_Mod_select_61 : decode M_Mod_select.2.1 61 = .ok (.sipush 132, 3) := by decide +kernel
theorem d_Mod_select_64 : decode M_Mod_select.2.1 64 = .ok (.bipush 7, 2) := by decide +kernel
theorem d_Mod_select_66 : decode M_Mod_select.2.1 66 = .ok (.invokevirtual 151, 3) := by decide +kernel
theorem d_Mod_select_69 : decode M_Mod_select.2.1 69 = .ok (.iconst 0, 1) := by decide +kernel
theorem d_Mod_select_70 : decode M_Mod_select.2.1 70 = .ok (.istore_n 2, 1) := by decide +kernel
theorem d_Mod_select_71 : decode M_Mod_select.2.1 71 = .ok (.iload_n 2, 1) := by decide +kernel
theorem d_Mod_select_72 : decode M_Mod_select.2.1 72 = .ok (.bipush 7, 2) := by decide +kernel
theorem d_Mod_select_74 : decode M_Mod_select.2.1 74 = .ok (.if_icmp .ge 19, 3) := by decide +kernel
theorem d_Mod_select_77 : decode M_Mod_select.2.1 77 = .ok (.aload_n 0, 1) := by decide +kernel
theorem d_Mod_select_78 : decode M_Mod_select.2.1 78 = .ok (.aload_n 0, 1) := by decide +kernel
theorem d_Mod_select_79 : decode M_Mod_select.2.1 79 = .ok (.getfield 16, 3) := by decide +kernel
theorem d_Mod_select_82 : decode M_Mod_select.2.1 82 = .ok (.iload_n 2, 1) := by decide +kernel
theorem d_Mod_select_83 : decode M_Mod_select.2.1 83 = .ok (.iaload, 1) := by decide +kernel
theorem d_Mod_select_84 : decode M_Mod_select.2.1 84 = .ok (.invokevirtual 103, 3) := by decide +kernel
theorem d_Mod_select_87 : decode M_Mod_select.2.1 87 = .ok (.iinc 2 1, 3) := by decide +kernel
theorem d_Mod_select_90 : decode M_Mod_select.2.1 90 = .ok (.goto (-19), 3) := by decide +kernel
theorem d_Mod_select_93 : decode M_Mod_select.2.1 93 = .ok (.aload_n 0, 1) := by decide +kernel
theorem d_Mod_select_94 : decode M_Mod_select.2.1 94 = .ok (.sipush 165, 3) := by decide +kernel
theorem d_Mod_select_97 : decode M_Mod_select.2.1 97 = .ok (.bipush 12, 2) := by decide +kernel
theorem d_Mod_select_99 : decode M_Mod_select.2.1 99 = .ok (.invokevirtual 151, 3) := by decide +kernel
theorem d_Mod_select_102 : decode M_Mod_select.2.1 102 = .ok (.aload_n 0, 1) := by decide +kernel
theorem d_Mod_select_103 : decode M_Mod_select.2.1 103 = .ok (.bipush 80, 2) := by decide +kernel
theorem d_Mod_select_105 : decode M_Mod_select.2.1 105 = .ok (.iconst 4, 1) := by decide +kernel
theorem d_Mod_select_106 : decode M_Mod_select.2.1 106 = .ok (.invokevirtual 151, 3) := by decide +kernel
theorem d_Mod_select_109 : decode M_Mod_select.2.1 109 = .ok (.aload_n 0, 1) := by decide +kernel
theorem d_Mod_select_110 : decode M_Mod_select.2.1 110 = .ok (.bipush 67, 2) := by decide +kernel
theorem d_Mod_select_112 : decode M_Mod_select.2.1 112 = .ok (.bipush 65, 2) := by decide +kernel
theorem d_Mod_select_114 : decode M_Mod_select.2.1 114 = .ok (.invokevirtual 151, 3) := by decide +kernel
theorem d_Mod_select_117 : decode M_Mod_select.2.1 117 = .ok (.aload_n 0, 1) := by decide +kernel
theorem d_Mod_select_118 : decode M_Mod_select.2.1 118 = .ok (.bipush 82, 2) := by decide +kernel
theorem d_Mod_select_120 : decode M_Mod_select.2.1 120 = .ok (.bipush 68, 2) := by decide +kernel
theorem d_Mod_select_122 : decode M_Mod_select.2.1 122 = .ok (.invokevirtual 151, 3) := by decide +kernel
theorem d_Mod_select_125 : decode M_Mod_select.2.1 125 = .ok (.aload_n 0, 1) := by decide +kernel
theorem d_Mod_select_126 : decode M_Mod_select.2.1 126 = .ok (.sipush 159, 3) := by decide +kernel
theorem d_Mod_select_129 : decode M_Mod_select.2.1 129 = .ok (.bipush 56, 2) := by decide +kernel
theorem d_Mod_select_131 : decode M_Mod_select.2.1 131 = .ok (.invokevirtual 151, 3) := by decide +kernel
theorem d_Mod_select_134 : decode M_Mod_select.2.1 134 = .ok (.aload_n 0, 1) := by decide +kernel
theorem d_Mod_select_135 : decode M_Mod_select.2.1 135 = .ok (.iconst 3, 1) := by decide +kernel
theorem d_Mod_select_136 : decode M_Mod_select.2.1 136 = .ok (.sipush 159, 3) := by decide +kernel
theorem d_Mod_select_139 : decode M_Mod_select.2.1 139 = .ok (.invokevirtual 151, 3) := by decide +kernel
theorem d_Mod_select_142 : decode M_Mod_select.2.1 142 = .ok (.aload_n 0, 1) := by decide +kernel
theorem d_Mod_select_143 : decode M_Mod_select.2.1 143 = .ok (.iconst 2, 1) := by decide +kernel
theorem d_Mod_select_144 : decode M_Mod_select.2.1 144 = .ok (.bipush 6, 2) := by decide +kernel
theorem d_Mod_select_146 : decode M_Mod_select.2.1 146 = .ok (.invokevirtual 151, 3) := by decide +kernel
theorem d_Mod_select_149 : decode M_Mod_select.2.1 149 = .ok (.ldc 155, 2) := by decide +kernel
theorem d_Mod_select_151 : decode M_Mod_select.2.1 151 = .ok (.ireturn, 1) := by decide +kernel
theorem d_Mod_say2_0 : decode M_Mod_say2.2.1 0 = .ok (.aload_n 0, 1) := by decide +kernel
theorem d_Mod_say2_1 : decode M_Mod_say2.2.1 1 = .ok (.iload_n 1, 1) := by decide +kernel
theorem d_Mod_say2_2 : decode M_Mod_say2.2.1 2 = .ok (.invokevirtual 103, 3) := by decide +kernel
theorem d_Mod_say2_5 : decode M_Mod_say2.2.1 5 = .ok (.aload_n 0, 1) := by decide +kernel
theorem d_Mod_say2_6 : decode M_Mod_say2.2.1 6 = .ok (.iload_n 2, 1) := by decide +kernel
theorem d_Mod_say2_7 : decode M_Mod_say2.2.1 7 = .ok (.invokevirtual 103, 3) := by decide +kernel
theorem d_Mod_say2_10 : decode M_Mod_say2.2.1 10 = .ok (.return_, 1) := by decide +kernel
theorem d_Mod_say_0 : decode M_Mod_say.2.1 0 = .ok (.aload_n 0, 1) := by decide +kernel
theorem d_Mod_say_1 : decode M_Mod_say.2.1 1 = .ok (.getfield 35, 3) := by decide +kernel
theorem d_Mod_say_4 : decode M_Mod_say.2.1 4 = .ok (.aload_n 0, 1) := by decide +kernel
theorem d_Mod_say_5 : decode M_Mod_say.2.1 5 = .ok (.getfield 100, 3) := by decide +kernel
theorem d_Mod_say_8 : decode M_Mod_say.2.1 8 = .ok (.iload_n 1, 1) := by decide +kernel
theorem d_Mod_say_9 : decode M_Mod_say.2.1 9 = .ok (.iastore, 1) := by decide +kernel
theorem d_Mod_say_10 : decode M_Mod_say.2.1 10 = .ok (.aload_n 0, 1) := by decide +kernel
theorem d_Mod_say_11 : decode M_Mod_say.2.1 11 = .ok (.dup, 1) := by decide +kernel
theorem d_Mod_say_12 : decode M_Mod_say.2.1 12 = .ok (.getfield 100, 3) := by decide +kernel
theorem d_Mod_say_15 : decode M_Mod_say.2.1 15 = .ok (.iconst 1, 1) := by decide +kernel
theorem d_Mod_say_16 : decode M_Mod_say.2.1 16 = .ok (.iadd, 1) := by decide +kernel
theorem d_Mod_say_17 : decode M_Mod_say.2.1 17 = .ok (.putfield 100, 3) := by decide +kernel
theorem d_Mod_say_20 : decode M_Mod_say.2.1 20 = .ok (.return_, 1) := by decide +kernel
theorem d_Mod_ready_0 : decode M_Mod_ready.2.1 0 = .ok (.aload_n 0, 1) := by decide +kernel
theorem d_Mod_ready_1 : decode M_Mod_ready.2.1 1 = .ok (.getfield 32, 3) := by decide +kernel
theorem d_Mod_ready_4 : decode M_Mod_ready.2.1 4 = .ok (.iconst 5, 1) := by decide +kernel
theorem d_Mod_ready_5 : decode M_Mod_ready.2.1 5 = .ok (.iaload, 1) := by decide +kernel
theorem d_Mod_ready_6 : decode M_Mod_ready.2.1 6 = .ok (.sipush 131, 3) := by decide +kernel
theorem d_Mod_ready_9 : decode M_Mod_ready.2.1 9 = .ok (.if_icmp .ne 15, 3) := by decide +kernel
theorem d_Mod_ready_12 : decode M_Mod_ready.2.1 12 = .ok (.aload_n 0, 1) := by decide +kernel
theorem d_Mod_ready_13 : decode M_Mod_ready.2.1 13 = .ok (.getfield 32, 3) := by decide +kernel
theorem d_Mod_ready_16 : decode M_Mod_ready.2.1 16 = .ok (.bipush 6, 2) := by decide +kernel
theorem d_Mod_ready_18 : decode M_Mod_ready.2.1 18 = .ok (.iaload, 1) := by decide +kernel
theorem d_Mod_ready_19 : decode M_Mod_ready.2.1 19 = .ok (.bipush 6, 2) := by decide +kernel
theorem d_Mod_ready_21 : decode M_Mod_ready.2.1 21 = .ok (.if_icmp .eq 7, 3) := by decide +kernel
theorem d_Mod_ready_24 : decode M_Mod_ready.2.1 24 = .ok (.sipush 27264, 3) := by decide +kernel
theorem d_Mod_ready_27 : decode M_Mod_ready.2.1 27 = .ok (.ireturn, 1) := by decide +kernel
theorem d_Mod_ready_28 : decode M_Mod_ready.2.1 28 = .ok (.aload_n 0, 1) := by decide +kernel
theorem d_Mod_ready_29 : decode M_Mod_ready.2.1 29 = .ok (.dup, 1) := by decide +kernel
theorem d_Mod_ready_30 : decode M_Mod_ready.2.1 30 = .ok (.getfield 112, 3) := by decide +kernel
theorem d_Mod_ready_33 : decode M_Mod_ready.2.1 33 = .ok (.iconst 1, 1) := by decide +kernel
theorem d_Mod_ready_34 : decode M_Mod_ready.2.1 34 = .ok (.iadd, 1) := by decide +kernel
theorem d_Mod_ready_35 : decode M_Mod_ready.2.1 35 = .ok (.putfield 112, 3) := by decide +kernel
theorem d_Mod_ready_38 : decode M_Mod_ready.2.1 38 = .ok (.aload_n 0, 1) := by decide +kernel
theorem d_Mod_ready_39 : decode M_Mod_ready.2.1 39 = .ok (.aload_n 0, 1) := by decide +kernel
theorem d_Mod_ready_40 : decode M_Mod_ready.2.1 40 = .ok (.bipush 7, 2) := by decide +kernel
theorem d_Mod_ready_42 : decode M_Mod_ready.2.1 42 = .ok (.invokevirtual 158, 3) := by decide +kernel
theorem d_Mod_ready_45 : decode M_Mod_ready.2.1 45 = .ok (.putfield 162, 3) := by decide +kernel
theorem d_Mod_ready_48 : decode M_Mod_ready.2.1 48 = .ok (.aload_n 0, 1) := by decide +kernel
theorem d_Mod_ready_49 : decode M_Mod_ready.2.1 49 = .ok (.iconst 0, 1) := by decide +kernel
theorem d_Mod_ready_50 : decode M_Mod_ready.2.1 50 = .ok (.putfield 166, 3) := by decide +kernel
theorem d_Mod_ready_53 : decode M_Mod_ready.2.1 53 = .ok (.aload_n 0, 1) := by decide +kernel
theorem d_Mod_ready_54 : decode M_Mod_ready.2.1 54 = .ok (.iconst 2, 1) := by decide +kernel
theorem d_Mod_ready_55 : decode M_Mod_ready.2.1 55 = .ok (.putfield 109, 3) := by decide +kernel
theorem d_Mod_ready_58 : decode M_Mod_ready.2.1 58 = .ok (.iconst 0, 1) := by decide +kernel
theorem d_Mod_ready_59 : decode M_Mod_ready.2.1 59 = .ok (.istore_n 1, 1) := by decide +kernel
theorem d_Mod_ready_60 : decode M_Mod_ready.2.1 60 = .ok (.iconst 0, 1) := by decide +kernel
theorem d_Mod_ready_61 : decode M_Mod_ready.2.1 61 = .ok (.istore_n 2, 1) := by decide +kernel
theorem d_Mod_ready_62 : decode M_Mod_ready.2.1 62 = .ok (.iload_n 2, 1) := by decide +kernel
theorem d_Mod_ready_63 : decode M_Mod_ready.2.1 63 = .ok (.iconst 4, 1) := by decide +kernel
theorem d_Mod_ready_64 : decode M_Mod_ready.2.1 64 = .ok (.if_icmp .ge 26, 3) := by decide +kernel
theorem d_Mod_ready_67 : decode M_Mod_ready.2.1 67 = .ok (.aload_n 0, 1) := by decide +kernel
theorem d_Mod_ready_68 : decode M_Mod_ready.2.1 68 = .ok (.getfield 19, 3) := by decide +kernel
theorem d_Mod_ready_71 : decode M_Mod_ready.2.1 71 = .ok (.iload_n 2, 1) := by decide +kernel
theorem d_Mod_ready_72 : decode M_Mod_ready.2.1 72 = .ok (.iaload, 1) := by decide +kernel
theorem d_Mod_ready_73 : decode M_Mod_ready.2.1 73 = .ok (.ifCond .le 9, 3) := by decide +kernel
theorem d_Mod_ready_76 : decode M_Mod_ready.2.1 76 = .ok (.iload_n 1, 1) := by decide +kernel
theorem d_Mod_ready_77 : decode M_Mod_ready.2.1 77 = .ok (.iconst 1, 1) := by decide +kernel
theorem d_Mod_ready_78 : decode M_Mod_ready.2.1 78 = .ok (.iadd, 1) := by decide +kernel
theorem d_Mod_ready_79 : decode M_Mod_ready.2.1 79 = .ok (.goto 4, 3) := by decide +kernel
theorem d_Mod_ready_82 : decode M_Mod_ready.2.1 82 = .ok (.iload_n 1, 1) := by decide +kernel
theorem d_Mod_ready_83 : decode M_Mod_ready.2.1 83 = .ok (.istore_n 1, 1) := by decide +kernel
theorem d_Mod_ready_84 : decode M_Mod_ready.2.1 84 = .ok (.iinc 2 1, 3) := by decide +kernel
theorem d_Mod_ready_87 : decode M_Mod_ready.2.1 87 = .ok (.goto (-25), 3) := by decide +kernel
theorem d_Mod_ready_90 : decode M_Mod_ready.2.1 90 = .ok (.aload_n 0, 1) := by decide +kernel
theorem d_Mod_ready_91 : decode M_Mod_ready.2.1 91 = .ok (.sipush 128, 3) := by decide +kernel
theorem d_Mod_ready_94 : decode M_Mod_ready.2.1 94 = .ok (.iconst 2, 1) := by decide +kernel
theorem d_Mod_ready_95 : decode M_Mod_ready.2.1 95 = .ok (.iconst 4, 1) := by decide +kernel
theorem d_Mod_ready_96 : decode M_Mod_ready.2.1 96 = .ok (.iload_n 1, 1) := by decide +kernel
theorem d_Mod_ready_97 : decode M_Mod_ready.2.1 97 = .ok (.imul, 1) := by decide +kernel
theorem d_Mod_ready_98 : decode M_Mod_ready.2.1 98 = .ok (.iadd, 1) := by decide +kernel
theorem d_Mod_ready_99 : decode M_Mod_ready.2.1 99 = .ok (.invokevirtual 151, 3) := by decide +kernel
theorem d_Mod_ready_102 : decode M_Mod_ready.2.1 102 = .ok (.aload_n 0, 1) := by decide +kernel
theorem d_Mod_ready_103 : decode M_Mod_ready.2.1 103 = .ok (.bipush 24, 2) := by decide +kernel
theorem d_Mod_ready_105 : decode M_Mod_ready.2.1 105 = .ok (.iconst 0, 1) := by decide +kernel
theorem d_Mod_ready_106 : decode M_Mod_ready.2.1 106 = .ok (.invokevirtual 151, 3) := by decide +kernel
theorem d_Mod_ready_109 : decode M_Mod_ready.2.1 109 = .ok (.iconst 0, 1) := by decide +kernel
theorem d_Mod_ready_110 : decode M_Mod_ready.2.1 110 = .ok (.istore_n 2, 1) := by decide +kernel
theorem d_Mod_ready_111 : decode M_Mod_ready.2.1 111 = .ok (.iload_n 2, 1) := by decide +kernel
theorem d_Mod_ready_112 : decode M_Mod_ready.2.1 112 = .ok (.iconst 4, 1) := by decide +kernel
theorem d_Mod_ready_113 : decode M_Mod_ready.2.1 113 = .ok (.if_icmp .ge 41, 3) := by decide +kernel
theorem d_Mod_ready_116 : decode M_Mod_ready.2.1 116 = .ok (.aload_n 0, 1) := by decide +kernel
theorem d_Mod_ready_117 : decode M_Mod_ready.2.1 117 = .ok (.getfield 19, 3) := by decide +kernel
theorem d_Mod_ready_120 : decode M_Mod_ready.2.1 120 = .ok (.iload_n 2, 1) := by decide +kernel
theorem d_Mod_ready_121 : decode M_Mod_ready.2.1 121 = .ok (.iaload, 1) := by decide +kernel
theorem d_Mod_ready_122 : decode M_Mod_ready.2.1 122 = .ok (.ifCond .le 26, 3) := by decide +kernel
theorem d_Mod_ready_125 : decode M_Mod_ready.2.1 125 = .ok (.aload_n 0, 1) := by decide +kernel
theorem d_Mod_ready_126 : decode M_Mod_ready.2.1 126 = .ok (.bipush 8, 2) := by decide +kernel
theorem d_Mod_ready_128 : decode M_Mod_ready.2.1 128 = .ok (.iload_n 2, 1) := by decide +kernel
theorem d_Mod_ready_129 : decode M_Mod_ready.2.1 129 = .ok (.imul, 1) := by decide +kernel
theorem d_Mod_ready_130 : decode M_Mod_ready.2.1 130 = .ok (.bipush 8, 2) := by decide +kernel
theorem d_Mod_ready_132 : decode M_Mod_ready.2.1 132 = .ok (.iadd, 1) := by decide +kernel
theorem d_Mod_ready_133 : decode M_Mod_ready.2.1 133 = .ok (.iconst 1, 1) := by decide +kernel
theorem d_Mod_ready_134 : decode M_Mod_ready.2.1 134 = .ok (.invokevirtual 151, 3) := by decide +kernel
theorem d_Mod_ready_137 : decode M_Mod_ready.2.1 137 = .ok (.aload_n 0, 1) := by decide +kernel
theorem d_Mod_ready_138 : decode M_Mod_ready.2.1 138 = .ok (.aload_n 0, 1) := by decide +kernel
theorem d_Mod_ready_139 : decode M_Mod_ready.2.1 139 = .ok (.getfield 19, 3) := by decide +kernel
theorem d_Mod_ready_142 : decode M_Mod_ready.2.1 142 = .ok (.iload_n 2, 1) := by decide +kernel
theorem d_Mod_ready_143 : decode M_Mod_ready.2.1 143 = .ok (.iaload, 1) := by decide +kernel
theorem d_Mod_ready_144 : decode M_Mod_ready.2.1 144 = .ok (.iconst 0, 1) := by decide +kernel
theorem d_Mod_ready_145 : decode M_Mod_ready.2.1 145 = .ok (.invokevirtual 151, 3) := by decide +kernel
theorem d_Mod_ready_148 : decode M_Mod_ready.2.1 148 = .ok (.iinc 2 1, 3) := by decide +kernel
theorem d_Mod_ready_151 : decode M_Mod_ready.2.1 151 = .ok (.goto (-40), 3) := by decide +kernel
theorem d_Mod_ready_154 : decode M_Mod_ready.2.1 154 = .ok (.ldc 155, 2) := by decide +kernel
theorem d_Mod_ready_156 : decode M_Mod_ready.2.1 156 = .ok (.ireturn, 1) := by decide +kernel
theorem d_Mod_sixFrom_0 : decode M_Mod_sixFrom.2.1 0 = .ok (.lconst 0, 1) := by decide +kernel
theorem d_Mod_sixFrom_1 : decode M_Mod_sixFrom.2.1 1 = .ok (.lstore_n 2, 1) := by decide +kernel
theorem d_Mod_sixFrom_2 : decode M_Mod_sixFrom.2.1 2 = .ok (.iconst 0, 1) := by decide +kernel
theorem d_Mod_sixFrom_3 : decode M_Mod_sixFrom.2.1 3 = .ok (.istore 4, 2) := by decide +kernel
theorem d_Mod_sixFrom_5 : decode M_Mod_sixFrom.2.1 5 = .ok (.iload 4, 2) := by decide +kernel
theorem d_Mod_sixFrom_7 : decode M_Mod_sixFrom.2.1 7 = .ok (.bipush 6, 2) := by decide +kernel
theorem d_Mod_sixFrom_9 : decode M_Mod_sixFrom.2.1 9 = .ok (.if_icmp .ge 26, 3) := by decide +kernel
theorem d_Mod_sixFrom_12 : decode M_Mod_sixFrom.2.1 12 = .ok (.ldc2_w 156, 3) := by decide +kernel
theorem d_Mod_sixFrom_15 : decode M_Mod_sixFrom.2.1 15 = .ok (.lload_n 2, 1) := by decide +kernel
theorem d_Mod_sixFrom_16 : decode M_Mod_sixFrom.2.1 16 = .ok (.lmul, 1) := by decide +kernel
theorem d_Mod_sixFrom_17 : decode M_Mod_sixFrom.2.1 17 = .ok (.aload_n 0, 1) := by decide +kernel
theorem d_Mod_sixFrom_18 : decode M_Mod_sixFrom.2.1 18 = .ok (.getfield 32, 3) := by decide +kernel
theorem d_Mod_sixFrom_21 : decode M_Mod_sixFrom.2.1 21 = .ok (.iload_n 1, 1) := by decide +kernel
theorem d_Mod_sixFrom_22 : decode M_Mod_sixFrom.2.1 22 = .ok (.iload 4, 2) := by decide +kernel
theorem d_Mod_sixFrom_24 : decode M_Mod_sixFrom.2.1 24 = .ok (.iadd, 1) := by decide +kernel
theorem d_Mod_sixFrom_25 : decode M_Mod_sixFrom.2.1 25 = .ok (.iaload, 1) := by decide +kernel
theorem d_Mod_sixFrom_26 : decode M_Mod_sixFrom.2.1 26 = .ok (.i2l, 1) := by decide +kernel
theorem d_Mod_sixFrom_27 : decode M_Mod_sixFrom.2.1 27 = .ok (.ladd, 1) := by decide +kernel
theorem d_Mod_sixFrom_28 : decode M_Mod_sixFrom.2.1 28 = .ok (.lstore_n 2, 1) := by decide +kernel
theorem d_Mod_sixFrom_29 : decode M_Mod_sixFrom.2.1 29 = .ok (.iinc 4 1, 3) := by decide +kernel
theorem d_Mod_sixFrom_32 : decode M_Mod_sixFrom.2.1 32 = .ok (.goto (-27), 3) := by decide +kernel
theorem d_Mod_sixFrom_35 : decode M_Mod_sixFrom.2.1 35 = .ok (.lload_n 2, 1) := by decide +kernel
theorem d_Mod_sixFrom_36 : decode M_Mod_sixFrom.2.1 36 = .ok (.lreturn, 1) := by decide +kernel
theorem d_Mod_readRecord_0 : decode M_Mod_readRecord.2.1 0 = .ok (.aload_n 0, 1) := by decide +kernel
theorem d_Mod_readRecord_1 : decode M_Mod_readRecord.2.1 1 = .ok (.getfield 32, 3) := by decide +kernel
theorem d_Mod_readRecord_4 : decode M_Mod_readRecord.2.1 4 = .ok (.iconst 3, 1) := by decide +kernel
theorem d_Mod_readRecord_5 : decode M_Mod_readRecord.2.1 5 = .ok (.iaload, 1) := by decide +kernel
theorem d_Mod_readRecord_6 : decode M_Mod_readRecord.2.1 6 = .ok (.bipush 8, 2) := by decide +kernel
theorem d_Mod_readRecord_8 : decode M_Mod_readRecord.2.1 8 = .ok (.idiv, 1) := by decide +kernel
theorem d_Mod_readRecord_9 : decode M_Mod_readRecord.2.1 9 = .ok (.iconst 1, 1) := by decide +kernel
theorem d_Mod_readRecord_10 : decode M_Mod_readRecord.2.1 10 = .ok (.isub, 1) := by decide +kernel
theorem d_Mod_readRecord_11 : decode M_Mod_readRecord.2.1 11 = .ok (.istore_n 1, 1) := by decide +kernel
theorem d_Mod_readRecord_12 : decode M_Mod_readRecord.2.1 12 = .ok (.iload_n 1, 1) := by decide +kernel
theorem d_Mod_readRecord_13 : decode M_Mod_readRecord.2.1 13 = .ok (.ifCond .lt 17, 3) := by decide +kernel
theorem d_Mod_readRecord_16 : decode M_Mod_readRecord.2.1 16 = .ok (.iload_n 1, 1) := by decide +kernel
theorem d_Mod_readRecord_17 : decode M_Mod_readRecord.2.1 17 = .ok (.iconst 3, 1) := by decide +kernel
theorem d_Mod_readRecord_18 : decode M_Mod_readRecord.2.1 18 = .ok (.if_icmp .gt 12, 3) := by decide +kernel
theorem d_Mod_readRecord_21 : decode M_Mod_readRecord.2.1 21 = .ok (.aload_n 0, 1) := by decide +kernel
theorem d_Mod_readRecord_22 : decode M_Mod_readRecord.2.1 22 = .ok (.getfield 19, 3) := by decide +kernel
theorem d_Mod_readRecord_25 : decode M_Mod_readRecord.2.1 25 = .ok (.iload_n 1, 1) := by decide +kernel
theorem d_Mod_readRecord_26 : decode M_Mod_readRecord.2.1 26 = .ok (.iaload, 1) := by decide +kernel
theorem d_Mod_readRecord_27 : decode M_Mod_readRecord.2.1 27 = .ok (.ifCond .ne 7, 3) := by decide +kernel
theorem d_Mod_readRecord_30 : decode M_Mod_readRecord.2.1 30 = .ok (.sipush 27266, 3) := by decide +kernel
theorem d_Mod_readRecord_33 : decode M_Mod_readRecord.2.1 33 = .ok (.ireturn, 1) := by decide +kernel
theorem d_Mod_readRecord_34 : decode M_Mod_readRecord.2.1 34 = .ok (.aload_n 0, 1) := by decide +kernel
theorem d_Mod_readRecord_35 : decode M_Mod_readRecord.2.1 35 = .ok (.getfield 32, 3) := by decide +kernel
theorem d_Mod_readRecord_38 : decode M_Mod_readRecord.2.1 38 = .ok (.iconst 2, 1) := by decide +kernel
theorem d_Mod_readRecord_39 : decode M_Mod_readRecord.2.1 39 = .ok (.iaload, 1) := by decide +kernel
theorem d_Mod_readRecord_40 : decode M_Mod_readRecord.2.1 40 = .ok (.iconst 1, 1) := by decide +kernel
theorem d_Mod_readRecord_41 : decode M_Mod_readRecord.2.1 41 = .ok (.isub, 1) := by decide +kernel
theorem d_Mod_readRecord_42 : decode M_Mod_readRecord.2.1 42 = .ok (.istore_n 2, 1) := by decide +kernel
theorem d_Mod_readRecord_43 : decode M_Mod_readRecord.2.1 43 = .ok (.iload_n 2, 1) := by decide +kernel
theorem d_Mod_readRecord_44 : decode M_Mod_readRecord.2.1 44 = .ok (.ifCond .lt 13, 3) := by decide +kernel
theorem d_Mod_readRecord_47 : decode M_Mod_readRecord.2.1 47 = .ok (.iload_n 2, 1) := by decide +kernel
theorem d_Mod_readRecord_48 : decode M_Mod_readRecord.2.1 48 = .ok (.aload_n 0, 1) := by decide +kernel
theorem d_Mod_readRecord_49 : decode M_Mod_readRecord.2.1 49 = .ok (.getfield 19, 3) := by decide +kernel
theorem d_Mod_readRecord_52 : decode M_Mod_readRecord.2.1 52 = .ok (.iload_n 1, 1) := by decide +kernel
theorem d_Mod_readRecord_53 : decode M_Mod_readRecord.2.1 53 = .ok (.iaload, 1) := by decide +kernel
theorem d_Mod_readRecord_54 : decode M_Mod_readRecord.2.1 54 = .ok (.if_icmp .lt 7, 3) := by decide +kernel
theorem d_Mod_readRecord_57 : decode M_Mod_readRecord.2.1 57 = .ok (.sipush 27267, 3) := by decide +kernel
theorem d_Mod_readRecord_60 : decode M_Mod_readRecord.2.1 60 = .ok (.ireturn, 1) := by decide +kernel
theorem d_Mod_readRecord_61 : decode M_Mod_readRecord.2.1 61 = .ok (.iconst 3, 1) := by decide +kernel
theorem d_Mod_readRecord_62 : decode M_Mod_readRecord.2.1 62 = .ok (.iload_n 1, 1) := by decide +kernel
theorem d_Mod_readRecord_63 : decode M_Mod_readRecord.2.1 63 = .ok (.imul, 1) := by decide +kernel
theorem d_Mod_readRecord_64 : decode M_Mod_readRecord.2.1 64 = .ok (.iload_n 2, 1) := by decide +kernel
theorem d_Mod_readRecord_65 : decode M_Mod_readRecord.2.1 65 = .ok (.iadd, 1) := by decide +kernel
theorem d_Mod_readRecord_66 : decode M_Mod_readRecord.2.1 66 = .ok (.istore_n 3, 1) := by decide +kernel
theorem d_Mod_readRecord_67 : decode M_Mod_readRecord.2.1 67 = .ok (.aload_n 0, 1) := by decide +kernel
theorem d_Mod_readRecord_68 : decode M_Mod_readRecord.2.1 68 = .ok (.bipush 112, 2) := by decide +kernel
theorem d_Mod_readRecord_70 : decode M_Mod_readRecord.2.1 70 = .ok (.aload_n 0, 1) := by decide +kernel
theorem d_Mod_readRecord_71 : decode M_Mod_readRecord.2.1 71 = .ok (.getfield 22, 3) := by decide +kernel
theorem d_Mod_readRecord_74 : decode M_Mod_readRecord.2.1 74 = .ok (.iload_n 3, 1) := by decide +kernel
theorem d_Mod_readRecord_75 : decode M_Mod_readRecord.2.1 75 = .ok (.iaload, 1) := by decide +kernel
theorem d_Mod_readRecord_76 : decode M_Mod_readRecord.2.1 76 = .ok (.invokevirtual 151, 3) := by decide +kernel
theorem d_Mod_readRecord_79 : decode M_Mod_readRecord.2.1 79 = .ok (.iconst 0, 1) := by decide +kernel
theorem d_Mod_readRecord_80 : decode M_Mod_readRecord.2.1 80 = .ok (.istore 4, 2) := by decide +kernel
theorem d_Mod_readRecord_82 : decode M_Mod_readRecord.2.1 82 = .ok (.iload 4, 2) := by decide +kernel
theorem d_Mod_readRecord_84 : decode M_Mod_readRecord.2.1 84 = .ok (.aload_n 0, 1) := by decide +kernel
theorem d_Mod_readRecord_85 : decode M_Mod_readRecord.2.1 85 = .ok (.getfield 22, 3) := by decide +kernel
theorem d_Mod_readRecord_88 : decode M_Mod_readRecord.2.1 88 = .ok (.iload_n 3, 1) := by decide +kernel
theorem d_Mod_readRecord_89 : decode M_Mod_readRecord.2.1 89 = .ok (.iaload, 1) := by decide +kernel
theorem d_Mod_readRecord_90 : decode M_Mod_readRecord.2.1 90 = .ok (.if_icmp .ge 25, 3) := by decide +kernel
theorem d_Mod_readRecord_93 : decode M_Mod_readRecord.2.1 93 = .ok (.aload_n 0, 1) := by decide +kernel
theorem d_Mod_readRecord_94 : decode M_Mod_readRecord.2.1 94 = .ok (.aload_n 0, 1) := by decide +kernel
theorem d_Mod_readRecord_95 : decode M_Mod_readRecord.2.1 95 = .ok (.getfield 25, 3) := by decide +kernel
theorem d_Mod_readRecord_98 : decode M_Mod_readRecord.2.1 98 = .ok (.bipush 30, 2) := by decide +kernel
theorem d_Mod_readRecord_100 : decode M_Mod_readRecord.2.1 100 = .ok (.iload_n 3, 1) := by decide +kernel
theorem d_Mod_readRecord_101 : decode M_Mod_readRecord.2.1 101 = .ok (.imul, 1) := by decide +kernel
theorem d_Mod_readRecord_102 : decode M_Mod_readRecord.2.1 102 = .ok (.iload 4, 2) := by decide +kernel
theorem d_Mod_readRecord_104 : decode M_Mod_readRecord.2.1 104 = .ok (.iadd, 1) := by decide +kernel
theorem d_Mod_readRecord_105 : decode M_Mod_readRecord.2.1 105 = .ok (.iaload, 1) := by decide +kernel
theorem d_Mod_readRecord_106 : decode M_Mod_readRecord.2.1 106 = .ok (.invokevirtual 103, 3) := by decide +kernel
theorem d_Mod_readRecord_109 : decode M_Mod_readRecord.2.1 109 = .ok (.iinc 4 1, 3) := by decide +kernel
theorem d_Mod_readRecord_112 : decode M_Mod_readRecord.2.1 112 = .ok (.goto (-30), 3) := by decide +kernel
theorem d_Mod_readRecord_115 : decode M_Mod_readRecord.2.1 115 = .ok (.ldc 155, 2) := by decide +kernel
theorem d_Mod_readRecord_117 : decode M_Mod_readRecord.2.1 117 = .ok (.ireturn, 1) := by decide +kernel
theorem d_Mod_prove_0 : decode M_Mod_prove.2.1 0 = .ok (.aload_n 0, 1) := by decide +kernel
theorem d_Mod_prove_1 : decode M_Mod_prove.2.1 1 = .ok (.getfield 28, 3) := by decide +kernel
theorem d_Mod_prove_4 : decode M_Mod_prove.2.1 4 = .ok (.ifCond .ne 7, 3) := by decide +kernel
theorem d_Mod_prove_7 : decode M_Mod_prove.2.1 7 = .ok (.sipush 27011, 3) := by decide +kernel
theorem d_Mod_prove_10 : decode M_Mod_prove.2.1 10 = .ok (.ireturn, 1) := by decide +kernel
theorem d_Mod_prove_11 : decode M_Mod_prove.2.1 11 = .ok (.aload_n 0, 1) := by decide +kernel
theorem d_Mod_prove_12 : decode M_Mod_prove.2.1 12 = .ok (.getfield 32, 3) := by decide +kernel
theorem d_Mod_prove_15 : decode M_Mod_prove.2.1 15 = .ok (.iconst 5, 1) := by decide +kernel
theorem d_Mod_prove_16 : decode M_Mod_prove.2.1 16 = .ok (.iaload, 1) := by decide +kernel
theorem d_Mod_prove_17 : decode M_Mod_prove.2.1 17 = .ok (.bipush 36, 2) := by decide +kernel
theorem d_Mod_prove_19 : decode M_Mod_prove.2.1 19 = .ok (.if_icmp .ne 7, 3) := by decide +kernel
theorem d_Mod_prove_22 : decode M_Mod_prove.2.1 22 = .ok (.iconst 1, 1) := by decide +kernel
theorem d_Mod_prove_23 : decode M_Mod_prove.2.1 23 = .ok (.goto 4, 3) := by decide +kernel
theorem d_Mod_prove_26 : decode M_Mod_prove.2.1 26 = .ok (.iconst 0, 1) := by decide +kernel
theorem d_Mod_prove_27 : decode M_Mod_prove.2.1 27 = .ok (.istore_n 1, 1) := by decide +kernel
theorem d_Mod_prove_28 : decode M_Mod_prove.2.1 28 = .ok (.iconst 0, 1) := by decide +kernel
theorem d_Mod_prove_29 : decode M_Mod_prove.2.1 29 = .ok (.istore_n 2, 1) := by decide +kernel
theorem d_Mod_prove_30 : decode M_Mod_prove.2.1 30 = .ok (.iload_n 2, 1) := by decide +kernel
theorem d_Mod_prove_31 : decode M_Mod_prove.2.1 31 = .ok (.iconst 5, 1) := by decide +kernel
theorem d_Mod_prove_32 : decode M_Mod_prove.2.1 32 = .ok (.if_icmp .ge 34, 3) := by decide +kernel
theorem d_Mod_prove_35 : decode M_Mod_prove.2.1 35 = .ok (.iload_n 1, 1) := by decide +kernel
theorem d_Mod_prove_36 : decode M_Mod_prove.2.1 36 = .ok (.ifCond .eq 22, 3) := by decide +kernel
theorem d_Mod_prove_39 : decode M_Mod_prove.2.1 39 = .ok (.aload_n 0, 1) := by decide +kernel
theorem d_Mod_prove_40 : decode M_Mod_prove.2.1 40 = .ok (.getfield 32, 3) := by decide +kernel
theorem d_Mod_prove_43 : decode M_Mod_prove.2.1 43 = .ok (.bipush 8, 2) := by decide +kernel
theorem d_Mod_prove_45 : decode M_Mod_prove.2.1 45 = .ok (.iload_n 2, 1) := by decide +kernel
theorem d_Mod_prove_46 : decode M_Mod_prove.2.1 46 = .ok (.iadd, 1) := by decide +kernel
theorem d_Mod_prove_47 : decode M_Mod_prove.2.1 47 = .ok (.iaload, 1) := by decide +kernel
theorem d_Mod_prove_48 : decode M_Mod_prove.2.1 48 = .ok (.sipush 255, 3) := by decide +kernel
theorem d_Mod_prove_51 : decode M_Mod_prove.2.1 51 = .ok (.if_icmp .ne 7, 3) := by decide +kernel
theorem d_Mod_prove_54 : decode M_Mod_prove.2.1 54 = .ok (.iconst 1, 1) := by decide +kernel
theorem d_Mod_prove_55 : decode M_Mod_prove.2.1 55 = .ok (.goto 4, 3) := by decide +kernel
theorem d_Mod_prove_58 : decode M_Mod_prove.2.1 58 = .ok (.iconst 0, 1) := by decide +kernel
theorem d_Mod_prove_59 : decode M_Mod_prove.2.1 59 = .ok (.istore_n 1, 1) := by decide +kernel
theorem d_Mod_prove_60 : decode M_Mod_prove.2.1 60 = .ok (.iinc 2 1, 3) := by decide +kernel
theorem d_Mod_prove_63 : decode M_Mod_prove.2.1 63 = .ok (.goto (-33), 3) := by decide +kernel
theorem d_Mod_prove_66 : decode M_Mod_prove.2.1 66 = .ok (.iconst 1, 1) := by decide +kernel
theorem d_Mod_prove_67 : decode M_Mod_prove.2.1 67 = .ok (.istore_n 2, 1) := by decide +kernel
theorem d_Mod_prove_68 : decode M_Mod_prove.2.1 68 = .ok (.iconst 0, 1) := by decide +kernel
theorem d_Mod_prove_69 : decode M_Mod_prove.2.1 69 = .ok (.istore_n 3, 1) := by decide +kernel
theorem d_Mod_prove_70 : decode M_Mod_prove.2.1 70 = .ok (.iload_n 3, 1) := by decide +kernel
theorem d_Mod_prove_71 : decode M_Mod_prove.2.1 71 = .ok (.iconst 4, 1) := by decide +kernel
theorem d_Mod_prove_72 : decode M_Mod_prove.2.1 72 = .ok (.if_icmp .ge 53, 3) := by decide +kernel
theorem d_Mod_prove_75 : decode M_Mod_prove.2.1 75 = .ok (.iload_n 1, 1) := by decide +kernel
theorem d_Mod_prove_76 : decode M_Mod_prove.2.1 76 = .ok (.ifCond .eq 17, 3) := by decide +kernel
theorem d_Mod_prove_79 : decode M_Mod_prove.2.1 79 = .ok (.aload_n 0, 1) := by decide +kernel
theorem d_Mod_prove_80 : decode M_Mod_prove.2.1 80 = .ok (.iload_n 3, 1) := by decide +kernel
theorem d_Mod_prove_81 : decode M_Mod_prove.2.1 81 = .ok (.invokevirtual 170, 3) := by decide +kernel
theorem d_Mod_prove_84 : decode M_Mod_prove.2.1 84 = .ok (.bipush 9, 2) := by decide +kernel
theorem d_Mod_prove_86 : decode M_Mod_prove.2.1 86 = .ok (.if_icmp .gt 7, 3) := by decide +kernel
theorem d_Mod_prove_89 : decode M_Mod_prove.2.1 89 = .ok (.iconst 1, 1) := by decide +kernel
theorem d_Mod_prove_90 : decode M_Mod_prove.2.1 90 = .ok (.goto 4, 3) := by decide +kernel
theorem d_Mod_prove_93 : decode M_Mod_prove.2.1 93 = .ok (.iconst 0, 1) := by decide +kernel
theorem d_Mod_prove_94 : decode M_Mod_prove.2.1 94 = .ok (.istore_n 1, 1) := by decide +kernel
theorem d_Mod_prove_95 : decode M_Mod_prove.2.1 95 = .ok (.iload_n 2, 1) := by decide +kernel
theorem d_Mod_prove_96 : decode M_Mod_prove.2.1 96 = .ok (.ifCond .eq 21, 3) := by decide +kernel
theorem d_Mod_prove_99 : decode M_Mod_prove.2.1 99 = .ok (.aload_n 0, 1) := by decide +kernel
theorem d_Mod_prove_100 : decode M_Mod_prove.2.1 100 = .ok (.iload_n 3, 1) := by decide +kernel
theorem d_Mod_prove_101 : decode M_Mod_prove.2.1 101 = .ok (.invokevirtual 170, 3) := by decide +kernel
theorem d_Mod_prove_104 : decode M_Mod_prove.2.1 104 = .ok (.aload_n 0, 1) := by decide +kernel
theorem d_Mod_prove_105 : decode M_Mod_prove.2.1 105 = .ok (.getfield 13, 3) := by decide +kernel
theorem d_Mod_prove_108 : decode M_Mod_prove.2.1 108 = .ok (.iload_n 3, 1) := by decide +kernel
theorem d_Mod_prove_109 : decode M_Mod_prove.2.1 109 = .ok (.iaload, 1) := by decide +kernel
theorem d_Mod_prove_110 : decode M_Mod_prove.2.1 110 = .ok (.if_icmp .ne 7, 3) := by decide +kernel
theorem d_Mod_prove_113 : decode M_Mod_prove.2.1 113 = .ok (.iconst 1, 1) := by decide +kernel
theorem d_Mod_prove_114 : decode M_Mod_prove.2.1 114 = .ok (.goto 4, 3) := by decide +kernel
theorem d_Mod_prove_117 : decode M_Mod_prove.2.1 117 = .ok (.iconst 0, 1) := by decide +kernel
theorem d_Mod_prove_118 : decode M_Mod_prove.2.1 118 = .ok (.istore_n 2, 1) := by decide +kernel
theorem d_Mod_prove_119 : decode M_Mod_prove.2.1 119 = .ok (.iinc 3 1, 3) := by decide +kernel
theorem d_Mod_prove_122 : decode M_Mod_prove.2.1 122 = .ok (.goto (-52), 3) := by decide +kernel
theorem d_Mod_prove_125 : decode M_Mod_prove.2.1 125 = .ok (.iload_n 1, 1) := by decide +kernel
theorem d_Mod_prove_126 : decode M_Mod_prove.2.1 126 = .ok (.ifCond .ne 7, 3) := by decide +kernel
theorem d_Mod_prove_129 : decode M_Mod_prove.2.1 129 = .ok (.sipush 27264, 3) := by decide +kernel
theorem d_Mod_prove_132 : decode M_Mod_prove.2.1 132 = .ok (.ireturn, 1) := by decide +kernel
theorem d_Mod_prove_133 : decode M_Mod_prove.2.1 133 = .ok (.aload_n 0, 1) := by decide +kernel
theorem d_Mod_prove_134 : decode M_Mod_prove.2.1 134 = .ok (.iload_n 2, 1) := by decide +kernel
theorem d_Mod_prove_135 : decode M_Mod_prove.2.1 135 = .ok (.putfield 166, 3) := by decide +kernel
theorem d_Mod_prove_138 : decode M_Mod_prove.2.1 138 = .ok (.aload_n 0, 1) := by decide +kernel
theorem d_Mod_prove_139 : decode M_Mod_prove.2.1 139 = .ok (.iload_n 2, 1) := by decide +kernel
theorem d_Mod_prove_140 : decode M_Mod_prove.2.1 140 = .ok (.ifCond .eq 7, 3) := by decide +kernel
theorem d_Mod_prove_143 : decode M_Mod_prove.2.1 143 = .ok (.iconst 3, 1) := by decide +kernel
theorem d_Mod_prove_144 : decode M_Mod_prove.2.1 144 = .ok (.goto 9, 3) := by decide +kernel
theorem d_Mod_prove_147 : decode M_Mod_prove.2.1 147 = .ok (.aload_n 0, 1) := by decide +kernel
theorem d_Mod_prove_148 : decode M_Mod_prove.2.1 148 = .ok (.getfield 28, 3) := by decide +kernel
theorem d_Mod_prove_151 : decode M_Mod_prove.2.1 151 = .ok (.iconst 1, 1) := by decide +kernel
theorem d_Mod_prove_152 : decode M_Mod_prove.2.1 152 = .ok (.isub, 1) := by decide +kernel
theorem d_Mod_prove_153 : decode M_Mod_prove.2.1 153 = .ok (.putfield 28, 3) := by decide +kernel
theorem d_Mod_prove_156 : decode M_Mod_prove.2.1 156 = .ok (.iload_n 2, 1) := by decide +kernel
theorem d_Mod_prove_157 : decode M_Mod_prove.2.1 157 = .ok (.ifCond .eq 8, 3) := by decide +kernel
theorem d_Mod_prove_160 : decode M_Mod_prove.2.1 160 = .ok (.ldc 155, 2) := by decide +kernel
theorem d_Mod_prove_162 : decode M_Mod_prove.2.1 162 = .ok (.goto 11, 3) := by decide +kernel
theorem d_Mod_prove_165 : decode M_Mod_prove.2.1 165 = .ok (.sipush 25536, 3) := by decide +kernel
theorem d_Mod_prove_168 : decode M_Mod_prove.2.1 168 = .ok (.aload_n 0, 1) := by decide +kernel
theorem d_Mod_prove_169 : decode M_Mod_prove.2.1 169 = .ok (.getfield 28, 3) := by decide +kernel
theorem d_Mod_prove_172 : decode M_Mod_prove.2.1 172 = .ok (.iadd, 1) := by decide +kernel
theorem d_Mod_prove_173 : decode M_Mod_prove.2.1 173 = .ok (.ireturn, 1) := by decide +kernel
theorem d_Mod_half_0 : decode M_Mod_half.2.1 0 = .ok (.aload_n 0, 1) := by decide +kernel
theorem d_Mod_half_1 : decode M_Mod_half.2.1 1 = .ok (.getfield 32, 3) := by decide +kernel
theorem d_Mod_half_4 : decode M_Mod_half.2.1 4 = .ok (.bipush 6, 2) := by decide +kernel
theorem d_Mod_half_6 : decode M_Mod_half.2.1 6 = .ok (.iload_n 1, 1) := by decide +kernel
theorem d_Mod_half_7 : decode M_Mod_half.2.1 7 = .ok (.iconst 2, 1) := by decide +kernel
theorem d_Mod_half_8 : decode M_Mod_half.2.1 8 = .ok (.idiv, 1) := by decide +kernel
theorem d_Mod_half_9 : decode M_Mod_half.2.1 9 = .ok (.iadd, 1) := by decide +kernel
theorem d_Mod_half_10 : decode M_Mod_half.2.1 10 = .ok (.iaload, 1) := by decide +kernel
theorem d_Mod_half_11 : decode M_Mod_half.2.1 11 = .ok (.istore_n 2, 1) := by decide +kernel
theorem d_Mod_half_12 : decode M_Mod_half.2.1 12 = .ok (.iload_n 1, 1) := by decide +kernel
theorem d_Mod_half_13 : decode M_Mod_half.2.1 13 = .ok (.iconst 2, 1) := by decide +kernel
theorem d_Mod_half_14 : decode M_Mod_half.2.1 14 = .ok (.irem, 1) := by decide +kernel
theorem d_Mod_half_15 : decode M_Mod_half.2.1 15 = .ok (.ifCond .ne 10, 3) := by decide +kernel
theorem d_Mod_half_18 : decode M_Mod_half.2.1 18 = .ok (.iload_n 2, 1) := by decide +kernel
theorem d_Mod_half_19 : decode M_Mod_half.2.1 19 = .ok (.bipush 16, 2) := by decide +kernel
theorem d_Mod_half_21 : decode M_Mod_half.2.1 21 = .ok (.idiv, 1) := by decide +kernel
theorem d_Mod_half_22 : decode M_Mod_half.2.1 22 = .ok (.goto 7, 3) := by decide +kernel
theorem d_Mod_half_25 : decode M_Mod_half.2.1 25 = .ok (.iload_n 2, 1) := by decide +kernel
theorem d_Mod_half_26 : decode M_Mod_half.2.1 26 = .ok (.bipush 16, 2) := by decide +kernel
theorem d_Mod_half_28 : decode M_Mod_half.2.1 28 = .ok (.irem, 1) := by decide +kernel
theorem d_Mod_half_29 : decode M_Mod_half.2.1 29 = .ok (.ireturn, 1) := by decide +kernel
theorem d_Mod_tell_0 : decode M_Mod_tell.2.1 0 = .ok (.aload_n 0, 1) := by decide +kernel
theorem d_Mod_tell_1 : decode M_Mod_tell.2.1 1 = .ok (.getfield 32, 3) := by decide +kernel
theorem d_Mod_tell_4 : decode M_Mod_tell.2.1 4 = .ok (.iconst 3, 1) := by decide +kernel
theorem d_Mod_tell_5 : decode M_Mod_tell.2.1 5 = .ok (.iaload, 1) := by decide +kernel
theorem d_Mod_tell_6 : decode M_Mod_tell.2.1 6 = .ok (.istore_n 1, 1) := by decide +kernel
theorem d_Mod_tell_7 : decode M_Mod_tell.2.1 7 = .ok (.aload_n 0, 1) := by decide +kernel
theorem d_Mod_tell_8 : decode M_Mod_tell.2.1 8 = .ok (.sipush 159, 3) := by decide +kernel
theorem d_Mod_tell_11 : decode M_Mod_tell.2.1 11 = .ok (.iload_n 1, 1) := by decide +kernel
theorem d_Mod_tell_12 : decode M_Mod_tell.2.1 12 = .ok (.invokevirtual 151, 3) := by decide +kernel
theorem d_Mod_tell_15 : decode M_Mod_tell.2.1 15 = .ok (.iload_n 1, 1) := by decide +kernel
theorem d_Mod_tell_16 : decode M_Mod_tell.2.1 16 = .ok (.bipush 54, 2) := by decide +kernel
theorem d_Mod_tell_18 : decode M_Mod_tell.2.1 18 = .ok (.if_icmp .ne 30, 3) := by decide +kernel
theorem d_Mod_tell_21 : decode M_Mod_tell.2.1 21 = .ok (.aload_n 0, 1) := by decide +kernel
theorem d_Mod_tell_22 : decode M_Mod_tell.2.1 22 = .ok (.iconst 2, 1) := by decide +kernel
theorem d_Mod_tell_23 : decode M_Mod_tell.2.1 23 = .ok (.invokevirtual 103, 3) := by decide +kernel
theorem d_Mod_tell_26 : decode M_Mod_tell.2.1 26 = .ok (.aload_n 0, 1) := by decide +kernel
theorem d_Mod_tell_27 : decode M_Mod_tell.2.1 27 = .ok (.aload_n 0, 1) := by decide +kernel
theorem d_Mod_tell_28 : decode M_Mod_tell.2.1 28 = .ok (.getfield 112, 3) := by decide +kernel
theorem d_Mod_tell_31 : decode M_Mod_tell.2.1 31 = .ok (.bipush 8, 2) := by decide +kernel
theorem d_Mod_tell_33 : decode M_Mod_tell.2.1 33 = .ok (.ishr, 1) := by decide +kernel
theorem d_Mod_tell_34 : decode M_Mod_tell.2.1 34 = .ok (.aload_n 0, 1) := by decide +kernel
theorem d_Mod_tell_35 : decode M_Mod_tell.2.1 35 = .ok (.getfield 112, 3) := by decide +kernel
theorem d_Mod_tell_38 : decode M_Mod_tell.2.1 38 = .ok (.sipush 255, 3) := by decide +kernel
theorem d_Mod_tell_41 : decode M_Mod_tell.2.1 41 = .ok (.iand, 1) := by decide +kernel
theorem d_Mod_tell_42 : decode M_Mod_tell.2.1 42 = .ok (.invokevirtual 151, 3) := by decide +kernel
theorem d_Mod_tell_45 : decode M_Mod_tell.2.1 45 = .ok (.goto 12, 3) := by decide +kernel
theorem d_Mod_tell_48 : decode M_Mod_tell.2.1 48 = .ok (.aload_n 0, 1) := by decide +kernel
theorem d_Mod_tell_49 : decode M_Mod_tell.2.1 49 = .ok (.iconst 1, 1) := by decide +kernel
theorem d_Mod_tell_50 : decode M_Mod_tell.2.1 50 = .ok (.aload_n 0, 1) := by decide +kernel
theorem d_Mod_tell_51 : decode M_Mod_tell.2.1 51 = .ok (.getfield 28, 3) := by decide +kernel
theorem d_Mod_tell_54 : decode M_Mod_tell.2.1 54 = .ok (.invokevirtual 151, 3) := by decide +kernel
theorem d_Mod_tell_57 : decode M_Mod_tell.2.1 57 = .ok (.ldc 155, 2) := by decide +kernel
theorem d_Mod_tell_59 : decode M_Mod_tell.2.1 59 = .ok (.ireturn, 1) := by decide +kernel
theorem d_Mod_give_0 : decode M_Mod_give.2.1 0 = .ok (.aload_n 0, 1) := by decide +kernel
theorem d_Mod_give_1 : decode M_Mod_give.2.1 1 = .ok (.invokevirtual 176, 3) := by decide +kernel
theorem d_Mod_give_4 : decode M_Mod_give.2.1 4 = .ok (.istore_n 1, 1) := by decide +kernel
theorem d_Mod_give_5 : decode M_Mod_give.2.1 5 = .ok (.aload_n 0, 1) := by decide +kernel
theorem d_Mod_give_6 : decode M_Mod_give.2.1 6 = .ok (.getfield 32, 3) := by decide +kernel
theorem d_Mod_give_9 : decode M_Mod_give.2.1 9 = .ok (.bipush 11, 2) := by decide +kernel
theorem d_Mod_give_11 : decode M_Mod_give.2.1 11 = .ok (.iaload, 1) := by decide +kernel
theorem d_Mod_give_12 : decode M_Mod_give.2.1 12 = .ok (.bipush 24, 2) := by decide +kernel
theorem d_Mod_give_14 : decode M_Mod_give.2.1 14 = .ok (.ishl, 1) := by decide +kernel
theorem d_Mod_give_15 : decode M_Mod_give.2.1 15 = .ok (.aload_n 0, 1) := by decide +kernel
theorem d_Mod_give_16 : decode M_Mod_give.2.1 16 = .ok (.getfield 32, 3) := by decide +kernel
theorem d_Mod_give_19 : decode M_Mod_give.2.1 19 = .ok (.bipush 12, 2) := by decide +kernel
theorem d_Mod_give_21 : decode M_Mod_give.2.1 21 = .ok (.iaload, 1) := by decide +kernel
theorem d_Mod_give_22 : decode M_Mod_give.2.1 22 = .ok (.bipush 16, 2) := by decide +kernel
theorem d_Mod_give_24 : decode M_Mod_give.2.1 24 = .ok (.ishl, 1) := by decide +kernel
theorem d_Mod_give_25 : decode M_Mod_give.2.1 25 = .ok (.ior, 1) := by decide +kernel
theorem d_Mod_give_26 : decode M_Mod_give.2.1 26 = .ok (.aload_n 0, 1) := by decide +kernel
theorem d_Mod_give_27 : decode M_Mod_give.2.1 27 = .ok (.getfield 32, 3) := by decide +kernel
theorem d_Mod_give_30 : decode M_Mod_give.2.1 30 = .ok (.bipush 13, 2) := by decide +kernel
theorem d_Mod_give_32 : decode M_Mod_give.2.1 32 = .ok (.iaload, 1) := by decide +kernel
theorem d_Mod_give_33 : decode M_Mod_give.2.1 33 = .ok (.bipush 8, 2) := by decide +kernel
theorem d_Mod_give_35 : decode M_Mod_give.2.1 35 = .ok (.ishl, 1) := by decide +kernel
theorem d_Mod_give_36 : decode M_Mod_give.2.1 36 = .ok (.ior, 1) := by decide +kernel
theorem d_Mod_give_37 : decode M_Mod_give.2.1 37 = .ok (.aload_n 0, 1) := by decide +kernel
theorem d_Mod_give_38 : decode M_Mod_give.2.1 38 = .ok (.getfield 32, 3) := by decide +kernel
theorem d_Mod_give_41 : decode M_Mod_give.2.1 41 = .ok (.bipush 14, 2) := by decide +kernel
theorem d_Mod_give_43 : decode M_Mod_give.2.1 43 = .ok (.iaload, 1) := by decide +kernel
theorem d_Mod_give_44 : decode M_Mod_give.2.1 44 = .ok (.ior, 1) := by decide +kernel
theorem d_Mod_give_45 : decode M_Mod_give.2.1 45 = .ok (.istore_n 2, 1) := by decide +kernel
theorem d_Mod_give_46 : decode M_Mod_give.2.1 46 = .ok (.aload_n 0, 1) := by decide +kernel
theorem d_Mod_give_47 : decode M_Mod_give.2.1 47 = .ok (.aload_n 0, 1) := by decide +kernel
theorem d_Mod_give_48 : decode M_Mod_give.2.1 48 = .ok (.iconst 5, 1) := by decide +kernel
theorem d_Mod_give_49 : decode M_Mod_give.2.1 49 = .ok (.invokevirtual 158, 3) := by decide +kernel
theorem d_Mod_give_52 : decode M_Mod_give.2.1 52 = .ok (.iload_n 2, 1) := by decide +kernel
theorem d_Mod_give_53 : decode M_Mod_give.2.1 53 = .ok (.aload_n 0, 1) := by decide +kernel
theorem d_Mod_give_54 : decode M_Mod_give.2.1 54 = .ok (.getfield 112, 3) := by decide +kernel
theorem d_Mod_give_57 : decode M_Mod_give.2.1 57 = .ok (.iload_n 1, 1) := by decide +kernel
theorem d_Mod_give_58 : decode M_Mod_give.2.1 58 = .ok (.aload_n 0, 1) := by decide +kernel
theorem d_Mod_give_59 : decode M_Mod_give.2.1 59 = .ok (.getfield 166, 3) := by decide +kernel
theorem d_Mod_give_62 : decode M_Mod_give.2.1 62 = .ok (.invokevirtual 179, 3) := by decide +kernel
theorem d_Mod_give_65 : decode M_Mod_give.2.1 65 = .ok (.iload_n 1, 1) := by decide +kernel
theorem d_Mod_give_66 : decode M_Mod_give.2.1 66 = .ok (.bipush 64, 2) := by decide +kernel
theorem d_Mod_give_68 : decode M_Mod_give.2.1 68 = .ok (.if_icmp .ne 25, 3) := by decide +kernel
theorem d_Mod_give_71 : decode M_Mod_give.2.1 71 = .ok (.aload_n 0, 1) := by decide +kernel
theorem d_Mod_give_72 : decode M_Mod_give.2.1 72 = .ok (.aload_n 0, 1) := by decide +kernel
theorem d_Mod_give_73 : decode M_Mod_give.2.1 73 = .ok (.getfield 109, 3) := by decide +kernel
theorem d_Mod_give_76 : decode M_Mod_give.2.1 76 = .ok (.iconst 3, 1) := by decide +kernel
theorem d_Mod_give_77 : decode M_Mod_give.2.1 77 = .ok (.if_icmp .ne 7, 3) := by decide +kernel
theorem d_Mod_give_80 : decode M_Mod_give.2.1 80 = .ok (.iconst 0, 1) := by decide +kernel
theorem d_Mod_give_81 : decode M_Mod_give.2.1 81 = .ok (.goto 9, 3) := by decide +kernel
theorem d_Mod_give_84 : decode M_Mod_give.2.1 84 = .ok (.aload_n 0, 1) := by decide +kernel
theorem d_Mod_give_85 : decode M_Mod_give.2.1 85 = .ok (.getfield 173, 3) := by decide +kernel
theorem d_Mod_give_88 : decode M_Mod_give.2.1 88 = .ok (.iconst 1, 1) := by decide +kernel
theorem d_Mod_give_89 : decode M_Mod_give.2.1 89 = .ok (.iadd, 1) := by decide +kernel
theorem d_Mod_give_90 : decode M_Mod_give.2.1 90 = .ok (.putfield 173, 3) := by decide +kernel
theorem d_Mod_give_93 : decode M_Mod_give.2.1 93 = .ok (.aload_n 0, 1) := by decide +kernel
theorem d_Mod_give_94 : decode M_Mod_give.2.1 94 = .ok (.iload_n 1, 1) := by decide +kernel
theorem d_Mod_give_95 : decode M_Mod_give.2.1 95 = .ok (.sipush 128, 3) := by decide +kernel
theorem d_Mod_give_98 : decode M_Mod_give.2.1 98 = .ok (.if_icmp .ne 7, 3) := by decide +kernel
theorem d_Mod_give_101 : decode M_Mod_give.2.1 101 = .ok (.iconst 3, 1) := by decide +kernel
theorem d_Mod_give_102 : decode M_Mod_give.2.1 102 = .ok (.goto 4, 3) := by decide +kernel
theorem d_Mod_give_105 : decode M_Mod_give.2.1 105 = .ok (.iconst 4, 1) := by decide +kernel
theorem d_Mod_give_106 : decode M_Mod_give.2.1 106 = .ok (.putfield 109, 3) := by decide +kernel
theorem d_Mod_give_109 : decode M_Mod_give.2.1 109 = .ok (.aload_n 0, 1) := by decide +kernel
theorem d_Mod_give_110 : decode M_Mod_give.2.1 110 = .ok (.bipush 119, 2) := by decide +kernel
theorem d_Mod_give_112 : decode M_Mod_give.2.1 112 = .ok (.bipush 20, 2) := by decide +kernel
theorem d_Mod_give_114 : decode M_Mod_give.2.1 114 = .ok (.invokevirtual 151, 3) := by decide +kernel
theorem d_Mod_give_117 : decode M_Mod_give.2.1 117 = .ok (.aload_n 0, 1) := by decide +kernel
theorem d_Mod_give_118 : decode M_Mod_give.2.1 118 = .ok (.sipush 159, 3) := by decide +kernel
theorem d_Mod_give_121 : decode M_Mod_give.2.1 121 = .ok (.bipush 39, 2) := by decide +kernel
theorem d_Mod_give_123 : decode M_Mod_give.2.1 123 = .ok (.invokevirtual 151, 3) := by decide +kernel
theorem d_Mod_give_126 : decode M_Mod_give.2.1 126 = .ok (.aload_n 0, 1) := by decide +kernel
theorem d_Mod_give_127 : decode M_Mod_give.2.1 127 = .ok (.iconst 1, 1) := by decide +kernel
theorem d_Mod_give_128 : decode M_Mod_give.2.1 128 = .ok (.iload_n 1, 1) := by decide +kernel
theorem d_Mod_give_129 : decode M_Mod_give.2.1 129 = .ok (.invokevirtual 151, 3) := by decide +kernel
theorem d_Mod_give_132 : decode M_Mod_give.2.1 132 = .ok (.aload_n 0, 1) := by decide +kernel
theorem d_Mod_give_133 : decode M_Mod_give.2.1 133 = .ok (.sipush 159, 3) := by decide +kernel
theorem d_Mod_give_136 : decode M_Mod_give.2.1 136 = .ok (.bipush 54, 2) := by decide +kernel
theorem d_Mod_give_138 : decode M_Mod_give.2.1 138 = .ok (.invokevirtual 151, 3) := by decide +kernel
theorem d_Mod_give_141 : decode M_Mod_give.2.1 141 = .ok (.aload_n 0, 1) := by decide +kernel
theorem d_Mod_give_142 : decode M_Mod_give.2.1 142 = .ok (.iconst 2, 1) := by decide +kernel
theorem d_Mod_give_143 : decode M_Mod_give.2.1 143 = .ok (.invokevirtual 103, 3) := by decide +kernel
theorem d_Mod_give_146 : decode M_Mod_give.2.1 146 = .ok (.aload_n 0, 1) := by decide +kernel
theorem d_Mod_give_147 : decode M_Mod_give.2.1 147 = .ok (.aload_n 0, 1) := by decide +kernel
theorem d_Mod_give_148 : decode M_Mod_give.2.1 148 = .ok (.getfield 112, 3) := by decide +kernel
theorem d_Mod_give_151 : decode M_Mod_give.2.1 151 = .ok (.bipush 8, 2) := by decide +kernel
theorem d_Mod_give_153 : decode M_Mod_give.2.1 153 = .ok (.ishr, 1) := by decide +kernel
theorem d_Mod_give_154 : decode M_Mod_give.2.1 154 = .ok (.aload_n 0, 1) := by decide +kernel
theorem d_Mod_give_155 : decode M_Mod_give.2.1 155 = .ok (.getfield 112, 3) := by decide +kernel
theorem d_Mod_give_158 : decode M_Mod_give.2.1 158 = .ok (.sipush 255, 3) := by decide +kernel
theorem d_Mod_give_161 : decode M_Mod_give.2.1 161 = .ok (.iand, 1) := by decide +kernel
theorem d_Mod_give_162 : decode M_Mod_give.2.1 162 = .ok (.invokevirtual 151, 3) := by decide +kernel
theorem d_Mod_give_165 : decode M_Mod_give.2.1 165 = .ok (.aload_n 0, 1) := by decide +kernel
theorem d_Mod_give_166 : decode M_Mod_give.2.1 166 = .ok (.sipush 159, 3) := by decide +kernel
theorem d_Mod_give_169 : decode M_Mod_give.2.1 169 = .ok (.bipush 38, 2) := by decide +kernel
theorem d_Mod_give_171 : decode M_Mod_give.2.1 171 = .ok (.invokevirtual 151, 3) := by decide +kernel
theorem d_Mod_give_174 : decode M_Mod_give.2.1 174 = .ok (.aload_n 0, 1) := by decide +kernel
theorem d_Mod_give_175 : decode M_Mod_give.2.1 175 = .ok (.bipush 8, 2) := by decide +kernel
theorem d_Mod_give_177 : decode M_Mod_give.2.1 177 = .ok (.invokevirtual 103, 3) := by decide +kernel
theorem d_Mod_give_180 : decode M_Mod_give.2.1 180 = .ok (.iconst 0, 1) := by decide +kernel
theorem d_Mod_give_181 : decode M_Mod_give.2.1 181 = .ok (.istore_n 3, 1) := by decide +kernel
theorem d_Mod_give_182 : decode M_Mod_give.2.1 182 = .ok (.iload_n 3, 1) := by decide +kernel
theorem d_Mod_give_183 : decode M_Mod_give.2.1 183 = .ok (.bipush 8, 2) := by decide +kernel
theorem d_Mod_give_185 : decode M_Mod_give.2.1 185 = .ok (.if_icmp .ge 19, 3) := by decide +kernel
theorem d_Mod_give_188 : decode M_Mod_give.2.1 188 = .ok (.aload_n 0, 1) := by decide +kernel
theorem d_Mod_give_189 : decode M_Mod_give.2.1 189 = .ok (.aload_n 0, 1) := by decide +kernel
theorem d_Mod_give_190 : decode M_Mod_give.2.1 190 = .ok (.getfield 56, 3) := by decide +kernel
theorem d_Mod_give_193 : decode M_Mod_give.2.1 193 = .ok (.iload_n 3, 1) := by decide +kernel
theorem d_Mod_give_194 : decode M_Mod_give.2.1 194 = .ok (.iaload, 1) := by decide +kernel
theorem d_Mod_give_195 : decode M_Mod_give.2.1 195 = .ok (.invokevirtual 103, 3) := by decide +kernel
theorem d_Mod_give_198 : decode M_Mod_give.2.1 198 = .ok (.iinc 3 1, 3) := by decide +kernel
theorem d_Mod_give_201 : decode M_Mod_give.2.1 201 = .ok (.goto (-19), 3) := by decide +kernel
theorem d_Mod_give_204 : decode M_Mod_give.2.1 204 = .ok (.ldc 155, 2) := by decide +kernel
theorem d_Mod_give_206 : decode M_Mod_give.2.1 206 = .ok (.ireturn, 1) := by decide +kernel
theorem d_Mod_given_0 : decode M_Mod_given.2.1 0 = .ok (.aload_n 0, 1) := by decide +kernel
theorem d_Mod_given_1 : decode M_Mod_given.2.1 1 = .ok (.getfield 32, 3) := by decide +kernel
theorem d_Mod_given_4 : decode M_Mod_given.2.1 4 = .ok (.iconst 2, 1) := by decide +kernel
theorem d_Mod_given_5 : decode M_Mod_given.2.1 5 = .ok (.iaload, 1) := by decide +kernel
theorem d_Mod_given_6 : decode M_Mod_given.2.1 6 = .ok (.istore_n 1, 1) := by decide +kernel
theorem d_Mod_given_7 : decode M_Mod_given.2.1 7 = .ok (.aload_n 0, 1) := by decide +kernel
theorem d_Mod_given_8 : decode M_Mod_given.2.1 8 = .ok (.iconst 5, 1) := by decide +kernel
theorem d_Mod_given_9 : decode M_Mod_given.2.1 9 = .ok (.invokevirtual 158, 3) := by decide +kernel
theorem d_Mod_given_12 : decode M_Mod_given.2.1 12 = .ok (.aload_n 0, 1) := by decide +kernel
theorem d_Mod_given_13 : decode M_Mod_given.2.1 13 = .ok (.getfield 162, 3) := by decide +kernel
theorem d_Mod_given_16 : decode M_Mod_given.2.1 16 = .ok (.lcmp, 1) := by decide +kernel
theorem d_Mod_given_17 : decode M_Mod_given.2.1 17 = .ok (.ifCond .ne 7, 3) := by decide +kernel
theorem d_Mod_given_20 : decode M_Mod_given.2.1 20 = .ok (.iload_n 1, 1) := by decide +kernel
theorem d_Mod_given_21 : decode M_Mod_given.2.1 21 = .ok (.ifCond .ne 5, 3) := by decide +kernel
theorem d_Mod_given_24 : decode M_Mod_given.2.1 24 = .ok (.iconst 0, 1) := by decide +kernel
theorem d_Mod_given_25 : decode M_Mod_given.2.1 25 = .ok (.ireturn, 1) := by decide +kernel
theorem d_Mod_given_26 : decode M_Mod_given.2.1 26 = .ok (.aload_n 0, 1) := by decide +kernel
theorem d_Mod_given_27 : decode M_Mod_given.2.1 27 = .ok (.getfield 109, 3) := by decide +kernel
theorem d_Mod_given_30 : decode M_Mod_given.2.1 30 = .ok (.iconst 2, 1) := by decide +kernel
theorem d_Mod_given_31 : decode M_Mod_given.2.1 31 = .ok (.if_icmp .ne 34, 3) := by decide +kernel
theorem d_Mod_given_34 : decode M_Mod_given.2.1 34 = .ok (.iload_n 1, 1) := by decide +kernel
theorem d_Mod_given_35 : decode M_Mod_given.2.1 35 = .ok (.sipush 128, 3) := by decide +kernel
theorem d_Mod_given_38 : decode M_Mod_given.2.1 38 = .ok (.if_icmp .eq 18, 3) := by decide +kernel
theorem d_Mod_given_41 : decode M_Mod_given.2.1 41 = .ok (.aload_n 0, 1) := by decide +kernel
theorem d_Mod_given_42 : decode M_Mod_given.2.1 42 = .ok (.getfield 166, 3) := by decide +kernel
theorem d_Mod_given_45 : decode M_Mod_given.2.1 45 = .ok (.ifCond .eq 11, 3) := by decide +kernel
theorem d_Mod_given_48 : decode M_Mod_given.2.1 48 = .ok (.aload_n 0, 1) := by decide +kernel
theorem d_Mod_given_49 : decode M_Mod_given.2.1 49 = .ok (.getfield 173, 3) := by decide +kernel
theorem d_Mod_given_52 : decode M_Mod_given.2.1 52 = .ok (.iconst 2, 1) := by decide +kernel
theorem d_Mod_given_53 : decode M_Mod_given.2.1 53 = .ok (.if_icmp .lt 9, 3) := by decide +kernel
theorem d_Mod_given_56 : decode M_Mod_given.2.1 56 = .ok (.sipush 128, 3) := by decide +kernel
theorem d_Mod_given_59 : decode M_Mod_given.2.1 59 = .ok (.goto 5, 3) := by decide +kernel
theorem d_Mod_given_62 : decode M_Mod_given.2.1 62 = .ok (.bipush 64, 2) := by decide +kernel
theorem d_Mod_given_64 : decode M_Mod_given.2.1 64 = .ok (.ireturn, 1) := by decide +kernel
theorem d_Mod_given_65 : decode M_Mod_given.2.1 65 = .ok (.iload_n 1, 1) := by decide +kernel
theorem d_Mod_given_66 : decode M_Mod_given.2.1 66 = .ok (.bipush 64, 2) := by decide +kernel
theorem d_Mod_given_68 : decode M_Mod_given.2.1 68 = .ok (.if_icmp .ne 32, 3) := by decide +kernel
theorem d_Mod_given_71 : decode M_Mod_given.2.1 71 = .ok (.aload_n 0, 1) := by decide +kernel
theorem d_Mod_given_72 : decode M_Mod_given.2.1 72 = .ok (.getfield 32, 3) := by decide +kernel
theorem d_Mod_given_75 : decode M_Mod_given.2.1 75 = .ok (.bipush 15, 2) := by decide +kernel
theorem d_Mod_given_77 : decode M_Mod_given.2.1 77 = .ok (.iaload, 1) := by decide +kernel
theorem d_Mod_given_78 : decode M_Mod_given.2.1 78 = .ok (.bipush 48, 2) := by decide +kernel
theorem d_Mod_given_80 : decode M_Mod_given.2.1 80 = .ok (.if_icmp .ne 20, 3) := by decide +kernel
theorem d_Mod_given_83 : decode M_Mod_given.2.1 83 = .ok (.aload_n 0, 1) := by decide +kernel
theorem d_Mod_given_84 : decode M_Mod_given.2.1 84 = .ok (.getfield 32, 3) := by decide +kernel
theorem d_Mod_given_87 : decode M_Mod_given.2.1 87 = .ok (.bipush 16, 2) := by decide +kernel
theorem d_Mod_given_89 : decode M_Mod_given.2.1 89 = .ok (.iaload, 1) := by decide +kernel
theorem d_Mod_given_90 : decode M_Mod_given.2.1 90 = .ok (.bipush 48, 2) := by decide +kernel
theorem d_Mod_given_92 : decode M_Mod_given.2.1 92 = .ok (.if_icmp .ne 8, 3) := by decide +kernel
theorem d_Mod_given_95 : decode M_Mod_given.2.1 95 = .ok (.bipush 64, 2) := by decide +kernel
theorem d_Mod_given_97 : decode M_Mod_given.2.1 97 = .ok (.goto 4, 3) := by decide +kernel
theorem d_Mod_given_100 : decode M_Mod_given.2.1 100 = .ok (.iconst 0, 1) := by decide +kernel
theorem d_Mod_given_101 : decode M_Mod_given.2.1 101 = .ok (.ireturn, 1) := by decide +kernel
theorem d_Mod_sealPayment_0 : decode M_Mod_sealPayment.2.1 0 = .ok (.iconst 0, 1) := by decide +kernel
theorem d_Mod_sealPayment_1 : decode M_Mod_sealPayment.2.1 1 = .ok (.istore 7, 2) := by decide +kernel
theorem d_Mod_sealPayment_3 : decode M_Mod_sealPayment.2.1 3 = .ok (.iload 7, 2) := by decide +kernel
theorem d_Mod_sealPayment_5 : decode M_Mod_sealPayment.2.1 5 = .ok (.bipush 6, 2) := by decide +kernel
theorem d_Mod_sealPayment_7 : decode M_Mod_sealPayment.2.1 7 = .ok (.if_icmp .ge 31, 3) := by decide +kernel
theorem d_Mod_sealPayment_10 : decode M_Mod_sealPayment.2.1 10 = .ok (.aload_n 0, 1) := by decide +kernel
theorem d_Mod_sealPayment_11 : decode M_Mod_sealPayment.2.1 11 = .ok (.getfield 53, 3) := by decide +kernel
theorem d_Mod_sealPayment_14 : decode M_Mod_sealPayment.2.1 14 = .ok (.iload 7, 2) := by decide +kernel
theorem d_Mod_sealPayment_16 : decode M_Mod_sealPayment.2.1 16 = .ok (.lload_n 1, 1) := by decide +kernel
theorem d_Mod_sealPayment_17 : decode M_Mod_sealPayment.2.1 17 = .ok (.bipush 40, 2) := by decide +kernel
theorem d_Mod_sealPayment_19 : decode M_Mod_sealPayment.2.1 19 = .ok (.bipush 8, 2) := by decide +kernel
theorem d_Mod_sealPayment_21 : decode M_Mod_sealPayment.2.1 21 = .ok (.iload 7, 2) := by decide +kernel
theorem d_Mod_sealPayment_23 : decode M_Mod_sealPayment.2.1 23 = .ok (.imul, 1) := by decide +kernel
theorem d_Mod_sealPayment_24 : decode M_Mod_sealPayment.2.1 24 = .ok (.isub, 1) := by decide +kernel
theorem d_Mod_sealPayment_25 : decode M_Mod_sealPayment.2.1 25 = .ok (.lshr, 1) := by decide +kernel
theorem d_Mod_sealPayment_26 : decode M_Mod_sealPayment.2.1 26 = .ok (.ldc2_w 92, 3) := by decide +kernel
theorem d_Mod_sealPayment_29 : decode M_Mod_sealPayment.2.1 29 = .ok (.land, 1) := by decide +kernel
theorem d_Mod_sealPayment_30 : decode M_Mod_sealPayment.2.1 30 = .ok (.l2i, 1) := by decide +kernel
theorem d_Mod_sealPayment_31 : decode M_Mod_sealPayment.2.1 31 = .ok (.iastore, 1) := by decide +kernel
theorem d_Mod_sealPayment_32 : decode M_Mod_sealPayment.2.1 32 = .ok (.iinc 7 1, 3) := by decide +kernel
theorem d_Mod_sealPayment_35 : decode M_Mod_sealPayment.2.1 35 = .ok (.goto (-32), 3) := by decide +kernel
theorem d_Mod_sealPayment_38 : decode M_Mod_sealPayment.2.1 38 = .ok (.iconst 0, 1) := by decide +kernel
theorem d_Mod_sealPayment_39 : decode M_Mod_sealPayment.2.1 39 = .ok (.istore 7, 2) := by decide +kernel
theorem d_Mod_sealPayment_41 : decode M_Mod_sealPayment.2.1 41 = .ok (.iload 7, 2) := by decide +kernel
theorem d_Mod_sealPayment_43 : decode M_Mod_sealPayment.2.1 43 = .ok (.iconst 4, 1) := by decide +kernel
theorem d_Mod_sealPayment_44 : decode M_Mod_sealPayment.2.1 44 = .ok (.if_icmp .ge 33, 3) := by decide +kernel
theorem d_Mod_sealPayment_47 : decode M_Mod_sealPayment.2.1 47 = .ok (.aload_n 0, 1) := by decide +kernel
theorem d_Mod_sealPayment_48 : decode M_Mod_sealPayment.2.1 48 = .ok (.getfield 53, 3) := by decide +kernel
theorem d_Mod_sealPayment_51 : decode M_Mod_sealPayment.2.1 51 = .ok (.bipush 6, 2) := by decide +kernel
theorem d_Mod_sealPayment_53 : decode M_Mod_sealPayment.2.1 53 = .ok (.iload 7, 2) := by decide +kernel
theorem d_Mod_sealPayment_55 : decode M_Mod_sealPayment.2.1 55 = .ok (.iadd, 1) := by decide +kernel
theorem d_Mod_sealPayment_56 : decode M_Mod_sealPayment.2.1 56 = .ok (.iload_n 3, 1) := by decide +kernel
theorem d_Mod_sealPayment_57 : decode M_Mod_sealPayment.2.1 57 = .ok (.bipush 24, 2) := by decide +kernel
theorem d_Mod_sealPayment_59 : decode M_Mod_sealPayment.2.1 59 = .ok (.bipush 8, 2) := by decide +kernel
theorem d_Mod_sealPayment_61 : decode M_Mod_sealPayment.2.1 61 = .ok (.iload 7, 2) := by decide +kernel
theorem d_Mod_sealPayment_63 : decode M_Mod_sealPayment.2.1 63 = .ok (.imul, 1) := by decide +kernel
theorem d_Mod_sealPayment_64 : decode M_Mod_sealPayment.2.1 64 = .ok (.isub, 1) := by decide +kernel
theorem d_Mod_sealPayment_65 : decode M_Mod_sealPayment.2.1 65 = .ok (.ishr, 1) := by decide +kernel
theorem d_Mod_sealPayment_66 : decode M_Mod_sealPayment.2.1 66 = .ok (.sipush 255, 3) := by decide +kernel
theorem d_Mod_sealPayment_69 : decode M_Mod_sealPayment.2.1 69 = .ok (.iand, 1) := by decide +kernel
theorem d_Mod_sealPayment_70 : decode M_Mod_sealPayment.2.1 70 = .ok (.iastore, 1) := by decide +kernel
theorem d_Mod_sealPayment_71 : decode M_Mod_sealPayment.2.1 71 = .ok (.iinc 7 1, 3) := by decide +kernel
theorem d_Mod_sealPayment_74 : decode M_Mod_sealPayment.2.1 74 = .ok (.goto (-33), 3) := by decide +kernel
theorem d_Mod_sealPayment_77 : decode M_Mod_sealPayment.2.1 77 = .ok (.aload_n 0, 1) := by decide +kernel
theorem d_Mod_sealPayment_78 : decode M_Mod_sealPayment.2.1 78 = .ok (.getfield 53, 3) := by decide +kernel
theorem d_Mod_sealPayment_81 : decode M_Mod_sealPayment.2.1 81 = .ok (.bipush 10, 2) := by decide +kernel
theorem d_Mod_sealPayment_83 : decode M_Mod_sealPayment.2.1 83 = .ok (.iload 4, 2) := by decide +kernel
theorem d_Mod_sealPayment_85 : decode M_Mod_sealPayment.2.1 85 = .ok (.bipush 8, 2) := by decide +kernel
theorem d_Mod_sealPayment_87 : decode M_Mod_sealPayment.2.1 87 = .ok (.ishr, 1) := by decide +kernel
theorem d_Mod_sealPayment_88 : decode M_Mod_sealPayment.2.1 88 = .ok (.iastore, 1) := by decide +kernel
theorem d_Mod_sealPayment_89 : decode M_Mod_sealPayment.2.1 89 = .ok (.aload_n 0, 1) := by decide +kernel
theorem d_Mod_sealPayment_90 : decode M_Mod_sealPayment.2.1 90 = .ok (.getfield 53, 3) := by decide +kernel
theorem d_Mod_sealPayment_93 : decode M_Mod_sealPayment.2.1 93 = .ok (.bipush 11, 2) := by decide +kernel
theorem d_Mod_sealPayment_95 : decode M_Mod_sealPayment.2.1 95 = .ok (.iload 4, 2) := by decide +kernel
theorem d_Mod_sealPayment_97 : decode M_Mod_sealPayment.2.1 97 = .ok (.sipush 255, 3) := by decide +kernel
theorem d_Mod_sealPayment_100 : decode M_Mod_sealPayment.2.1 100 = .ok (.iand, 1) := by decide +kernel
theorem d_Mod_sealPayment_101 : decode M_Mod_sealPayment.2.1 101 = .ok (.iastore, 1) := by decide +kernel
theorem d_Mod_sealPayment_102 : decode M_Mod_sealPayment.2.1 102 = .ok (.aload_n 0, 1) := by decide +kernel
theorem d_Mod_sealPayment_103 : decode M_Mod_sealPayment.2.1 103 = .ok (.getfield 53, 3) := by decide +kernel
theorem d_Mod_sealPayment_106 : decode M_Mod_sealPayment.2.1 106 = .ok (.bipush 12, 2) := by decide +kernel
theorem d_Mod_sealPayment_108 : decode M_Mod_sealPayment.2.1 108 = .ok (.iload 5, 2) := by decide +kernel
theorem d_Mod_sealPayment_110 : decode M_Mod_sealPayment.2.1 110 = .ok (.iastore, 1) := by decide +kernel
theorem d_Mod_sealPayment_111 : decode M_Mod_sealPayment.2.1 111 = .ok (.aload_n 0, 1) := by decide +kernel
theorem d_Mod_sealPayment_112 : decode M_Mod_sealPayment.2.1 112 = .ok (.getfield 53, 3) := by decide +kernel
theorem d_Mod_sealPayment_115 : decode M_Mod_sealPayment.2.1 115 = .ok (.bipush 13, 2) := by decide +kernel
theorem d_Mod_sealPayment_117 : decode M_Mod_sealPayment.2.1 117 = .ok (.iload 6, 2) := by decide +kernel
theorem d_Mod_sealPayment_119 : decode M_Mod_sealPayment.2.1 119 = .ok (.ifCond .eq 7, 3) := by decide +kernel
theorem d_Mod_sealPayment_122 : decode M_Mod_sealPayment.2.1 122 = .ok (.iconst 1, 1) := by decide +kernel
theorem d_Mod_sealPayment_123 : decode M_Mod_sealPayment.2.1 123 = .ok (.goto 4, 3) := by decide +kernel
theorem d_Mod_sealPayment_126 : decode M_Mod_sealPayment.2.1 126 = .ok (.iconst 0, 1) := by decide +kernel
theorem d_Mod_sealPayment_127 : decode M_Mod_sealPayment.2.1 127 = .ok (.iastore, 1) := by decide +kernel
theorem d_Mod_sealPayment_128 : decode M_Mod_sealPayment.2.1 128 = .ok (.aload_n 0, 1) := by decide +kernel
theorem d_Mod_sealPayment_129 : decode M_Mod_sealPayment.2.1 129 = .ok (.bipush 14, 2) := by decide +kernel
theorem d_Mod_sealPayment_131 : decode M_Mod_sealPayment.2.1 131 = .ok (.invokevirtual 94, 3) := by decide +kernel
theorem d_Mod_sealPayment_134 : decode M_Mod_sealPayment.2.1 134 = .ok (.return_, 1) := by decide +kernel
theorem d_Mod_makeSeal_0 : decode M_Mod_makeSeal.2.1 0 = .ok (.iload_n 1, 1) := by decide +kernel
theorem d_Mod_makeSeal_1 : decode M_Mod_makeSeal.2.1 1 = .ok (.ifCond .le 14, 3) := by decide +kernel
theorem d_Mod_makeSeal_4 : decode M_Mod_makeSeal.2.1 4 = .ok (.iload_n 1, 1) := by decide +kernel
theorem d_Mod_makeSeal_5 : decode M_Mod_makeSeal.2.1 5 = .ok (.bipush 16, 2) := by decide +kernel
theorem d_Mod_makeSeal_7 : decode M_Mod_makeSeal.2.1 7 = .ok (.irem, 1) := by decide +kernel
theorem d_Mod_makeSeal_8 : decode M_Mod_makeSeal.2.1 8 = .ok (.ifCond .ne 7, 3) := by decide +kernel
theorem d_Mod_makeSeal_11 : decode M_Mod_makeSeal.2.1 11 = .ok (.iconst 1, 1) := by decide +kernel
theorem d_Mod_makeSeal_12 : decode M_Mod_makeSeal.2.1 12 = .ok (.goto 4, 3) := by decide +kernel
theorem d_Mod_makeSeal_15 : decode M_Mod_makeSeal.2.1 15 = .ok (.iconst 0, 1) := by decide +kernel
theorem d_Mod_makeSeal_16 : decode M_Mod_makeSeal.2.1 16 = .ok (.istore_n 2, 1) := by decide +kernel
theorem d_Mod_makeSeal_17 : decode M_Mod_makeSeal.2.1 17 = .ok (.iload_n 2, 1) := by decide +kernel
theorem d_Mod_makeSeal_18 : decode M_Mod_makeSeal.2.1 18 = .ok (.ifCond .eq 10, 3) := by decide +kernel
theorem d_Mod_makeSeal_21 : decode M_Mod_makeSeal.2.1 21 = .ok (.iload_n 1, 1) := by decide +kernel
theorem d_Mod_makeSeal_22 : decode M_Mod_makeSeal.2.1 22 = .ok (.bipush 16, 2) := by decide +kernel
theorem d_Mod_makeSeal_24 : decode M_Mod_makeSeal.2.1 24 = .ok (.idiv, 1) := by decide +kernel
theorem d_Mod_makeSeal_25 : decode M_Mod_makeSeal.2.1 25 = .ok (.goto 9, 3) := by decide +kernel
theorem d_Mod_makeSeal_28 : decode M_Mod_makeSeal.2.1 28 = .ok (.iload_n 1, 1) := by decide +kernel
theorem d_Mod_makeSeal_29 : decode M_Mod_makeSeal.2.1 29 = .ok (.bipush 16, 2) := by decide +kernel
theorem d_Mod_makeSeal_31 : decode M_Mod_makeSeal.2.1 31 = .ok (.idiv, 1) := by decide +kernel
theorem d_Mod_makeSeal_32 : decode M_Mod_makeSeal.2.1 32 = .ok (.iconst 1, 1) := by decide +kernel
theorem d_Mod_makeSeal_33 : decode M_Mod_makeSeal.2.1 33 = .ok (.iadd, 1) := by decide +kernel
theorem d_Mod_makeSeal_34 : decode M_Mod_makeSeal.2.1 34 = .ok (.istore_n 3, 1) := by decide +kernel
theorem d_Mod_makeSeal_35 : decode M_Mod_makeSeal.2.1 35 = .ok (.iconst 0, 1) := by decide +kernel
theorem d_Mod_makeSeal_36 : decode M_Mod_makeSeal.2.1 36 = .ok (.istore 4, 2) := by decide +kernel
theorem d_Mod_makeSeal_38 : decode M_Mod_makeSeal.2.1 38 = .ok (.iload 4, 2) := by decide +kernel
theorem d_Mod_makeSeal_40 : decode M_Mod_makeSeal.2.1 40 = .ok (.bipush 16, 2) := by decide +kernel
theorem d_Mod_makeSeal_42 : decode M_Mod_makeSeal.2.1 42 = .ok (.if_icmp .ge 17, 3) := by decide +kernel
theorem d_Mod_makeSeal_45 : decode M_Mod_makeSeal.2.1 45 = .ok (.aload_n 0, 1) := by decide +kernel
theorem d_Mod_makeSeal_46 : decode M_Mod_makeSeal.2.1 46 = .ok (.getfield 47, 3) := by decide +kernel
theorem d_Mod_makeSeal_49 : decode M_Mod_makeSeal.2.1 49 = .ok (.iload 4, 2) := by decide +kernel
theorem d_Mod_makeSeal_51 : decode M_Mod_makeSeal.2.1 51 = .ok (.iconst 0, 1) := by decide +kernel
theorem d_Mod_makeSeal_52 : decode M_Mod_makeSeal.2.1 52 = .ok (.iastore, 1) := by decide +kernel
theorem d_Mod_makeSeal_53 : decode M_Mod_makeSeal.2.1 53 = .ok (.iinc 4 1, 3) := by decide +kernel
theorem d_Mod_makeSeal_56 : decode M_Mod_makeSeal.2.1 56 = .ok (.goto (-18), 3) := by decide +kernel
theorem d_Mod_makeSeal_59 : decode M_Mod_makeSeal.2.1 59 = .ok (.aload_n 0, 1) := by decide +kernel
theorem d_Mod_makeSeal_60 : decode M_Mod_makeSeal.2.1 60 = .ok (.invokevirtual 86, 3) := by decide +kernel
theorem d_Mod_makeSeal_63 : decode M_Mod_makeSeal.2.1 63 = .ok (.iconst 0, 1) := by decide +kernel
theorem d_Mod_makeSeal_64 : decode M_Mod_makeSeal.2.1 64 = .ok (.istore 4, 2) := by decide +kernel
theorem d_Mod_makeSeal_66 : decode M_Mod_makeSeal.2.1 66 = .ok (.iload 4, 2) := by decide +kernel
theorem d_Mod_makeSeal_68 : decode M_Mod_makeSeal.2.1 68 = .ok (.bipush 16, 2) := by decide +kernel
theorem d_Mod_makeSeal_70 : decode M_Mod_makeSeal.2.1 70 = .ok (.if_icmp .ge 31, 3) := by decide +kernel
theorem d_Mod_makeSeal_73 : decode M_Mod_makeSeal.2.1 73 = .ok (.aload_n 0, 1) := by decide +kernel
theorem d_Mod_makeSeal_74 : decode M_Mod_makeSeal.2.1 74 = .ok (.getfield 59, 3) := by decide +kernel
theorem d_Mod_makeSeal_77 : decode M_Mod_makeSeal.2.1 77 = .ok (.iload 4, 2) := by decide +kernel
theorem d_Mod_makeSeal_79 : decode M_Mod_makeSeal.2.1 79 = .ok (.aload_n 0, 1) := by decide +kernel
theorem d_Mod_makeSeal_80 : decode M_Mod_makeSeal.2.1 80 = .ok (.getfield 47, 3) := by decide +kernel
theorem d_Mod_makeSeal_83 : decode M_Mod_makeSeal.2.1 83 = .ok (.iload 4, 2) := by decide +kernel
theorem d_Mod_makeSeal_85 : decode M_Mod_makeSeal.2.1 85 = .ok (.iaload, 1) := by decide +kernel
theorem d_Mod_makeSeal_86 : decode M_Mod_makeSeal.2.1 86 = .ok (.iastore, 1) := by decide +kernel
theorem d_Mod_makeSeal_87 : decode M_Mod_makeSeal.2.1 87 = .ok (.aload_n 0, 1) := by decide +kernel
theorem d_Mod_makeSeal_88 : decode M_Mod_makeSeal.2.1 88 = .ok (.getfield 47, 3) := by decide +kernel
theorem d_Mod_makeSeal_91 : decode M_Mod_makeSeal.2.1 91 = .ok (.iload 4, 2) := by decide +kernel
theorem d_Mod_makeSeal_93 : decode M_Mod_makeSeal.2.1 93 = .ok (.iconst 0, 1) := by decide +kernel
theorem d_Mod_makeSeal_94 : decode M_Mod_makeSeal.2.1 94 = .ok (.iastore, 1) := by decide +kernel
theorem d_Mod_makeSeal_95 : decode M_Mod_makeSeal.2.1 95 = .ok (.iinc 4 1, 3) := by decide +kernel
theorem d_Mod_makeSeal_98 : decode M_Mod_makeSeal.2.1 98 = .ok (.goto (-32), 3) := by decide +kernel
theorem d_Mod_makeSeal_101 : decode M_Mod_makeSeal.2.1 101 = .ok (.aload_n 0, 1) := by decide +kernel
theorem d_Mod_makeSeal_102 : decode M_Mod_makeSeal.2.1 102 = .ok (.invokevirtual 89, 3) := by decide +kernel
theorem d_Mod_makeSeal_105 : decode M_Mod_makeSeal.2.1 105 = .ok (.iload_n 2, 1) := by decide +kernel
theorem d_Mod_makeSeal_106 : decode M_Mod_makeSeal.2.1 106 = .ok (.ifCond .ne 7, 3) := by decide +kernel
theorem d_Mod_makeSeal_109 : decode M_Mod_makeSeal.2.1 109 = .ok (.aload_n 0, 1) := by decide +kernel
theorem d_Mod_makeSeal_110 : decode M_Mod_makeSeal.2.1 110 = .ok (.invokevirtual 89, 3) := by decide +kernel
theorem d_Mod_makeSeal_113 : decode M_Mod_makeSeal.2.1 113 = .ok (.iconst 0, 1) := by decide +kernel
theorem d_Mod_makeSeal_114 : decode M_Mod_makeSeal.2.1 114 = .ok (.istore 4, 2) := by decide +kernel
theorem d_Mod_makeSeal_116 : decode M_Mod_makeSeal.2.1 116 = .ok (.iload 4, 2) := by decide +kernel
theorem d_Mod_makeSeal_118 : decode M_Mod_makeSeal.2.1 118 = .ok (.iload_n 3, 1) := by decide +kernel
theorem d_Mod_makeSeal_119 : decode M_Mod_makeSeal.2.1 119 = .ok (.if_icmp .ge 112, 3) := by decide +kernel
theorem d_Mod_makeSeal_122 : decode M_Mod_makeSeal.2.1 122 = .ok (.iconst 0, 1) := by decide +kernel
theorem d_Mod_makeSeal_123 : decode M_Mod_makeSeal.2.1 123 = .ok (.istore 5, 2) := by decide +kernel
theorem d_Mod_makeSeal_125 : decode M_Mod_makeSeal.2.1 125 = .ok (.iload 5, 2) := by decide +kernel
theorem d_Mod_makeSeal_127 : decode M_Mod_makeSeal.2.1 127 = .ok (.bipush 16, 2) := by decide +kernel
theorem d_Mod_makeSeal_129 : decode M_Mod_makeSeal.2.1 129 = .ok (.if_icmp .ge 92, 3) := by decide +kernel
theorem d_Mod_makeSeal_132 : decode M_Mod_makeSeal.2.1 132 = .ok (.bipush 16, 2) := by decide +kernel
theorem d_Mod_makeSeal_134 : decode M_Mod_makeSeal.2.1 134 = .ok (.iload 4, 2) := by decide +kernel
theorem d_Mod_makeSeal_136 : decode M_Mod_makeSeal.2.1 136 = .ok (.imul, 1) := by decide +kernel
theorem d_Mod_makeSeal_137 : decode M_Mod_makeSeal.2.1 137 = .ok (.iload 5, 2) := by decide +kernel
theorem d_Mod_makeSeal_139 : decode M_Mod_makeSeal.2.1 139 = .ok (.iadd, 1) := by decide +kernel
theorem d_Mod_makeSeal_140 : decode M_Mod_makeSeal.2.1 140 = .ok (.istore 6, 2) := by decide +kernel
theorem d_Mod_makeSeal_142 : decode M_Mod_makeSeal.2.1 142 = .ok (.iload 6, 2) := by decide +kernel
theorem d_Mod_makeSeal_144 : decode M_Mod_makeSeal.2.1 144 = .ok (.iload_n 1, 1) := by decide +kernel
theorem d_Mod_makeSeal_145 : decode M_Mod_makeSeal.2.1 145 = .ok (.if_icmp .ge 13, 3) := by decide +kernel
theorem d_Mod_makeSeal_148 : decode M_Mod_makeSeal.2.1 148 = .ok (.aload_n 0, 1) := by decide +kernel
theorem d_Mod_makeSeal_149 : decode M_Mod_makeSeal.2.1 149 = .ok (.getfield 53, 3) := by decide +kernel
theorem d_Mod_makeSeal_152 : decode M_Mod_makeSeal.2.1 152 = .ok (.iload 6, 2) := by decide +kernel
theorem d_Mod_makeSeal_154 : decode M_Mod_makeSeal.2.1 154 = .ok (.iaload, 1) := by decide +kernel
theorem d_Mod_makeSeal_155 : decode M_Mod_makeSeal.2.1 155 = .ok (.goto 16, 3) := by decide +kernel
theorem d_Mod_makeSeal_158 : decode M_Mod_makeSeal.2.1 158 = .ok (.iload 6, 2) := by decide +kernel
theorem d_Mod_makeSeal_160 : decode M_Mod_makeSeal.2.1 160 = .ok (.iload_n 1, 1) := by decide +kernel
theorem d_Mod_makeSeal_161 : decode M_Mod_makeSeal.2.1 161 = .ok (.if_icmp .ne 9, 3) := by decide +kernel
theorem d_Mod_makeSeal_164 : decode M_Mod_makeSeal.2.1 164 = .ok (.sipush 128, 3) := by decide +kernel
theorem d_Mod_makeSeal_167 : decode M_Mod_makeSeal.2.1 167 = .ok (.goto 4, 3) := by decide +kernel
theorem d_Mod_makeSeal_170 : decode M_Mod_makeSeal.2.1 170 = .ok (.iconst 0, 1) := by decide +kernel
theorem d_Mod_makeSeal_171 : decode M_Mod_makeSeal.2.1 171 = .ok (.istore 7, 2) := by decide +kernel
theorem d_Mod_makeSeal_173 : decode M_Mod_makeSeal.2.1 173 = .ok (.iload 4, 2) := by decide +kernel
theorem d_Mod_makeSeal_175 : decode M_Mod_makeSeal.2.1 175 = .ok (.iload_n 3, 1) := by decide +kernel
theorem d_Mod_makeSeal_176 : decode M_Mod_makeSeal.2.1 176 = .ok (.iconst 1, 1) := by decide +kernel
theorem d_Mod_makeSeal_177 : decode M_Mod_makeSeal.2.1 177 = .ok (.isub, 1) := by decide +kernel
theorem d_Mod_makeSeal_178 : decode M_Mod_makeSeal.2.1 178 = .ok (.if_icmp .ne 16, 3) := by decide +kernel
theorem d_Mod_makeSeal_181 : decode M_Mod_makeSeal.2.1 181 = .ok (.iload 7, 2) := by decide +kernel
theorem d_Mod_makeSeal_183 : decode M_Mod_makeSeal.2.1 183 = .ok (.aload_n 0, 1) := by decide +kernel
theorem d_Mod_makeSeal_184 : decode M_Mod_makeSeal.2.1 184 = .ok (.getfield 59, 3) := by decide +kernel
theorem d_Mod_makeSeal_187 : decode M_Mod_makeSeal.2.1 187 = .ok (.iload 5, 2) := by decide +kernel
theorem d_Mod_makeSeal_189 : decode M_Mod_makeSeal.2.1 189 = .ok (.iaload, 1) := by decide +kernel
theorem d_Mod_makeSeal_190 : decode M_Mod_makeSeal.2.1 190 = .ok (.ixor, 1) := by decide +kernel
theorem d_Mod_makeSeal_191 : decode M_Mod_makeSeal.2.1 191 = .ok (.goto 5, 3) := by decide +kernel
theorem d_Mod_makeSeal_194 : decode M_Mod_makeSeal.2.1 194 = .ok (.iload 7, 2) := by decide +kernel
theorem d_Mod_makeSeal_196 : decode M_Mod_makeSeal.2.1 196 = .ok (.istore 7, 2) := by decide +kernel
theorem d_Mod_makeSeal_198 : decode M_Mod_makeSeal.2.1 198 = .ok (.aload_n 0, 1) := by decide +kernel
theorem d_Mod_makeSeal_199 : decode M_Mod_makeSeal.2.1 199 = .ok (.getfield 47, 3) := by decide +kernel
theorem d_Mod_makeSeal_202 : decode M_Mod_makeSeal.2.1 202 = .ok (.iload 5, 2) := by decide +kernel
theorem d_Mod_makeSeal_204 : decode M_Mod_makeSeal.2.1 204 = .ok (.aload_n 0, 1) := by decide +kernel
theorem d_Mod_makeSeal_205 : decode M_Mod_makeSeal.2.1 205 = .ok (.getfield 47, 3) := by decide +kernel
theorem d_Mod_makeSeal_208 : decode M_Mod_makeSeal.2.1 208 = .ok (.iload 5, 2) := by decide +kernel
theorem d_Mod_makeSeal_210 : decode M_Mod_makeSeal.2.1 210 = .ok (.iaload, 1) := by decide +kernel
theorem d_Mod_makeSeal_211 : decode M_Mod_makeSeal.2.1 211 = .ok (.iload 7, 2) := by decide +kernel
theorem d_Mod_makeSeal_213 : decode M_Mod_makeSeal.2.1 213 = .ok (.ixor, 1) := by decide +kernel
theorem d_Mod_makeSeal_214 : decode M_Mod_makeSeal.2.1 214 = .ok (.iastore, 1) := by decide +kernel
theorem d_Mod_makeSeal_215 : decode M_Mod_makeSeal.2.1 215 = .ok (.iinc 5 1, 3) := by decide +kernel
theorem d_Mod_makeSeal_218 : decode M_Mod_makeSeal.2.1 218 = .ok (.goto (-93), 3) := by decide +kernel
theorem d_Mod_makeSeal_221 : decode M_Mod_makeSeal.2.1 221 = .ok (.aload_n 0, 1) := by decide +kernel
theorem d_Mod_makeSeal_222 : decode M_Mod_makeSeal.2.1 222 = .ok (.invokevirtual 86, 3) := by decide +kernel
theorem d_Mod_makeSeal_225 : decode M_Mod_makeSeal.2.1 225 = .ok (.iinc 4 1, 3) := by decide +kernel
theorem d_Mod_makeSeal_228 : decode M_Mod_makeSeal.2.1 228 = .ok (.goto (-112), 3) := by decide +kernel
theorem d_Mod_makeSeal_231 : decode M_Mod_makeSeal.2.1 231 = .ok (.iconst 0, 1) := by decide +kernel
theorem d_Mod_makeSeal_232 : decode M_Mod_makeSeal.2.1 232 = .ok (.istore 4, 2) := by decide +kernel
theorem d_Mod_makeSeal_234 : decode M_Mod_makeSeal.2.1 234 = .ok (.iload 4, 2) := by decide +kernel
theorem d_Mod_makeSeal_236 : decode M_Mod_makeSeal.2.1 236 = .ok (.bipush 16, 2) := by decide +kernel
theorem d_Mod_makeSeal_238 : decode M_Mod_makeSeal.2.1 238 = .ok (.if_icmp .ge 23, 3) := by decide +kernel
theorem d_Mod_makeSeal_241 : decode M_Mod_makeSeal.2.1 241 = .ok (.aload_n 0, 1) := by decide +kernel
theorem d_Mod_makeSeal_242 : decode M_Mod_makeSeal.2.1 242 = .ok (.getfield 56, 3) := by decide +kernel
theorem d_Mod_makeSeal_245 : decode M_Mod_makeSeal.2.1 245 = .ok (.iload 4, 2) := by decide +kernel
theorem d_Mod_makeSeal_247 : decode M_Mod_makeSeal.2.1 247 = .ok (.aload_n 0, 1) := by decide +kernel
theorem d_Mod_makeSeal_248 : decode M_Mod_makeSeal.2.1 248 = .ok (.getfield 47, 3) := by decide +kernel
theorem d_Mod_makeSeal_251 : decode M_Mod_makeSeal.2.1 251 = .ok (.iload 4, 2) := by decide +kernel
theorem d_Mod_makeSeal_253 : decode M_Mod_makeSeal.2.1 253 = .ok (.iaload, 1) := by decide +kernel
theorem d_Mod_makeSeal_254 : decode M_Mod_makeSeal.2.1 254 = .ok (.iastore, 1) := by decide +kernel
theorem d_Mod_makeSeal_255 : decode M_Mod_makeSeal.2.1 255 = .ok (.iinc 4 1, 3) := by decide +kernel
theorem d_Mod_makeSeal_258 : decode M_Mod_makeSeal.2.1 258 = .ok (.goto (-24), 3) := by decide +kernel
theorem d_Mod_makeSeal_261 : decode M_Mod_makeSeal.2.1 261 = .ok (.return_, 1) := by decide +kernel
theorem d_Mod_encipher_0 : decode M_Mod_encipher.2.1 0 = .ok (.aload_n 0, 1) := by decide +kernel
theorem d_Mod_encipher_1 : decode M_Mod_encipher.2.1 1 = .ok (.iconst 0, 1) := by decide +kernel
theorem d_Mod_encipher_2 : decode M_Mod_encipher.2.1 2 = .ok (.invokevirtual 79, 3) := by decide +kernel
theorem d_Mod_encipher_5 : decode M_Mod_encipher.2.1 5 = .ok (.iconst 1, 1) := by decide +kernel
theorem d_Mod_encipher_6 : decode M_Mod_encipher.2.1 6 = .ok (.istore_n 1, 1) := by decide +kernel
theorem d_Mod_encipher_7 : decode M_Mod_encipher.2.1 7 = .ok (.iload_n 1, 1) := by decide +kernel
theorem d_Mod_encipher_8 : decode M_Mod_encipher.2.1 8 = .ok (.bipush 10, 2) := by decide +kernel
theorem d_Mod_encipher_10 : decode M_Mod_encipher.2.1 10 = .ok (.if_icmp .gt 140, 3) := by decide +kernel
theorem d_Mod_encipher_13 : decode M_Mod_encipher.2.1 13 = .ok (.aload_n 0, 1) := by decide +kernel
theorem d_Mod_encipher_14 : decode M_Mod_encipher.2.1 14 = .ok (.invokevirtual 83, 3) := by decide +kernel
theorem d_Mod_encipher_17 : decode M_Mod_encipher.2.1 17 = .ok (.iconst 0, 1) := by decide +kernel
theorem d_Mod_encipher_18 : decode M_Mod_encipher.2.1 18 = .ok (.istore_n 2, 1) := by decide +kernel
theorem d_Mod_encipher_19 : decode M_Mod_encipher.2.1 19 = .ok (.iload_n 2, 1) := by decide +kernel
theorem d_Mod_encipher_20 : decode M_Mod_encipher.2.1 20 = .ok (.iconst 4, 1) := by decide +kernel
theorem d_Mod_encipher_21 : decode M_Mod_encipher.2.1 21 = .ok (.if_icmp .ge 118, 3) := by decide +kernel
theorem d_Mod_encipher_24 : decode M_Mod_encipher.2.1 24 = .ok (.iconst 0, 1) := by decide +kernel
theorem d_Mod_encipher_25 : decode M_Mod_encipher.2.1 25 = .ok (.istore_n 3, 1) := by decide +kernel
theorem d_Mod_encipher_26 : decode M_Mod_encipher.2.1 26 = .ok (.iload_n 3, 1) := by decide +kernel
theorem d_Mod_encipher_27 : decode M_Mod_encipher.2.1 27 = .ok (.iconst 4, 1) := by decide +kernel
theorem d_Mod_encipher_28 : decode M_Mod_encipher.2.1 28 = .ok (.if_icmp .ge 105, 3) := by decide +kernel
theorem d_Mod_encipher_31 : decode M_Mod_encipher.2.1 31 = .ok (.iconst 2, 1) := by decide +kernel
theorem d_Mod_encipher_32 : decode M_Mod_encipher.2.1 32 = .ok (.aload_n 0, 1) := by decide +kernel
theorem d_Mod_encipher_33 : decode M_Mod_encipher.2.1 33 = .ok (.getfield 50, 3) := by decide +kernel
theorem d_Mod_encipher_36 : decode M_Mod_encipher.2.1 36 = .ok (.iload_n 3, 1) := by decide +kernel
theorem d_Mod_encipher_37 : decode M_Mod_encipher.2.1 37 = .ok (.iconst 4, 1) := by decide +kernel
theorem d_Mod_encipher_38 : decode M_Mod_encipher.2.1 38 = .ok (.iload_n 2, 1) := by decide +kernel
theorem d_Mod_encipher_39 : decode M_Mod_encipher.2.1 39 = .ok (.imul, 1) := by decide +kernel
theorem d_Mod_encipher_40 : decode M_Mod_encipher.2.1 40 = .ok (.iadd, 1) := by decide +kernel
theorem d_Mod_encipher_41 : decode M_Mod_encipher.2.1 41 = .ok (.iaload, 1) := by decide +kernel
theorem d_Mod_encipher_42 : decode M_Mod_encipher.2.1 42 = .ok (.invokestatic 72, 3) := by decide +kernel
theorem d_Mod_encipher_45 : decode M_Mod_encipher.2.1 45 = .ok (.iconst 3, 1) := by decide +kernel
theorem d_Mod_encipher_46 : decode M_Mod_encipher.2.1 46 = .ok (.aload_n 0, 1) := by decide +kernel
theorem d_Mod_encipher_47 : decode M_Mod_encipher.2.1 47 = .ok (.getfield 50, 3) := by decide +kernel
theorem d_Mod_encipher_50 : decode M_Mod_encipher.2.1 50 = .ok (.iload_n 3, 1) := by decide +kernel
theorem d_Mod_encipher_51 : decode M_Mod_encipher.2.1 51 = .ok (.iconst 1, 1) := by decide +kernel
theorem d_Mod_encipher_52 : decode M_Mod_encipher.2.1 52 = .ok (.iadd, 1) := by decide +kernel
theorem d_Mod_encipher_53 : decode M_Mod_encipher.2.1 53 = .ok (.iconst 4, 1) := by decide +kernel
theorem d_Mod_encipher_54 : decode M_Mod_encipher.2.1 54 = .ok (.irem, 1) := by decide +kernel
theorem d_Mod_encipher_55 : decode M_Mod_encipher.2.1 55 = .ok (.iconst 4, 1) := by decide +kernel
theorem d_Mod_encipher_56 : decode M_Mod_encipher.2.1 56 = .ok (.iload_n 2, 1) := by decide +kernel
theorem d_Mod_encipher_57 : decode M_Mod_encipher.2.1 57 = .ok (.imul, 1) := by decide +kernel
theorem d_Mod_encipher_58 : decode M_Mod_encipher.2.1 58 = .ok (.iadd, 1) := by decide +kernel
theorem d_Mod_encipher_59 : decode M_Mod_encipher.2.1 59 = .ok (.iaload, 1) := by decide +kernel
theorem d_Mod_encipher_60 : decode M_Mod_encipher.2.1 60 = .ok (.invokestatic 72, 3) := by decide +kernel
theorem d_Mod_encipher_63 : decode M_Mod_encipher.2.1 63 = .ok (.ixor, 1) := by decide +kernel
theorem d_Mod_encipher_64 : decode M_Mod_encipher.2.1 64 = .ok (.aload_n 0, 1) := by decide +kernel
theorem d_Mod_encipher_65 : decode M_Mod_encipher.2.1 65 = .ok (.getfield 50, 3) := by decide +kernel
theorem d_Mod_encipher_68 : decode M_Mod_encipher.2.1 68 = .ok (.iload_n 3, 1) := by decide +kernel
theorem d_Mod_encipher_69 : decode M_Mod_encipher.2.1 69 = .ok (.iconst 2, 1) := by decide +kernel
theorem d_Mod_encipher_70 : decode M_Mod_encipher.2.1 70 = .ok (.iadd, 1) := by decide +kernel
theorem d_Mod_encipher_71 : decode M_Mod_encipher.2.1 71 = .ok (.iconst 4, 1) := by decide +kernel
theorem d_Mod_encipher_72 : decode M_Mod_encipher.2.1 72 = .ok (.irem, 1) := by decide +kernel
theorem d_Mod_encipher_73 : decode M_Mod_encipher.2.1 73 = .ok (.iconst 4, 1) := by decide +kernel
theorem d_Mod_encipher_74 : decode M_Mod_encipher.2.1 74 = .ok (.iload_n 2, 1) := by decide +kernel
theorem d_Mod_encipher_75 : decode M_Mod_encipher.2.1 75 = .ok (.imul, 1) := by decide +kernel
theorem d_Mod_encipher_76 : decode M_Mod_encipher.2.1 76 = .ok (.iadd, 1) := by decide +kernel
theorem d_Mod_encipher_77 : decode M_Mod_encipher.2.1 77 = .ok (.iaload, 1) := by decide +kernel
theorem d_Mod_encipher_78 : decode M_Mod_encipher.2.1 78 = .ok (.ixor, 1) := by decide +kernel
theorem d_Mod_encipher_79 : decode M_Mod_encipher.2.1 79 = .ok (.aload_n 0, 1) := by decide +kernel
theorem d_Mod_encipher_80 : decode M_Mod_encipher.2.1 80 = .ok (.getfield 50, 3) := by decide +kernel
theorem d_Mod_encipher_83 : decode M_Mod_encipher.2.1 83 = .ok (.iload_n 3, 1) := by decide +kernel
theorem d_Mod_encipher_84 : decode M_Mod_encipher.2.1 84 = .ok (.iconst 3, 1) := by decide +kernel
theorem d_Mod_encipher_85 : decode M_Mod_encipher.2.1 85 = .ok (.iadd, 1) := by decide +kernel
theorem d_Mod_encipher_86 : decode M_Mod_encipher.2.1 86 = .ok (.iconst 4, 1) := by decide +kernel
theorem d_Mod_encipher_87 : decode M_Mod_encipher.2.1 87 = .ok (.irem, 1) := by decide +kernel
theorem d_Mod_encipher_88 : decode M_Mod_encipher.2.1 88 = .ok (.iconst 4, 1) := by decide +kernel
theorem d_Mod_encipher_89 : decode M_Mod_encipher.2.1 89 = .ok (.iload_n 2, 1) := by decide +kernel
theorem d_Mod_encipher_90 : decode M_Mod_encipher.2.1 90 = .ok (.imul, 1) := by decide +kernel
theorem d_Mod_encipher_91 : decode M_Mod_encipher.2.1 91 = .ok (.iadd, 1) := by decide +kernel
theorem d_Mod_encipher_92 : decode M_Mod_encipher.2.1 92 = .ok (.iaload, 1) := by decide +kernel
theorem d_Mod_encipher_93 : decode M_Mod_encipher.2.1 93 = .ok (.ixor, 1) := by decide +kernel
theorem d_Mod_encipher_94 : decode M_Mod_encipher.2.1 94 = .ok (.istore 4, 2) := by decide +kernel
theorem d_Mod_encipher_96 : decode M_Mod_encipher.2.1 96 = .ok (.aload_n 0, 1) := by decide +kernel
theorem d_Mod_encipher_97 : decode M_Mod_encipher.2.1 97 = .ok (.getfield 47, 3) := by decide +kernel
theorem d_Mod_encipher_100 : decode M_Mod_encipher.2.1 100 = .ok (.iload_n 3, 1) := by decide +kernel
theorem d_Mod_encipher_101 : decode M_Mod_encipher.2.1 101 = .ok (.iconst 4, 1) := by decide +kernel
theorem d_Mod_encipher_102 : decode M_Mod_encipher.2.1 102 = .ok (.iload_n 2, 1) := by decide +kernel
theorem d_Mod_encipher_103 : decode M_Mod_encipher.2.1 103 = .ok (.imul, 1) := by decide +kernel
theorem d_Mod_encipher_104 : decode M_Mod_encipher.2.1 104 = .ok (.iadd, 1) := by decide +kernel
theorem d_Mod_encipher_105 : decode M_Mod_encipher.2.1 105 = .ok (.iload_n 1, 1) := by decide +kernel
theorem d_Mod_encipher_106 : decode M_Mod_encipher.2.1 106 = .ok (.bipush 10, 2) := by decide +kernel
theorem d_Mod_encipher_108 : decode M_Mod_encipher.2.1 108 = .ok (.if_icmp .ge 8, 3) := by decide +kernel
theorem d_Mod_encipher_111 : decode M_Mod_encipher.2.1 111 = .ok (.iload 4, 2) := by decide +kernel
theorem d_Mod_encipher_113 : decode M_Mod_encipher.2.1 113 = .ok (.goto 13, 3) := by decide +kernel
theorem d_Mod_encipher_116 : decode M_Mod_encipher.2.1 116 = .ok (.aload_n 0, 1) := by decide +kernel
theorem d_Mod_encipher_117 : decode M_Mod_encipher.2.1 117 = .ok (.getfield 50, 3) := by decide +kernel
theorem d_Mod_encipher_120 : decode M_Mod_encipher.2.1 120 = .ok (.iload_n 3, 1) := by decide +kernel
theorem d_Mod_encipher_121 : decode M_Mod_encipher.2.1 121 = .ok (.iconst 4, 1) := by decide +kernel
theorem d_Mod_encipher_122 : decode M_Mod_encipher.2.1 122 = .ok (.iload_n 2, 1) := by decide +kernel
theorem d_Mod_encipher_123 : decode M_Mod_encipher.2.1 123 = .ok (.imul, 1) := by decide +kernel
theorem d_Mod_encipher_124 : decode M_Mod_encipher.2.1 124 = .ok (.iadd, 1) := by decide +kernel
theorem d_Mod_encipher_125 : decode M_Mod_encipher.2.1 125 = .ok (.iaload, 1) := by decide +kernel
theorem d_Mod_encipher_126 : decode M_Mod_encipher.2.1 126 = .ok (.iastore, 1) := by decide +kernel
theorem d_Mod_encipher_127 : decode M_Mod_encipher.2.1 127 = .ok (.iinc 3 1, 3) := by decide +kernel
theorem d_Mod_encipher_130 : decode M_Mod_encipher.2.1 130 = .ok (.goto (-104), 3) := by decide +kernel
theorem d_Mod_encipher_133 : decode M_Mod_encipher.2.1 133 = .ok (.iinc 2 1, 3) := by decide +kernel
theorem d_Mod_encipher_136 : decode M_Mod_encipher.2.1 136 = .ok (.goto (-117), 3) := by decide +kernel
theorem d_Mod_encipher_139 : decode M_Mod_encipher.2.1 139 = .ok (.aload_n 0, 1) := by decide +kernel
theorem d_Mod_encipher_140 : decode M_Mod_encipher.2.1 140 = .ok (.iload_n 1, 1) := by decide +kernel
theorem d_Mod_encipher_141 : decode M_Mod_encipher.2.1 141 = .ok (.invokevirtual 79, 3) := by decide +kernel
theorem d_Mod_encipher_144 : decode M_Mod_encipher.2.1 144 = .ok (.iinc 1 1, 3) := by decide +kernel
theorem d_Mod_encipher_147 : decode M_Mod_encipher.2.1 147 = .ok (.goto (-140), 3) := by decide +kernel
theorem d_Mod_encipher_150 : decode M_Mod_encipher.2.1 150 = .ok (.return_, 1) := by decide +kernel
theorem d_Mod_combineKey_0 : decode M_Mod_combineKey.2.1 0 = .ok (.iconst 0, 1) := by decide +kernel
theorem d_Mod_combineKey_1 : decode M_Mod_combineKey.2.1 1 = .ok (.istore_n 2, 1) := by decide +kernel
theorem d_Mod_combineKey_2 : decode M_Mod_combineKey.2.1 2 = .ok (.iload_n 2, 1) := by decide +kernel
theorem d_Mod_combineKey_3 : decode M_Mod_combineKey.2.1 3 = .ok (.bipush 16, 2) := by decide +kernel
theorem d_Mod_combineKey_5 : decode M_Mod_combineKey.2.1 5 = .ok (.if_icmp .ge 33, 3) := by decide +kernel
theorem d_Mod_combineKey_8 : decode M_Mod_combineKey.2.1 8 = .ok (.aload_n 0, 1) := by decide +kernel
theorem d_Mod_combineKey_9 : decode M_Mod_combineKey.2.1 9 = .ok (.getfield 47, 3) := by decide +kernel
theorem d_Mod_combineKey_12 : decode M_Mod_combineKey.2.1 12 = .ok (.iload_n 2, 1) := by decide +kernel
theorem d_Mod_combineKey_13 : decode M_Mod_combineKey.2.1 13 = .ok (.aload_n 0, 1) := by decide +kernel
theorem d_Mod_combineKey_14 : decode M_Mod_combineKey.2.1 14 = .ok (.getfield 47, 3) := by decide +kernel
theorem d_Mod_combineKey_17 : decode M_Mod_combineKey.2.1 17 = .ok (.iload_n 2, 1) := by decide +kernel
theorem d_Mod_combineKey_18 : decode M_Mod_combineKey.2.1 18 = .ok (.iaload, 1) := by decide +kernel
theorem d_Mod_combineKey_19 : decode M_Mod_combineKey.2.1 19 = .ok (.aload_n 0, 1) := by decide +kernel
theorem d_Mod_combineKey_20 : decode M_Mod_combineKey.2.1 20 = .ok (.getfield 44, 3) := by decide +kernel
theorem d_Mod_combineKey_23 : decode M_Mod_combineKey.2.1 23 = .ok (.bipush 16, 2) := by decide +kernel
theorem d_Mod_combineKey_25 : decode M_Mod_combineKey.2.1 25 = .ok (.iload_n 1, 1) := by decide +kernel
theorem d_Mod_combineKey_26 : decode M_Mod_combineKey.2.1 26 = .ok (.imul, 1) := by decide +kernel
theorem d_Mod_combineKey_27 : decode M_Mod_combineKey.2.1 27 = .ok (.iload_n 2, 1) := by decide +kernel
theorem d_Mod_combineKey_28 : decode M_Mod_combineKey.2.1 28 = .ok (.iadd, 1) := by decide +kernel
theorem d_Mod_combineKey_29 : decode M_Mod_combineKey.2.1 29 = .ok (.iaload, 1) := by decide +kernel
theorem d_Mod_combineKey_30 : decode M_Mod_combineKey.2.1 30 = .ok (.ixor, 1) := by decide +kernel
theorem d_Mod_combineKey_31 : decode M_Mod_combineKey.2.1 31 = .ok (.iastore, 1) := by decide +kernel
theorem d_Mod_combineKey_32 : decode M_Mod_combineKey.2.1 32 = .ok (.iinc 2 1, 3) := by decide +kernel
theorem d_Mod_combineKey_35 : decode M_Mod_combineKey.2.1 35 = .ok (.goto (-33), 3) := by decide +kernel
theorem d_Mod_combineKey_38 : decode M_Mod_combineKey.2.1 38 = .ok (.return_, 1) := by decide +kernel
theorem d_Mod_mixRows_0 : decode M_Mod_mixRows.2.1 0 = .ok (.iconst 0, 1) := by decide +kernel
theorem d_Mod_mixRows_1 : decode M_Mod_mixRows.2.1 1 = .ok (.istore_n 1, 1) := by decide +kernel
theorem d_Mod_mixRows_2 : decode M_Mod_mixRows.2.1 2 = .ok (.iload_n 1, 1) := by decide +kernel
theorem d_Mod_mixRows_3 : decode M_Mod_mixRows.2.1 3 = .ok (.iconst 4, 1) := by decide +kernel
theorem d_Mod_mixRows_4 : decode M_Mod_mixRows.2.1 4 = .ok (.if_icmp .ge 51, 3) := by decide +kernel
theorem d_Mod_mixRows_7 : decode M_Mod_mixRows.2.1 7 = .ok (.iconst 0, 1) := by decide +kernel
theorem d_Mod_mixRows_8 : decode M_Mod_mixRows.2.1 8 = .ok (.istore_n 2, 1) := by decide +kernel
theorem d_Mod_mixRows_9 : decode M_Mod_mixRows.2.1 9 = .ok (.iload_n 2, 1) := by decide +kernel
theorem d_Mod_mixRows_10 : decode M_Mod_mixRows.2.1 10 = .ok (.iconst 4, 1) := by decide +kernel
theorem d_Mod_mixRows_11 : decode M_Mod_mixRows.2.1 11 = .ok (.if_icmp .ge 38, 3) := by decide +kernel
theorem d_Mod_mixRows_14 : decode M_Mod_mixRows.2.1 14 = .ok (.aload_n 0, 1) := by decide +kernel
theorem d_Mod_mixRows_15 : decode M_Mod_mixRows.2.1 15 = .ok (.getfield 50, 3) := by decide +kernel
theorem d_Mod_mixRows_18 : decode M_Mod_mixRows.2.1 18 = .ok (.iload_n 2, 1) := by decide +kernel
theorem d_Mod_mixRows_19 : decode M_Mod_mixRows.2.1 19 = .ok (.iconst 4, 1) := by decide +kernel
theorem d_Mod_mixRows_20 : decode M_Mod_mixRows.2.1 20 = .ok (.iload_n 1, 1) := by decide +kernel
theorem d_Mod_mixRows_21 : decode M_Mod_mixRows.2.1 21 = .ok (.imul, 1) := by decide +kernel
theorem d_Mod_mixRows_22 : decode M_Mod_mixRows.2.1 22 = .ok (.iadd, 1) := by decide +kernel
theorem d_Mod_mixRows_23 : decode M_Mod_mixRows.2.1 23 = .ok (.aload_n 0, 1) := by decide +kernel
theorem d_Mod_mixRows_24 : decode M_Mod_mixRows.2.1 24 = .ok (.getfield 41, 3) := by decide +kernel
theorem d_Mod_mixRows_27 : decode M_Mod_mixRows.2.1 27 = .ok (.aload_n 0, 1) := by decide +kernel
theorem d_Mod_mixRows_28 : decode M_Mod_mixRows.2.1 28 = .ok (.getfield 47, 3) := by decide +kernel
theorem d_Mod_mixRows_31 : decode M_Mod_mixRows.2.1 31 = .ok (.iload_n 2, 1) := by decide +kernel
theorem d_Mod_mixRows_32 : decode M_Mod_mixRows.2.1 32 = .ok (.iconst 4, 1) := by decide +kernel
theorem d_Mod_mixRows_33 : decode M_Mod_mixRows.2.1 33 = .ok (.iload_n 1, 1) := by decide +kernel
theorem d_Mod_mixRows_34 : decode M_Mod_mixRows.2.1 34 = .ok (.iload_n 2, 1) := by decide +kernel
theorem d_Mod_mixRows_35 : decode M_Mod_mixRows.2.1 35 = .ok (.iadd, 1) := by decide +kernel
theorem d_Mod_mixRows_36 : decode M_Mod_mixRows.2.1 36 = .ok (.iconst 4, 1) := by decide +kernel
theorem d_Mod_mixRows_37 : decode M_Mod_mixRows.2.1 37 = .ok (.irem, 1) := by decide +kernel
theorem d_Mod_mixRows_38 : decode M_Mod_mixRows.2.1 38 = .ok (.imul, 1) := by decide +kernel
theorem d_Mod_mixRows_39 : decode M_Mod_mixRows.2.1 39 = .ok (.iadd, 1) := by decide +kernel
theorem d_Mod_mixRows_40 : decode M_Mod_mixRows.2.1 40 = .ok (.iaload, 1) := by decide +kernel
theorem d_Mod_mixRows_41 : decode M_Mod_mixRows.2.1 41 = .ok (.iaload, 1) := by decide +kernel
theorem d_Mod_mixRows_42 : decode M_Mod_mixRows.2.1 42 = .ok (.iastore, 1) := by decide +kernel
theorem d_Mod_mixRows_43 : decode M_Mod_mixRows.2.1 43 = .ok (.iinc 2 1, 3) := by decide +kernel
theorem d_Mod_mixRows_46 : decode M_Mod_mixRows.2.1 46 = .ok (.goto (-37), 3) := by decide +kernel
theorem d_Mod_mixRows_49 : decode M_Mod_mixRows.2.1 49 = .ok (.iinc 1 1, 3) := by decide +kernel
theorem d_Mod_mixRows_52 : decode M_Mod_mixRows.2.1 52 = .ok (.goto (-50), 3) := by decide +kernel
theorem d_Mod_mixRows_55 : decode M_Mod_mixRows.2.1 55 = .ok (.return_, 1) := by decide +kernel
theorem d_Mod_doubleMask_0 : decode M_Mod_doubleMask.2.1 0 = .ok (.aload_n 0, 1) := by decide +kernel
theorem d_Mod_doubleMask_1 : decode M_Mod_doubleMask.2.1 1 = .ok (.getfield 59, 3) := by decide +kernel
theorem d_Mod_doubleMask_4 : decode M_Mod_doubleMask.2.1 4 = .ok (.iconst 0, 1) := by decide +kernel
theorem d_Mod_doubleMask_5 : decode M_Mod_doubleMask.2.1 5 = .ok (.iaload, 1) := by decide +kernel
theorem d_Mod_doubleMask_6 : decode M_Mod_doubleMask.2.1 6 = .ok (.bipush 7, 2) := by decide +kernel
theorem d_Mod_doubleMask_8 : decode M_Mod_doubleMask.2.1 8 = .ok (.ishr, 1) := by decide +kernel
theorem d_Mod_doubleMask_9 : decode M_Mod_doubleMask.2.1 9 = .ok (.istore_n 1, 1) := by decide +kernel
theorem d_Mod_doubleMask_10 : decode M_Mod_doubleMask.2.1 10 = .ok (.iconst 0, 1) := by decide +kernel
theorem d_Mod_doubleMask_11 : decode M_Mod_doubleMask.2.1 11 = .ok (.istore_n 2, 1) := by decide +kernel
theorem d_Mod_doubleMask_12 : decode M_Mod_doubleMask.2.1 12 = .ok (.iload_n 2, 1) := by decide +kernel
theorem d_Mod_doubleMask_13 : decode M_Mod_doubleMask.2.1 13 = .ok (.bipush 16, 2) := by decide +kernel
theorem d_Mod_doubleMask_15 : decode M_Mod_doubleMask.2.1 15 = .ok (.if_icmp .ge 51, 3) := by decide +kernel
theorem d_Mod_doubleMask_18 : decode M_Mod_doubleMask.2.1 18 = .ok (.iload_n 2, 1) := by decide +kernel
theorem d_Mod_doubleMask_19 : decode M_Mod_doubleMask.2.1 19 = .ok (.bipush 15, 2) := by decide +kernel
theorem d_Mod_doubleMask_21 : decode M_Mod_doubleMask.2.1 21 = .ok (.if_icmp .ge 17, 3) := by decide +kernel
theorem d_Mod_doubleMask_24 : decode M_Mod_doubleMask.2.1 24 = .ok (.aload_n 0, 1) := by decide +kernel
theorem d_Mod_doubleMask_25 : decode M_Mod_doubleMask.2.1 25 = .ok (.getfield 59, 3) := by decide +kernel
theorem d_Mod_doubleMask_28 : decode M_Mod_doubleMask.2.1 28 = .ok (.iload_n 2, 1) := by decide +kernel
theorem d_Mod_doubleMask_29 : decode M_Mod_doubleMask.2.1 29 = .ok (.iconst 1, 1) := by decide +kernel
theorem d_Mod_doubleMask_30 : decode M_Mod_doubleMask.2.1 30 = .ok (.iadd, 1) := by decide +kernel
theorem d_Mod_doubleMask_31 : decode M_Mod_doubleMask.2.1 31 = .ok (.iaload, 1) := by decide +kernel
theorem d_Mod_doubleMask_32 : decode M_Mod_doubleMask.2.1 32 = .ok (.bipush 7, 2) := by decide +kernel
theorem d_Mod_doubleMask_34 : decode M_Mod_doubleMask.2.1 34 = .ok (.ishr, 1) := by decide +kernel
theorem d_Mod_doubleMask_35 : decode M_Mod_doubleMask.2.1 35 = .ok (.goto 4, 3) := by decide +kernel
theorem d_Mod_doubleMask_38 : decode M_Mod_doubleMask.2.1 38 = .ok (.iconst 0, 1) := by decide +kernel
theorem d_Mod_doubleMask_39 : decode M_Mod_doubleMask.2.1 39 = .ok (.istore_n 3, 1) := by decide +kernel
theorem d_Mod_doubleMask_40 : decode M_Mod_doubleMask.2.1 40 = .ok (.aload_n 0, 1) := by decide +kernel
theorem d_Mod_doubleMask_41 : decode M_Mod_doubleMask.2.1 41 = .ok (.getfield 59, 3) := by decide +kernel
theorem d_Mod_doubleMask_44 : decode M_Mod_doubleMask.2.1 44 = .ok (.iload_n 2, 1) := by decide +kernel
theorem d_Mod_doubleMask_45 : decode M_Mod_doubleMask.2.1 45 = .ok (.iconst 2, 1) := by decide +kernel
theorem d_Mod_doubleMask_46 : decode M_Mod_doubleMask.2.1 46 = .ok (.aload_n 0, 1) := by decide +kernel
theorem d_Mod_doubleMask_47 : decode M_Mod_doubleMask.2.1 47 = .ok (.getfield 59, 3) := by decide +kernel
theorem d_Mod_doubleMask_50 : decode M_Mod_doubleMask.2.1 50 = .ok (.iload_n 2, 1) := by decide +kernel
theorem d_Mod_doubleMask_51 : decode M_Mod_doubleMask.2.1 51 = .ok (.iaload, 1) := by decide +kernel
theorem d_Mod_doubleMask_52 : decode M_Mod_doubleMask.2.1 52 = .ok (.imul, 1) := by decide +kernel
theorem d_Mod_doubleMask_53 : decode M_Mod_doubleMask.2.1 53 = .ok (.iload_n 3, 1) := by decide +kernel
theorem d_Mod_doubleMask_54 : decode M_Mod_doubleMask.2.1 54 = .ok (.iadd, 1) := by decide +kernel
theorem d_Mod_doubleMask_55 : decode M_Mod_doubleMask.2.1 55 = .ok (.sipush 255, 3) := by decide +kernel
theorem d_Mod_doubleMask_58 : decode M_Mod_doubleMask.2.1 58 = .ok (.iand, 1) := by decide +kernel
theorem d_Mod_doubleMask_59 : decode M_Mod_doubleMask.2.1 59 = .ok (.iastore, 1) := by decide +kernel
theorem d_Mod_doubleMask_60 : decode M_Mod_doubleMask.2.1 60 = .ok (.iinc 2 1, 3) := by decide +kernel
theorem d_Mod_doubleMask_63 : decode M_Mod_doubleMask.2.1 63 = .ok (.goto (-51), 3) := by decide +kernel
theorem d_Mod_doubleMask_66 : decode M_Mod_doubleMask.2.1 66 = .ok (.aload_n 0, 1) := by decide +kernel
theorem d_Mod_doubleMask_67 : decode M_Mod_doubleMask.2.1 67 = .ok (.getfield 59, 3) := by decide +kernel
theorem d_Mod_doubleMask_70 : decode M_Mod_doubleMask.2.1 70 = .ok (.bipush 15, 2) := by decide +kernel
theorem d_Mod_doubleMask_72 : decode M_Mod_doubleMask.2.1 72 = .ok (.iload_n 1, 1) := by decide +kernel
theorem d_Mod_doubleMask_73 : decode M_Mod_doubleMask.2.1 73 = .ok (.iconst 1, 1) := by decide +kernel
theorem d_Mod_doubleMask_74 : decode M_Mod_doubleMask.2.1 74 = .ok (.if_icmp .ne 17, 3) := by decide +kernel
theorem d_Mod_doubleMask_77 : decode M_Mod_doubleMask.2.1 77 = .ok (.aload_n 0, 1) := by decide +kernel
theorem d_Mod_doubleMask_78 : decode M_Mod_doubleMask.2.1 78 = .ok (.getfield 59, 3) := by decide +kernel
theorem d_Mod_doubleMask_81 : decode M_Mod_doubleMask.2.1 81 = .ok (.bipush 15, 2) := by decide +kernel
theorem d_Mod_doubleMask_83 : decode M_Mod_doubleMask.2.1 83 = .ok (.iaload, 1) := by decide +kernel
theorem d_Mod_doubleMask_84 : decode M_Mod_doubleMask.2.1 84 = .ok (.sipush 135, 3) := by decide +kernel
theorem d_Mod_doubleMask_87 : decode M_Mod_doubleMask.2.1 87 = .ok (.ixor, 1) := by decide +kernel
theorem d_Mod_doubleMask_88 : decode M_Mod_doubleMask.2.1 88 = .ok (.goto 10, 3) := by decide +kernel
theorem d_Mod_doubleMask_91 : decode M_Mod_doubleMask.2.1 91 = .ok (.aload_n 0, 1) := by decide +kernel
theorem d_Mod_doubleMask_92 : decode M_Mod_doubleMask.2.1 92 = .ok (.getfield 59, 3) := by decide +kernel
theorem d_Mod_doubleMask_95 : decode M_Mod_doubleMask.2.1 95 = .ok (.bipush 15, 2) := by decide +kernel
theorem d_Mod_doubleMask_97 : decode M_Mod_doubleMask.2.1 97 = .ok (.iaload, 1) := by decide +kernel
theorem d_Mod_doubleMask_98 : decode M_Mod_doubleMask.2.1 98 = .ok (.iastore, 1) := by decide +kernel
theorem d_Mod_doubleMask_99 : decode M_Mod_doubleMask.2.1 99 = .ok (.return_, 1) := by decide +kernel
theorem d_Mod_find_0 : decode M_Mod_find.2.1 0 = .ok (.iconst 0, 1) := by decide +kernel
theorem d_Mod_find_1 : decode M_Mod_find.2.1 1 = .ok (.istore_n 2, 1) := by decide +kernel
theorem d_Mod_find_2 : decode M_Mod_find.2.1 2 = .ok (.aload_n 0, 1) := by decide +kernel
theorem d_Mod_find_3 : decode M_Mod_find.2.1 3 = .ok (.getfield 62, 3) := by decide +kernel
theorem d_Mod_find_6 : decode M_Mod_find.2.1 6 = .ok (.iconst 0, 1) := by decide +kernel
theorem d_Mod_find_7 : decode M_Mod_find.2.1 7 = .ok (.aload_n 0, 1) := by decide +kernel
theorem d_Mod_find_8 : decode M_Mod_find.2.1 8 = .ok (.getfield 100, 3) := by decide +kernel
theorem d_Mod_find_11 : decode M_Mod_find.2.1 11 = .ok (.iastore, 1) := by decide +kernel
theorem d_Mod_find_12 : decode M_Mod_find.2.1 12 = .ok (.iconst 0, 1) := by decide +kernel
theorem d_Mod_find_13 : decode M_Mod_find.2.1 13 = .ok (.istore_n 3, 1) := by decide +kernel
theorem d_Mod_find_14 : decode M_Mod_find.2.1 14 = .ok (.iload_n 2, 1) := by decide +kernel
theorem d_Mod_find_15 : decode M_Mod_find.2.1 15 = .ok (.ifCond .lt 203, 3) := by decide +kernel
theorem d_Mod_find_18 : decode M_Mod_find.2.1 18 = .ok (.aload_n 0, 1) := by decide +kernel
theorem d_Mod_find_19 : decode M_Mod_find.2.1 19 = .ok (.getfield 62, 3) := by decide +kernel
theorem d_Mod_find_22 : decode M_Mod_find.2.1 22 = .ok (.iload_n 2, 1) := by decide +kernel
theorem d_Mod_find_23 : decode M_Mod_find.2.1 23 = .ok (.iaload, 1) := by decide +kernel
theorem d_Mod_find_24 : decode M_Mod_find.2.1 24 = .ok (.istore 4, 2) := by decide +kernel
theorem d_Mod_find_26 : decode M_Mod_find.2.1 26 = .ok (.iload_n 3, 1) := by decide +kernel
theorem d_Mod_find_27 : decode M_Mod_find.2.1 27 = .ok (.iload 4, 2) := by decide +kernel
theorem d_Mod_find_29 : decode M_Mod_find.2.1 29 = .ok (.if_icmp .ne 9, 3) := by decide +kernel
theorem d_Mod_find_32 : decode M_Mod_find.2.1 32 = .ok (.iinc 2 (-1), 3) := by decide +kernel
theorem d_Mod_find_35 : decode M_Mod_find.2.1 35 = .ok (.goto 180, 3) := by decide +kernel
theorem d_Mod_find_38 : decode M_Mod_find.2.1 38 = .ok (.aload_n 0, 1) := by decide +kernel
theorem d_Mod_find_39 : decode M_Mod_find.2.1 39 = .ok (.getfield 35, 3) := by decide +kernel
theorem d_Mod_find_42 : decode M_Mod_find.2.1 42 = .ok (.iload_n 3, 1) := by decide +kernel
theorem d_Mod_find_43 : decode M_Mod_find.2.1 43 = .ok (.iaload, 1) := by decide +kernel
theorem d_Mod_find_44 : decode M_Mod_find.2.1 44 = .ok (.bipush 31, 2) := by decide +kernel
theorem d_Mod_find_46 : decode M_Mod_find.2.1 46 = .ok (.iand, 1) := by decide +kernel
theorem d_Mod_find_47 : decode M_Mod_find.2.1 47 = .ok (.bipush 31, 2) := by decide +kernel
theorem d_Mod_find_49 : decode M_Mod_find.2.1 49 = .ok (.if_icmp .ne 7, 3) := by decide +kernel
theorem d_Mod_find_52 : decode M_Mod_find.2.1 52 = .ok (.iconst 1, 1) := by decide +kernel
theorem d_Mod_find_53 : decode M_Mod_find.2.1 53 = .ok (.goto 4, 3) := by decide +kernel
theorem d_Mod_find_56 : decode M_Mod_find.2.1 56 = .ok (.iconst 0, 1) := by decide +kernel
theorem d_Mod_find_57 : decode M_Mod_find.2.1 57 = .ok (.istore 5, 2) := by decide +kernel
theorem d_Mod_find_59 : decode M_Mod_find.2.1 59 = .ok (.iload 5, 2) := by decide +kernel
theorem d_Mod_find_61 : decode M_Mod_find.2.1 61 = .ok (.ifCond .eq 9, 3) := by decide +kernel
theorem d_Mod_find_64 : decode M_Mod_find.2.1 64 = .ok (.iload_n 3, 1) := by decide +kernel
theorem d_Mod_find_65 : decode M_Mod_find.2.1 65 = .ok (.iconst 3, 1) := by decide +kernel
theorem d_Mod_find_66 : decode M_Mod_find.2.1 66 = .ok (.iadd, 1) := by decide +kernel
theorem d_Mod_find_67 : decode M_Mod_find.2.1 67 = .ok (.goto 6, 3) := by decide +kernel
theorem d_Mod_find_70 : decode M_Mod_find.2.1 70 = .ok (.iload_n 3, 1) := by decide +kernel
theorem d_Mod_find_71 : decode M_Mod_find.2.1 71 = .ok (.iconst 2, 1) := by decide +kernel
theorem d_Mod_find_72 : decode M_Mod_find.2.1 72 = .ok (.iadd, 1) := by decide +kernel
theorem d_Mod_find_73 : decode M_Mod_find.2.1 73 = .ok (.istore 6, 2) := by decide +kernel
theorem d_Mod_find_75 : decode M_Mod_find.2.1 75 = .ok (.iload 6, 2) := by decide +kernel
theorem d_Mod_find_77 : decode M_Mod_find.2.1 77 = .ok (.iload 4, 2) := by decide +kernel
theorem d_Mod_find_79 : decode M_Mod_find.2.1 79 = .ok (.if_icmp .gt 20, 3) := by decide +kernel
theorem d_Mod_find_82 : decode M_Mod_find.2.1 82 = .ok (.iload 6, 2) := by decide +kernel
theorem d_Mod_find_84 : decode M_Mod_find.2.1 84 = .ok (.aload_n 0, 1) := by decide +kernel
theorem d_Mod_find_85 : decode M_Mod_find.2.1 85 = .ok (.getfield 35, 3) := by decide +kernel
theorem d_Mod_find_88 : decode M_Mod_find.2.1 88 = .ok (.iload 6, 2) := by decide +kernel
theorem d_Mod_find_90 : decode M_Mod_find.2.1 90 = .ok (.iconst 1, 1) := by decide +kernel
theorem d_Mod_find_91 : decode M_Mod_find.2.1 91 = .ok (.isub, 1) := by decide +kernel
theorem d_Mod_find_92 : decode M_Mod_find.2.1 92 = .ok (.iaload, 1) := by decide +kernel
theorem d_Mod_find_93 : decode M_Mod_find.2.1 93 = .ok (.iadd, 1) := by decide +kernel
theorem d_Mod_find_94 : decode M_Mod_find.2.1 94 = .ok (.iload 4, 2) := by decide +kernel
theorem d_Mod_find_96 : decode M_Mod_find.2.1 96 = .ok (.if_icmp .le 5, 3) := by decide +kernel
theorem d_Mod_find_99 : decode M_Mod_find.2.1 99 = .ok (.iconst (-1), 1) := by decide +kernel
theorem d_Mod_find_100 : decode M_Mod_find.2.1 100 = .ok (.ireturn, 1) := by decide +kernel
theorem d_Mod_find_101 : decode M_Mod_find.2.1 101 = .ok (.iload 5, 2) := by decide +kernel
theorem d_Mod_find_103 : decode M_Mod_find.2.1 103 = .ok (.ifCond .eq 25, 3) := by decide +kernel
theorem d_Mod_find_106 : decode M_Mod_find.2.1 106 = .ok (.sipush 256, 3) := by decide +kernel
theorem d_Mod_find_109 : decode M_Mod_find.2.1 109 = .ok (.aload_n 0, 1) := by decide +kernel
theorem d_Mod_find_110 : decode M_Mod_find.2.1 110 = .ok (.getfield 35, 3) := by decide +kernel
theorem d_Mod_find_113 : decode M_Mod_find.2.1 113 = .ok (.iload_n 3, 1) := by decide +kernel
theorem d_Mod_find_114 : decode M_Mod_find.2.1 114 = .ok (.iaload, 1) := by decide +kernel
theorem d_Mod_find_115 : decode M_Mod_find.2.1 115 = .ok (.imul, 1) := by decide +kernel
theorem d_Mod_find_116 : decode M_Mod_find.2.1 116 = .ok (.aload_n 0, 1) := by decide +kernel
theorem d_Mod_find_117 : decode M_Mod_find.2.1 117 = .ok (.getfield 35, 3) := by decide +kernel
theorem d_Mod_find_120 : decode M_Mod_find.2.1 120 = .ok (.iload_n 3, 1) := by decide +kernel
theorem d_Mod_find_121 : decode M_Mod_find.2.1 121 = .ok (.iconst 1, 1) := by decide +kernel
theorem d_Mod_find_122 : decode M_Mod_find.2.1 122 = .ok (.iadd, 1) := by decide +kernel
theorem d_Mod_find_123 : decode M_Mod_find.2.1 123 = .ok (.iaload, 1) := by decide +kernel
theorem d_Mod_find_124 : decode M_Mod_find.2.1 124 = .ok (.iadd, 1) := by decide +kernel
theorem d_Mod_find_125 : decode M_Mod_find.2.1 125 = .ok (.goto 9, 3) := by decide +kernel
theorem d_Mod_find_128 : decode M_Mod_find.2.1 128 = .ok (.aload_n 0, 1) := by decide +kernel
theorem d_Mod_find_129 : decode M_Mod_find.2.1 129 = .ok (.getfield 35, 3) := by decide +kernel
theorem d_Mod_find_132 : decode M_Mod_find.2.1 132 = .ok (.iload_n 3, 1) := by decide +kernel
theorem d_Mod_find_133 : decode M_Mod_find.2.1 133 = .ok (.iaload, 1) := by decide +kernel
theorem d_Mod_find_134 : decode M_Mod_find.2.1 134 = .ok (.istore 7, 2) := by decide +kernel
theorem d_Mod_find_136 : decode M_Mod_find.2.1 136 = .ok (.iload 7, 2) := by decide +kernel
theorem d_Mod_find_138 : decode M_Mod_find.2.1 138 = .ok (.iload_n 1, 1) := by decide +kernel
theorem d_Mod_find_139 : decode M_Mod_find.2.1 139 = .ok (.if_icmp .ne 6, 3) := by decide +kernel
theorem d_Mod_find_142 : decode M_Mod_find.2.1 142 = .ok (.iload 6, 2) := by decide +kernel
theorem d_Mod_find_144 : decode M_Mod_find.2.1 144 = .ok (.ireturn, 1) := by decide +kernel
theorem d_Mod_find_145 : decode M_Mod_find.2.1 145 = .ok (.aload_n 0, 1) := by decide +kernel
theorem d_Mod_find_146 : decode M_Mod_find.2.1 146 = .ok (.getfield 35, 3) := by decide +kernel
theorem d_Mod_find_149 : decode M_Mod_find.2.1 149 = .ok (.iload_n 3, 1) := by decide +kernel
theorem d_Mod_find_150 : decode M_Mod_find.2.1 150 = .ok (.iaload, 1) := by decide +kernel
theorem d_Mod_find_151 : decode M_Mod_find.2.1 151 = .ok (.iconst 5, 1) := by decide +kernel
theorem d_Mod_find_152 : decode M_Mod_find.2.1 152 = .ok (.ishr, 1) := by decide +kernel
theorem d_Mod_find_153 : decode M_Mod_find.2.1 153 = .ok (.iconst 1, 1) := by decide +kernel
theorem d_Mod_find_154 : decode M_Mod_find.2.1 154 = .ok (.iand, 1) := by decide +kernel
theorem d_Mod_find_155 : decode M_Mod_find.2.1 155 = .ok (.iconst 1, 1) := by decide +kernel
theorem d_Mod_find_156 : decode M_Mod_find.2.1 156 = .ok (.if_icmp .ne 7, 3) := by decide +kernel
theorem d_Mod_find_159 : decode M_Mod_find.2.1 159 = .ok (.iconst 1, 1) := by decide +kernel
theorem d_Mod_find_160 : decode M_Mod_find.2.1 160 = .ok (.goto 4, 3) := by decide +kernel
theorem d_Mod_find_163 : decode M_Mod_find.2.1 163 = .ok (.iconst 0, 1) := by decide +kernel
theorem d_Mod_find_164 : decode M_Mod_find.2.1 164 = .ok (.istore 8, 2) := by decide +kernel
theorem d_Mod_find_166 : decode M_Mod_find.2.1 166 = .ok (.iload 8, 2) := by decide +kernel
theorem d_Mod_find_168 : decode M_Mod_find.2.1 168 = .ok (.ifCond .eq 8, 3) := by decide +kernel
theorem d_Mod_find_171 : decode M_Mod_find.2.1 171 = .ok (.iload 6, 2) := by decide +kernel
theorem d_Mod_find_173 : decode M_Mod_find.2.1 173 = .ok (.goto 15, 3) := by decide +kernel
theorem d_Mod_find_176 : decode M_Mod_find.2.1 176 = .ok (.iload 6, 2) := by decide +kernel
theorem d_Mod_find_178 : decode M_Mod_find.2.1 178 = .ok (.aload_n 0, 1) := by decide +kernel
theorem d_Mod_find_179 : decode M_Mod_find.2.1 179 = .ok (.getfield 35, 3) := by decide +kernel
theorem d_Mod_find_182 : decode M_Mod_find.2.1 182 = .ok (.iload 6, 2) := by decide +kernel
theorem d_Mod_find_184 : decode M_Mod_find.2.1 184 = .ok (.iconst 1, 1) := by decide +kernel
theorem d_Mod_find_185 : decode M_Mod_find.2.1 185 = .ok (.isub, 1) := by decide +kernel
theorem d_Mod_find_186 : decode M_Mod_find.2.1 186 = .ok (.iaload, 1) := by decide +kernel
theorem d_Mod_find_187 : decode M_Mod_find.2.1 187 = .ok (.iadd, 1) := by decide +kernel
theorem d_Mod_find_188 : decode M_Mod_find.2.1 188 = .ok (.istore_n 3, 1) := by decide +kernel
theorem d_Mod_find_189 : decode M_Mod_find.2.1 189 = .ok (.iload 8, 2) := by decide +kernel
theorem d_Mod_find_191 : decode M_Mod_find.2.1 191 = .ok (.ifCond .eq 24, 3) := by decide +kernel
theorem d_Mod_find_194 : decode M_Mod_find.2.1 194 = .ok (.iinc 2 1, 3) := by decide +kernel
theorem d_Mod_find_197 : decode M_Mod_find.2.1 197 = .ok (.aload_n 0, 1) := by decide +kernel
theorem d_Mod_find_198 : decode M_Mod_find.2.1 198 = .ok (.getfield 62, 3) := by decide +kernel
theorem d_Mod_find_201 : decode M_Mod_find.2.1 201 = .ok (.iload_n 2, 1) := by decide +kernel
theorem d_Mod_find_202 : decode M_Mod_find.2.1 202 = .ok (.iload 6, 2) := by decide +kernel
theorem d_Mod_find_204 : decode M_Mod_find.2.1 204 = .ok (.aload_n 0, 1) := by decide +kernel
theorem d_Mod_find_205 : decode M_Mod_find.2.1 205 = .ok (.getfield 35, 3) := by decide +kernel
theorem d_Mod_find_208 : decode M_Mod_find.2.1 208 = .ok (.iload 6, 2) := by decide +kernel
theorem d_Mod_find_210 : decode M_Mod_find.2.1 210 = .ok (.iconst 1, 1) := by decide +kernel
theorem d_Mod_find_211 : decode M_Mod_find.2.1 211 = .ok (.isub, 1) := by decide +kernel
theorem d_Mod_find_212 : decode M_Mod_find.2.1 212 = .ok (.iaload, 1) := by decide +kernel
theorem d_Mod_find_213 : decode M_Mod_find.2.1 213 = .ok (.iadd, 1) := by decide +kernel
theorem d_Mod_find_214 : decode M_Mod_find.2.1 214 = .ok (.iastore, 1) := by decide +kernel
theorem d_Mod_find_215 : decode M_Mod_find.2.1 215 = .ok (.goto (-201), 3) := by decide +kernel
theorem d_Mod_find_218 : decode M_Mod_find.2.1 218 = .ok (.iconst (-1), 1) := by decide +kernel
theorem d_Mod_find_219 : decode M_Mod_find.2.1 219 = .ok (.ireturn, 1) := by decide +kernel
theorem d_Mod_keep_0 : decode M_Mod_keep.2.1 0 = .ok (.iload_n 1, 1) := by decide +kernel
theorem d_Mod_keep_1 : decode M_Mod_keep.2.1 1 = .ok (.iconst 1, 1) := by decide +kernel
theorem d_Mod_keep_2 : decode M_Mod_keep.2.1 2 = .ok (.if_icmp .lt 37, 3) := by decide +kernel
theorem d_Mod_keep_5 : decode M_Mod_keep.2.1 5 = .ok (.iload_n 1, 1) := by decide +kernel
theorem d_Mod_keep_6 : decode M_Mod_keep.2.1 6 = .ok (.iconst 4, 1) := by decide +kernel
theorem d_Mod_keep_7 : decode M_Mod_keep.2.1 7 = .ok (.if_icmp .gt 32, 3) := by decide +kernel
theorem d_Mod_keep_10 : decode M_Mod_keep.2.1 10 = .ok (.aload_n 0, 1) := by decide +kernel
theorem d_Mod_keep_11 : decode M_Mod_keep.2.1 11 = .ok (.getfield 19, 3) := by decide +kernel
theorem d_Mod_keep_14 : decode M_Mod_keep.2.1 14 = .ok (.iload_n 1, 1) := by decide +kernel
theorem d_Mod_keep_15 : decode M_Mod_keep.2.1 15 = .ok (.iconst 1, 1) := by decide +kernel
theorem d_Mod_keep_16 : decode M_Mod_keep.2.1 16 = .ok (.isub, 1) := by decide +kernel
theorem d_Mod_keep_17 : decode M_Mod_keep.2.1 17 = .ok (.iaload, 1) := by decide +kernel
theorem d_Mod_keep_18 : decode M_Mod_keep.2.1 18 = .ok (.iconst 3, 1) := by decide +kernel
theorem d_Mod_keep_19 : decode M_Mod_keep.2.1 19 = .ok (.if_icmp .eq 20, 3) := by decide +kernel
theorem d_Mod_keep_22 : decode M_Mod_keep.2.1 22 = .ok (.aload_n 0, 1) := by decide +kernel
theorem d_Mod_keep_23 : decode M_Mod_keep.2.1 23 = .ok (.getfield 97, 3) := by decide +kernel
theorem d_Mod_keep_26 : decode M_Mod_keep.2.1 26 = .ok (.iconst 1, 1) := by decide +kernel
theorem d_Mod_keep_27 : decode M_Mod_keep.2.1 27 = .ok (.if_icmp .lt 12, 3) := by decide +kernel
theorem d_Mod_keep_30 : decode M_Mod_keep.2.1 30 = .ok (.aload_n 0, 1) := by decide +kernel
theorem d_Mod_keep_31 : decode M_Mod_keep.2.1 31 = .ok (.getfield 97, 3) := by decide +kernel
theorem d_Mod_keep_34 : decode M_Mod_keep.2.1 34 = .ok (.bipush 30, 2) := by decide +kernel
theorem d_Mod_keep_36 : decode M_Mod_keep.2.1 36 = .ok (.if_icmp .le 5, 3) := by decide +kernel
theorem d_Mod_keep_39 : decode M_Mod_keep.2.1 39 = .ok (.iconst (-1), 1) := by decide +kernel
theorem d_Mod_keep_40 : decode M_Mod_keep.2.1 40 = .ok (.ireturn, 1) := by decide +kernel
theorem d_Mod_keep_41 : decode M_Mod_keep.2.1 41 = .ok (.iload_n 1, 1) := by decide +kernel
theorem d_Mod_keep_42 : decode M_Mod_keep.2.1 42 = .ok (.iconst 1, 1) := by decide +kernel
theorem d_Mod_keep_43 : decode M_Mod_keep.2.1 43 = .ok (.isub, 1) := by decide +kernel
theorem d_Mod_keep_44 : decode M_Mod_keep.2.1 44 = .ok (.istore_n 2, 1) := by decide +kernel
theorem d_Mod_keep_45 : decode M_Mod_keep.2.1 45 = .ok (.iconst 3, 1) := by decide +kernel
theorem d_Mod_keep_46 : decode M_Mod_keep.2.1 46 = .ok (.iload_n 2, 1) := by decide +kernel
theorem d_Mod_keep_47 : decode M_Mod_keep.2.1 47 = .ok (.imul, 1) := by decide +kernel
theorem d_Mod_keep_48 : decode M_Mod_keep.2.1 48 = .ok (.aload_n 0, 1) := by decide +kernel
theorem d_Mod_keep_49 : decode M_Mod_keep.2.1 49 = .ok (.getfield 19, 3) := by decide +kernel
theorem d_Mod_keep_52 : decode M_Mod_keep.2.1 52 = .ok (.iload_n 2, 1) := by decide +kernel
theorem d_Mod_keep_53 : decode M_Mod_keep.2.1 53 = .ok (.iaload, 1) := by decide +kernel
theorem d_Mod_keep_54 : decode M_Mod_keep.2.1 54 = .ok (.iadd, 1) := by decide +kernel
theorem d_Mod_keep_55 : decode M_Mod_keep.2.1 55 = .ok (.istore_n 3, 1) := by decide +kernel
theorem d_Mod_keep_56 : decode M_Mod_keep.2.1 56 = .ok (.aload_n 0, 1) := by decide +kernel
theorem d_Mod_keep_57 : decode M_Mod_keep.2.1 57 = .ok (.getfield 22, 3) := by decide +kernel
theorem d_Mod_keep_60 : decode M_Mod_keep.2.1 60 = .ok (.iload_n 3, 1) := by decide +kernel
theorem d_Mod_keep_61 : decode M_Mod_keep.2.1 61 = .ok (.aload_n 0, 1) := by decide +kernel
theorem d_Mod_keep_62 : decode M_Mod_keep.2.1 62 = .ok (.getfield 97, 3) := by decide +kernel
theorem d_Mod_keep_65 : decode M_Mod_keep.2.1 65 = .ok (.iastore, 1) := by decide +kernel
theorem d_Mod_keep_66 : decode M_Mod_keep.2.1 66 = .ok (.iconst 0, 1) := by decide +kernel
theorem d_Mod_keep_67 : decode M_Mod_keep.2.1 67 = .ok (.istore 4, 2) := by decide +kernel
theorem d_Mod_keep_69 : decode M_Mod_keep.2.1 69 = .ok (.iload 4, 2) := by decide +kernel
theorem d_Mod_keep_71 : decode M_Mod_keep.2.1 71 = .ok (.aload_n 0, 1) := by decide +kernel
theorem d_Mod_keep_72 : decode M_Mod_keep.2.1 72 = .ok (.getfield 97, 3) := by decide +kernel
theorem d_Mod_keep_75 : decode M_Mod_keep.2.1 75 = .ok (.if_icmp .ge 28, 3) := by decide +kernel
theorem d_Mod_keep_78 : decode M_Mod_keep.2.1 78 = .ok (.aload_n 0, 1) := by decide +kernel
theorem d_Mod_keep_79 : decode M_Mod_keep.2.1 79 = .ok (.getfield 25, 3) := by decide +kernel
theorem d_Mod_keep_82 : decode M_Mod_keep.2.1 82 = .ok (.bipush 30, 2) := by decide +kernel
theorem d_Mod_keep_84 : decode M_Mod_keep.2.1 84 = .ok (.iload_n 3, 1) := by decide +kernel
theorem d_Mod_keep_85 : decode M_Mod_keep.2.1 85 = .ok (.imul, 1) := by decide +kernel
theorem d_Mod_keep_86 : decode M_Mod_keep.2.1 86 = .ok (.iload 4, 2) := by decide +kernel
theorem d_Mod_keep_88 : decode M_Mod_keep.2.1 88 = .ok (.iadd, 1) := by decide +kernel
theorem d_Mod_keep_89 : decode M_Mod_keep.2.1 89 = .ok (.aload_n 0, 1) := by decide +kernel
theorem d_Mod_keep_90 : decode M_Mod_keep.2.1 90 = .ok (.getfield 32, 3) := by decide +kernel
theorem d_Mod_keep_93 : decode M_Mod_keep.2.1 93 = .ok (.iload 4, 2) := by decide +kernel
theorem d_Mod_keep_95 : decode M_Mod_keep.2.1 95 = .ok (.iaload, 1) := by decide +kernel
theorem d_Mod_keep_96 : decode M_Mod_keep.2.1 96 = .ok (.iastore, 1) := by decide +kernel
theorem d_Mod_keep_97 : decode M_Mod_keep.2.1 97 = .ok (.iinc 4 1, 3) := by decide +kernel
theorem d_Mod_keep_100 : decode M_Mod_keep.2.1 100 = .ok (.goto (-31), 3) := by decide +kernel
theorem d_Mod_keep_103 : decode M_Mod_keep.2.1 103 = .ok (.aload_n 0, 1) := by decide +kernel
theorem d_Mod_keep_104 : decode M_Mod_keep.2.1 104 = .ok (.iconst 0, 1) := by decide +kernel
theorem d_Mod_keep_105 : decode M_Mod_keep.2.1 105 = .ok (.putfield 97, 3) := by decide +kernel
theorem d_Mod_keep_108 : decode M_Mod_keep.2.1 108 = .ok (.aload_n 0, 1) := by decide +kernel
theorem d_Mod_keep_109 : decode M_Mod_keep.2.1 109 = .ok (.getfield 19, 3) := by decide +kernel
theorem d_Mod_keep_112 : decode M_Mod_keep.2.1 112 = .ok (.iload_n 2, 1) := by decide +kernel
theorem d_Mod_keep_113 : decode M_Mod_keep.2.1 113 = .ok (.dup2, 1) := by decide +kernel
theorem d_Mod_keep_114 : decode M_Mod_keep.2.1 114 = .ok (.iaload, 1) := by decide +kernel
theorem d_Mod_keep_115 : decode M_Mod_keep.2.1 115 = .ok (.iconst 1, 1) := by decide +kernel
theorem d_Mod_keep_116 : decode M_Mod_keep.2.1 116 = .ok (.iadd, 1) := by decide +kernel
theorem d_Mod_keep_117 : decode M_Mod_keep.2.1 117 = .ok (.iastore, 1) := by decide +kernel
theorem d_Mod_keep_118 : decode M_Mod_keep.2.1 118 = .ok (.aload_n 0, 1) := by decide +kernel
theorem d_Mod_keep_119 : decode M_Mod_keep.2.1 119 = .ok (.getfield 19, 3) := by decide +kernel
theorem d_Mod_keep_122 : decode M_Mod_keep.2.1 122 = .ok (.iload_n 2, 1) := by decide +kernel
theorem d_Mod_keep_123 : decode M_Mod_keep.2.1 123 = .ok (.iaload, 1) := by decide +kernel
theorem d_Mod_keep_124 : decode M_Mod_keep.2.1 124 = .ok (.ireturn, 1) := by decide +kernel
theorem d_Mod_key_0 : decode M_Mod_key.2.1 0 = .ok (.iconst 0, 1) := by decide +kernel
theorem d_Mod_key_1 : decode M_Mod_key.2.1 1 = .ok (.istore 5, 2) := by decide +kernel
theorem d_Mod_key_3 : decode M_Mod_key.2.1 3 = .ok (.iload 5, 2) := by decide +kernel
theorem d_Mod_key_5 : decode M_Mod_key.2.1 5 = .ok (.bipush 8, 2) := by decide +kernel
theorem d_Mod_key_7 : decode M_Mod_key.2.1 7 = .ok (.if_icmp .ge 56, 3) := by decide +kernel
theorem d_Mod_key_10 : decode M_Mod_key.2.1 10 = .ok (.aload_n 0, 1) := by decide +kernel
theorem d_Mod_key_11 : decode M_Mod_key.2.1 11 = .ok (.getfield 7, 3) := by decide +kernel
theorem d_Mod_key_14 : decode M_Mod_key.2.1 14 = .ok (.iload 5, 2) := by decide +kernel
theorem d_Mod_key_16 : decode M_Mod_key.2.1 16 = .ok (.lload_n 1, 1) := by decide +kernel
theorem d_Mod_key_17 : decode M_Mod_key.2.1 17 = .ok (.bipush 56, 2) := by decide +kernel
theorem d_Mod_key_19 : decode M_Mod_key.2.1 19 = .ok (.bipush 8, 2) := by decide +kernel
theorem d_Mod_key_21 : decode M_Mod_key.2.1 21 = .ok (.iload 5, 2) := by decide +kernel
theorem d_Mod_key_23 : decode M_Mod_key.2.1 23 = .ok (.imul, 1) := by decide +kernel
theorem d_Mod_key_24 : decode M_Mod_key.2.1 24 = .ok (.isub, 1) := by decide +kernel
theorem d_Mod_key_25 : decode M_Mod_key.2.1 25 = .ok (.lshr, 1) := by decide +kernel
theorem d_Mod_key_26 : decode M_Mod_key.2.1 26 = .ok (.ldc2_w 92, 3) := by decide +kernel
theorem d_Mod_key_29 : decode M_Mod_key.2.1 29 = .ok (.land, 1) := by decide +kernel
theorem d_Mod_key_30 : decode M_Mod_key.2.1 30 = .ok (.l2i, 1) := by decide +kernel
theorem d_Mod_key_31 : decode M_Mod_key.2.1 31 = .ok (.iastore, 1) := by decide +kernel
theorem d_Mod_key_32 : decode M_Mod_key.2.1 32 = .ok (.aload_n 0, 1) := by decide +kernel
theorem d_Mod_key_33 : decode M_Mod_key.2.1 33 = .ok (.getfield 7, 3) := by decide +kernel
theorem d_Mod_key_36 : decode M_Mod_key.2.1 36 = .ok (.bipush 8, 2) := by decide +kernel
theorem d_Mod_key_38 : decode M_Mod_key.2.1 38 = .ok (.iload 5, 2) := by decide +kernel
theorem d_Mod_key_40 : decode M_Mod_key.2.1 40 = .ok (.iadd, 1) := by decide +kernel
theorem d_Mod_key_41 : decode M_Mod_key.2.1 41 = .ok (.lload_n 3, 1) := by decide +kernel
theorem d_Mod_key_42 : decode M_Mod_key.2.1 42 = .ok (.bipush 56, 2) := by decide +kernel
theorem d_Mod_key_44 : decode M_Mod_key.2.1 44 = .ok (.bipush 8, 2) := by decide +kernel
theorem d_Mod_key_46 : decode M_Mod_key.2.1 46 = .ok (.iload 5, 2) := by decide +kernel
theorem d_Mod_key_48 : decode M_Mod_key.2.1 48 = .ok (.imul, 1) := by decide +kernel
theorem d_Mod_key_49 : decode M_Mod_key.2.1 49 = .ok (.isub, 1) := by decide +kernel
theorem d_Mod_key_50 : decode M_Mod_key.2.1 50 = .ok (.lshr, 1) := by decide +kernel
theorem d_Mod_key_51 : decode M_Mod_key.2.1 51 = .ok (.ldc2_w 92, 3) := by decide +kernel
theorem d_Mod_key_54 : decode M_Mod_key.2.1 54 = .ok (.land, 1) := by decide +kernel
theorem d_Mod_key_55 : decode M_Mod_key.2.1 55 = .ok (.l2i, 1) := by decide +kernel
theorem d_Mod_key_56 : decode M_Mod_key.2.1 56 = .ok (.iastore, 1) := by decide +kernel
theorem d_Mod_key_57 : decode M_Mod_key.2.1 57 = .ok (.iinc 5 1, 3) := by decide +kernel
theorem d_Mod_key_60 : decode M_Mod_key.2.1 60 = .ok (.goto (-57), 3) := by decide +kernel
theorem d_Mod_key_63 : decode M_Mod_key.2.1 63 = .ok (.aload_n 0, 1) := by decide +kernel
theorem d_Mod_key_64 : decode M_Mod_key.2.1 64 = .ok (.invokevirtual 69, 3) := by decide +kernel
theorem d_Mod_key_67 : decode M_Mod_key.2.1 67 = .ok (.return_, 1) := by decide +kernel
theorem d_Mod_code_0 : decode M_Mod_code.2.1 0 = .ok (.iload_n 1, 1) := by decide +kernel
theorem d_Mod_code_1 : decode M_Mod_code.2.1 1 = .ok (.ifCond .lt 10, 3) := by decide +kernel
theorem d_Mod_code_4 : decode M_Mod_code.2.1 4 = .ok (.iload_n 1, 1) := by decide +kernel
theorem d_Mod_code_5 : decode M_Mod_code.2.1 5 = .ok (.sipush 9999, 3) := by decide +kernel
theorem d_Mod_code_8 : decode M_Mod_code.2.1 8 = .ok (.if_icmp .le 5, 3) := by decide +kernel
theorem d_Mod_code_11 : decode M_Mod_code.2.1 11 = .ok (.iconst 0, 1) := by decide +kernel
theorem d_Mod_code_12 : decode M_Mod_code.2.1 12 = .ok (.ireturn, 1) := by decide +kernel
theorem d_Mod_code_13 : decode M_Mod_code.2.1 13 = .ok (.aload_n 0, 1) := by decide +kernel
theorem d_Mod_code_14 : decode M_Mod_code.2.1 14 = .ok (.getfield 13, 3) := by decide +kernel
theorem d_Mod_code_17 : decode M_Mod_code.2.1 17 = .ok (.iconst 0, 1) := by decide +kernel
theorem d_Mod_code_18 : decode M_Mod_code.2.1 18 = .ok (.iload_n 1, 1) := by decide +kernel
theorem d_Mod_code_19 : decode M_Mod_code.2.1 19 = .ok (.sipush 1000, 3) := by decide +kernel
theorem d_Mod_code_22 : decode M_Mod_code.2.1 22 = .ok (.idiv, 1) := by decide +kernel
theorem d_Mod_code_23 : decode M_Mod_code.2.1 23 = .ok (.iastore, 1) := by decide +kernel
theorem d_Mod_code_24 : decode M_Mod_code.2.1 24 = .ok (.aload_n 0, 1) := by decide +kernel
theorem d_Mod_code_25 : decode M_Mod_code.2.1 25 = .ok (.getfield 13, 3) := by decide +kernel
theorem d_Mod_code_28 : decode M_Mod_code.2.1 28 = .ok (.iconst 1, 1) := by decide +kernel
theorem d_Mod_code_29 : decode M_Mod_code.2.1 29 = .ok (.iload_n 1, 1) := by decide +kernel
theorem d_Mod_code_30 : decode M_Mod_code.2.1 30 = .ok (.bipush 100, 2) := by decide +kernel
theorem d_Mod_code_32 : decode M_Mod_code.2.1 32 = .ok (.idiv, 1) := by decide +kernel
theorem d_Mod_code_33 : decode M_Mod_code.2.1 33 = .ok (.bipush 10, 2) := by decide +kernel
theorem d_Mod_code_35 : decode M_Mod_code.2.1 35 = .ok (.irem, 1) := by decide +kernel
theorem d_Mod_code_36 : decode M_Mod_code.2.1 36 = .ok (.iastore, 1) := by decide +kernel
theorem d_Mod_code_37 : decode M_Mod_code.2.1 37 = .ok (.aload_n 0, 1) := by decide +kernel
theorem d_Mod_code_38 : decode M_Mod_code.2.1 38 = .ok (.getfield 13, 3) := by decide +kernel
theorem d_Mod_code_41 : decode M_Mod_code.2.1 41 = .ok (.iconst 2, 1) := by decide +kernel
theorem d_Mod_code_42 : decode M_Mod_code.2.1 42 = .ok (.iload_n 1, 1) := by decide +kernel
theorem d_Mod_code_43 : decode M_Mod_code.2.1 43 = .ok (.bipush 10, 2) := by decide +kernel
theorem d_Mod_code_45 : decode M_Mod_code.2.1 45 = .ok (.idiv, 1) := by decide +kernel
theorem d_Mod_code_46 : decode M_Mod_code.2.1 46 = .ok (.bipush 10, 2) := by decide +kernel
theorem d_Mod_code_48 : decode M_Mod_code.2.1 48 = .ok (.irem, 1) := by decide +kernel
theorem d_Mod_code_49 : decode M_Mod_code.2.1 49 = .ok (.iastore, 1) := by decide +kernel
theorem d_Mod_code_50 : decode M_Mod_code.2.1 50 = .ok (.aload_n 0, 1) := by decide +kernel
theorem d_Mod_code_51 : decode M_Mod_code.2.1 51 = .ok (.getfield 13, 3) := by decide +kernel
theorem d_Mod_code_54 : decode M_Mod_code.2.1 54 = .ok (.iconst 3, 1) := by decide +kernel
theorem d_Mod_code_55 : decode M_Mod_code.2.1 55 = .ok (.iload_n 1, 1) := by decide +kernel
theorem d_Mod_code_56 : decode M_Mod_code.2.1 56 = .ok (.bipush 10, 2) := by decide +kernel
theorem d_Mod_code_58 : decode M_Mod_code.2.1 58 = .ok (.irem, 1) := by decide +kernel
theorem d_Mod_code_59 : decode M_Mod_code.2.1 59 = .ok (.iastore, 1) := by decide +kernel
theorem d_Mod_code_60 : decode M_Mod_code.2.1 60 = .ok (.aload_n 0, 1) := by decide +kernel
theorem d_Mod_code_61 : decode M_Mod_code.2.1 61 = .ok (.iconst 3, 1) := by decide +kernel
theorem d_Mod_code_62 : decode M_Mod_code.2.1 62 = .ok (.putfield 28, 3) := by decide +kernel
theorem d_Mod_code_65 : decode M_Mod_code.2.1 65 = .ok (.iconst 1, 1) := by decide +kernel
theorem d_Mod_code_66 : decode M_Mod_code.2.1 66 = .ok (.ireturn, 1) := by decide +kernel
theorem d_Mod_advance_0 : decode M_Mod_advance.2.1 0 = .ok (.iload_n 1, 1) := by decide +kernel
theorem d_Mod_advance_1 : decode M_Mod_advance.2.1 1 = .ok (.aload_n 0, 1) := by decide +kernel
theorem d_Mod_advance_2 : decode M_Mod_advance.2.1 2 = .ok (.getfield 112, 3) := by decide +kernel
theorem d_Mod_advance_5 : decode M_Mod_advance.2.1 5 = .ok (.if_icmp .lt 9, 3) := by decide +kernel
theorem d_Mod_advance_8 : decode M_Mod_advance.2.1 8 = .ok (.iload_n 1, 1) := by decide +kernel
theorem d_Mod_advance_9 : decode M_Mod_advance.2.1 9 = .ok (.ldc 115, 2) := by decide +kernel
theorem d_Mod_advance_11 : decode M_Mod_advance.2.1 11 = .ok (.if_icmp .le 5, 3) := by decide +kernel
theorem d_Mod_advance_14 : decode M_Mod_advance.2.1 14 = .ok (.iconst 0, 1) := by decide +kernel
theorem d_Mod_advance_15 : decode M_Mod_advance.2.1 15 = .ok (.ireturn, 1) := by decide +kernel
theorem d_Mod_advance_16 : decode M_Mod_advance.2.1 16 = .ok (.aload_n 0, 1) := by decide +kernel
theorem d_Mod_advance_17 : decode M_Mod_advance.2.1 17 = .ok (.iload_n 1, 1) := by decide +kernel
theorem d_Mod_advance_18 : decode M_Mod_advance.2.1 18 = .ok (.putfield 112, 3) := by decide +kernel
theorem d_Mod_advance_21 : decode M_Mod_advance.2.1 21 = .ok (.iconst 1, 1) := by decide +kernel
theorem d_Mod_advance_22 : decode M_Mod_advance.2.1 22 = .ok (.ireturn, 1) := by decide +kernel
theorem d_Mod_seal_0 : decode M_Mod_seal.2.1 0 = .ok (.iload_n 1, 1) := by decide +kernel
theorem d_Mod_seal_1 : decode M_Mod_seal.2.1 1 = .ok (.ifCond .lt 9, 3) := by decide +kernel
theorem d_Mod_seal_4 : decode M_Mod_seal.2.1 4 = .ok (.iload_n 1, 1) := by decide +kernel
theorem d_Mod_seal_5 : decode M_Mod_seal.2.1 5 = .ok (.bipush 15, 2) := by decide +kernel
theorem d_Mod_seal_7 : decode M_Mod_seal.2.1 7 = .ok (.if_icmp .le 5, 3) := by decide +kernel
theorem d_Mod_seal_10 : decode M_Mod_seal.2.1 10 = .ok (.iconst (-1), 1) := by decide +kernel
theorem d_Mod_seal_11 : decode M_Mod_seal.2.1 11 = .ok (.ireturn, 1) := by decide +kernel
theorem d_Mod_seal_12 : decode M_Mod_seal.2.1 12 = .ok (.iconst 0, 1) := by decide +kernel
theorem d_Mod_seal_13 : decode M_Mod_seal.2.1 13 = .ok (.istore_n 2, 1) := by decide +kernel
theorem d_Mod_seal_14 : decode M_Mod_seal.2.1 14 = .ok (.iload_n 2, 1) := by decide +kernel
theorem d_Mod_seal_15 : decode M_Mod_seal.2.1 15 = .ok (.aload_n 0, 1) := by decide +kernel
theorem d_Mod_seal_16 : decode M_Mod_seal.2.1 16 = .ok (.getfield 97, 3) := by decide +kernel
theorem d_Mod_seal_19 : decode M_Mod_seal.2.1 19 = .ok (.if_icmp .ge 21, 3) := by decide +kernel
theorem d_Mod_seal_22 : decode M_Mod_seal.2.1 22 = .ok (.aload_n 0, 1) := by decide +kernel
theorem d_Mod_seal_23 : decode M_Mod_seal.2.1 23 = .ok (.getfield 53, 3) := by decide +kernel
theorem d_Mod_seal_26 : decode M_Mod_seal.2.1 26 = .ok (.iload_n 2, 1) := by decide +kernel
theorem d_Mod_seal_27 : decode M_Mod_seal.2.1 27 = .ok (.aload_n 0, 1) := by decide +kernel
theorem d_Mod_seal_28 : decode M_Mod_seal.2.1 28 = .ok (.getfield 32, 3) := by decide +kernel
theorem d_Mod_seal_31 : decode M_Mod_seal.2.1 31 = .ok (.iload_n 2, 1) := by decide +kernel
theorem d_Mod_seal_32 : decode M_Mod_seal.2.1 32 = .ok (.iaload, 1) := by decide +kernel
theorem d_Mod_seal_33 : decode M_Mod_seal.2.1 33 = .ok (.iastore, 1) := by decide +kernel
theorem d_Mod_seal_34 : decode M_Mod_seal.2.1 34 = .ok (.iinc 2 1, 3) := by decide +kernel
theorem d_Mod_seal_37 : decode M_Mod_seal.2.1 37 = .ok (.goto (-23), 3) := by decide +kernel
theorem d_Mod_seal_40 : decode M_Mod_seal.2.1 40 = .ok (.aload_n 0, 1) := by decide +kernel
theorem d_Mod_seal_41 : decode M_Mod_seal.2.1 41 = .ok (.aload_n 0, 1) := by decide +kernel
theorem d_Mod_seal_42 : decode M_Mod_seal.2.1 42 = .ok (.getfield 97, 3) := by decide +kernel
theorem d_Mod_seal_45 : decode M_Mod_seal.2.1 45 = .ok (.invokevirtual 94, 3) := by decide +kernel
theorem d_Mod_seal_48 : decode M_Mod_seal.2.1 48 = .ok (.aload_n 0, 1) := by decide +kernel
theorem d_Mod_seal_49 : decode M_Mod_seal.2.1 49 = .ok (.getfield 56, 3) := by decide +kernel
theorem d_Mod_seal_52 : decode M_Mod_seal.2.1 52 = .ok (.iload_n 1, 1) := by decide +kernel
theorem d_Mod_seal_53 : decode M_Mod_seal.2.1 53 = .ok (.iaload, 1) := by decide +kernel
theorem d_Mod_seal_54 : decode M_Mod_seal.2.1 54 = .ok (.ireturn, 1) := by decide +kernel
theorem d_Mod_genuine_0 : decode M_Mod_genuine.2.1 0 = .ok (.aload_n 0, 1) := by decide +kernel
theorem d_Mod_genuine_1 : decode M_Mod_genuine.2.1 1 = .ok (.ldc 188, 2) := by decide +kernel
theorem d_Mod_genuine_3 : decode M_Mod_genuine.2.1 3 = .ok (.iconst 1, 1) := by decide +kernel
theorem d_Mod_genuine_4 : decode M_Mod_genuine.2.1 4 = .ok (.invokevirtual 189, 3) := by decide +kernel
theorem d_Mod_genuine_7 : decode M_Mod_genuine.2.1 7 = .ok (.istore 5, 2) := by decide +kernel
theorem d_Mod_genuine_9 : decode M_Mod_genuine.2.1 9 = .ok (.aload_n 0, 1) := by decide +kernel
theorem d_Mod_genuine_10 : decode M_Mod_genuine.2.1 10 = .ok (.ldc 192, 2) := by decide +kernel
theorem d_Mod_genuine_12 : decode M_Mod_genuine.2.1 12 = .ok (.iconst 2, 1) := by decide +kernel
theorem d_Mod_genuine_13 : decode M_Mod_genuine.2.1 13 = .ok (.invokevirtual 189, 3) := by decide +kernel
theorem d_Mod_genuine_16 : decode M_Mod_genuine.2.1 16 = .ok (.istore 6, 2) := by decide +kernel
theorem d_Mod_genuine_18 : decode M_Mod_genuine.2.1 18 = .ok (.aload_n 0, 1) := by decide +kernel
theorem d_Mod_genuine_19 : decode M_Mod_genuine.2.1 19 = .ok (.ldc 193, 2) := by decide +kernel
theorem d_Mod_genuine_21 : decode M_Mod_genuine.2.1 21 = .ok (.bipush 8, 2) := by decide +kernel
theorem d_Mod_genuine_23 : decode M_Mod_genuine.2.1 23 = .ok (.invokevirtual 189, 3) := by decide +kernel
theorem d_Mod_genuine_26 : decode M_Mod_genuine.2.1 26 = .ok (.istore 7, 2) := by decide +kernel
theorem d_Mod_genuine_28 : decode M_Mod_genuine.2.1 28 = .ok (.lload_n 1, 1) := by decide +kernel
theorem d_Mod_genuine_29 : decode M_Mod_genuine.2.1 29 = .ok (.invokestatic 194, 3) := by decide +kernel
theorem d_Mod_genuine_32 : decode M_Mod_genuine.2.1 32 = .ok (.ifCond .eq 36, 3) := by decide +kernel
theorem d_Mod_genuine_35 : decode M_Mod_genuine.2.1 35 = .ok (.aload_n 0, 1) := by decide +kernel
theorem d_Mod_genuine_36 : decode M_Mod_genuine.2.1 36 = .ok (.getfield 100, 3) := by decide +kernel
theorem d_Mod_genuine_39 : decode M_Mod_genuine.2.1 39 = .ok (.ifCond .eq 29, 3) := by decide +kernel
theorem d_Mod_genuine_42 : decode M_Mod_genuine.2.1 42 = .ok (.aload_n 0, 1) := by decide +kernel
theorem d_Mod_genuine_43 : decode M_Mod_genuine.2.1 43 = .ok (.getfield 35, 3) := by decide +kernel
theorem d_Mod_genuine_46 : decode M_Mod_genuine.2.1 46 = .ok (.iconst 0, 1) := by decide +kernel
theorem d_Mod_genuine_47 : decode M_Mod_genuine.2.1 47 = .ok (.iaload, 1) := by decide +kernel
theorem d_Mod_genuine_48 : decode M_Mod_genuine.2.1 48 = .ok (.bipush 119, 2) := by decide +kernel
theorem d_Mod_genuine_50 : decode M_Mod_genuine.2.1 50 = .ok (.if_icmp .ne 18, 3) := by decide +kernel
theorem d_Mod_genuine_53 : decode M_Mod_genuine.2.1 53 = .ok (.iload 5, 2) := by decide +kernel
theorem d_Mod_genuine_55 : decode M_Mod_genuine.2.1 55 = .ok (.ifCond .lt 13, 3) := by decide +kernel
theorem d_Mod_genuine_58 : decode M_Mod_genuine.2.1 58 = .ok (.iload 6, 2) := by decide +kernel
theorem d_Mod_genuine_60 : decode M_Mod_genuine.2.1 60 = .ok (.ifCond .lt 8, 3) := by decide +kernel
theorem d_Mod_genuine_63 : decode M_Mod_genuine.2.1 63 = .ok (.iload 7, 2) := by decide +kernel
theorem d_Mod_genuine_65 : decode M_Mod_genuine.2.1 65 = .ok (.ifCond .ge 5, 3) := by decide +kernel
theorem d_Mod_genuine_68 : decode M_Mod_genuine.2.1 68 = .ok (.iconst 0, 1) := by decide +kernel
theorem d_Mod_genuine_69 : decode M_Mod_genuine.2.1 69 = .ok (.ireturn, 1) := by decide +kernel
theorem d_Mod_genuine_70 : decode M_Mod_genuine.2.1 70 = .ok (.aload_n 0, 1) := by decide +kernel
theorem d_Mod_genuine_71 : decode M_Mod_genuine.2.1 71 = .ok (.lload_n 1, 1) := by decide +kernel
theorem d_Mod_genuine_72 : decode M_Mod_genuine.2.1 72 = .ok (.iload_n 3, 1) := by decide +kernel
theorem d_Mod_genuine_73 : decode M_Mod_genuine.2.1 73 = .ok (.sipush 256, 3) := by decide +kernel
theorem d_Mod_genuine_76 : decode M_Mod_genuine.2.1 76 = .ok (.aload_n 0, 1) := by decide +kernel
theorem d_Mod_genuine_77 : decode M_Mod_genuine.2.1 77 = .ok (.getfield 35, 3) := by decide +kernel
theorem d_Mod_genuine_80 : decode M_Mod_genuine.2.1 80 = .ok (.iload 6, 2) := by decide +kernel
theorem d_Mod_genuine_82 : decode M_Mod_genuine.2.1 82 = .ok (.iaload, 1) := by decide +kernel
theorem d_Mod_genuine_83 : decode M_Mod_genuine.2.1 83 = .ok (.imul, 1) := by decide +kernel
theorem d_Mod_genuine_84 : decode M_Mod_genuine.2.1 84 = .ok (.aload_n 0, 1) := by decide +kernel
theorem d_Mod_genuine_85 : decode M_Mod_genuine.2.1 85 = .ok (.getfield 35, 3) := by decide +kernel
theorem d_Mod_genuine_88 : decode M_Mod_genuine.2.1 88 = .ok (.iload 6, 2) := by decide +kernel
theorem d_Mod_genuine_90 : decode M_Mod_genuine.2.1 90 = .ok (.iconst 1, 1) := by decide +kernel
theorem d_Mod_genuine_91 : decode M_Mod_genuine.2.1 91 = .ok (.iadd, 1) := by decide +kernel
theorem d_Mod_genuine_92 : decode M_Mod_genuine.2.1 92 = .ok (.iaload, 1) := by decide +kernel
theorem d_Mod_genuine_93 : decode M_Mod_genuine.2.1 93 = .ok (.iadd, 1) := by decide +kernel
theorem d_Mod_genuine_94 : decode M_Mod_genuine.2.1 94 = .ok (.aload_n 0, 1) := by decide +kernel
theorem d_Mod_genuine_95 : decode M_Mod_genuine.2.1 95 = .ok (.getfield 35, 3) := by decide +kernel
theorem d_Mod_genuine_98 : decode M_Mod_genuine.2.1 98 = .ok (.iload 5, 2) := by decide +kernel
theorem d_Mod_genuine_100 : decode M_Mod_genuine.2.1 100 = .ok (.iaload, 1) := by decide +kernel
theorem d_Mod_genuine_101 : decode M_Mod_genuine.2.1 101 = .ok (.iload 4, 2) := by decide +kernel
theorem d_Mod_genuine_103 : decode M_Mod_genuine.2.1 103 = .ok (.invokevirtual 179, 3) := by decide +kernel
theorem d_Mod_genuine_106 : decode M_Mod_genuine.2.1 106 = .ok (.iconst 1, 1) := by decide +kernel
theorem d_Mod_genuine_107 : decode M_Mod_genuine.2.1 107 = .ok (.istore 8, 2) := by decide +kernel
theorem d_Mod_genuine_109 : decode M_Mod_genuine.2.1 109 = .ok (.iconst 0, 1) := by decide +kernel
theorem d_Mod_genuine_110 : decode M_Mod_genuine.2.1 110 = .ok (.istore 9, 2) := by decide +kernel
theorem d_Mod_genuine_112 : decode M_Mod_genuine.2.1 112 = .ok (.iload 9, 2) := by decide +kernel
theorem d_Mod_genuine_114 : decode M_Mod_genuine.2.1 114 = .ok (.bipush 8, 2) := by decide +kernel
theorem d_Mod_genuine_116 : decode M_Mod_genuine.2.1 116 = .ok (.if_icmp .ge 41, 3) := by decide +kernel
theorem d_Mod_genuine_119 : decode M_Mod_genuine.2.1 119 = .ok (.iload 8, 2) := by decide +kernel
theorem d_Mod_genuine_121 : decode M_Mod_genuine.2.1 121 = .ok (.ifCond .eq 27, 3) := by decide +kernel
theorem d_Mod_genuine_124 : decode M_Mod_genuine.2.1 124 = .ok (.aload_n 0, 1) := by decide +kernel
theorem d_Mod_genuine_125 : decode M_Mod_genuine.2.1 125 = .ok (.getfield 35, 3) := by decide +kernel
theorem d_Mod_genuine_128 : decode M_Mod_genuine.2.1 128 = .ok (.iload 7, 2) := by decide +kernel
theorem d_Mod_genuine_130 : decode M_Mod_genuine.2.1 130 = .ok (.iload 9, 2) := by decide +kernel
theorem d_Mod_genuine_132 : decode M_Mod_genuine.2.1 132 = .ok (.iadd, 1) := by decide +kernel
theorem d_Mod_genuine_133 : decode M_Mod_genuine.2.1 133 = .ok (.iaload, 1) := by decide +kernel
theorem d_Mod_genuine_134 : decode M_Mod_genuine.2.1 134 = .ok (.aload_n 0, 1) := by decide +kernel
theorem d_Mod_genuine_135 : decode M_Mod_genuine.2.1 135 = .ok (.getfield 56, 3) := by decide +kernel
theorem d_Mod_genuine_138 : decode M_Mod_genuine.2.1 138 = .ok (.iload 9, 2) := by decide +kernel
theorem d_Mod_genuine_140 : decode M_Mod_genuine.2.1 140 = .ok (.iaload, 1) := by decide +kernel
theorem d_Mod_genuine_141 : decode M_Mod_genuine.2.1 141 = .ok (.if_icmp .ne 7, 3) := by decide +kernel
theorem d_Mod_genuine_144 : decode M_Mod_genuine.2.1 144 = .ok (.iconst 1, 1) := by decide +kernel
theorem d_Mod_genuine_145 : decode M_Mod_genuine.2.1 145 = .ok (.goto 4, 3) := by decide +kernel
theorem d_Mod_genuine_148 : decode M_Mod_genuine.2.1 148 = .ok (.iconst 0, 1) := by decide +kernel
theorem d_Mod_genuine_149 : decode M_Mod_genuine.2.1 149 = .ok (.istore 8, 2) := by decide +kernel
theorem d_Mod_genuine_151 : decode M_Mod_genuine.2.1 151 = .ok (.iinc 9 1, 3) := by decide +kernel
theorem d_Mod_genuine_154 : decode M_Mod_genuine.2.1 154 = .ok (.goto (-42), 3) := by decide +kernel
theorem d_Mod_genuine_157 : decode M_Mod_genuine.2.1 157 = .ok (.iload 8, 2) := by decide +kernel
theorem d_Mod_genuine_159 : decode M_Mod_genuine.2.1 159 = .ok (.ireturn, 1) := by decide +kernel
theorem d_Mod_bytesOf_0 : decode M_Mod_bytesOf.2.1 0 = .ok (.aload_n 0, 1) := by decide +kernel
theorem d_Mod_bytesOf_1 : decode M_Mod_bytesOf.2.1 1 = .ok (.iload_n 1, 1) := by decide +kernel
theorem d_Mod_bytesOf_2 : decode M_Mod_bytesOf.2.1 2 = .ok (.invokevirtual 185, 3) := by decide +kernel
theorem d_Mod_bytesOf_5 : decode M_Mod_bytesOf.2.1 5 = .ok (.istore_n 3, 1) := by decide +kernel
theorem d_Mod_bytesOf_6 : decode M_Mod_bytesOf.2.1 6 = .ok (.iload_n 3, 1) := by decide +kernel
theorem d_Mod_bytesOf_7 : decode M_Mod_bytesOf.2.1 7 = .ok (.ifCond .lt 19, 3) := by decide +kernel
theorem d_Mod_bytesOf_10 : decode M_Mod_bytesOf.2.1 10 = .ok (.aload_n 0, 1) := by decide +kernel
theorem d_Mod_bytesOf_11 : decode M_Mod_bytesOf.2.1 11 = .ok (.getfield 35, 3) := by decide +kernel
theorem d_Mod_bytesOf_14 : decode M_Mod_bytesOf.2.1 14 = .ok (.iload_n 3, 1) := by decide +kernel
theorem d_Mod_bytesOf_15 : decode M_Mod_bytesOf.2.1 15 = .ok (.iconst 1, 1) := by decide +kernel
theorem d_Mod_bytesOf_16 : decode M_Mod_bytesOf.2.1 16 = .ok (.isub, 1) := by decide +kernel
theorem d_Mod_bytesOf_17 : decode M_Mod_bytesOf.2.1 17 = .ok (.iaload, 1) := by decide +kernel
theorem d_Mod_bytesOf_18 : decode M_Mod_bytesOf.2.1 18 = .ok (.iload_n 2, 1) := by decide +kernel
theorem d_Mod_bytesOf_19 : decode M_Mod_bytesOf.2.1 19 = .ok (.if_icmp .ne 7, 3) := by decide +kernel
theorem d_Mod_bytesOf_22 : decode M_Mod_bytesOf.2.1 22 = .ok (.iload_n 3, 1) := by decide +kernel
theorem d_Mod_bytesOf_23 : decode M_Mod_bytesOf.2.1 23 = .ok (.goto 4, 3) := by decide +kernel
theorem d_Mod_bytesOf_26 : decode M_Mod_bytesOf.2.1 26 = .ok (.iconst (-1), 1) := by decide +kernel
theorem d_Mod_bytesOf_27 : decode M_Mod_bytesOf.2.1 27 = .ok (.ireturn, 1) := by decide +kernel
theorem d_Mod_isAmount_0 : decode M_Mod_isAmount.2.1 0 = .ok (.lload_n 0, 1) := by decide +kernel
theorem d_Mod_isAmount_1 : decode M_Mod_isAmount.2.1 1 = .ok (.lconst 0, 1) := by decide +kernel
theorem d_Mod_isAmount_2 : decode M_Mod_isAmount.2.1 2 = .ok (.lcmp, 1) := by decide +kernel
theorem d_Mod_isAmount_3 : decode M_Mod_isAmount.2.1 3 = .ok (.ifCond .lt 15, 3) := by decide +kernel
theorem d_Mod_isAmount_6 : decode M_Mod_isAmount.2.1 6 = .ok (.lload_n 0, 1) := by decide +kernel
theorem d_Mod_isAmount_7 : decode M_Mod_isAmount.2.1 7 = .ok (.ldc2_w 183, 3) := by decide +kernel
theorem d_Mod_isAmount_10 : decode M_Mod_isAmount.2.1 10 = .ok (.lcmp, 1) := by decide +kernel
theorem d_Mod_isAmount_11 : decode M_Mod_isAmount.2.1 11 = .ok (.ifCond .gt 7, 3) := by decide +kernel
theorem d_Mod_isAmount_14 : decode M_Mod_isAmount.2.1 14 = .ok (.iconst 1, 1) := by decide +kernel
theorem d_Mod_isAmount_15 : decode M_Mod_isAmount.2.1 15 = .ok (.goto 4, 3) := by decide +kernel
theorem d_Mod_isAmount_18 : decode M_Mod_isAmount.2.1 18 = .ok (.iconst 0, 1) := by decide +kernel
theorem d_Mod_isAmount_19 : decode M_Mod_isAmount.2.1 19 = .ok (.ireturn, 1) := by decide +kernel
theorem d_Mod_pay_0 : decode M_Mod_pay.2.1 0 = .ok (.lload_n 1, 1) := by decide +kernel
theorem d_Mod_pay_1 : decode M_Mod_pay.2.1 1 = .ok (.invokestatic 194, 3) := by decide +kernel
theorem d_Mod_pay_4 : decode M_Mod_pay.2.1 4 = .ok (.ifCond .eq 18, 3) := by decide +kernel
theorem d_Mod_pay_7 : decode M_Mod_pay.2.1 7 = .ok (.lload_n 3, 1) := by decide +kernel
theorem d_Mod_pay_8 : decode M_Mod_pay.2.1 8 = .ok (.invokestatic 194, 3) := by decide +kernel
theorem d_Mod_pay_11 : decode M_Mod_pay.2.1 11 = .ok (.ifCond .eq 11, 3) := by decide +kernel
theorem d_Mod_pay_14 : decode M_Mod_pay.2.1 14 = .ok (.iload 6, 2) := by decide +kernel
theorem d_Mod_pay_16 : decode M_Mod_pay.2.1 16 = .ok (.sipush 9999, 3) := by decide +kernel
theorem d_Mod_pay_19 : decode M_Mod_pay.2.1 19 = .ok (.if_icmp .le 5, 3) := by decide +kernel
theorem d_Mod_pay_22 : decode M_Mod_pay.2.1 22 = .ok (.iconst (-1), 1) := by decide +kernel
theorem d_Mod_pay_23 : decode M_Mod_pay.2.1 23 = .ok (.ireturn, 1) := by decide +kernel
theorem d_Mod_pay_24 : decode M_Mod_pay.2.1 24 = .ok (.aload_n 0, 1) := by decide +kernel
theorem d_Mod_pay_25 : decode M_Mod_pay.2.1 25 = .ok (.invokevirtual 212, 3) := by decide +kernel
theorem d_Mod_pay_28 : decode M_Mod_pay.2.1 28 = .ok (.istore 8, 2) := by decide +kernel
theorem d_Mod_pay_30 : decode M_Mod_pay.2.1 30 = .ok (.iload 8, 2) := by decide +kernel
theorem d_Mod_pay_32 : decode M_Mod_pay.2.1 32 = .ok (.ldc 155, 2) := by decide +kernel
theorem d_Mod_pay_34 : decode M_Mod_pay.2.1 34 = .ok (.if_icmp .ne 11, 3) := by decide +kernel
theorem d_Mod_pay_37 : decode M_Mod_pay.2.1 37 = .ok (.aload_n 0, 1) := by decide +kernel
theorem d_Mod_pay_38 : decode M_Mod_pay.2.1 38 = .ok (.lload_n 3, 1) := by decide +kernel
theorem d_Mod_pay_39 : decode M_Mod_pay.2.1 39 = .ok (.invokevirtual 215, 3) := by decide +kernel
theorem d_Mod_pay_42 : decode M_Mod_pay.2.1 42 = .ok (.goto 5, 3) := by decide +kernel
theorem d_Mod_pay_45 : decode M_Mod_pay.2.1 45 = .ok (.iload 8, 2) := by decide +kernel
theorem d_Mod_pay_47 : decode M_Mod_pay.2.1 47 = .ok (.istore 8, 2) := by decide +kernel
theorem d_Mod_pay_49 : decode M_Mod_pay.2.1 49 = .ok (.iload 8, 2) := by decide +kernel
theorem d_Mod_pay_51 : decode M_Mod_pay.2.1 51 = .ok (.ldc 155, 2) := by decide +kernel
theorem d_Mod_pay_53 : decode M_Mod_pay.2.1 53 = .ok (.if_icmp .ne 10, 3) := by decide +kernel
theorem d_Mod_pay_56 : decode M_Mod_pay.2.1 56 = .ok (.aload_n 0, 1) := by decide +kernel
theorem d_Mod_pay_57 : decode M_Mod_pay.2.1 57 = .ok (.invokevirtual 219, 3) := by decide +kernel
theorem d_Mod_pay_60 : decode M_Mod_pay.2.1 60 = .ok (.goto 5, 3) := by decide +kernel
theorem d_Mod_pay_63 : decode M_Mod_pay.2.1 63 = .ok (.iload 8, 2) := by decide +kernel
theorem d_Mod_pay_65 : decode M_Mod_pay.2.1 65 = .ok (.istore 8, 2) := by decide +kernel
theorem d_Mod_pay_67 : decode M_Mod_pay.2.1 67 = .ok (.iconst 0, 1) := by decide +kernel
theorem d_Mod_pay_68 : decode M_Mod_pay.2.1 68 = .ok (.istore 9, 2) := by decide +kernel
theorem d_Mod_pay_70 : decode M_Mod_pay.2.1 70 = .ok (.iload 8, 2) := by decide +kernel
theorem d_Mod_pay_72 : decode M_Mod_pay.2.1 72 = .ok (.ldc 155, 2) := by decide +kernel
theorem d_Mod_pay_74 : decode M_Mod_pay.2.1 74 = .ok (.if_icmp .ne 50, 3) := by decide +kernel
theorem d_Mod_pay_77 : decode M_Mod_pay.2.1 77 = .ok (.iload 6, 2) := by decide +kernel
theorem d_Mod_pay_79 : decode M_Mod_pay.2.1 79 = .ok (.ifCond .lt 45, 3) := by decide +kernel
theorem d_Mod_pay_82 : decode M_Mod_pay.2.1 82 = .ok (.aload_n 0, 1) := by decide +kernel
theorem d_Mod_pay_83 : decode M_Mod_pay.2.1 83 = .ok (.iload 6, 2) := by decide +kernel
theorem d_Mod_pay_85 : decode M_Mod_pay.2.1 85 = .ok (.invokevirtual 222, 3) := by decide +kernel
theorem d_Mod_pay_88 : decode M_Mod_pay.2.1 88 = .ok (.istore 8, 2) := by decide +kernel
theorem d_Mod_pay_90 : decode M_Mod_pay.2.1 90 = .ok (.iload 8, 2) := by decide +kernel
theorem d_Mod_pay_92 : decode M_Mod_pay.2.1 92 = .ok (.ldc 155, 2) := by decide +kernel
theorem d_Mod_pay_94 : decode M_Mod_pay.2.1 94 = .ok (.if_icmp .ne 7, 3) := by decide +kernel
theorem d_Mod_pay_97 : decode M_Mod_pay.2.1 97 = .ok (.iconst 1, 1) := by decide +kernel
theorem d_Mod_pay_98 : decode M_Mod_pay.2.1 98 = .ok (.goto 4, 3) := by decide +kernel
theorem d_Mod_pay_101 : decode M_Mod_pay.2.1 101 = .ok (.iconst 0, 1) := by decide +kernel
theorem d_Mod_pay_102 : decode M_Mod_pay.2.1 102 = .ok (.istore 9, 2) := by decide +kernel
theorem d_Mod_pay_104 : decode M_Mod_pay.2.1 104 = .ok (.iload 8, 2) := by decide +kernel
theorem d_Mod_pay_106 : decode M_Mod_pay.2.1 106 = .ok (.bipush 16, 2) := by decide +kernel
theorem d_Mod_pay_108 : decode M_Mod_pay.2.1 108 = .ok (.idiv, 1) := by decide +kernel
theorem d_Mod_pay_109 : decode M_Mod_pay.2.1 109 = .ok (.sipush 1596, 3) := by decide +kernel
theorem d_Mod_pay_112 : decode M_Mod_pay.2.1 112 = .ok (.if_icmp .ne 8, 3) := by decide +kernel
theorem d_Mod_pay_115 : decode M_Mod_pay.2.1 115 = .ok (.ldc 155, 2) := by decide +kernel
theorem d_Mod_pay_117 : decode M_Mod_pay.2.1 117 = .ok (.goto 5, 3) := by decide +kernel
theorem d_Mod_pay_120 : decode M_Mod_pay.2.1 120 = .ok (.iload 8, 2) := by decide +kernel
theorem d_Mod_pay_122 : decode M_Mod_pay.2.1 122 = .ok (.istore 8, 2) := by decide +kernel
theorem d_Mod_pay_124 : decode M_Mod_pay.2.1 124 = .ok (.iload 8, 2) := by decide +kernel
theorem d_Mod_pay_126 : decode M_Mod_pay.2.1 126 = .ok (.ldc 155, 2) := by decide +kernel
theorem d_Mod_pay_128 : decode M_Mod_pay.2.1 128 = .ok (.if_icmp .ne 27, 3) := by decide +kernel
theorem d_Mod_pay_131 : decode M_Mod_pay.2.1 131 = .ok (.aload_n 0, 1) := by decide +kernel
theorem d_Mod_pay_132 : decode M_Mod_pay.2.1 132 = .ok (.iload 7, 2) := by decide +kernel
theorem d_Mod_pay_134 : decode M_Mod_pay.2.1 134 = .ok (.ifCond .eq 9, 3) := by decide +kernel
theorem d_Mod_pay_137 : decode M_Mod_pay.2.1 137 = .ok (.sipush 128, 3) := by decide +kernel
theorem d_Mod_pay_140 : decode M_Mod_pay.2.1 140 = .ok (.goto 5, 3) := by decide +kernel
theorem d_Mod_pay_143 : decode M_Mod_pay.2.1 143 = .ok (.bipush 64, 2) := by decide +kernel
theorem d_Mod_pay_145 : decode M_Mod_pay.2.1 145 = .ok (.lload_n 3, 1) := by decide +kernel
theorem d_Mod_pay_146 : decode M_Mod_pay.2.1 146 = .ok (.iload 5, 2) := by decide +kernel
theorem d_Mod_pay_148 : decode M_Mod_pay.2.1 148 = .ok (.iconst 0, 1) := by decide +kernel
theorem d_Mod_pay_149 : decode M_Mod_pay.2.1 149 = .ok (.invokevirtual 225, 3) := by decide +kernel
theorem d_Mod_pay_152 : decode M_Mod_pay.2.1 152 = .ok (.goto 5, 3) := by decide +kernel
theorem d_Mod_pay_155 : decode M_Mod_pay.2.1 155 = .ok (.iload 8, 2) := by decide +kernel
theorem d_Mod_pay_157 : decode M_Mod_pay.2.1 157 = .ok (.istore 8, 2) := by decide +kernel
theorem d_Mod_pay_159 : decode M_Mod_pay.2.1 159 = .ok (.iload 8, 2) := by decide +kernel
theorem d_Mod_pay_161 : decode M_Mod_pay.2.1 161 = .ok (.ldc 155, 2) := by decide +kernel
theorem d_Mod_pay_163 : decode M_Mod_pay.2.1 163 = .ok (.if_icmp .eq 7, 3) := by decide +kernel
theorem d_Mod_pay_166 : decode M_Mod_pay.2.1 166 = .ok (.iload 8, 2) := by decide +kernel
theorem d_Mod_pay_168 : decode M_Mod_pay.2.1 168 = .ok (.ineg, 1) := by decide +kernel
theorem d_Mod_pay_169 : decode M_Mod_pay.2.1 169 = .ok (.ireturn, 1) := by decide +kernel
theorem d_Mod_pay_170 : decode M_Mod_pay.2.1 170 = .ok (.aload_n 0, 1) := by decide +kernel
theorem d_Mod_pay_171 : decode M_Mod_pay.2.1 171 = .ok (.invokevirtual 229, 3) := by decide +kernel
theorem d_Mod_pay_174 : decode M_Mod_pay.2.1 174 = .ok (.istore 10, 2) := by decide +kernel
theorem d_Mod_pay_176 : decode M_Mod_pay.2.1 176 = .ok (.iload 10, 2) := by decide +kernel
theorem d_Mod_pay_178 : decode M_Mod_pay.2.1 178 = .ok (.sipush 128, 3) := by decide +kernel
theorem d_Mod_pay_181 : decode M_Mod_pay.2.1 181 = .ok (.if_icmp .eq 16, 3) := by decide +kernel
theorem d_Mod_pay_184 : decode M_Mod_pay.2.1 184 = .ok (.iload 10, 2) := by decide +kernel
theorem d_Mod_pay_186 : decode M_Mod_pay.2.1 186 = .ok (.bipush 64, 2) := by decide +kernel
theorem d_Mod_pay_188 : decode M_Mod_pay.2.1 188 = .ok (.if_icmp .ne 7, 3) := by decide +kernel
theorem d_Mod_pay_191 : decode M_Mod_pay.2.1 191 = .ok (.iconst 1, 1) := by decide +kernel
theorem d_Mod_pay_192 : decode M_Mod_pay.2.1 192 = .ok (.goto 4, 3) := by decide +kernel
theorem d_Mod_pay_195 : decode M_Mod_pay.2.1 195 = .ok (.iconst 0, 1) := by decide +kernel
theorem d_Mod_pay_196 : decode M_Mod_pay.2.1 196 = .ok (.ireturn, 1) := by decide +kernel
theorem d_Mod_pay_197 : decode M_Mod_pay.2.1 197 = .ok (.aload_n 0, 1) := by decide +kernel
theorem d_Mod_pay_198 : decode M_Mod_pay.2.1 198 = .ok (.lload_n 1, 1) := by decide +kernel
theorem d_Mod_pay_199 : decode M_Mod_pay.2.1 199 = .ok (.iload 5, 2) := by decide +kernel
theorem d_Mod_pay_201 : decode M_Mod_pay.2.1 201 = .ok (.iload 9, 2) := by decide +kernel
theorem d_Mod_pay_203 : decode M_Mod_pay.2.1 203 = .ok (.invokevirtual 232, 3) := by decide +kernel
theorem d_Mod_pay_206 : decode M_Mod_pay.2.1 206 = .ok (.istore 11, 2) := by decide +kernel
theorem d_Mod_pay_208 : decode M_Mod_pay.2.1 208 = .ok (.aload_n 0, 1) := by decide +kernel
theorem d_Mod_pay_209 : decode M_Mod_pay.2.1 209 = .ok (.iload 11, 2) := by decide +kernel
theorem d_Mod_pay_211 : decode M_Mod_pay.2.1 211 = .ok (.ifCond .eq 8, 3) := by decide +kernel
theorem d_Mod_pay_214 : decode M_Mod_pay.2.1 214 = .ok (.bipush 64, 2) := by decide +kernel
theorem d_Mod_pay_216 : decode M_Mod_pay.2.1 216 = .ok (.goto 4, 3) := by decide +kernel
theorem d_Mod_pay_219 : decode M_Mod_pay.2.1 219 = .ok (.iconst 0, 1) := by decide +kernel
theorem d_Mod_pay_220 : decode M_Mod_pay.2.1 220 = .ok (.lload_n 3, 1) := by decide +kernel
theorem d_Mod_pay_221 : decode M_Mod_pay.2.1 221 = .ok (.iload 5, 2) := by decide +kernel
theorem d_Mod_pay_223 : decode M_Mod_pay.2.1 223 = .ok (.iload 11, 2) := by decide +kernel
theorem d_Mod_pay_225 : decode M_Mod_pay.2.1 225 = .ok (.ifCond .eq 9, 3) := by decide +kernel
theorem d_Mod_pay_228 : decode M_Mod_pay.2.1 228 = .ok (.sipush 12336, 3) := by decide +kernel
theorem d_Mod_pay_231 : decode M_Mod_pay.2.1 231 = .ok (.goto 6, 3) := by decide +kernel
theorem d_Mod_pay_234 : decode M_Mod_pay.2.1 234 = .ok (.sipush 12341, 3) := by decide +kernel
theorem d_Mod_pay_237 : decode M_Mod_pay.2.1 237 = .ok (.invokevirtual 225, 3) := by decide +kernel
theorem d_Mod_pay_240 : decode M_Mod_pay.2.1 240 = .ok (.istore 8, 2) := by decide +kernel
theorem d_Mod_pay_242 : decode M_Mod_pay.2.1 242 = .ok (.iload 8, 2) := by decide +kernel
theorem d_Mod_pay_244 : decode M_Mod_pay.2.1 244 = .ok (.ldc 155, 2) := by decide +kernel
theorem d_Mod_pay_246 : decode M_Mod_pay.2.1 246 = .ok (.if_icmp .eq 9, 3) := by decide +kernel
theorem d_Mod_pay_249 : decode M_Mod_pay.2.1 249 = .ok (.iload 8, 2) := by decide +kernel
theorem d_Mod_pay_251 : decode M_Mod_pay.2.1 251 = .ok (.ineg, 1) := by decide +kernel
theorem d_Mod_pay_252 : decode M_Mod_pay.2.1 252 = .ok (.goto 17, 3) := by decide +kernel
theorem d_Mod_pay_255 : decode M_Mod_pay.2.1 255 = .ok (.aload_n 0, 1) := by decide +kernel
theorem d_Mod_pay_256 : decode M_Mod_pay.2.1 256 = .ok (.invokevirtual 229, 3) := by decide +kernel
theorem d_Mod_pay_259 : decode M_Mod_pay.2.1 259 = .ok (.bipush 64, 2) := by decide +kernel
theorem d_Mod_pay_261 : decode M_Mod_pay.2.1 261 = .ok (.if_icmp .ne 7, 3) := by decide +kernel
theorem d_Mod_pay_264 : decode M_Mod_pay.2.1 264 = .ok (.iconst 2, 1) := by decide +kernel
theorem d_Mod_pay_265 : decode M_Mod_pay.2.1 265 = .ok (.goto 4, 3) := by decide +kernel
theorem d_Mod_pay_268 : decode M_Mod_pay.2.1 268 = .ok (.iconst 0, 1) := by decide +kernel
theorem d_Mod_pay_269 : decode M_Mod_pay.2.1 269 = .ok (.ireturn, 1) := by decide +kernel
theorem d_Mod_sendSelect_0 : decode M_Mod_sendSelect.2.1 0 = .ok (.aload_n 0, 1) := by decide +kernel
theorem d_Mod_sendSelect_1 : decode M_Mod_sendSelect.2.1 1 = .ok (.sipush 164, 3) := by decide +kernel
theorem d_Mod_sendSelect_4 : decode M_Mod_sendSelect.2.1 4 = .ok (.iconst 4, 1) := by decide +kernel
theorem d_Mod_sendSelect_5 : decode M_Mod_sendSelect.2.1 5 = .ok (.iconst 0, 1) := by decide +kernel
theorem d_Mod_sendSelect_6 : decode M_Mod_sendSelect.2.1 6 = .ok (.bipush 7, 2) := by decide +kernel
theorem d_Mod_sendSelect_8 : decode M_Mod_sendSelect.2.1 8 = .ok (.invokevirtual 201, 3) := by decide +kernel
theorem d_Mod_sendSelect_11 : decode M_Mod_sendSelect.2.1 11 = .ok (.iconst 0, 1) := by decide +kernel
theorem d_Mod_sendSelect_12 : decode M_Mod_sendSelect.2.1 12 = .ok (.istore_n 1, 1) := by decide +kernel
theorem d_Mod_sendSelect_13 : decode M_Mod_sendSelect.2.1 13 = .ok (.iload_n 1, 1) := by decide +kernel
theorem d_Mod_sendSelect_14 : decode M_Mod_sendSelect.2.1 14 = .ok (.bipush 7, 2) := by decide +kernel
theorem d_Mod_sendSelect_16 : decode M_Mod_sendSelect.2.1 16 = .ok (.if_icmp .ge 19, 3) := by decide +kernel
theorem d_Mod_sendSelect_19 : decode M_Mod_sendSelect.2.1 19 = .ok (.aload_n 0, 1) := by decide +kernel
theorem d_Mod_sendSelect_20 : decode M_Mod_sendSelect.2.1 20 = .ok (.aload_n 0, 1) := by decide +kernel
theorem d_Mod_sendSelect_21 : decode M_Mod_sendSelect.2.1 21 = .ok (.getfield 16, 3) := by decide +kernel
theorem d_Mod_sendSelect_24 : decode M_Mod_sendSelect.2.1 24 = .ok (.iload_n 1, 1) := by decide +kernel
theorem d_Mod_sendSelect_25 : decode M_Mod_sendSelect.2.1 25 = .ok (.iaload, 1) := by decide +kernel
theorem d_Mod_sendSelect_26 : decode M_Mod_sendSelect.2.1 26 = .ok (.invokevirtual 198, 3) := by decide +kernel
theorem d_Mod_sendSelect_29 : decode M_Mod_sendSelect.2.1 29 = .ok (.iinc 1 1, 3) := by decide +kernel
theorem d_Mod_sendSelect_32 : decode M_Mod_sendSelect.2.1 32 = .ok (.goto (-19), 3) := by decide +kernel
theorem d_Mod_sendSelect_35 : decode M_Mod_sendSelect.2.1 35 = .ok (.aload_n 0, 1) := by decide +kernel
theorem d_Mod_sendSelect_36 : decode M_Mod_sendSelect.2.1 36 = .ok (.invokevirtual 209, 3) := by decide +kernel
theorem d_Mod_sendSelect_39 : decode M_Mod_sendSelect.2.1 39 = .ok (.ireturn, 1) := by decide +kernel
theorem d_Mod_begin_0 : decode M_Mod_begin.2.1 0 = .ok (.aload_n 0, 1) := by decide +kernel
theorem d_Mod_begin_1 : decode M_Mod_begin.2.1 1 = .ok (.iconst 0, 1) := by decide +kernel
theorem d_Mod_begin_2 : decode M_Mod_begin.2.1 2 = .ok (.putfield 97, 3) := by decide +kernel
theorem d_Mod_begin_5 : decode M_Mod_begin.2.1 5 = .ok (.aload_n 0, 1) := by decide +kernel
theorem d_Mod_begin_6 : decode M_Mod_begin.2.1 6 = .ok (.iload_n 1, 1) := by decide +kernel
theorem d_Mod_begin_7 : decode M_Mod_begin.2.1 7 = .ok (.sipush 256, 3) := by decide +kernel
theorem d_Mod_begin_10 : decode M_Mod_begin.2.1 10 = .ok (.idiv, 1) := by decide +kernel
theorem d_Mod_begin_11 : decode M_Mod_begin.2.1 11 = .ok (.invokevirtual 198, 3) := by decide +kernel
theorem d_Mod_begin_14 : decode M_Mod_begin.2.1 14 = .ok (.aload_n 0, 1) := by decide +kernel
theorem d_Mod_begin_15 : decode M_Mod_begin.2.1 15 = .ok (.iload_n 1, 1) := by decide +kernel
theorem d_Mod_begin_16 : decode M_Mod_begin.2.1 16 = .ok (.sipush 256, 3) := by decide +kernel
theorem d_Mod_begin_19 : decode M_Mod_begin.2.1 19 = .ok (.irem, 1) := by decide +kernel
theorem d_Mod_begin_20 : decode M_Mod_begin.2.1 20 = .ok (.invokevirtual 198, 3) := by decide +kernel
theorem d_Mod_begin_23 : decode M_Mod_begin.2.1 23 = .ok (.aload_n 0, 1) := by decide +kernel
theorem d_Mod_begin_24 : decode M_Mod_begin.2.1 24 = .ok (.iload_n 2, 1) := by decide +kernel
theorem d_Mod_begin_25 : decode M_Mod_begin.2.1 25 = .ok (.invokevirtual 198, 3) := by decide +kernel
theorem d_Mod_begin_28 : decode M_Mod_begin.2.1 28 = .ok (.aload_n 0, 1) := by decide +kernel
theorem d_Mod_begin_29 : decode M_Mod_begin.2.1 29 = .ok (.iload_n 3, 1) := by decide +kernel
theorem d_Mod_begin_30 : decode M_Mod_begin.2.1 30 = .ok (.invokevirtual 198, 3) := by decide +kernel
theorem d_Mod_begin_33 : decode M_Mod_begin.2.1 33 = .ok (.iload 4, 2) := by decide +kernel
theorem d_Mod_begin_35 : decode M_Mod_begin.2.1 35 = .ok (.ifCond .le 9, 3) := by decide +kernel
theorem d_Mod_begin_38 : decode M_Mod_begin.2.1 38 = .ok (.aload_n 0, 1) := by decide +kernel
theorem d_Mod_begin_39 : decode M_Mod_begin.2.1 39 = .ok (.iload 4, 2) := by decide +kernel
theorem d_Mod_begin_41 : decode M_Mod_begin.2.1 41 = .ok (.invokevirtual 198, 3) := by decide +kernel
theorem d_Mod_begin_44 : decode M_Mod_begin.2.1 44 = .ok (.return_, 1) := by decide +kernel
theorem d_Mod_type_0 : decode M_Mod_type.2.1 0 = .ok (.aload_n 0, 1) := by decide +kernel
theorem d_Mod_type_1 : decode M_Mod_type.2.1 1 = .ok (.getfield 32, 3) := by decide +kernel
theorem d_Mod_type_4 : decode M_Mod_type.2.1 4 = .ok (.aload_n 0, 1) := by decide +kernel
theorem d_Mod_type_5 : decode M_Mod_type.2.1 5 = .ok (.getfield 97, 3) := by decide +kernel
theorem d_Mod_type_8 : decode M_Mod_type.2.1 8 = .ok (.iload_n 1, 1) := by decide +kernel
theorem d_Mod_type_9 : decode M_Mod_type.2.1 9 = .ok (.iastore, 1) := by decide +kernel
theorem d_Mod_type_10 : decode M_Mod_type.2.1 10 = .ok (.aload_n 0, 1) := by decide +kernel
theorem d_Mod_type_11 : decode M_Mod_type.2.1 11 = .ok (.dup, 1) := by decide +kernel
theorem d_Mod_type_12 : decode M_Mod_type.2.1 12 = .ok (.getfield 97, 3) := by decide +kernel
theorem d_Mod_type_15 : decode M_Mod_type.2.1 15 = .ok (.iconst 1, 1) := by decide +kernel
theorem d_Mod_type_16 : decode M_Mod_type.2.1 16 = .ok (.iadd, 1) := by decide +kernel
theorem d_Mod_type_17 : decode M_Mod_type.2.1 17 = .ok (.putfield 97, 3) := by decide +kernel
theorem d_Mod_type_20 : decode M_Mod_type.2.1 20 = .ok (.return_, 1) := by decide +kernel
theorem d_Mod_sendReady_0 : decode M_Mod_sendReady.2.1 0 = .ok (.aload_n 0, 1) := by decide +kernel
theorem d_Mod_sendReady_1 : decode M_Mod_sendReady.2.1 1 = .ok (.ldc 106, 2) := by decide +kernel
theorem d_Mod_sendReady_3 : decode M_Mod_sendReady.2.1 3 = .ok (.iconst 0, 1) := by decide +kernel
theorem d_Mod_sendReady_4 : decode M_Mod_sendReady.2.1 4 = .ok (.iconst 0, 1) := by decide +kernel
theorem d_Mod_sendReady_5 : decode M_Mod_sendReady.2.1 5 = .ok (.bipush 8, 2) := by decide +kernel
theorem d_Mod_sendReady_7 : decode M_Mod_sendReady.2.1 7 = .ok (.invokevirtual 201, 3) := by decide +kernel
theorem d_Mod_sendReady_10 : decode M_Mod_sendReady.2.1 10 = .ok (.aload_n 0, 1) := by decide +kernel
theorem d_Mod_sendReady_11 : decode M_Mod_sendReady.2.1 11 = .ok (.sipush 131, 3) := by decide +kernel
theorem d_Mod_sendReady_14 : decode M_Mod_sendReady.2.1 14 = .ok (.invokevirtual 198, 3) := by decide +kernel
theorem d_Mod_sendReady_17 : decode M_Mod_sendReady.2.1 17 = .ok (.aload_n 0, 1) := by decide +kernel
theorem d_Mod_sendReady_18 : decode M_Mod_sendReady.2.1 18 = .ok (.bipush 6, 2) := by decide +kernel
theorem d_Mod_sendReady_20 : decode M_Mod_sendReady.2.1 20 = .ok (.invokevirtual 198, 3) := by decide +kernel
theorem d_Mod_sendReady_23 : decode M_Mod_sendReady.2.1 23 = .ok (.aload_n 0, 1) := by decide +kernel
theorem d_Mod_sendReady_24 : decode M_Mod_sendReady.2.1 24 = .ok (.lload_n 1, 1) := by decide +kernel
theorem d_Mod_sendReady_25 : decode M_Mod_sendReady.2.1 25 = .ok (.invokevirtual 205, 3) := by decide +kernel
theorem d_Mod_sendReady_28 : decode M_Mod_sendReady.2.1 28 = .ok (.aload_n 0, 1) := by decide +kernel
theorem d_Mod_sendReady_29 : decode M_Mod_sendReady.2.1 29 = .ok (.invokevirtual 209, 3) := by decide +kernel
theorem d_Mod_sendReady_32 : decode M_Mod_sendReady.2.1 32 = .ok (.ireturn, 1) := by decide +kernel
theorem d_Mod_typeSix_0 : decode M_Mod_typeSix.2.1 0 = .ok (.iconst 0, 1) := by decide +kernel
theorem d_Mod_typeSix_1 : decode M_Mod_typeSix.2.1 1 = .ok (.istore_n 3, 1) := by decide +kernel
theorem d_Mod_typeSix_2 : decode M_Mod_typeSix.2.1 2 = .ok (.iload_n 3, 1) := by decide +kernel
theorem d_Mod_typeSix_3 : decode M_Mod_typeSix.2.1 3 = .ok (.bipush 6, 2) := by decide +kernel
theorem d_Mod_typeSix_5 : decode M_Mod_typeSix.2.1 5 = .ok (.if_icmp .ge 27, 3) := by decide +kernel
theorem d_Mod_typeSix_8 : decode M_Mod_typeSix.2.1 8 = .ok (.aload_n 0, 1) := by decide +kernel
theorem d_Mod_typeSix_9 : decode M_Mod_typeSix.2.1 9 = .ok (.lload_n 1, 1) := by decide +kernel
theorem d_Mod_typeSix_10 : decode M_Mod_typeSix.2.1 10 = .ok (.bipush 40, 2) := by decide +kernel
theorem d_Mod_typeSix_12 : decode M_Mod_typeSix.2.1 12 = .ok (.bipush 8, 2) := by decide +kernel
theorem d_Mod_typeSix_14 : decode M_Mod_typeSix.2.1 14 = .ok (.iload_n 3, 1) := by decide +kernel
theorem d_Mod_typeSix_15 : decode M_Mod_typeSix.2.1 15 = .ok (.imul, 1) := by decide +kernel
theorem d_Mod_typeSix_16 : decode M_Mod_typeSix.2.1 16 = .ok (.isub, 1) := by decide +kernel
theorem d_Mod_typeSix_17 : decode M_Mod_typeSix.2.1 17 = .ok (.lshr, 1) := by decide +kernel
theorem d_Mod_typeSix_18 : decode M_Mod_typeSix.2.1 18 = .ok (.ldc2_w 92, 3) := by decide +kernel
theorem d_Mod_typeSix_21 : decode M_Mod_typeSix.2.1 21 = .ok (.land, 1) := by decide +kernel
theorem d_Mod_typeSix_22 : decode M_Mod_typeSix.2.1 22 = .ok (.l2i, 1) := by decide +kernel
theorem d_Mod_typeSix_23 : decode M_Mod_typeSix.2.1 23 = .ok (.invokevirtual 198, 3) := by decide +kernel
theorem d_Mod_typeSix_26 : decode M_Mod_typeSix.2.1 26 = .ok (.iinc 3 1, 3) := by decide +kernel
theorem d_Mod_typeSix_29 : decode M_Mod_typeSix.2.1 29 = .ok (.goto (-27), 3) := by decide +kernel
theorem d_Mod_typeSix_32 : decode M_Mod_typeSix.2.1 32 = .ok (.return_, 1) := by decide +kernel
theorem d_Mod_readAll_0 : decode M_Mod_readAll.2.1 0 = .ok (.aload_n 0, 1) := by decide +kernel
theorem d_Mod_readAll_1 : decode M_Mod_readAll.2.1 1 = .ok (.getfield 100, 3) := by decide +kernel
theorem d_Mod_readAll_4 : decode M_Mod_readAll.2.1 4 = .ok (.iconst 4, 1) := by decide +kernel
theorem d_Mod_readAll_5 : decode M_Mod_readAll.2.1 5 = .ok (.isub, 1) := by decide +kernel
theorem d_Mod_readAll_6 : decode M_Mod_readAll.2.1 6 = .ok (.iconst 4, 1) := by decide +kernel
theorem d_Mod_readAll_7 : decode M_Mod_readAll.2.1 7 = .ok (.idiv, 1) := by decide +kernel
theorem d_Mod_readAll_8 : decode M_Mod_readAll.2.1 8 = .ok (.istore_n 1, 1) := by decide +kernel
theorem d_Mod_readAll_9 : decode M_Mod_readAll.2.1 9 = .ok (.iconst 0, 1) := by decide +kernel
theorem d_Mod_readAll_10 : decode M_Mod_readAll.2.1 10 = .ok (.istore_n 2, 1) := by decide +kernel
theorem d_Mod_readAll_11 : decode M_Mod_readAll.2.1 11 = .ok (.iload_n 2, 1) := by decide +kernel
theorem d_Mod_readAll_12 : decode M_Mod_readAll.2.1 12 = .ok (.iconst 4, 1) := by decide +kernel
theorem d_Mod_readAll_13 : decode M_Mod_readAll.2.1 13 = .ok (.iload_n 1, 1) := by decide +kernel
theorem d_Mod_readAll_14 : decode M_Mod_readAll.2.1 14 = .ok (.imul, 1) := by decide +kernel
theorem d_Mod_readAll_15 : decode M_Mod_readAll.2.1 15 = .ok (.if_icmp .ge 23, 3) := by decide +kernel
theorem d_Mod_readAll_18 : decode M_Mod_readAll.2.1 18 = .ok (.aload_n 0, 1) := by decide +kernel
theorem d_Mod_readAll_19 : decode M_Mod_readAll.2.1 19 = .ok (.getfield 38, 3) := by decide +kernel
theorem d_Mod_readAll_22 : decode M_Mod_readAll.2.1 22 = .ok (.iload_n 2, 1) := by decide +kernel
theorem d_Mod_readAll_23 : decode M_Mod_readAll.2.1 23 = .ok (.aload_n 0, 1) := by decide +kernel
theorem d_Mod_readAll_24 : decode M_Mod_readAll.2.1 24 = .ok (.getfield 35, 3) := by decide +kernel
theorem d_Mod_readAll_27 : decode M_Mod_readAll.2.1 27 = .ok (.iconst 4, 1) := by decide +kernel
theorem d_Mod_readAll_28 : decode M_Mod_readAll.2.1 28 = .ok (.iload_n 2, 1) := by decide +kernel
theorem d_Mod_readAll_29 : decode M_Mod_readAll.2.1 29 = .ok (.iadd, 1) := by decide +kernel
theorem d_Mod_readAll_30 : decode M_Mod_readAll.2.1 30 = .ok (.iaload, 1) := by decide +kernel
theorem d_Mod_readAll_31 : decode M_Mod_readAll.2.1 31 = .ok (.iastore, 1) := by decide +kernel
theorem d_Mod_readAll_32 : decode M_Mod_readAll.2.1 32 = .ok (.iinc 2 1, 3) := by decide +kernel
theorem d_Mod_readAll_35 : decode M_Mod_readAll.2.1 35 = .ok (.goto (-24), 3) := by decide +kernel
theorem d_Mod_readAll_38 : decode M_Mod_readAll.2.1 38 = .ok (.iconst 0, 1) := by decide +kernel
theorem d_Mod_readAll_39 : decode M_Mod_readAll.2.1 39 = .ok (.istore_n 2, 1) := by decide +kernel
theorem d_Mod_readAll_40 : decode M_Mod_readAll.2.1 40 = .ok (.iload_n 2, 1) := by decide +kernel
theorem d_Mod_readAll_41 : decode M_Mod_readAll.2.1 41 = .ok (.iload_n 1, 1) := by decide +kernel
theorem d_Mod_readAll_42 : decode M_Mod_readAll.2.1 42 = .ok (.if_icmp .ge 75, 3) := by decide +kernel
theorem d_Mod_readAll_45 : decode M_Mod_readAll.2.1 45 = .ok (.aload_n 0, 1) := by decide +kernel
theorem d_Mod_readAll_46 : decode M_Mod_readAll.2.1 46 = .ok (.getfield 38, 3) := by decide +kernel
theorem d_Mod_readAll_49 : decode M_Mod_readAll.2.1 49 = .ok (.iconst 4, 1) := by decide +kernel
theorem d_Mod_readAll_50 : decode M_Mod_readAll.2.1 50 = .ok (.iload_n 2, 1) := by decide +kernel
theorem d_Mod_readAll_51 : decode M_Mod_readAll.2.1 51 = .ok (.imul, 1) := by decide +kernel
theorem d_Mod_readAll_52 : decode M_Mod_readAll.2.1 52 = .ok (.iconst 1, 1) := by decide +kernel
theorem d_Mod_readAll_53 : decode M_Mod_readAll.2.1 53 = .ok (.iadd, 1) := by decide +kernel
theorem d_Mod_readAll_54 : decode M_Mod_readAll.2.1 54 = .ok (.iaload, 1) := by decide +kernel
theorem d_Mod_readAll_55 : decode M_Mod_readAll.2.1 55 = .ok (.istore_n 3, 1) := by decide +kernel
theorem d_Mod_readAll_56 : decode M_Mod_readAll.2.1 56 = .ok (.iload_n 3, 1) := by decide +kernel
theorem d_Mod_readAll_57 : decode M_Mod_readAll.2.1 57 = .ok (.aload_n 0, 1) := by decide +kernel
theorem d_Mod_readAll_58 : decode M_Mod_readAll.2.1 58 = .ok (.getfield 38, 3) := by decide +kernel
theorem d_Mod_readAll_61 : decode M_Mod_readAll.2.1 61 = .ok (.iconst 4, 1) := by decide +kernel
theorem d_Mod_readAll_62 : decode M_Mod_readAll.2.1 62 = .ok (.iload_n 2, 1) := by decide +kernel
theorem d_Mod_readAll_63 : decode M_Mod_readAll.2.1 63 = .ok (.imul, 1) := by decide +kernel
theorem d_Mod_readAll_64 : decode M_Mod_readAll.2.1 64 = .ok (.iconst 2, 1) := by decide +kernel
theorem d_Mod_readAll_65 : decode M_Mod_readAll.2.1 65 = .ok (.iadd, 1) := by decide +kernel
theorem d_Mod_readAll_66 : decode M_Mod_readAll.2.1 66 = .ok (.iaload, 1) := by decide +kernel
theorem d_Mod_readAll_67 : decode M_Mod_readAll.2.1 67 = .ok (.if_icmp .gt 44, 3) := by decide +kernel
theorem d_Mod_readAll_70 : decode M_Mod_readAll.2.1 70 = .ok (.aload_n 0, 1) := by decide +kernel
theorem d_Mod_readAll_71 : decode M_Mod_readAll.2.1 71 = .ok (.sipush 178, 3) := by decide +kernel
theorem d_Mod_readAll_74 : decode M_Mod_readAll.2.1 74 = .ok (.iload_n 3, 1) := by decide +kernel
theorem d_Mod_readAll_75 : decode M_Mod_readAll.2.1 75 = .ok (.aload_n 0, 1) := by decide +kernel
theorem d_Mod_readAll_76 : decode M_Mod_readAll.2.1 76 = .ok (.getfield 38, 3) := by decide +kernel
theorem d_Mod_readAll_79 : decode M_Mod_readAll.2.1 79 = .ok (.iconst 4, 1) := by decide +kernel
theorem d_Mod_readAll_80 : decode M_Mod_readAll.2.1 80 = .ok (.iload_n 2, 1) := by decide +kernel
theorem d_Mod_readAll_81 : decode M_Mod_readAll.2.1 81 = .ok (.imul, 1) := by decide +kernel
theorem d_Mod_readAll_82 : decode M_Mod_readAll.2.1 82 = .ok (.iaload, 1) := by decide +kernel
theorem d_Mod_readAll_83 : decode M_Mod_readAll.2.1 83 = .ok (.iconst 4, 1) := by decide +kernel
theorem d_Mod_readAll_84 : decode M_Mod_readAll.2.1 84 = .ok (.iadd, 1) := by decide +kernel
theorem d_Mod_readAll_85 : decode M_Mod_readAll.2.1 85 = .ok (.iconst 0, 1) := by decide +kernel
theorem d_Mod_readAll_86 : decode M_Mod_readAll.2.1 86 = .ok (.invokevirtual 201, 3) := by decide +kernel
theorem d_Mod_readAll_89 : decode M_Mod_readAll.2.1 89 = .ok (.aload_n 0, 1) := by decide +kernel
theorem d_Mod_readAll_90 : decode M_Mod_readAll.2.1 90 = .ok (.invokevirtual 209, 3) := by decide +kernel
theorem d_Mod_readAll_93 : decode M_Mod_readAll.2.1 93 = .ok (.istore 4, 2) := by decide +kernel
theorem d_Mod_readAll_95 : decode M_Mod_readAll.2.1 95 = .ok (.iload 4, 2) := by decide +kernel
theorem d_Mod_readAll_97 : decode M_Mod_readAll.2.1 97 = .ok (.ldc 155, 2) := by decide +kernel
theorem d_Mod_readAll_99 : decode M_Mod_readAll.2.1 99 = .ok (.if_icmp .eq 6, 3) := by decide +kernel
theorem d_Mod_readAll_102 : decode M_Mod_readAll.2.1 102 = .ok (.iload 4, 2) := by decide +kernel
theorem d_Mod_readAll_104 : decode M_Mod_readAll.2.1 104 = .ok (.ireturn, 1) := by decide +kernel
theorem d_Mod_readAll_105 : decode M_Mod_readAll.2.1 105 = .ok (.iinc 3 1, 3) := by decide +kernel
theorem d_Mod_readAll_108 : decode M_Mod_readAll.2.1 108 = .ok (.goto (-52), 3) := by decide +kernel
theorem d_Mod_readAll_111 : decode M_Mod_readAll.2.1 111 = .ok (.iinc 2 1, 3) := by decide +kernel
theorem d_Mod_readAll_114 : decode M_Mod_readAll.2.1 114 = .ok (.goto (-74), 3) := by decide +kernel
theorem d_Mod_readAll_117 : decode M_Mod_readAll.2.1 117 = .ok (.ldc 155, 2) := by decide +kernel
theorem d_Mod_readAll_119 : decode M_Mod_readAll.2.1 119 = .ok (.ireturn, 1) := by decide +kernel
theorem d_Mod_sendProve_0 : decode M_Mod_sendProve.2.1 0 = .ok (.aload_n 0, 1) := by decide +kernel
theorem d_Mod_sendProve_1 : decode M_Mod_sendProve.2.1 1 = .ok (.bipush 32, 2) := by decide +kernel
theorem d_Mod_sendProve_3 : decode M_Mod_sendProve.2.1 3 = .ok (.iconst 0, 1) := by decide +kernel
theorem d_Mod_sendProve_4 : decode M_Mod_sendProve.2.1 4 = .ok (.sipush 128, 3) := by decide +kernel
theorem d_Mod_sendProve_7 : decode M_Mod_sendProve.2.1 7 = .ok (.bipush 8, 2) := by decide +kernel
theorem d_Mod_sendProve_9 : decode M_Mod_sendProve.2.1 9 = .ok (.invokevirtual 201, 3) := by decide +kernel
theorem d_Mod_sendProve_12 : decode M_Mod_sendProve.2.1 12 = .ok (.aload_n 0, 1) := by decide +kernel
theorem d_Mod_sendProve_13 : decode M_Mod_sendProve.2.1 13 = .ok (.bipush 36, 2) := by decide +kernel
theorem d_Mod_sendProve_15 : decode M_Mod_sendProve.2.1 15 = .ok (.invokevirtual 198, 3) := by decide +kernel
theorem d_Mod_sendProve_18 : decode M_Mod_sendProve.2.1 18 = .ok (.aload_n 0, 1) := by decide +kernel
theorem d_Mod_sendProve_19 : decode M_Mod_sendProve.2.1 19 = .ok (.iload_n 1, 1) := by decide +kernel
theorem d_Mod_sendProve_20 : decode M_Mod_sendProve.2.1 20 = .ok (.sipush 1000, 3) := by decide +kernel
theorem d_Mod_sendProve_23 : decode M_Mod_sendProve.2.1 23 = .ok (.idiv, 1) := by decide +kernel
theorem d_Mod_sendProve_24 : decode M_Mod_sendProve.2.1 24 = .ok (.bipush 16, 2) := by decide +kernel
theorem d_Mod_sendProve_26 : decode M_Mod_sendProve.2.1 26 = .ok (.imul, 1) := by decide +kernel
theorem d_Mod_sendProve_27 : decode M_Mod_sendProve.2.1 27 = .ok (.iload_n 1, 1) := by decide +kernel
theorem d_Mod_sendProve_28 : decode M_Mod_sendProve.2.1 28 = .ok (.bipush 100, 2) := by decide +kernel
theorem d_Mod_sendProve_30 : decode M_Mod_sendProve.2.1 30 = .ok (.idiv, 1) := by decide +kernel
theorem d_Mod_sendProve_31 : decode M_Mod_sendProve.2.1 31 = .ok (.bipush 10, 2) := by decide +kernel
theorem d_Mod_sendProve_33 : decode M_Mod_sendProve.2.1 33 = .ok (.irem, 1) := by decide +kernel
theorem d_Mod_sendProve_34 : decode M_Mod_sendProve.2.1 34 = .ok (.iadd, 1) := by decide +kernel
theorem d_Mod_sendProve_35 : decode M_Mod_sendProve.2.1 35 = .ok (.invokevirtual 198, 3) := by decide +kernel
theorem d_Mod_sendProve_38 : decode M_Mod_sendProve.2.1 38 = .ok (.aload_n 0, 1) := by decide +kernel
theorem d_Mod_sendProve_39 : decode M_Mod_sendProve.2.1 39 = .ok (.iload_n 1, 1) := by decide +kernel
theorem d_Mod_sendProve_40 : decode M_Mod_sendProve.2.1 40 = .ok (.bipush 10, 2) := by decide +kernel
theorem d_Mod_sendProve_42 : decode M_Mod_sendProve.2.1 42 = .ok (.idiv, 1) := by decide +kernel
theorem d_Mod_sendProve_43 : decode M_Mod_sendProve.2.1 43 = .ok (.bipush 10, 2) := by decide +kernel
theorem d_Mod_sendProve_45 : decode M_Mod_sendProve.2.1 45 = .ok (.irem, 1) := by decide +kernel
theorem d_Mod_sendProve_46 : decode M_Mod_sendProve.2.1 46 = .ok (.bipush 16, 2) := by decide +kernel
theorem d_Mod_sendProve_48 : decode M_Mod_sendProve.2.1 48 = .ok (.imul, 1) := by decide +kernel
theorem d_Mod_sendProve_49 : decode M_Mod_sendProve.2.1 49 = .ok (.iload_n 1, 1) := by decide +kernel
theorem d_Mod_sendProve_50 : decode M_Mod_sendProve.2.1 50 = .ok (.bipush 10, 2) := by decide +kernel
theorem d_Mod_sendProve_52 : decode M_Mod_sendProve.2.1 52 = .ok (.irem, 1) := by decide +kernel
theorem d_Mod_sendProve_53 : decode M_Mod_sendProve.2.1 53 = .ok (.iadd, 1) := by decide +kernel
theorem d_Mod_sendProve_54 : decode M_Mod_sendProve.2.1 54 = .ok (.invokevirtual 198, 3) := by decide +kernel
theorem d_Mod_sendProve_57 : decode M_Mod_sendProve.2.1 57 = .ok (.iconst 0, 1) := by decide +kernel
theorem d_Mod_sendProve_58 : decode M_Mod_sendProve.2.1 58 = .ok (.istore_n 2, 1) := by decide +kernel
theorem d_Mod_sendProve_59 : decode M_Mod_sendProve.2.1 59 = .ok (.iload_n 2, 1) := by decide +kernel
theorem d_Mod_sendProve_60 : decode M_Mod_sendProve.2.1 60 = .ok (.iconst 5, 1) := by decide +kernel
theorem d_Mod_sendProve_61 : decode M_Mod_sendProve.2.1 61 = .ok (.if_icmp .ge 16, 3) := by decide +kernel
theorem d_Mod_sendProve_64 : decode M_Mod_sendProve.2.1 64 = .ok (.aload_n 0, 1) := by decide +kernel
theorem d_Mod_sendProve_65 : decode M_Mod_sendProve.2.1 65 = .ok (.sipush 255, 3) := by decide +kernel
theorem d_Mod_sendProve_68 : decode M_Mod_sendProve.2.1 68 = .ok (.invokevirtual 198, 3) := by decide +kernel
theorem d_Mod_sendProve_71 : decode M_Mod_sendProve.2.1 71 = .ok (.iinc 2 1, 3) := by decide +kernel
theorem d_Mod_sendProve_74 : decode M_Mod_sendProve.2.1 74 = .ok (.goto (-15), 3) := by decide +kernel
theorem d_Mod_sendProve_77 : decode M_Mod_sendProve.2.1 77 = .ok (.aload_n 0, 1) := by decide +kernel
theorem d_Mod_sendProve_78 : decode M_Mod_sendProve.2.1 78 = .ok (.invokevirtual 209, 3) := by decide +kernel
theorem d_Mod_sendProve_81 : decode M_Mod_sendProve.2.1 81 = .ok (.ireturn, 1) := by decide +kernel
theorem d_Mod_sendSeal_0 : decode M_Mod_sendSeal.2.1 0 = .ok (.aload_n 0, 1) := by decide +kernel
theorem d_Mod_sendSeal_1 : decode M_Mod_sendSeal.2.1 1 = .ok (.ldc 108, 2) := by decide +kernel
theorem d_Mod_sendSeal_3 : decode M_Mod_sendSeal.2.1 3 = .ok (.iload_n 1, 1) := by decide +kernel
theorem d_Mod_sendSeal_4 : decode M_Mod_sendSeal.2.1 4 = .ok (.iconst 0, 1) := by decide +kernel
theorem d_Mod_sendSeal_5 : decode M_Mod_sendSeal.2.1 5 = .ok (.iload 5, 2) := by decide +kernel
theorem d_Mod_sendSeal_7 : decode M_Mod_sendSeal.2.1 7 = .ok (.ifCond .le 8, 3) := by decide +kernel
theorem d_Mod_sendSeal_10 : decode M_Mod_sendSeal.2.1 10 = .ok (.bipush 12, 2) := by decide +kernel
theorem d_Mod_sendSeal_12 : decode M_Mod_sendSeal.2.1 12 = .ok (.goto 5, 3) := by decide +kernel
theorem d_Mod_sendSeal_15 : decode M_Mod_sendSeal.2.1 15 = .ok (.bipush 10, 2) := by decide +kernel
theorem d_Mod_sendSeal_17 : decode M_Mod_sendSeal.2.1 17 = .ok (.invokevirtual 201, 3) := by decide +kernel
theorem d_Mod_sendSeal_20 : decode M_Mod_sendSeal.2.1 20 = .ok (.aload_n 0, 1) := by decide +kernel
theorem d_Mod_sendSeal_21 : decode M_Mod_sendSeal.2.1 21 = .ok (.lload_n 2, 1) := by decide +kernel
theorem d_Mod_sendSeal_22 : decode M_Mod_sendSeal.2.1 22 = .ok (.invokevirtual 205, 3) := by decide +kernel
theorem d_Mod_sendSeal_25 : decode M_Mod_sendSeal.2.1 25 = .ok (.iconst 0, 1) := by decide +kernel
theorem d_Mod_sendSeal_26 : decode M_Mod_sendSeal.2.1 26 = .ok (.istore 6, 2) := by decide +kernel
theorem d_Mod_sendSeal_28 : decode M_Mod_sendSeal.2.1 28 = .ok (.iload 6, 2) := by decide +kernel
theorem d_Mod_sendSeal_30 : decode M_Mod_sendSeal.2.1 30 = .ok (.iconst 4, 1) := by decide +kernel
theorem d_Mod_sendSeal_31 : decode M_Mod_sendSeal.2.1 31 = .ok (.if_icmp .ge 28, 3) := by decide +kernel
theorem d_Mod_sendSeal_34 : decode M_Mod_sendSeal.2.1 34 = .ok (.aload_n 0, 1) := by decide +kernel
theorem d_Mod_sendSeal_35 : decode M_Mod_sendSeal.2.1 35 = .ok (.iload 4, 2) := by decide +kernel
theorem d_Mod_sendSeal_37 : decode M_Mod_sendSeal.2.1 37 = .ok (.bipush 24, 2) := by decide +kernel
theorem d_Mod_sendSeal_39 : decode M_Mod_sendSeal.2.1 39 = .ok (.bipush 8, 2) := by decide +kernel
theorem d_Mod_sendSeal_41 : decode M_Mod_sendSeal.2.1 41 = .ok (.iload 6, 2) := by decide +kernel
theorem d_Mod_sendSeal_43 : decode M_Mod_sendSeal.2.1 43 = .ok (.imul, 1) := by decide +kernel
theorem d_Mod_sendSeal_44 : decode M_Mod_sendSeal.2.1 44 = .ok (.isub, 1) := by decide +kernel
theorem d_Mod_sendSeal_45 : decode M_Mod_sendSeal.2.1 45 = .ok (.ishr, 1) := by decide +kernel
theorem d_Mod_sendSeal_46 : decode M_Mod_sendSeal.2.1 46 = .ok (.sipush 255, 3) := by decide +kernel
theorem d_Mod_sendSeal_49 : decode M_Mod_sendSeal.2.1 49 = .ok (.iand, 1) := by decide +kernel
theorem d_Mod_sendSeal_50 : decode M_Mod_sendSeal.2.1 50 = .ok (.invokevirtual 198, 3) := by decide +kernel
theorem d_Mod_sendSeal_53 : decode M_Mod_sendSeal.2.1 53 = .ok (.iinc 6 1, 3) := by decide +kernel
theorem d_Mod_sendSeal_56 : decode M_Mod_sendSeal.2.1 56 = .ok (.goto (-28), 3) := by decide +kernel
theorem d_Mod_sendSeal_59 : decode M_Mod_sendSeal.2.1 59 = .ok (.iload 5, 2) := by decide +kernel
theorem d_Mod_sendSeal_61 : decode M_Mod_sendSeal.2.1 61 = .ok (.ifCond .le 23, 3) := by decide +kernel
theorem d_Mod_sendSeal_64 : decode M_Mod_sendSeal.2.1 64 = .ok (.aload_n 0, 1) := by decide +kernel
theorem d_Mod_sendSeal_65 : decode M_Mod_sendSeal.2.1 65 = .ok (.iload 5, 2) := by decide +kernel
theorem d_Mod_sendSeal_67 : decode M_Mod_sendSeal.2.1 67 = .ok (.sipush 256, 3) := by decide +kernel
theorem d_Mod_sendSeal_70 : decode M_Mod_sendSeal.2.1 70 = .ok (.idiv, 1) := by decide +kernel
theorem d_Mod_sendSeal_71 : decode M_Mod_sendSeal.2.1 71 = .ok (.invokevirtual 198, 3) := by decide +kernel
theorem d_Mod_sendSeal_74 : decode M_Mod_sendSeal.2.1 74 = .ok (.aload_n 0, 1) := by decide +kernel
theorem d_Mod_sendSeal_75 : decode M_Mod_sendSeal.2.1 75 = .ok (.iload 5, 2) := by decide +kernel
theorem d_Mod_sendSeal_77 : decode M_Mod_sendSeal.2.1 77 = .ok (.sipush 256, 3) := by decide +kernel
theorem d_Mod_sendSeal_80 : decode M_Mod_sendSeal.2.1 80 = .ok (.irem, 1) := by decide +kernel
theorem d_Mod_sendSeal_81 : decode M_Mod_sendSeal.2.1 81 = .ok (.invokevirtual 198, 3) := by decide +kernel
theorem d_Mod_sendSeal_84 : decode M_Mod_sendSeal.2.1 84 = .ok (.aload_n 0, 1) := by decide +kernel
theorem d_Mod_sendSeal_85 : decode M_Mod_sendSeal.2.1 85 = .ok (.invokevirtual 209, 3) := by decide +kernel
theorem d_Mod_sendSeal_88 : decode M_Mod_sendSeal.2.1 88 = .ok (.ireturn, 1) := by decide +kernel
theorem d_Mod_cryptogram_0 : decode M_Mod_cryptogram.2.1 0 = .ok (.aload_n 0, 1) := by decide +kernel
theorem d_Mod_cryptogram_1 : decode M_Mod_cryptogram.2.1 1 = .ok (.ldc 188, 2) := by decide +kernel
theorem d_Mod_cryptogram_3 : decode M_Mod_cryptogram.2.1 3 = .ok (.invokevirtual 185, 3) := by decide +kernel
theorem d_Mod_cryptogram_6 : decode M_Mod_cryptogram.2.1 6 = .ok (.istore_n 1, 1) := by decide +kernel
theorem d_Mod_cryptogram_7 : decode M_Mod_cryptogram.2.1 7 = .ok (.iload_n 1, 1) := by decide +kernel
theorem d_Mod_cryptogram_8 : decode M_Mod_cryptogram.2.1 8 = .ok (.ifCond .ge 7, 3) := by decide +kernel
theorem d_Mod_cryptogram_11 : decode M_Mod_cryptogram.2.1 11 = .ok (.iconst (-1), 1) := by decide +kernel
theorem d_Mod_cryptogram_12 : decode M_Mod_cryptogram.2.1 12 = .ok (.goto 9, 3) := by decide +kernel
theorem d_Mod_cryptogram_15 : decode M_Mod_cryptogram.2.1 15 = .ok (.aload_n 0, 1) := by decide +kernel
theorem d_Mod_cryptogram_16 : decode M_Mod_cryptogram.2.1 16 = .ok (.getfield 35, 3) := by decide +kernel
theorem d_Mod_cryptogram_19 : decode M_Mod_cryptogram.2.1 19 = .ok (.iload_n 1, 1) := by decide +kernel
theorem d_Mod_cryptogram_20 : decode M_Mod_cryptogram.2.1 20 = .ok (.iaload, 1) := by decide +kernel
theorem d_Mod_cryptogram_21 : decode M_Mod_cryptogram.2.1 21 = .ok (.ireturn, 1) := by decide +kernel
theorem d_Mod_stage_0 : decode M_Mod_stage.2.1 0 = .ok (.aload_n 0, 1) := by decide +kernel
theorem d_Mod_stage_1 : decode M_Mod_stage.2.1 1 = .ok (.getfield 109, 3) := by decide +kernel
theorem d_Mod_stage_4 : decode M_Mod_stage.2.1 4 = .ok (.ireturn, 1) := by decide +kernel
theorem d_Mod_counter_0 : decode M_Mod_counter.2.1 0 = .ok (.aload_n 0, 1) := by decide +kernel
theorem d_Mod_counter_1 : decode M_Mod_counter.2.1 1 = .ok (.getfield 112, 3) := by decide +kernel
theorem d_Mod_counter_4 : decode M_Mod_counter.2.1 4 = .ok (.ireturn, 1) := by decide +kernel
theorem d_Mod_tries_0 : decode M_Mod_tries.2.1 0 = .ok (.aload_n 0, 1) := by decide +kernel
theorem d_Mod_tries_1 : decode M_Mod_tries.2.1 1 = .ok (.getfield 28, 3) := by decide +kernel
theorem d_Mod_tries_4 : decode M_Mod_tries.2.1 4 = .ok (.ireturn, 1) := by decide +kernel

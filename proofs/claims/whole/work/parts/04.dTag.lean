theorem d_Tag_init_0 : decode M_Tag_init.2.1 0 = .ok (.aload_n 0, 1) := by decide +kernel
theorem d_Tag_init_1 : decode M_Tag_init.2.1 1 = .ok (.invokespecial 3, 3) := by decide +kernel
theorem d_Tag_init_4 : decode M_Tag_init.2.1 4 = .ok (.aload_n 0, 1) := by decide +kernel
theorem d_Tag_init_5 : decode M_Tag_init.2.1 5 = .ok (.bipush 32, 2) := by decide +kernel
theorem d_Tag_init_7 : decode M_Tag_init.2.1 7 = .ok (.newarray .int, 2) := by decide +kernel
theorem d_Tag_init_9 : decode M_Tag_init.2.1 9 = .ok (.putfield 9, 3) := by decide +kernel
theorem d_Tag_init_12 : decode M_Tag_init.2.1 12 = .ok (.return_, 1) := by decide +kernel
theorem d_Tag_placeOf_0 : decode M_Tag_placeOf.2.1 0 = .ok (.iconst 0, 1) := by decide +kernel
theorem d_Tag_placeOf_1 : decode M_Tag_placeOf.2.1 1 = .ok (.istore_n 3, 1) := by decide +kernel
theorem d_Tag_placeOf_2 : decode M_Tag_placeOf.2.1 2 = .ok (.iconst 0, 1) := by decide +kernel
theorem d_Tag_placeOf_3 : decode M_Tag_placeOf.2.1 3 = .ok (.istore 4, 2) := by decide +kernel
theorem d_Tag_placeOf_5 : decode M_Tag_placeOf.2.1 5 = .ok (.aload_n 0, 1) := by decide +kernel
theorem d_Tag_placeOf_6 : decode M_Tag_placeOf.2.1 6 = .ok (.getfield 9, 3) := by decide +kernel
theorem d_Tag_placeOf_9 : decode M_Tag_placeOf.2.1 9 = .ok (.iconst 0, 1) := by decide +kernel
theorem d_Tag_placeOf_10 : decode M_Tag_placeOf.2.1 10 = .ok (.aload_n 2, 1) := by decide +kernel
theorem d_Tag_placeOf_11 : decode M_Tag_placeOf.2.1 11 = .ok (.invokevirtual 15, 3) := by decide +kernel
theorem d_Tag_placeOf_14 : decode M_Tag_placeOf.2.1 14 = .ok (.iastore, 1) := by decide +kernel
theorem d_Tag_placeOf_15 : decode M_Tag_placeOf.2.1 15 = .ok (.iconst 0, 1) := by decide +kernel
theorem d_Tag_placeOf_16 : decode M_Tag_placeOf.2.1 16 = .ok (.istore 5, 2) := by decide +kernel
theorem d_Tag_placeOf_18 : decode M_Tag_placeOf.2.1 18 = .ok (.iload 5, 2) := by decide +kernel
theorem d_Tag_placeOf_20 : decode M_Tag_placeOf.2.1 20 = .ok (.bipush 32, 2) := by decide +kernel
theorem d_Tag_placeOf_22 : decode M_Tag_placeOf.2.1 22 = .ok (.if_icmp .ge 188, 3) := by decide +kernel
theorem d_Tag_placeOf_25 : decode M_Tag_placeOf.2.1 25 = .ok (.iload 4, 2) := by decide +kernel
theorem d_Tag_placeOf_27 : decode M_Tag_placeOf.2.1 27 = .ok (.aload_n 2, 1) := by decide +kernel
theorem d_Tag_placeOf_28 : decode M_Tag_placeOf.2.1 28 = .ok (.invokevirtual 15, 3) := by decide +kernel
theorem d_Tag_placeOf_31 : decode M_Tag_placeOf.2.1 31 = .ok (.if_icmp .ge 179, 3) := by decide +kernel
theorem d_Tag_placeOf_34 : decode M_Tag_placeOf.2.1 34 = .ok (.iload_n 3, 1) := by decide +kernel
theorem d_Tag_placeOf_35 : decode M_Tag_placeOf.2.1 35 = .ok (.ifCond .le 20, 3) := by decide +kernel
theorem d_Tag_placeOf_38 : decode M_Tag_placeOf.2.1 38 = .ok (.iload 4, 2) := by decide +kernel
theorem d_Tag_placeOf_40 : decode M_Tag_placeOf.2.1 40 = .ok (.aload_n 0, 1) := by decide +kernel
theorem d_Tag_placeOf_41 : decode M_Tag_placeOf.2.1 41 = .ok (.getfield 9, 3) := by decide +kernel
theorem d_Tag_placeOf_44 : decode M_Tag_placeOf.2.1 44 = .ok (.iload_n 3, 1) := by decide +kernel
theorem d_Tag_placeOf_45 : decode M_Tag_placeOf.2.1 45 = .ok (.iaload, 1) := by decide +kernel
theorem d_Tag_placeOf_46 : decode M_Tag_placeOf.2.1 46 = .ok (.if_icmp .lt 9, 3) := by decide +kernel
theorem d_Tag_placeOf_49 : decode M_Tag_placeOf.2.1 49 = .ok (.iinc 3 (-1), 3) := by decide +kernel
theorem d_Tag_placeOf_52 : decode M_Tag_placeOf.2.1 52 = .ok (.goto (-18), 3) := by decide +kernel
theorem d_Tag_placeOf_55 : decode M_Tag_placeOf.2.1 55 = .ok (.aload_n 2, 1) := by decide +kernel
theorem d_Tag_placeOf_56 : decode M_Tag_placeOf.2.1 56 = .ok (.iload 4, 2) := by decide +kernel
theorem d_Tag_placeOf_58 : decode M_Tag_placeOf.2.1 58 = .ok (.invokevirtual 21, 3) := by decide +kernel
theorem d_Tag_placeOf_61 : decode M_Tag_placeOf.2.1 61 = .ok (.istore 6, 2) := by decide +kernel
theorem d_Tag_placeOf_63 : decode M_Tag_placeOf.2.1 63 = .ok (.iload 6, 2) := by decide +kernel
theorem d_Tag_placeOf_65 : decode M_Tag_placeOf.2.1 65 = .ok (.bipush 31, 2) := by decide +kernel
theorem d_Tag_placeOf_67 : decode M_Tag_placeOf.2.1 67 = .ok (.iand, 1) := by decide +kernel
theorem d_Tag_placeOf_68 : decode M_Tag_placeOf.2.1 68 = .ok (.bipush 31, 2) := by decide +kernel
theorem d_Tag_placeOf_70 : decode M_Tag_placeOf.2.1 70 = .ok (.if_icmp .ne 7, 3) := by decide +kernel
theorem d_Tag_placeOf_73 : decode M_Tag_placeOf.2.1 73 = .ok (.iconst 1, 1) := by decide +kernel
theorem d_Tag_placeOf_74 : decode M_Tag_placeOf.2.1 74 = .ok (.goto 4, 3) := by decide +kernel
theorem d_Tag_placeOf_77 : decode M_Tag_placeOf.2.1 77 = .ok (.iconst 0, 1) := by decide +kernel
theorem d_Tag_placeOf_78 : decode M_Tag_placeOf.2.1 78 = .ok (.istore 7, 2) := by decide +kernel
theorem d_Tag_placeOf_80 : decode M_Tag_placeOf.2.1 80 = .ok (.iload 4, 2) := by decide +kernel
theorem d_Tag_placeOf_82 : decode M_Tag_placeOf.2.1 82 = .ok (.iload 7, 2) := by decide +kernel
theorem d_Tag_placeOf_84 : decode M_Tag_placeOf.2.1 84 = .ok (.ifCond .eq 7, 3) := by decide +kernel
theorem d_Tag_placeOf_87 : decode M_Tag_placeOf.2.1 87 = .ok (.iconst 3, 1) := by decide +kernel
theorem d_Tag_placeOf_88 : decode M_Tag_placeOf.2.1 88 = .ok (.goto 4, 3) := by decide +kernel
theorem d_Tag_placeOf_91 : decode M_Tag_placeOf.2.1 91 = .ok (.iconst 2, 1) := by decide +kernel
theorem d_Tag_placeOf_92 : decode M_Tag_placeOf.2.1 92 = .ok (.iadd, 1) := by decide +kernel
theorem d_Tag_placeOf_93 : decode M_Tag_placeOf.2.1 93 = .ok (.istore 8, 2) := by decide +kernel
theorem d_Tag_placeOf_95 : decode M_Tag_placeOf.2.1 95 = .ok (.iload 8, 2) := by decide +kernel
theorem d_Tag_placeOf_97 : decode M_Tag_placeOf.2.1 97 = .ok (.aload_n 0, 1) := by decide +kernel
theorem d_Tag_placeOf_98 : decode M_Tag_placeOf.2.1 98 = .ok (.getfield 9, 3) := by decide +kernel
theorem d_Tag_placeOf_101 : decode M_Tag_placeOf.2.1 101 = .ok (.iload_n 3, 1) := by decide +kernel
theorem d_Tag_placeOf_102 : decode M_Tag_placeOf.2.1 102 = .ok (.iaload, 1) := by decide +kernel
theorem d_Tag_placeOf_103 : decode M_Tag_placeOf.2.1 103 = .ok (.if_icmp .le 5, 3) := by decide +kernel
theorem d_Tag_placeOf_106 : decode M_Tag_placeOf.2.1 106 = .ok (.iconst (-1), 1) := by decide +kernel
theorem d_Tag_placeOf_107 : decode M_Tag_placeOf.2.1 107 = .ok (.ireturn, 1) := by decide +kernel
theorem d_Tag_placeOf_108 : decode M_Tag_placeOf.2.1 108 = .ok (.iload 8, 2) := by decide +kernel
theorem d_Tag_placeOf_110 : decode M_Tag_placeOf.2.1 110 = .ok (.aload_n 2, 1) := by decide +kernel
theorem d_Tag_placeOf_111 : decode M_Tag_placeOf.2.1 111 = .ok (.iload 8, 2) := by decide +kernel
theorem d_Tag_placeOf_113 : decode M_Tag_placeOf.2.1 113 = .ok (.iconst 1, 1) := by decide +kernel
theorem d_Tag_placeOf_114 : decode M_Tag_placeOf.2.1 114 = .ok (.isub, 1) := by decide +kernel
theorem d_Tag_placeOf_115 : decode M_Tag_placeOf.2.1 115 = .ok (.invokevirtual 21, 3) := by decide +kernel
theorem d_Tag_placeOf_118 : decode M_Tag_placeOf.2.1 118 = .ok (.iadd, 1) := by decide +kernel
theorem d_Tag_placeOf_119 : decode M_Tag_placeOf.2.1 119 = .ok (.istore 9, 2) := by decide +kernel
theorem d_Tag_placeOf_121 : decode M_Tag_placeOf.2.1 121 = .ok (.iload 9, 2) := by decide +kernel
theorem d_Tag_placeOf_123 : decode M_Tag_placeOf.2.1 123 = .ok (.aload_n 0, 1) := by decide +kernel
theorem d_Tag_placeOf_124 : decode M_Tag_placeOf.2.1 124 = .ok (.getfield 9, 3) := by decide +kernel
theorem d_Tag_placeOf_127 : decode M_Tag_placeOf.2.1 127 = .ok (.iload_n 3, 1) := by decide +kernel
theorem d_Tag_placeOf_128 : decode M_Tag_placeOf.2.1 128 = .ok (.iaload, 1) := by decide +kernel
theorem d_Tag_placeOf_129 : decode M_Tag_placeOf.2.1 129 = .ok (.if_icmp .le 5, 3) := by decide +kernel
theorem d_Tag_placeOf_132 : decode M_Tag_placeOf.2.1 132 = .ok (.iconst (-1), 1) := by decide +kernel
theorem d_Tag_placeOf_133 : decode M_Tag_placeOf.2.1 133 = .ok (.ireturn, 1) := by decide +kernel
theorem d_Tag_placeOf_134 : decode M_Tag_placeOf.2.1 134 = .ok (.iload_n 1, 1) := by decide +kernel
theorem d_Tag_placeOf_135 : decode M_Tag_placeOf.2.1 135 = .ok (.iload 7, 2) := by decide +kernel
theorem d_Tag_placeOf_137 : decode M_Tag_placeOf.2.1 137 = .ok (.ifCond .eq 21, 3) := by decide +kernel
theorem d_Tag_placeOf_140 : decode M_Tag_placeOf.2.1 140 = .ok (.sipush 256, 3) := by decide +kernel
theorem d_Tag_placeOf_143 : decode M_Tag_placeOf.2.1 143 = .ok (.iload 6, 2) := by decide +kernel
theorem d_Tag_placeOf_145 : decode M_Tag_placeOf.2.1 145 = .ok (.imul, 1) := by decide +kernel
theorem d_Tag_placeOf_146 : decode M_Tag_placeOf.2.1 146 = .ok (.aload_n 2, 1) := by decide +kernel
theorem d_Tag_placeOf_147 : decode M_Tag_placeOf.2.1 147 = .ok (.iload 4, 2) := by decide +kernel
theorem d_Tag_placeOf_149 : decode M_Tag_placeOf.2.1 149 = .ok (.iconst 1, 1) := by decide +kernel
theorem d_Tag_placeOf_150 : decode M_Tag_placeOf.2.1 150 = .ok (.iadd, 1) := by decide +kernel
theorem d_Tag_placeOf_151 : decode M_Tag_placeOf.2.1 151 = .ok (.invokevirtual 21, 3) := by decide +kernel
theorem d_Tag_placeOf_154 : decode M_Tag_placeOf.2.1 154 = .ok (.iadd, 1) := by decide +kernel
theorem d_Tag_placeOf_155 : decode M_Tag_placeOf.2.1 155 = .ok (.goto 5, 3) := by decide +kernel
theorem d_Tag_placeOf_158 : decode M_Tag_placeOf.2.1 158 = .ok (.iload 6, 2) := by decide +kernel
theorem d_Tag_placeOf_160 : decode M_Tag_placeOf.2.1 160 = .ok (.if_icmp .ne 6, 3) := by decide +kernel
theorem d_Tag_placeOf_163 : decode M_Tag_placeOf.2.1 163 = .ok (.iload 8, 2) := by decide +kernel
theorem d_Tag_placeOf_165 : decode M_Tag_placeOf.2.1 165 = .ok (.ireturn, 1) := by decide +kernel
theorem d_Tag_placeOf_166 : decode M_Tag_placeOf.2.1 166 = .ok (.iload 9, 2) := by decide +kernel
theorem d_Tag_placeOf_168 : decode M_Tag_placeOf.2.1 168 = .ok (.istore 4, 2) := by decide +kernel
theorem d_Tag_placeOf_170 : decode M_Tag_placeOf.2.1 170 = .ok (.iload 6, 2) := by decide +kernel
theorem d_Tag_placeOf_172 : decode M_Tag_placeOf.2.1 172 = .ok (.bipush 32, 2) := by decide +kernel
theorem d_Tag_placeOf_174 : decode M_Tag_placeOf.2.1 174 = .ok (.iand, 1) := by decide +kernel
theorem d_Tag_placeOf_175 : decode M_Tag_placeOf.2.1 175 = .ok (.ifCond .eq 29, 3) := by decide +kernel
theorem d_Tag_placeOf_178 : decode M_Tag_placeOf.2.1 178 = .ok (.iinc 3 1, 3) := by decide +kernel
theorem d_Tag_placeOf_181 : decode M_Tag_placeOf.2.1 181 = .ok (.iload_n 3, 1) := by decide +kernel
theorem d_Tag_placeOf_182 : decode M_Tag_placeOf.2.1 182 = .ok (.aload_n 0, 1) := by decide +kernel
theorem d_Tag_placeOf_183 : decode M_Tag_placeOf.2.1 183 = .ok (.getfield 9, 3) := by decide +kernel
theorem d_Tag_placeOf_186 : decode M_Tag_placeOf.2.1 186 = .ok (.arraylength, 1) := by decide +kernel
theorem d_Tag_placeOf_187 : decode M_Tag_placeOf.2.1 187 = .ok (.if_icmp .lt 5, 3) := by decide +kernel
theorem d_Tag_placeOf_190 : decode M_Tag_placeOf.2.1 190 = .ok (.iconst (-1), 1) := by decide +kernel
theorem d_Tag_placeOf_191 : decode M_Tag_placeOf.2.1 191 = .ok (.ireturn, 1) := by decide +kernel
theorem d_Tag_placeOf_192 : decode M_Tag_placeOf.2.1 192 = .ok (.aload_n 0, 1) := by decide +kernel
theorem d_Tag_placeOf_193 : decode M_Tag_placeOf.2.1 193 = .ok (.getfield 9, 3) := by decide +kernel
theorem d_Tag_placeOf_196 : decode M_Tag_placeOf.2.1 196 = .ok (.iload_n 3, 1) := by decide +kernel
theorem d_Tag_placeOf_197 : decode M_Tag_placeOf.2.1 197 = .ok (.iload 9, 2) := by decide +kernel
theorem d_Tag_placeOf_199 : decode M_Tag_placeOf.2.1 199 = .ok (.iastore, 1) := by decide +kernel
theorem d_Tag_placeOf_200 : decode M_Tag_placeOf.2.1 200 = .ok (.iload 8, 2) := by decide +kernel
theorem d_Tag_placeOf_202 : decode M_Tag_placeOf.2.1 202 = .ok (.istore 4, 2) := by decide +kernel
theorem d_Tag_placeOf_204 : decode M_Tag_placeOf.2.1 204 = .ok (.iinc 5 1, 3) := by decide +kernel
theorem d_Tag_placeOf_207 : decode M_Tag_placeOf.2.1 207 = .ok (.goto (-189), 3) := by decide +kernel
theorem d_Tag_placeOf_210 : decode M_Tag_placeOf.2.1 210 = .ok (.iconst (-1), 1) := by decide +kernel
theorem d_Tag_placeOf_211 : decode M_Tag_placeOf.2.1 211 = .ok (.ireturn, 1) := by decide +kernel

theorem d_Law_cell_0 : decode M_Law_cell.2.1 0 = .ok (.iload_n 1, 1) := by decide +kernel
theorem d_Law_cell_1 : decode M_Law_cell.2.1 1 = .ok (.aload_n 0, 1) := by decide +kernel
theorem d_Law_cell_2 : decode M_Law_cell.2.1 2 = .ok (.arraylength, 1) := by decide +kernel
theorem d_Law_cell_3 : decode M_Law_cell.2.1 3 = .ok (.if_icmp .ge 9, 3) := by decide +kernel
theorem d_Law_cell_6 : decode M_Law_cell.2.1 6 = .ok (.aload_n 0, 1) := by decide +kernel
theorem d_Law_cell_7 : decode M_Law_cell.2.1 7 = .ok (.iload_n 1, 1) := by decide +kernel
theorem d_Law_cell_8 : decode M_Law_cell.2.1 8 = .ok (.iaload, 1) := by decide +kernel
theorem d_Law_cell_9 : decode M_Law_cell.2.1 9 = .ok (.goto 4, 3) := by decide +kernel
theorem d_Law_cell_12 : decode M_Law_cell.2.1 12 = .ok (.iconst 0, 1) := by decide +kernel
theorem d_Law_cell_13 : decode M_Law_cell.2.1 13 = .ok (.ireturn, 1) := by decide +kernel
theorem d_Law_law_0 : decode M_Law_law.2.1 0 = .ok (.new 7, 3) := by decide +kernel
theorem d_Law_law_3 : decode M_Law_law.2.1 3 = .ok (.dup, 1) := by decide +kernel
theorem d_Law_law_4 : decode M_Law_law.2.1 4 = .ok (.aload_n 0, 1) := by decide +kernel
theorem d_Law_law_5 : decode M_Law_law.2.1 5 = .ok (.iconst 0, 1) := by decide +kernel
theorem d_Law_law_6 : decode M_Law_law.2.1 6 = .ok (.invokestatic 9, 3) := by decide +kernel
theorem d_Law_law_9 : decode M_Law_law.2.1 9 = .ok (.invokespecial 15, 3) := by decide +kernel
theorem d_Law_law_12 : decode M_Law_law.2.1 12 = .ok (.astore_n 1, 1) := by decide +kernel
theorem d_Law_law_13 : decode M_Law_law.2.1 13 = .ok (.new 18, 3) := by decide +kernel
theorem d_Law_law_16 : decode M_Law_law.2.1 16 = .ok (.dup, 1) := by decide +kernel
theorem d_Law_law_17 : decode M_Law_law.2.1 17 = .ok (.aload_n 0, 1) := by decide +kernel
theorem d_Law_law_18 : decode M_Law_law.2.1 18 = .ok (.iconst 0, 1) := by decide +kernel
theorem d_Law_law_19 : decode M_Law_law.2.1 19 = .ok (.invokestatic 9, 3) := by decide +kernel
theorem d_Law_law_22 : decode M_Law_law.2.1 22 = .ok (.invokespecial 20, 3) := by decide +kernel
theorem d_Law_law_25 : decode M_Law_law.2.1 25 = .ok (.astore_n 2, 1) := by decide +kernel
theorem d_Law_law_26 : decode M_Law_law.2.1 26 = .ok (.iconst 1, 1) := by decide +kernel
theorem d_Law_law_27 : decode M_Law_law.2.1 27 = .ok (.istore_n 3, 1) := by decide +kernel
theorem d_Law_law_28 : decode M_Law_law.2.1 28 = .ok (.iload_n 3, 1) := by decide +kernel
theorem d_Law_law_29 : decode M_Law_law.2.1 29 = .ok (.aload_n 0, 1) := by decide +kernel
theorem d_Law_law_30 : decode M_Law_law.2.1 30 = .ok (.arraylength, 1) := by decide +kernel
theorem d_Law_law_31 : decode M_Law_law.2.1 31 = .ok (.bipush 8, 2) := by decide +kernel
theorem d_Law_law_33 : decode M_Law_law.2.1 33 = .ok (.isub, 1) := by decide +kernel
theorem d_Law_law_34 : decode M_Law_law.2.1 34 = .ok (.if_icmp .gt 654, 3) := by decide +kernel
theorem d_Law_law_37 : decode M_Law_law.2.1 37 = .ok (.aload_n 0, 1) := by decide +kernel
theorem d_Law_law_38 : decode M_Law_law.2.1 38 = .ok (.iload_n 3, 1) := by decide +kernel
theorem d_Law_law_39 : decode M_Law_law.2.1 39 = .ok (.iaload, 1) := by decide +kernel
theorem d_Law_law_40 : decode M_Law_law.2.1 40 = .ok (.bipush 15, 2) := by decide +kernel
theorem d_Law_law_42 : decode M_Law_law.2.1 42 = .ok (.iand, 1) := by decide +kernel
theorem d_Law_law_43 : decode M_Law_law.2.1 43 = .ok (.tableswitch 639 0 15 #[77, 100, 113, 126, 139, 162, 185, 208, 299, 322, 345, 368, 457, 600, 613, 626], 77) := by decide +kernel
theorem d_Law_law_120 : decode M_Law_law.2.1 120 = .ok (.aload_n 1, 1) := by decide +kernel
theorem d_Law_law_121 : decode M_Law_law.2.1 121 = .ok (.aload_n 0, 1) := by decide +kernel
theorem d_Law_law_122 : decode M_Law_law.2.1 122 = .ok (.iload_n 3, 1) := by decide +kernel
theorem d_Law_law_123 : decode M_Law_law.2.1 123 = .ok (.iconst 1, 1) := by decide +kernel
theorem d_Law_law_124 : decode M_Law_law.2.1 124 = .ok (.iadd, 1) := by decide +kernel
theorem d_Law_law_125 : decode M_Law_law.2.1 125 = .ok (.iaload, 1) := by decide +kernel
theorem d_Law_law_126 : decode M_Law_law.2.1 126 = .ok (.invokevirtual 21, 3) := by decide +kernel
theorem d_Law_law_129 : decode M_Law_law.2.1 129 = .ok (.aload_n 2, 1) := by decide +kernel
theorem d_Law_law_130 : decode M_Law_law.2.1 130 = .ok (.aload_n 0, 1) := by decide +kernel
theorem d_Law_law_131 : decode M_Law_law.2.1 131 = .ok (.iload_n 3, 1) := by decide +kernel
theorem d_Law_law_132 : decode M_Law_law.2.1 132 = .ok (.iconst 1, 1) := by decide +kernel
theorem d_Law_law_133 : decode M_Law_law.2.1 133 = .ok (.iadd, 1) := by decide +kernel
theorem d_Law_law_134 : decode M_Law_law.2.1 134 = .ok (.iaload, 1) := by decide +kernel
theorem d_Law_law_135 : decode M_Law_law.2.1 135 = .ok (.invokevirtual 25, 3) := by decide +kernel
theorem d_Law_law_138 : decode M_Law_law.2.1 138 = .ok (.if_icmp .eq 544, 3) := by decide +kernel
theorem d_Law_law_141 : decode M_Law_law.2.1 141 = .ok (.iconst 0, 1) := by decide +kernel
theorem d_Law_law_142 : decode M_Law_law.2.1 142 = .ok (.ireturn, 1) := by decide +kernel
theorem d_Law_law_143 : decode M_Law_law.2.1 143 = .ok (.aload_n 1, 1) := by decide +kernel
theorem d_Law_law_144 : decode M_Law_law.2.1 144 = .ok (.invokevirtual 26, 3) := by decide +kernel
theorem d_Law_law_147 : decode M_Law_law.2.1 147 = .ok (.aload_n 2, 1) := by decide +kernel
theorem d_Law_law_148 : decode M_Law_law.2.1 148 = .ok (.invokevirtual 30, 3) := by decide +kernel
theorem d_Law_law_151 : decode M_Law_law.2.1 151 = .ok (.if_icmp .eq 531, 3) := by decide +kernel
theorem d_Law_law_154 : decode M_Law_law.2.1 154 = .ok (.iconst 0, 1) := by decide +kernel
theorem d_Law_law_155 : decode M_Law_law.2.1 155 = .ok (.ireturn, 1) := by decide +kernel
theorem d_Law_law_156 : decode M_Law_law.2.1 156 = .ok (.aload_n 1, 1) := by decide +kernel
theorem d_Law_law_157 : decode M_Law_law.2.1 157 = .ok (.invokevirtual 31, 3) := by decide +kernel
theorem d_Law_law_160 : decode M_Law_law.2.1 160 = .ok (.aload_n 2, 1) := by decide +kernel
theorem d_Law_law_161 : decode M_Law_law.2.1 161 = .ok (.invokevirtual 34, 3) := by decide +kernel
theorem d_Law_law_164 : decode M_Law_law.2.1 164 = .ok (.if_icmp .eq 518, 3) := by decide +kernel
theorem d_Law_law_167 : decode M_Law_law.2.1 167 = .ok (.iconst 0, 1) := by decide +kernel
theorem d_Law_law_168 : decode M_Law_law.2.1 168 = .ok (.ireturn, 1) := by decide +kernel
theorem d_Law_law_169 : decode M_Law_law.2.1 169 = .ok (.aload_n 1, 1) := by decide +kernel
theorem d_Law_law_170 : decode M_Law_law.2.1 170 = .ok (.invokevirtual 35, 3) := by decide +kernel
theorem d_Law_law_173 : decode M_Law_law.2.1 173 = .ok (.aload_n 2, 1) := by decide +kernel
theorem d_Law_law_174 : decode M_Law_law.2.1 174 = .ok (.invokevirtual 38, 3) := by decide +kernel
theorem d_Law_law_177 : decode M_Law_law.2.1 177 = .ok (.if_icmp .eq 505, 3) := by decide +kernel
theorem d_Law_law_180 : decode M_Law_law.2.1 180 = .ok (.iconst 0, 1) := by decide +kernel
theorem d_Law_law_181 : decode M_Law_law.2.1 181 = .ok (.ireturn, 1) := by decide +kernel
theorem d_Law_law_182 : decode M_Law_law.2.1 182 = .ok (.aload_n 1, 1) := by decide +kernel
theorem d_Law_law_183 : decode M_Law_law.2.1 183 = .ok (.aload_n 0, 1) := by decide +kernel
theorem d_Law_law_184 : decode M_Law_law.2.1 184 = .ok (.iload_n 3, 1) := by decide +kernel
theorem d_Law_law_185 : decode M_Law_law.2.1 185 = .ok (.iconst 1, 1) := by decide +kernel
theorem d_Law_law_186 : decode M_Law_law.2.1 186 = .ok (.iadd, 1) := by decide +kernel
theorem d_Law_law_187 : decode M_Law_law.2.1 187 = .ok (.iaload, 1) := by decide +kernel
theorem d_Law_law_188 : decode M_Law_law.2.1 188 = .ok (.invokevirtual 39, 3) := by decide +kernel
theorem d_Law_law_191 : decode M_Law_law.2.1 191 = .ok (.aload_n 2, 1) := by decide +kernel
theorem d_Law_law_192 : decode M_Law_law.2.1 192 = .ok (.aload_n 0, 1) := by decide +kernel
theorem d_Law_law_193 : decode M_Law_law.2.1 193 = .ok (.iload_n 3, 1) := by decide +kernel
theorem d_Law_law_194 : decode M_Law_law.2.1 194 = .ok (.iconst 1, 1) := by decide +kernel
theorem d_Law_law_195 : decode M_Law_law.2.1 195 = .ok (.iadd, 1) := by decide +kernel
theorem d_Law_law_196 : decode M_Law_law.2.1 196 = .ok (.iaload, 1) := by decide +kernel
theorem d_Law_law_197 : decode M_Law_law.2.1 197 = .ok (.invokevirtual 43, 3) := by decide +kernel
theorem d_Law_law_200 : decode M_Law_law.2.1 200 = .ok (.if_icmp .eq 482, 3) := by decide +kernel
theorem d_Law_law_203 : decode M_Law_law.2.1 203 = .ok (.iconst 0, 1) := by decide +kernel
theorem d_Law_law_204 : decode M_Law_law.2.1 204 = .ok (.ireturn, 1) := by decide +kernel
theorem d_Law_law_205 : decode M_Law_law.2.1 205 = .ok (.aload_n 1, 1) := by decide +kernel
theorem d_Law_law_206 : decode M_Law_law.2.1 206 = .ok (.aload_n 0, 1) := by decide +kernel
theorem d_Law_law_207 : decode M_Law_law.2.1 207 = .ok (.iload_n 3, 1) := by decide +kernel
theorem d_Law_law_208 : decode M_Law_law.2.1 208 = .ok (.iconst 1, 1) := by decide +kernel
theorem d_Law_law_209 : decode M_Law_law.2.1 209 = .ok (.iadd, 1) := by decide +kernel
theorem d_Law_law_210 : decode M_Law_law.2.1 210 = .ok (.iaload, 1) := by decide +kernel
theorem d_Law_law_211 : decode M_Law_law.2.1 211 = .ok (.invokevirtual 44, 3) := by decide +kernel
theorem d_Law_law_214 : decode M_Law_law.2.1 214 = .ok (.aload_n 2, 1) := by decide +kernel
theorem d_Law_law_215 : decode M_Law_law.2.1 215 = .ok (.aload_n 0, 1) := by decide +kernel
theorem d_Law_law_216 : decode M_Law_law.2.1 216 = .ok (.iload_n 3, 1) := by decide +kernel
theorem d_Law_law_217 : decode M_Law_law.2.1 217 = .ok (.iconst 1, 1) := by decide +kernel
theorem d_Law_law_218 : decode M_Law_law.2.1 218 = .ok (.iadd, 1) := by decide +kernel
theorem d_Law_law_219 : decode M_Law_law.2.1 219 = .ok (.iaload, 1) := by decide +kernel
theorem d_Law_law_220 : decode M_Law_law.2.1 220 = .ok (.invokevirtual 47, 3) := by decide +kernel
theorem d_Law_law_223 : decode M_Law_law.2.1 223 = .ok (.if_icmp .eq 459, 3) := by decide +kernel
theorem d_Law_law_226 : decode M_Law_law.2.1 226 = .ok (.iconst 0, 1) := by decide +kernel
theorem d_Law_law_227 : decode M_Law_law.2.1 227 = .ok (.ireturn, 1) := by decide +kernel
theorem d_Law_law_228 : decode M_Law_law.2.1 228 = .ok (.aload_n 1, 1) := by decide +kernel
theorem d_Law_law_229 : decode M_Law_law.2.1 229 = .ok (.aload_n 0, 1) := by decide +kernel
theorem d_Law_law_230 : decode M_Law_law.2.1 230 = .ok (.iload_n 3, 1) := by decide +kernel
theorem d_Law_law_231 : decode M_Law_law.2.1 231 = .ok (.iconst 1, 1) := by decide +kernel
theorem d_Law_law_232 : decode M_Law_law.2.1 232 = .ok (.iadd, 1) := by decide +kernel
theorem d_Law_law_233 : decode M_Law_law.2.1 233 = .ok (.iaload, 1) := by decide +kernel
theorem d_Law_law_234 : decode M_Law_law.2.1 234 = .ok (.invokevirtual 48, 3) := by decide +kernel
theorem d_Law_law_237 : decode M_Law_law.2.1 237 = .ok (.aload_n 2, 1) := by decide +kernel
theorem d_Law_law_238 : decode M_Law_law.2.1 238 = .ok (.aload_n 0, 1) := by decide +kernel
theorem d_Law_law_239 : decode M_Law_law.2.1 239 = .ok (.iload_n 3, 1) := by decide +kernel
theorem d_Law_law_240 : decode M_Law_law.2.1 240 = .ok (.iconst 1, 1) := by decide +kernel
theorem d_Law_law_241 : decode M_Law_law.2.1 241 = .ok (.iadd, 1) := by decide +kernel
theorem d_Law_law_242 : decode M_Law_law.2.1 242 = .ok (.iaload, 1) := by decide +kernel
theorem d_Law_law_243 : decode M_Law_law.2.1 243 = .ok (.invokevirtual 51, 3) := by decide +kernel
theorem d_Law_law_246 : decode M_Law_law.2.1 246 = .ok (.if_icmp .eq 436, 3) := by decide +kernel
theorem d_Law_law_249 : decode M_Law_law.2.1 249 = .ok (.iconst 0, 1) := by decide +kernel
theorem d_Law_law_250 : decode M_Law_law.2.1 250 = .ok (.ireturn, 1) := by decide +kernel
theorem d_Law_law_251 : decode M_Law_law.2.1 251 = .ok (.aload_n 1, 1) := by decide +kernel
theorem d_Law_law_252 : decode M_Law_law.2.1 252 = .ok (.aload_n 0, 1) := by decide +kernel
theorem d_Law_law_253 : decode M_Law_law.2.1 253 = .ok (.iload_n 3, 1) := by decide +kernel
theorem d_Law_law_254 : decode M_Law_law.2.1 254 = .ok (.iconst 1, 1) := by decide +kernel
theorem d_Law_law_255 : decode M_Law_law.2.1 255 = .ok (.iadd, 1) := by decide +kernel
theorem d_Law_law_256 : decode M_Law_law.2.1 256 = .ok (.iaload, 1) := by decide +kernel
theorem d_Law_law_257 : decode M_Law_law.2.1 257 = .ok (.i2l, 1) := by decide +kernel
theorem d_Law_law_258 : decode M_Law_law.2.1 258 = .ok (.bipush 32, 2) := by decide +kernel
theorem d_Law_law_260 : decode M_Law_law.2.1 260 = .ok (.lshl, 1) := by decide +kernel
theorem d_Law_law_261 : decode M_Law_law.2.1 261 = .ok (.aload_n 0, 1) := by decide +kernel
theorem d_Law_law_262 : decode M_Law_law.2.1 262 = .ok (.iload_n 3, 1) := by decide +kernel
theorem d_Law_law_263 : decode M_Law_law.2.1 263 = .ok (.iconst 2, 1) := by decide +kernel
theorem d_Law_law_264 : decode M_Law_law.2.1 264 = .ok (.iadd, 1) := by decide +kernel
theorem d_Law_law_265 : decode M_Law_law.2.1 265 = .ok (.iaload, 1) := by decide +kernel
theorem d_Law_law_266 : decode M_Law_law.2.1 266 = .ok (.i2l, 1) := by decide +kernel
theorem d_Law_law_267 : decode M_Law_law.2.1 267 = .ok (.ldc2_w 52, 3) := by decide +kernel
theorem d_Law_law_270 : decode M_Law_law.2.1 270 = .ok (.land, 1) := by decide +kernel
theorem d_Law_law_271 : decode M_Law_law.2.1 271 = .ok (.lor, 1) := by decide +kernel
theorem d_Law_law_272 : decode M_Law_law.2.1 272 = .ok (.aload_n 0, 1) := by decide +kernel
theorem d_Law_law_273 : decode M_Law_law.2.1 273 = .ok (.iload_n 3, 1) := by decide +kernel
theorem d_Law_law_274 : decode M_Law_law.2.1 274 = .ok (.iconst 3, 1) := by decide +kernel
theorem d_Law_law_275 : decode M_Law_law.2.1 275 = .ok (.iadd, 1) := by decide +kernel
theorem d_Law_law_276 : decode M_Law_law.2.1 276 = .ok (.iaload, 1) := by decide +kernel
theorem d_Law_law_277 : decode M_Law_law.2.1 277 = .ok (.i2l, 1) := by decide +kernel
theorem d_Law_law_278 : decode M_Law_law.2.1 278 = .ok (.bipush 32, 2) := by decide +kernel
theorem d_Law_law_280 : decode M_Law_law.2.1 280 = .ok (.lshl, 1) := by decide +kernel
theorem d_Law_law_281 : decode M_Law_law.2.1 281 = .ok (.aload_n 0, 1) := by decide +kernel
theorem d_Law_law_282 : decode M_Law_law.2.1 282 = .ok (.iload_n 3, 1) := by decide +kernel
theorem d_Law_law_283 : decode M_Law_law.2.1 283 = .ok (.iconst 4, 1) := by decide +kernel
theorem d_Law_law_284 : decode M_Law_law.2.1 284 = .ok (.iadd, 1) := by decide +kernel
theorem d_Law_law_285 : decode M_Law_law.2.1 285 = .ok (.iaload, 1) := by decide +kernel
theorem d_Law_law_286 : decode M_Law_law.2.1 286 = .ok (.i2l, 1) := by decide +kernel
theorem d_Law_law_287 : decode M_Law_law.2.1 287 = .ok (.ldc2_w 52, 3) := by decide +kernel
theorem d_Law_law_290 : decode M_Law_law.2.1 290 = .ok (.land, 1) := by decide +kernel
theorem d_Law_law_291 : decode M_Law_law.2.1 291 = .ok (.lor, 1) := by decide +kernel
theorem d_Law_law_292 : decode M_Law_law.2.1 292 = .ok (.invokevirtual 54, 3) := by decide +kernel
theorem d_Law_law_295 : decode M_Law_law.2.1 295 = .ok (.aload_n 2, 1) := by decide +kernel
theorem d_Law_law_296 : decode M_Law_law.2.1 296 = .ok (.aload_n 0, 1) := by decide +kernel
theorem d_Law_law_297 : decode M_Law_law.2.1 297 = .ok (.iload_n 3, 1) := by decide +kernel
theorem d_Law_law_298 : decode M_Law_law.2.1 298 = .ok (.iconst 1, 1) := by decide +kernel
theorem d_Law_law_299 : decode M_Law_law.2.1 299 = .ok (.iadd, 1) := by decide +kernel
theorem d_Law_law_300 : decode M_Law_law.2.1 300 = .ok (.iaload, 1) := by decide +kernel
theorem d_Law_law_301 : decode M_Law_law.2.1 301 = .ok (.i2l, 1) := by decide +kernel
theorem d_Law_law_302 : decode M_Law_law.2.1 302 = .ok (.bipush 32, 2) := by decide +kernel
theorem d_Law_law_304 : decode M_Law_law.2.1 304 = .ok (.lshl, 1) := by decide +kernel
theorem d_Law_law_305 : decode M_Law_law.2.1 305 = .ok (.aload_n 0, 1) := by decide +kernel
theorem d_Law_law_306 : decode M_Law_law.2.1 306 = .ok (.iload_n 3, 1) := by decide +kernel
theorem d_Law_law_307 : decode M_Law_law.2.1 307 = .ok (.iconst 2, 1) := by decide +kernel
theorem d_Law_law_308 : decode M_Law_law.2.1 308 = .ok (.iadd, 1) := by decide +kernel
theorem d_Law_law_309 : decode M_Law_law.2.1 309 = .ok (.iaload, 1) := by decide +kernel
theorem d_Law_law_310 : decode M_Law_law.2.1 310 = .ok (.i2l, 1) := by decide +kernel
theorem d_Law_law_311 : decode M_Law_law.2.1 311 = .ok (.ldc2_w 52, 3) := by decide +kernel
theorem d_Law_law_314 : decode M_Law_law.2.1 314 = .ok (.land, 1) := by decide +kernel
theorem d_Law_law_315 : decode M_Law_law.2.1 315 = .ok (.lor, 1) := by decide +kernel
theorem d_Law_law_316 : decode M_Law_law.2.1 316 = .ok (.aload_n 0, 1) := by decide +kernel
theorem d_Law_law_317 : decode M_Law_law.2.1 317 = .ok (.iload_n 3, 1) := by decide +kernel
theorem d_Law_law_318 : decode M_Law_law.2.1 318 = .ok (.iconst 3, 1) := by decide +kernel
theorem d_Law_law_319 : decode M_Law_law.2.1 319 = .ok (.iadd, 1) := by decide +kernel
theorem d_Law_law_320 : decode M_Law_law.2.1 320 = .ok (.iaload, 1) := by decide +kernel
theorem d_Law_law_321 : decode M_Law_law.2.1 321 = .ok (.i2l, 1) := by decide +kernel
theorem d_Law_law_322 : decode M_Law_law.2.1 322 = .ok (.bipush 32, 2) := by decide +kernel
theorem d_Law_law_324 : decode M_Law_law.2.1 324 = .ok (.lshl, 1) := by decide +kernel
theorem d_Law_law_325 : decode M_Law_law.2.1 325 = .ok (.aload_n 0, 1) := by decide +kernel
theorem d_Law_law_326 : decode M_Law_law.2.1 326 = .ok (.iload_n 3, 1) := by decide +kernel
theorem d_Law_law_327 : decode M_Law_law.2.1 327 = .ok (.iconst 4, 1) := by decide +kernel
theorem d_Law_law_328 : decode M_Law_law.2.1 328 = .ok (.iadd, 1) := by decide +kernel
theorem d_Law_law_329 : decode M_Law_law.2.1 329 = .ok (.iaload, 1) := by decide +kernel
theorem d_Law_law_330 : decode M_Law_law.2.1 330 = .ok (.i2l, 1) := by decide +kernel
theorem d_Law_law_331 : decode M_Law_law.2.1 331 = .ok (.ldc2_w 52, 3) := by decide +kernel
theorem d_Law_law_334 : decode M_Law_law.2.1 334 = .ok (.land, 1) := by decide +kernel
theorem d_Law_law_335 : decode M_Law_law.2.1 335 = .ok (.lor, 1) := by decide +kernel
theorem d_Law_law_336 : decode M_Law_law.2.1 336 = .ok (.invokevirtual 58, 3) := by decide +kernel
theorem d_Law_law_339 : decode M_Law_law.2.1 339 = .ok (.goto 343, 3) := by decide +kernel
theorem d_Law_law_342 : decode M_Law_law.2.1 342 = .ok (.aload_n 1, 1) := by decide +kernel
theorem d_Law_law_343 : decode M_Law_law.2.1 343 = .ok (.aload_n 0, 1) := by decide +kernel
theorem d_Law_law_344 : decode M_Law_law.2.1 344 = .ok (.iload_n 3, 1) := by decide +kernel
theorem d_Law_law_345 : decode M_Law_law.2.1 345 = .ok (.iconst 1, 1) := by decide +kernel
theorem d_Law_law_346 : decode M_Law_law.2.1 346 = .ok (.iadd, 1) := by decide +kernel
theorem d_Law_law_347 : decode M_Law_law.2.1 347 = .ok (.iaload, 1) := by decide +kernel
theorem d_Law_law_348 : decode M_Law_law.2.1 348 = .ok (.invokevirtual 59, 3) := by decide +kernel
theorem d_Law_law_351 : decode M_Law_law.2.1 351 = .ok (.aload_n 2, 1) := by decide +kernel
theorem d_Law_law_352 : decode M_Law_law.2.1 352 = .ok (.aload_n 0, 1) := by decide +kernel
theorem d_Law_law_353 : decode M_Law_law.2.1 353 = .ok (.iload_n 3, 1) := by decide +kernel
theorem d_Law_law_354 : decode M_Law_law.2.1 354 = .ok (.iconst 1, 1) := by decide +kernel
theorem d_Law_law_355 : decode M_Law_law.2.1 355 = .ok (.iadd, 1) := by decide +kernel
theorem d_Law_law_356 : decode M_Law_law.2.1 356 = .ok (.iaload, 1) := by decide +kernel
theorem d_Law_law_357 : decode M_Law_law.2.1 357 = .ok (.invokevirtual 62, 3) := by decide +kernel
theorem d_Law_law_360 : decode M_Law_law.2.1 360 = .ok (.if_icmp .eq 322, 3) := by decide +kernel
theorem d_Law_law_363 : decode M_Law_law.2.1 363 = .ok (.iconst 0, 1) := by decide +kernel
theorem d_Law_law_364 : decode M_Law_law.2.1 364 = .ok (.ireturn, 1) := by decide +kernel
theorem d_Law_law_365 : decode M_Law_law.2.1 365 = .ok (.aload_n 1, 1) := by decide +kernel
theorem d_Law_law_366 : decode M_Law_law.2.1 366 = .ok (.aload_n 0, 1) := by decide +kernel
theorem d_Law_law_367 : decode M_Law_law.2.1 367 = .ok (.iload_n 3, 1) := by decide +kernel
theorem d_Law_law_368 : decode M_Law_law.2.1 368 = .ok (.iconst 1, 1) := by decide +kernel
theorem d_Law_law_369 : decode M_Law_law.2.1 369 = .ok (.iadd, 1) := by decide +kernel
theorem d_Law_law_370 : decode M_Law_law.2.1 370 = .ok (.iaload, 1) := by decide +kernel
theorem d_Law_law_371 : decode M_Law_law.2.1 371 = .ok (.invokevirtual 63, 3) := by decide +kernel
theorem d_Law_law_374 : decode M_Law_law.2.1 374 = .ok (.aload_n 2, 1) := by decide +kernel
theorem d_Law_law_375 : decode M_Law_law.2.1 375 = .ok (.aload_n 0, 1) := by decide +kernel
theorem d_Law_law_376 : decode M_Law_law.2.1 376 = .ok (.iload_n 3, 1) := by decide +kernel
theorem d_Law_law_377 : decode M_Law_law.2.1 377 = .ok (.iconst 1, 1) := by decide +kernel
theorem d_Law_law_378 : decode M_Law_law.2.1 378 = .ok (.iadd, 1) := by decide +kernel
theorem d_Law_law_379 : decode M_Law_law.2.1 379 = .ok (.iaload, 1) := by decide +kernel
theorem d_Law_law_380 : decode M_Law_law.2.1 380 = .ok (.invokevirtual 66, 3) := by decide +kernel
theorem d_Law_law_383 : decode M_Law_law.2.1 383 = .ok (.if_icmp .eq 299, 3) := by decide +kernel
theorem d_Law_law_386 : decode M_Law_law.2.1 386 = .ok (.iconst 0, 1) := by decide +kernel
theorem d_Law_law_387 : decode M_Law_law.2.1 387 = .ok (.ireturn, 1) := by decide +kernel
theorem d_Law_law_388 : decode M_Law_law.2.1 388 = .ok (.aload_n 1, 1) := by decide +kernel
theorem d_Law_law_389 : decode M_Law_law.2.1 389 = .ok (.aload_n 0, 1) := by decide +kernel
theorem d_Law_law_390 : decode M_Law_law.2.1 390 = .ok (.iload_n 3, 1) := by decide +kernel
theorem d_Law_law_391 : decode M_Law_law.2.1 391 = .ok (.iconst 1, 1) := by decide +kernel
theorem d_Law_law_392 : decode M_Law_law.2.1 392 = .ok (.iadd, 1) := by decide +kernel
theorem d_Law_law_393 : decode M_Law_law.2.1 393 = .ok (.iaload, 1) := by decide +kernel
theorem d_Law_law_394 : decode M_Law_law.2.1 394 = .ok (.invokevirtual 67, 3) := by decide +kernel
theorem d_Law_law_397 : decode M_Law_law.2.1 397 = .ok (.aload_n 2, 1) := by decide +kernel
theorem d_Law_law_398 : decode M_Law_law.2.1 398 = .ok (.aload_n 0, 1) := by decide +kernel
theorem d_Law_law_399 : decode M_Law_law.2.1 399 = .ok (.iload_n 3, 1) := by decide +kernel
theorem d_Law_law_400 : decode M_Law_law.2.1 400 = .ok (.iconst 1, 1) := by decide +kernel
theorem d_Law_law_401 : decode M_Law_law.2.1 401 = .ok (.iadd, 1) := by decide +kernel
theorem d_Law_law_402 : decode M_Law_law.2.1 402 = .ok (.iaload, 1) := by decide +kernel
theorem d_Law_law_403 : decode M_Law_law.2.1 403 = .ok (.invokevirtual 70, 3) := by decide +kernel
theorem d_Law_law_406 : decode M_Law_law.2.1 406 = .ok (.if_icmp .eq 276, 3) := by decide +kernel
theorem d_Law_law_409 : decode M_Law_law.2.1 409 = .ok (.iconst 0, 1) := by decide +kernel
theorem d_Law_law_410 : decode M_Law_law.2.1 410 = .ok (.ireturn, 1) := by decide +kernel
theorem d_Law_law_411 : decode M_Law_law.2.1 411 = .ok (.aload_n 1, 1) := by decide +kernel
theorem d_Law_law_412 : decode M_Law_law.2.1 412 = .ok (.aload_n 0, 1) := by decide +kernel
theorem d_Law_law_413 : decode M_Law_law.2.1 413 = .ok (.iload_n 3, 1) := by decide +kernel
theorem d_Law_law_414 : decode M_Law_law.2.1 414 = .ok (.iconst 1, 1) := by decide +kernel
theorem d_Law_law_415 : decode M_Law_law.2.1 415 = .ok (.iadd, 1) := by decide +kernel
theorem d_Law_law_416 : decode M_Law_law.2.1 416 = .ok (.iaload, 1) := by decide +kernel
theorem d_Law_law_417 : decode M_Law_law.2.1 417 = .ok (.i2l, 1) := by decide +kernel
theorem d_Law_law_418 : decode M_Law_law.2.1 418 = .ok (.bipush 32, 2) := by decide +kernel
theorem d_Law_law_420 : decode M_Law_law.2.1 420 = .ok (.lshl, 1) := by decide +kernel
theorem d_Law_law_421 : decode M_Law_law.2.1 421 = .ok (.aload_n 0, 1) := by decide +kernel
theorem d_Law_law_422 : decode M_Law_law.2.1 422 = .ok (.iload_n 3, 1) := by decide +kernel
theorem d_Law_law_423 : decode M_Law_law.2.1 423 = .ok (.iconst 2, 1) := by decide +kernel
theorem d_Law_law_424 : decode M_Law_law.2.1 424 = .ok (.iadd, 1) := by decide +kernel
theorem d_Law_law_425 : decode M_Law_law.2.1 425 = .ok (.iaload, 1) := by decide +kernel
theorem d_Law_law_426 : decode M_Law_law.2.1 426 = .ok (.i2l, 1) := by decide +kernel
theorem d_Law_law_427 : decode M_Law_law.2.1 427 = .ok (.ldc2_w 52, 3) := by decide +kernel
theorem d_Law_law_430 : decode M_Law_law.2.1 430 = .ok (.land, 1) := by decide +kernel
theorem d_Law_law_431 : decode M_Law_law.2.1 431 = .ok (.lor, 1) := by decide +kernel
theorem d_Law_law_432 : decode M_Law_law.2.1 432 = .ok (.aload_n 0, 1) := by decide +kernel
theorem d_Law_law_433 : decode M_Law_law.2.1 433 = .ok (.iload_n 3, 1) := by decide +kernel
theorem d_Law_law_434 : decode M_Law_law.2.1 434 = .ok (.iconst 3, 1) := by decide +kernel
theorem d_Law_law_435 : decode M_Law_law.2.1 435 = .ok (.iadd, 1) := by decide +kernel
theorem d_Law_law_436 : decode M_Law_law.2.1 436 = .ok (.iaload, 1) := by decide +kernel
theorem d_Law_law_437 : decode M_Law_law.2.1 437 = .ok (.aload_n 0, 1) := by decide +kernel
theorem d_Law_law_438 : decode M_Law_law.2.1 438 = .ok (.iload_n 3, 1) := by decide +kernel
theorem d_Law_law_439 : decode M_Law_law.2.1 439 = .ok (.iconst 4, 1) := by decide +kernel
theorem d_Law_law_440 : decode M_Law_law.2.1 440 = .ok (.iadd, 1) := by decide +kernel
theorem d_Law_law_441 : decode M_Law_law.2.1 441 = .ok (.iaload, 1) := by decide +kernel
theorem d_Law_law_442 : decode M_Law_law.2.1 442 = .ok (.ifCond .eq 7, 3) := by decide +kernel
theorem d_Law_law_445 : decode M_Law_law.2.1 445 = .ok (.iconst 1, 1) := by decide +kernel
theorem d_Law_law_446 : decode M_Law_law.2.1 446 = .ok (.goto 4, 3) := by decide +kernel
theorem d_Law_law_449 : decode M_Law_law.2.1 449 = .ok (.iconst 0, 1) := by decide +kernel
theorem d_Law_law_450 : decode M_Law_law.2.1 450 = .ok (.invokevirtual 71, 3) := by decide +kernel
theorem d_Law_law_453 : decode M_Law_law.2.1 453 = .ok (.aload_n 2, 1) := by decide +kernel
theorem d_Law_law_454 : decode M_Law_law.2.1 454 = .ok (.aload_n 0, 1) := by decide +kernel
theorem d_Law_law_455 : decode M_Law_law.2.1 455 = .ok (.iload_n 3, 1) := by decide +kernel
theorem d_Law_law_456 : decode M_Law_law.2.1 456 = .ok (.iconst 1, 1) := by decide +kernel
theorem d_Law_law_457 : decode M_Law_law.2.1 457 = .ok (.iadd, 1) := by decide +kernel
theorem d_Law_law_458 : decode M_Law_law.2.1 458 = .ok (.iaload, 1) := by decide +kernel
theorem d_Law_law_459 : decode M_Law_law.2.1 459 = .ok (.i2l, 1) := by decide +kernel
theorem d_Law_law_460 : decode M_Law_law.2.1 460 = .ok (.bipush 32, 2) := by decide +kernel
theorem d_Law_law_462 : decode M_Law_law.2.1 462 = .ok (.lshl, 1) := by decide +kernel
theorem d_Law_law_463 : decode M_Law_law.2.1 463 = .ok (.aload_n 0, 1) := by decide +kernel
theorem d_Law_law_464 : decode M_Law_law.2.1 464 = .ok (.iload_n 3, 1) := by decide +kernel
theorem d_Law_law_465 : decode M_Law_law.2.1 465 = .ok (.iconst 2, 1) := by decide +kernel
theorem d_Law_law_466 : decode M_Law_law.2.1 466 = .ok (.iadd, 1) := by decide +kernel
theorem d_Law_law_467 : decode M_Law_law.2.1 467 = .ok (.iaload, 1) := by decide +kernel
theorem d_Law_law_468 : decode M_Law_law.2.1 468 = .ok (.i2l, 1) := by decide +kernel
theorem d_Law_law_469 : decode M_Law_law.2.1 469 = .ok (.ldc2_w 52, 3) := by decide +kernel
theorem d_Law_law_472 : decode M_Law_law.2.1 472 = .ok (.land, 1) := by decide +kernel
theorem d_Law_law_473 : decode M_Law_law.2.1 473 = .ok (.lor, 1) := by decide +kernel
theorem d_Law_law_474 : decode M_Law_law.2.1 474 = .ok (.aload_n 0, 1) := by decide +kernel
theorem d_Law_law_475 : decode M_Law_law.2.1 475 = .ok (.iload_n 3, 1) := by decide +kernel
theorem d_Law_law_476 : decode M_Law_law.2.1 476 = .ok (.iconst 3, 1) := by decide +kernel
theorem d_Law_law_477 : decode M_Law_law.2.1 477 = .ok (.iadd, 1) := by decide +kernel
theorem d_Law_law_478 : decode M_Law_law.2.1 478 = .ok (.iaload, 1) := by decide +kernel
theorem d_Law_law_479 : decode M_Law_law.2.1 479 = .ok (.aload_n 0, 1) := by decide +kernel
theorem d_Law_law_480 : decode M_Law_law.2.1 480 = .ok (.iload_n 3, 1) := by decide +kernel
theorem d_Law_law_481 : decode M_Law_law.2.1 481 = .ok (.iconst 4, 1) := by decide +kernel
theorem d_Law_law_482 : decode M_Law_law.2.1 482 = .ok (.iadd, 1) := by decide +kernel
theorem d_Law_law_483 : decode M_Law_law.2.1 483 = .ok (.iaload, 1) := by decide +kernel
theorem d_Law_law_484 : decode M_Law_law.2.1 484 = .ok (.ifCond .eq 7, 3) := by decide +kernel
theorem d_Law_law_487 : decode M_Law_law.2.1 487 = .ok (.iconst 1, 1) := by decide +kernel
theorem d_Law_law_488 : decode M_Law_law.2.1 488 = .ok (.goto 4, 3) := by decide +kernel
theorem d_Law_law_491 : decode M_Law_law.2.1 491 = .ok (.iconst 0, 1) := by decide +kernel
theorem d_Law_law_492 : decode M_Law_law.2.1 492 = .ok (.invokevirtual 75, 3) := by decide +kernel
theorem d_Law_law_495 : decode M_Law_law.2.1 495 = .ok (.if_icmp .eq 187, 3) := by decide +kernel
theorem d_Law_law_498 : decode M_Law_law.2.1 498 = .ok (.iconst 0, 1) := by decide +kernel
theorem d_Law_law_499 : decode M_Law_law.2.1 499 = .ok (.ireturn, 1) := by decide +kernel
theorem d_Law_law_500 : decode M_Law_law.2.1 500 = .ok (.aload_n 1, 1) := by decide +kernel
theorem d_Law_law_501 : decode M_Law_law.2.1 501 = .ok (.aload_n 0, 1) := by decide +kernel
theorem d_Law_law_502 : decode M_Law_law.2.1 502 = .ok (.iload_n 3, 1) := by decide +kernel
theorem d_Law_law_503 : decode M_Law_law.2.1 503 = .ok (.iconst 1, 1) := by decide +kernel
theorem d_Law_law_504 : decode M_Law_law.2.1 504 = .ok (.iadd, 1) := by decide +kernel
theorem d_Law_law_505 : decode M_Law_law.2.1 505 = .ok (.iaload, 1) := by decide +kernel
theorem d_Law_law_506 : decode M_Law_law.2.1 506 = .ok (.i2l, 1) := by decide +kernel
theorem d_Law_law_507 : decode M_Law_law.2.1 507 = .ok (.bipush 32, 2) := by decide +kernel
theorem d_Law_law_509 : decode M_Law_law.2.1 509 = .ok (.lshl, 1) := by decide +kernel
theorem d_Law_law_510 : decode M_Law_law.2.1 510 = .ok (.aload_n 0, 1) := by decide +kernel
theorem d_Law_law_511 : decode M_Law_law.2.1 511 = .ok (.iload_n 3, 1) := by decide +kernel
theorem d_Law_law_512 : decode M_Law_law.2.1 512 = .ok (.iconst 2, 1) := by decide +kernel
theorem d_Law_law_513 : decode M_Law_law.2.1 513 = .ok (.iadd, 1) := by decide +kernel
theorem d_Law_law_514 : decode M_Law_law.2.1 514 = .ok (.iaload, 1) := by decide +kernel
theorem d_Law_law_515 : decode M_Law_law.2.1 515 = .ok (.i2l, 1) := by decide +kernel
theorem d_Law_law_516 : decode M_Law_law.2.1 516 = .ok (.ldc2_w 52, 3) := by decide +kernel
theorem d_Law_law_519 : decode M_Law_law.2.1 519 = .ok (.land, 1) := by decide +kernel
theorem d_Law_law_520 : decode M_Law_law.2.1 520 = .ok (.lor, 1) := by decide +kernel
theorem d_Law_law_521 : decode M_Law_law.2.1 521 = .ok (.aload_n 0, 1) := by decide +kernel
theorem d_Law_law_522 : decode M_Law_law.2.1 522 = .ok (.iload_n 3, 1) := by decide +kernel
theorem d_Law_law_523 : decode M_Law_law.2.1 523 = .ok (.iconst 3, 1) := by decide +kernel
theorem d_Law_law_524 : decode M_Law_law.2.1 524 = .ok (.iadd, 1) := by decide +kernel
theorem d_Law_law_525 : decode M_Law_law.2.1 525 = .ok (.iaload, 1) := by decide +kernel
theorem d_Law_law_526 : decode M_Law_law.2.1 526 = .ok (.i2l, 1) := by decide +kernel
theorem d_Law_law_527 : decode M_Law_law.2.1 527 = .ok (.bipush 32, 2) := by decide +kernel
theorem d_Law_law_529 : decode M_Law_law.2.1 529 = .ok (.lshl, 1) := by decide +kernel
theorem d_Law_law_530 : decode M_Law_law.2.1 530 = .ok (.aload_n 0, 1) := by decide +kernel
theorem d_Law_law_531 : decode M_Law_law.2.1 531 = .ok (.iload_n 3, 1) := by decide +kernel
theorem d_Law_law_532 : decode M_Law_law.2.1 532 = .ok (.iconst 4, 1) := by decide +kernel
theorem d_Law_law_533 : decode M_Law_law.2.1 533 = .ok (.iadd, 1) := by decide +kernel
theorem d_Law_law_534 : decode M_Law_law.2.1 534 = .ok (.iaload, 1) := by decide +kernel
theorem d_Law_law_535 : decode M_Law_law.2.1 535 = .ok (.i2l, 1) := by decide +kernel
theorem d_Law_law_536 : decode M_Law_law.2.1 536 = .ok (.ldc2_w 52, 3) := by decide +kernel
theorem d_Law_law_539 : decode M_Law_law.2.1 539 = .ok (.land, 1) := by decide +kernel
theorem d_Law_law_540 : decode M_Law_law.2.1 540 = .ok (.lor, 1) := by decide +kernel
theorem d_Law_law_541 : decode M_Law_law.2.1 541 = .ok (.aload_n 0, 1) := by decide +kernel
theorem d_Law_law_542 : decode M_Law_law.2.1 542 = .ok (.iload_n 3, 1) := by decide +kernel
theorem d_Law_law_543 : decode M_Law_law.2.1 543 = .ok (.iconst 5, 1) := by decide +kernel
theorem d_Law_law_544 : decode M_Law_law.2.1 544 = .ok (.iadd, 1) := by decide +kernel
theorem d_Law_law_545 : decode M_Law_law.2.1 545 = .ok (.iaload, 1) := by decide +kernel
theorem d_Law_law_546 : decode M_Law_law.2.1 546 = .ok (.aload_n 0, 1) := by decide +kernel
theorem d_Law_law_547 : decode M_Law_law.2.1 547 = .ok (.iload_n 3, 1) := by decide +kernel
theorem d_Law_law_548 : decode M_Law_law.2.1 548 = .ok (.bipush 6, 2) := by decide +kernel
theorem d_Law_law_550 : decode M_Law_law.2.1 550 = .ok (.iadd, 1) := by decide +kernel
theorem d_Law_law_551 : decode M_Law_law.2.1 551 = .ok (.iaload, 1) := by decide +kernel
theorem d_Law_law_552 : decode M_Law_law.2.1 552 = .ok (.aload_n 0, 1) := by decide +kernel
theorem d_Law_law_553 : decode M_Law_law.2.1 553 = .ok (.iload_n 3, 1) := by decide +kernel
theorem d_Law_law_554 : decode M_Law_law.2.1 554 = .ok (.bipush 7, 2) := by decide +kernel
theorem d_Law_law_556 : decode M_Law_law.2.1 556 = .ok (.iadd, 1) := by decide +kernel
theorem d_Law_law_557 : decode M_Law_law.2.1 557 = .ok (.iaload, 1) := by decide +kernel
theorem d_Law_law_558 : decode M_Law_law.2.1 558 = .ok (.ifCond .eq 7, 3) := by decide +kernel
theorem d_Law_law_561 : decode M_Law_law.2.1 561 = .ok (.iconst 1, 1) := by decide +kernel
theorem d_Law_law_562 : decode M_Law_law.2.1 562 = .ok (.goto 4, 3) := by decide +kernel
theorem d_Law_law_565 : decode M_Law_law.2.1 565 = .ok (.iconst 0, 1) := by decide +kernel
theorem d_Law_law_566 : decode M_Law_law.2.1 566 = .ok (.invokevirtual 76, 3) := by decide +kernel
theorem d_Law_law_569 : decode M_Law_law.2.1 569 = .ok (.aload_n 2, 1) := by decide +kernel
theorem d_Law_law_570 : decode M_Law_law.2.1 570 = .ok (.aload_n 0, 1) := by decide +kernel
theorem d_Law_law_571 : decode M_Law_law.2.1 571 = .ok (.iload_n 3, 1) := by decide +kernel
theorem d_Law_law_572 : decode M_Law_law.2.1 572 = .ok (.iconst 1, 1) := by decide +kernel
theorem d_Law_law_573 : decode M_Law_law.2.1 573 = .ok (.iadd, 1) := by decide +kernel
theorem d_Law_law_574 : decode M_Law_law.2.1 574 = .ok (.iaload, 1) := by decide +kernel
theorem d_Law_law_575 : decode M_Law_law.2.1 575 = .ok (.i2l, 1) := by decide +kernel
theorem d_Law_law_576 : decode M_Law_law.2.1 576 = .ok (.bipush 32, 2) := by decide +kernel
theorem d_Law_law_578 : decode M_Law_law.2.1 578 = .ok (.lshl, 1) := by decide +kernel
theorem d_Law_law_579 : decode M_Law_law.2.1 579 = .ok (.aload_n 0, 1) := by decide +kernel
theorem d_Law_law_580 : decode M_Law_law.2.1 580 = .ok (.iload_n 3, 1) := by decide +kernel
theorem d_Law_law_581 : decode M_Law_law.2.1 581 = .ok (.iconst 2, 1) := by decide +kernel
theorem d_Law_law_582 : decode M_Law_law.2.1 582 = .ok (.iadd, 1) := by decide +kernel
theorem d_Law_law_583 : decode M_Law_law.2.1 583 = .ok (.iaload, 1) := by decide +kernel
theorem d_Law_law_584 : decode M_Law_law.2.1 584 = .ok (.i2l, 1) := by decide +kernel
theorem d_Law_law_585 : decode M_Law_law.2.1 585 = .ok (.ldc2_w 52, 3) := by decide +kernel
theorem d_Law_law_588 : decode M_Law_law.2.1 588 = .ok (.land, 1) := by decide +kernel
theorem d_Law_law_589 : decode M_Law_law.2.1 589 = .ok (.lor, 1) := by decide +kernel
theorem d_Law_law_590 : decode M_Law_law.2.1 590 = .ok (.aload_n 0, 1) := by decide +kernel
theorem d_Law_law_591 : decode M_Law_law.2.1 591 = .ok (.iload_n 3, 1) := by decide +kernel
theorem d_Law_law_592 : decode M_Law_law.2.1 592 = .ok (.iconst 3, 1) := by decide +kernel
theorem d_Law_law_593 : decode M_Law_law.2.1 593 = .ok (.iadd, 1) := by decide +kernel
theorem d_Law_law_594 : decode M_Law_law.2.1 594 = .ok (.iaload, 1) := by decide +kernel
theorem d_Law_law_595 : decode M_Law_law.2.1 595 = .ok (.i2l, 1) := by decide +kernel
theorem d_Law_law_596 : decode M_Law_law.2.1 596 = .ok (.bipush 32, 2) := by decide +kernel
theorem d_Law_law_598 : decode M_Law_law.2.1 598 = .ok (.lshl, 1) := by decide +kernel
theorem d_Law_law_599 : decode M_Law_law.2.1 599 = .ok (.aload_n 0, 1) := by decide +kernel
theorem d_Law_law_600 : decode M_Law_law.2.1 600 = .ok (.iload_n 3, 1) := by decide +kernel
theorem d_Law_law_601 : decode M_Law_law.2.1 601 = .ok (.iconst 4, 1) := by decide +kernel
theorem d_Law_law_602 : decode M_Law_law.2.1 602 = .ok (.iadd, 1) := by decide +kernel
theorem d_Law_law_603 : decode M_Law_law.2.1 603 = .ok (.iaload, 1) := by decide +kernel
theorem d_Law_law_604 : decode M_Law_law.2.1 604 = .ok (.i2l, 1) := by decide +kernel
theorem d_Law_law_605 : decode M_Law_law.2.1 605 = .ok (.ldc2_w 52, 3) := by decide +kernel
theorem d_Law_law_608 : decode M_Law_law.2.1 608 = .ok (.land, 1) := by decide +kernel
theorem d_Law_law_609 : decode M_Law_law.2.1 609 = .ok (.lor, 1) := by decide +kernel
theorem d_Law_law_610 : decode M_Law_law.2.1 610 = .ok (.aload_n 0, 1) := by decide +kernel
theorem d_Law_law_611 : decode M_Law_law.2.1 611 = .ok (.iload_n 3, 1) := by decide +kernel
theorem d_Law_law_612 : decode M_Law_law.2.1 612 = .ok (.iconst 5, 1) := by decide +kernel
theorem d_Law_law_613 : decode M_Law_law.2.1 613 = .ok (.iadd, 1) := by decide +kernel
theorem d_Law_law_614 : decode M_Law_law.2.1 614 = .ok (.iaload, 1) := by decide +kernel
theorem d_Law_law_615 : decode M_Law_law.2.1 615 = .ok (.aload_n 0, 1) := by decide +kernel
theorem d_Law_law_616 : decode M_Law_law.2.1 616 = .ok (.iload_n 3, 1) := by decide +kernel
theorem d_Law_law_617 : decode M_Law_law.2.1 617 = .ok (.bipush 6, 2) := by decide +kernel
theorem d_Law_law_619 : decode M_Law_law.2.1 619 = .ok (.iadd, 1) := by decide +kernel
theorem d_Law_law_620 : decode M_Law_law.2.1 620 = .ok (.iaload, 1) := by decide +kernel
theorem d_Law_law_621 : decode M_Law_law.2.1 621 = .ok (.aload_n 0, 1) := by decide +kernel
theorem d_Law_law_622 : decode M_Law_law.2.1 622 = .ok (.iload_n 3, 1) := by decide +kernel
theorem d_Law_law_623 : decode M_Law_law.2.1 623 = .ok (.bipush 7, 2) := by decide +kernel
theorem d_Law_law_625 : decode M_Law_law.2.1 625 = .ok (.iadd, 1) := by decide +kernel
theorem d_Law_law_626 : decode M_Law_law.2.1 626 = .ok (.iaload, 1) := by decide +kernel
theorem d_Law_law_627 : decode M_Law_law.2.1 627 = .ok (.ifCond .eq 7, 3) := by decide +kernel
theorem d_Law_law_630 : decode M_Law_law.2.1 630 = .ok (.iconst 1, 1) := by decide +kernel
theorem d_Law_law_631 : decode M_Law_law.2.1 631 = .ok (.goto 4, 3) := by decide +kernel
theorem d_Law_law_634 : decode M_Law_law.2.1 634 = .ok (.iconst 0, 1) := by decide +kernel
theorem d_Law_law_635 : decode M_Law_law.2.1 635 = .ok (.invokevirtual 80, 3) := by decide +kernel
theorem d_Law_law_638 : decode M_Law_law.2.1 638 = .ok (.if_icmp .eq 44, 3) := by decide +kernel
theorem d_Law_law_641 : decode M_Law_law.2.1 641 = .ok (.iconst 0, 1) := by decide +kernel
theorem d_Law_law_642 : decode M_Law_law.2.1 642 = .ok (.ireturn, 1) := by decide +kernel
theorem d_Law_law_643 : decode M_Law_law.2.1 643 = .ok (.aload_n 1, 1) := by decide +kernel
theorem d_Law_law_644 : decode M_Law_law.2.1 644 = .ok (.invokevirtual 81, 3) := by decide +kernel
theorem d_Law_law_647 : decode M_Law_law.2.1 647 = .ok (.aload_n 2, 1) := by decide +kernel
theorem d_Law_law_648 : decode M_Law_law.2.1 648 = .ok (.invokevirtual 84, 3) := by decide +kernel
theorem d_Law_law_651 : decode M_Law_law.2.1 651 = .ok (.if_icmp .eq 31, 3) := by decide +kernel
theorem d_Law_law_654 : decode M_Law_law.2.1 654 = .ok (.iconst 0, 1) := by decide +kernel
theorem d_Law_law_655 : decode M_Law_law.2.1 655 = .ok (.ireturn, 1) := by decide +kernel
theorem d_Law_law_656 : decode M_Law_law.2.1 656 = .ok (.aload_n 1, 1) := by decide +kernel
theorem d_Law_law_657 : decode M_Law_law.2.1 657 = .ok (.invokevirtual 85, 3) := by decide +kernel
theorem d_Law_law_660 : decode M_Law_law.2.1 660 = .ok (.aload_n 2, 1) := by decide +kernel
theorem d_Law_law_661 : decode M_Law_law.2.1 661 = .ok (.invokevirtual 88, 3) := by decide +kernel
theorem d_Law_law_664 : decode M_Law_law.2.1 664 = .ok (.if_icmp .eq 18, 3) := by decide +kernel
theorem d_Law_law_667 : decode M_Law_law.2.1 667 = .ok (.iconst 0, 1) := by decide +kernel
theorem d_Law_law_668 : decode M_Law_law.2.1 668 = .ok (.ireturn, 1) := by decide +kernel
theorem d_Law_law_669 : decode M_Law_law.2.1 669 = .ok (.aload_n 1, 1) := by decide +kernel
theorem d_Law_law_670 : decode M_Law_law.2.1 670 = .ok (.invokevirtual 89, 3) := by decide +kernel
theorem d_Law_law_673 : decode M_Law_law.2.1 673 = .ok (.aload_n 2, 1) := by decide +kernel
theorem d_Law_law_674 : decode M_Law_law.2.1 674 = .ok (.invokevirtual 92, 3) := by decide +kernel
theorem d_Law_law_677 : decode M_Law_law.2.1 677 = .ok (.if_icmp .eq 5, 3) := by decide +kernel
theorem d_Law_law_680 : decode M_Law_law.2.1 680 = .ok (.iconst 0, 1) := by decide +kernel
theorem d_Law_law_681 : decode M_Law_law.2.1 681 = .ok (.ireturn, 1) := by decide +kernel
theorem d_Law_law_682 : decode M_Law_law.2.1 682 = .ok (.iinc 3 8, 3) := by decide +kernel
theorem d_Law_law_685 : decode M_Law_law.2.1 685 = .ok (.goto (-657), 3) := by decide +kernel
theorem d_Law_law_688 : decode M_Law_law.2.1 688 = .ok (.iconst 1, 1) := by decide +kernel
theorem d_Law_law_689 : decode M_Law_law.2.1 689 = .ok (.ireturn, 1) := by decide +kernel

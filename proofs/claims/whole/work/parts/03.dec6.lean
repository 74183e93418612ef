theorem dX7_load_0 : decode cX7_load 0 = .ok (.aload_n 0, 1) := by decide +kernel
theorem dX7_load_1 : decode cX7_load 1 = .ok (.iload_n 1, 1) := by decide +kernel
theorem dX7_load_2 : decode cX7_load 2 = .ok (.invokevirtual 112, 3) := by decide +kernel
theorem dX7_load_5 : decode cX7_load 5 = .ok (.ifCond .ne 9, 3) := by decide +kernel
theorem dX7_load_8 : decode cX7_load 8 = .ok (.aload_n 0, 1) := by decide +kernel
theorem dX7_load_9 : decode cX7_load 9 = .ok (.iconst (-1), 1) := by decide +kernel
theorem dX7_load_10 : decode cX7_load 10 = .ok (.invokevirtual 116, 3) := by decide +kernel
theorem dX7_load_13 : decode cX7_load 13 = .ok (.ireturn, 1) := by decide +kernel
theorem dX7_load_14 : decode cX7_load 14 = .ok (.iload_n 2, 1) := by decide +kernel
theorem dX7_load_15 : decode cX7_load 15 = .ok (.ifCond .ge 10, 3) := by decide +kernel
theorem dX7_load_18 : decode cX7_load 18 = .ok (.aload_n 0, 1) := by decide +kernel
theorem dX7_load_19 : decode cX7_load 19 = .ok (.bipush (-4), 2) := by decide +kernel
theorem dX7_load_21 : decode cX7_load 21 = .ok (.invokevirtual 116, 3) := by decide +kernel
theorem dX7_load_24 : decode cX7_load 24 = .ok (.ireturn, 1) := by decide +kernel
theorem dX7_load_25 : decode cX7_load 25 = .ok (.iload_n 2, 1) := by decide +kernel
theorem dX7_load_26 : decode cX7_load 26 = .ok (.sipush 200, 3) := by decide +kernel
theorem dX7_load_29 : decode cX7_load 29 = .ok (.if_icmp .le 10, 3) := by decide +kernel
theorem dX7_load_32 : decode cX7_load 32 = .ok (.aload_n 0, 1) := by decide +kernel
theorem dX7_load_33 : decode cX7_load 33 = .ok (.bipush (-6), 2) := by decide +kernel
theorem dX7_load_35 : decode cX7_load 35 = .ok (.invokevirtual 116, 3) := by decide +kernel
theorem dX7_load_38 : decode cX7_load 38 = .ok (.ireturn, 1) := by decide +kernel
theorem dX7_load_39 : decode cX7_load 39 = .ok (.iconst 0, 1) := by decide +kernel
theorem dX7_load_40 : decode cX7_load 40 = .ok (.istore_n 3, 1) := by decide +kernel
theorem dX7_load_41 : decode cX7_load 41 = .ok (.iload_n 3, 1) := by decide +kernel
theorem dX7_load_42 : decode cX7_load 42 = .ok (.iload_n 2, 1) := by decide +kernel
theorem dX7_load_43 : decode cX7_load 43 = .ok (.if_icmp .gt 20, 3) := by decide +kernel
theorem dX7_load_46 : decode cX7_load 46 = .ok (.aload_n 0, 1) := by decide +kernel
theorem dX7_load_47 : decode cX7_load 47 = .ok (.getfield 101, 3) := by decide +kernel
theorem dX7_load_50 : decode cX7_load 50 = .ok (.sipush 1608, 3) := by decide +kernel
theorem dX7_load_53 : decode cX7_load 53 = .ok (.iload_n 3, 1) := by decide +kernel
theorem dX7_load_54 : decode cX7_load 54 = .ok (.iadd, 1) := by decide +kernel
theorem dX7_load_55 : decode cX7_load 55 = .ok (.iconst 0, 1) := by decide +kernel
theorem dX7_load_56 : decode cX7_load 56 = .ok (.iastore, 1) := by decide +kernel
theorem dX7_load_57 : decode cX7_load 57 = .ok (.iinc 3 1, 3) := by decide +kernel
theorem dX7_load_60 : decode cX7_load 60 = .ok (.goto (-19), 3) := by decide +kernel
theorem dX7_load_63 : decode cX7_load 63 = .ok (.bipush 7, 2) := by decide +kernel
theorem dX7_load_65 : decode cX7_load 65 = .ok (.istore_n 3, 1) := by decide +kernel
theorem dX7_load_66 : decode cX7_load 66 = .ok (.iload_n 3, 1) := by decide +kernel
theorem dX7_load_67 : decode cX7_load 67 = .ok (.ifCond .lt 128, 3) := by decide +kernel
theorem dX7_load_70 : decode cX7_load 70 = .ok (.iconst 0, 1) := by decide +kernel
theorem dX7_load_71 : decode cX7_load 71 = .ok (.istore 4, 2) := by decide +kernel
theorem dX7_load_73 : decode cX7_load 73 = .ok (.iload 4, 2) := by decide +kernel
theorem dX7_load_75 : decode cX7_load 75 = .ok (.iload_n 2, 1) := by decide +kernel
theorem dX7_load_76 : decode cX7_load 76 = .ok (.if_icmp .gt 113, 3) := by decide +kernel
theorem dX7_load_79 : decode cX7_load 79 = .ok (.iconst 0, 1) := by decide +kernel
theorem dX7_load_80 : decode cX7_load 80 = .ok (.istore 5, 2) := by decide +kernel
theorem dX7_load_82 : decode cX7_load 82 = .ok (.iconst 0, 1) := by decide +kernel
theorem dX7_load_83 : decode cX7_load 83 = .ok (.istore 6, 2) := by decide +kernel
theorem dX7_load_85 : decode cX7_load 85 = .ok (.iload 6, 2) := by decide +kernel
theorem dX7_load_87 : decode cX7_load 87 = .ok (.aload_n 0, 1) := by decide +kernel
theorem dX7_load_88 : decode cX7_load 88 = .ok (.iload_n 1, 1) := by decide +kernel
theorem dX7_load_89 : decode cX7_load 89 = .ok (.iload_n 3, 1) := by decide +kernel
theorem dX7_load_90 : decode cX7_load 90 = .ok (.invokevirtual 163, 3) := by decide +kernel
theorem dX7_load_93 : decode cX7_load 93 = .ok (.if_icmp .gt 75, 3) := by decide +kernel
theorem dX7_load_96 : decode cX7_load 96 = .ok (.iload 6, 2) := by decide +kernel
theorem dX7_load_98 : decode cX7_load 98 = .ok (.aload_n 0, 1) := by decide +kernel
theorem dX7_load_99 : decode cX7_load 99 = .ok (.iload_n 1, 1) := by decide +kernel
theorem dX7_load_100 : decode cX7_load 100 = .ok (.iload_n 3, 1) := by decide +kernel
theorem dX7_load_101 : decode cX7_load 101 = .ok (.invokevirtual 166, 3) := by decide +kernel
theorem dX7_load_104 : decode cX7_load 104 = .ok (.imul, 1) := by decide +kernel
theorem dX7_load_105 : decode cX7_load 105 = .ok (.iload 4, 2) := by decide +kernel
theorem dX7_load_107 : decode cX7_load 107 = .ok (.if_icmp .gt 61, 3) := by decide +kernel
theorem dX7_load_110 : decode cX7_load 110 = .ok (.aload_n 0, 1) := by decide +kernel
theorem dX7_load_111 : decode cX7_load 111 = .ok (.iload_n 1, 1) := by decide +kernel
theorem dX7_load_112 : decode cX7_load 112 = .ok (.iload_n 3, 1) := by decide +kernel
theorem dX7_load_113 : decode cX7_load 113 = .ok (.iload 6, 2) := by decide +kernel
theorem dX7_load_115 : decode cX7_load 115 = .ok (.invokevirtual 169, 3) := by decide +kernel
theorem dX7_load_118 : decode cX7_load 118 = .ok (.aload_n 0, 1) := by decide +kernel
theorem dX7_load_119 : decode cX7_load 119 = .ok (.getfield 101, 3) := by decide +kernel
theorem dX7_load_122 : decode cX7_load 122 = .ok (.sipush 201, 3) := by decide +kernel
theorem dX7_load_125 : decode cX7_load 125 = .ok (.iload_n 3, 1) := by decide +kernel
theorem dX7_load_126 : decode cX7_load 126 = .ok (.iconst 1, 1) := by decide +kernel
theorem dX7_load_127 : decode cX7_load 127 = .ok (.iadd, 1) := by decide +kernel
theorem dX7_load_128 : decode cX7_load 128 = .ok (.imul, 1) := by decide +kernel
theorem dX7_load_129 : decode cX7_load 129 = .ok (.iload 4, 2) := by decide +kernel
theorem dX7_load_131 : decode cX7_load 131 = .ok (.iadd, 1) := by decide +kernel
theorem dX7_load_132 : decode cX7_load 132 = .ok (.iload 6, 2) := by decide +kernel
theorem dX7_load_134 : decode cX7_load 134 = .ok (.aload_n 0, 1) := by decide +kernel
theorem dX7_load_135 : decode cX7_load 135 = .ok (.iload_n 1, 1) := by decide +kernel
theorem dX7_load_136 : decode cX7_load 136 = .ok (.iload_n 3, 1) := by decide +kernel
theorem dX7_load_137 : decode cX7_load 137 = .ok (.invokevirtual 166, 3) := by decide +kernel
theorem dX7_load_140 : decode cX7_load 140 = .ok (.imul, 1) := by decide +kernel
theorem dX7_load_141 : decode cX7_load 141 = .ok (.isub, 1) := by decide +kernel
theorem dX7_load_142 : decode cX7_load 142 = .ok (.iaload, 1) := by decide +kernel
theorem dX7_load_143 : decode cX7_load 143 = .ok (.iadd, 1) := by decide +kernel
theorem dX7_load_144 : decode cX7_load 144 = .ok (.istore 7, 2) := by decide +kernel
theorem dX7_load_146 : decode cX7_load 146 = .ok (.iload 7, 2) := by decide +kernel
theorem dX7_load_148 : decode cX7_load 148 = .ok (.iload 5, 2) := by decide +kernel
theorem dX7_load_150 : decode cX7_load 150 = .ok (.if_icmp .le 8, 3) := by decide +kernel
theorem dX7_load_153 : decode cX7_load 153 = .ok (.iload 7, 2) := by decide +kernel
theorem dX7_load_155 : decode cX7_load 155 = .ok (.goto 5, 3) := by decide +kernel
theorem dX7_load_158 : decode cX7_load 158 = .ok (.iload 5, 2) := by decide +kernel
theorem dX7_load_160 : decode cX7_load 160 = .ok (.istore 5, 2) := by decide +kernel
theorem dX7_load_162 : decode cX7_load 162 = .ok (.iinc 6 1, 3) := by decide +kernel
theorem dX7_load_165 : decode cX7_load 165 = .ok (.goto (-80), 3) := by decide +kernel
theorem dX7_load_168 : decode cX7_load 168 = .ok (.aload_n 0, 1) := by decide +kernel
theorem dX7_load_169 : decode cX7_load 169 = .ok (.getfield 101, 3) := by decide +kernel
theorem dX7_load_172 : decode cX7_load 172 = .ok (.sipush 201, 3) := by decide +kernel
theorem dX7_load_175 : decode cX7_load 175 = .ok (.iload_n 3, 1) := by decide +kernel
theorem dX7_load_176 : decode cX7_load 176 = .ok (.imul, 1) := by decide +kernel
theorem dX7_load_177 : decode cX7_load 177 = .ok (.iload 4, 2) := by decide +kernel
theorem dX7_load_179 : decode cX7_load 179 = .ok (.iadd, 1) := by decide +kernel
theorem dX7_load_180 : decode cX7_load 180 = .ok (.iload 5, 2) := by decide +kernel
theorem dX7_load_182 : decode cX7_load 182 = .ok (.iastore, 1) := by decide +kernel
theorem dX7_load_183 : decode cX7_load 183 = .ok (.iinc 4 1, 3) := by decide +kernel
theorem dX7_load_186 : decode cX7_load 186 = .ok (.goto (-113), 3) := by decide +kernel
theorem dX7_load_189 : decode cX7_load 189 = .ok (.iinc 3 (-1), 3) := by decide +kernel
theorem dX7_load_192 : decode cX7_load 192 = .ok (.goto (-126), 3) := by decide +kernel
theorem dX7_load_195 : decode cX7_load 195 = .ok (.iload_n 2, 1) := by decide +kernel
theorem dX7_load_196 : decode cX7_load 196 = .ok (.istore_n 3, 1) := by decide +kernel
theorem dX7_load_197 : decode cX7_load 197 = .ok (.iconst 0, 1) := by decide +kernel
theorem dX7_load_198 : decode cX7_load 198 = .ok (.istore 4, 2) := by decide +kernel
theorem dX7_load_200 : decode cX7_load 200 = .ok (.iconst 0, 1) := by decide +kernel
theorem dX7_load_201 : decode cX7_load 201 = .ok (.istore 5, 2) := by decide +kernel
theorem dX7_load_203 : decode cX7_load 203 = .ok (.iload 5, 2) := by decide +kernel
theorem dX7_load_205 : decode cX7_load 205 = .ok (.bipush 8, 2) := by decide +kernel
theorem dX7_load_207 : decode cX7_load 207 = .ok (.if_icmp .ge 146, 3) := by decide +kernel
theorem dX7_load_210 : decode cX7_load 210 = .ok (.iload_n 3, 1) := by decide +kernel
theorem dX7_load_211 : decode cX7_load 211 = .ok (.aload_n 0, 1) := by decide +kernel
theorem dX7_load_212 : decode cX7_load 212 = .ok (.iload_n 1, 1) := by decide +kernel
theorem dX7_load_213 : decode cX7_load 213 = .ok (.iload 5, 2) := by decide +kernel
theorem dX7_load_215 : decode cX7_load 215 = .ok (.invokevirtual 166, 3) := by decide +kernel
theorem dX7_load_218 : decode cX7_load 218 = .ok (.idiv, 1) := by decide +kernel
theorem dX7_load_219 : decode cX7_load 219 = .ok (.istore 6, 2) := by decide +kernel
theorem dX7_load_221 : decode cX7_load 221 = .ok (.iload 6, 2) := by decide +kernel
theorem dX7_load_223 : decode cX7_load 223 = .ok (.aload_n 0, 1) := by decide +kernel
theorem dX7_load_224 : decode cX7_load 224 = .ok (.iload_n 1, 1) := by decide +kernel
theorem dX7_load_225 : decode cX7_load 225 = .ok (.iload 5, 2) := by decide +kernel
theorem dX7_load_227 : decode cX7_load 227 = .ok (.invokevirtual 163, 3) := by decide +kernel
theorem dX7_load_230 : decode cX7_load 230 = .ok (.if_icmp .ge 8, 3) := by decide +kernel
theorem dX7_load_233 : decode cX7_load 233 = .ok (.iload 6, 2) := by decide +kernel
theorem dX7_load_235 : decode cX7_load 235 = .ok (.goto 10, 3) := by decide +kernel
theorem dX7_load_238 : decode cX7_load 238 = .ok (.aload_n 0, 1) := by decide +kernel
theorem dX7_load_239 : decode cX7_load 239 = .ok (.iload_n 1, 1) := by decide +kernel
theorem dX7_load_240 : decode cX7_load 240 = .ok (.iload 5, 2) := by decide +kernel
theorem dX7_load_242 : decode cX7_load 242 = .ok (.invokevirtual 163, 3) := by decide +kernel
theorem dX7_load_245 : decode cX7_load 245 = .ok (.istore 6, 2) := by decide +kernel
theorem dX7_load_247 : decode cX7_load 247 = .ok (.aload_n 0, 1) := by decide +kernel
theorem dX7_load_248 : decode cX7_load 248 = .ok (.iload_n 1, 1) := by decide +kernel
theorem dX7_load_249 : decode cX7_load 249 = .ok (.iload 5, 2) := by decide +kernel
theorem dX7_load_251 : decode cX7_load 251 = .ok (.iload 6, 2) := by decide +kernel
theorem dX7_load_253 : decode cX7_load 253 = .ok (.invokevirtual 169, 3) := by decide +kernel
theorem dX7_load_256 : decode cX7_load 256 = .ok (.aload_n 0, 1) := by decide +kernel
theorem dX7_load_257 : decode cX7_load 257 = .ok (.getfield 101, 3) := by decide +kernel
theorem dX7_load_260 : decode cX7_load 260 = .ok (.sipush 201, 3) := by decide +kernel
theorem dX7_load_263 : decode cX7_load 263 = .ok (.iload 5, 2) := by decide +kernel
theorem dX7_load_265 : decode cX7_load 265 = .ok (.iconst 1, 1) := by decide +kernel
theorem dX7_load_266 : decode cX7_load 266 = .ok (.iadd, 1) := by decide +kernel
theorem dX7_load_267 : decode cX7_load 267 = .ok (.imul, 1) := by decide +kernel
theorem dX7_load_268 : decode cX7_load 268 = .ok (.iload_n 3, 1) := by decide +kernel
theorem dX7_load_269 : decode cX7_load 269 = .ok (.iadd, 1) := by decide +kernel
theorem dX7_load_270 : decode cX7_load 270 = .ok (.iload 6, 2) := by decide +kernel
theorem dX7_load_272 : decode cX7_load 272 = .ok (.aload_n 0, 1) := by decide +kernel
theorem dX7_load_273 : decode cX7_load 273 = .ok (.iload_n 1, 1) := by decide +kernel
theorem dX7_load_274 : decode cX7_load 274 = .ok (.iload 5, 2) := by decide +kernel
theorem dX7_load_276 : decode cX7_load 276 = .ok (.invokevirtual 166, 3) := by decide +kernel
theorem dX7_load_279 : decode cX7_load 279 = .ok (.imul, 1) := by decide +kernel
theorem dX7_load_280 : decode cX7_load 280 = .ok (.isub, 1) := by decide +kernel
theorem dX7_load_281 : decode cX7_load 281 = .ok (.iaload, 1) := by decide +kernel
theorem dX7_load_282 : decode cX7_load 282 = .ok (.iadd, 1) := by decide +kernel
theorem dX7_load_283 : decode cX7_load 283 = .ok (.aload_n 0, 1) := by decide +kernel
theorem dX7_load_284 : decode cX7_load 284 = .ok (.getfield 101, 3) := by decide +kernel
theorem dX7_load_287 : decode cX7_load 287 = .ok (.sipush 201, 3) := by decide +kernel
theorem dX7_load_290 : decode cX7_load 290 = .ok (.iload 5, 2) := by decide +kernel
theorem dX7_load_292 : decode cX7_load 292 = .ok (.imul, 1) := by decide +kernel
theorem dX7_load_293 : decode cX7_load 293 = .ok (.iload_n 3, 1) := by decide +kernel
theorem dX7_load_294 : decode cX7_load 294 = .ok (.iadd, 1) := by decide +kernel
theorem dX7_load_295 : decode cX7_load 295 = .ok (.iaload, 1) := by decide +kernel
theorem dX7_load_296 : decode cX7_load 296 = .ok (.if_icmp .eq 9, 3) := by decide +kernel
theorem dX7_load_299 : decode cX7_load 299 = .ok (.iinc 6 (-1), 3) := by decide +kernel
theorem dX7_load_302 : decode cX7_load 302 = .ok (.goto (-55), 3) := by decide +kernel
theorem dX7_load_305 : decode cX7_load 305 = .ok (.aload_n 0, 1) := by decide +kernel
theorem dX7_load_306 : decode cX7_load 306 = .ok (.getfield 89, 3) := by decide +kernel
theorem dX7_load_309 : decode cX7_load 309 = .ok (.iload 5, 2) := by decide +kernel
theorem dX7_load_311 : decode cX7_load 311 = .ok (.iload 6, 2) := by decide +kernel
theorem dX7_load_313 : decode cX7_load 313 = .ok (.iastore, 1) := by decide +kernel
theorem dX7_load_314 : decode cX7_load 314 = .ok (.iload 4, 2) := by decide +kernel
theorem dX7_load_316 : decode cX7_load 316 = .ok (.iload 6, 2) := by decide +kernel
theorem dX7_load_318 : decode cX7_load 318 = .ok (.aload_n 0, 1) := by decide +kernel
theorem dX7_load_319 : decode cX7_load 319 = .ok (.getfield 38, 3) := by decide +kernel
theorem dX7_load_322 : decode cX7_load 322 = .ok (.bipush 8, 2) := by decide +kernel
theorem dX7_load_324 : decode cX7_load 324 = .ok (.iload_n 1, 1) := by decide +kernel
theorem dX7_load_325 : decode cX7_load 325 = .ok (.imul, 1) := by decide +kernel
theorem dX7_load_326 : decode cX7_load 326 = .ok (.iload 5, 2) := by decide +kernel
theorem dX7_load_328 : decode cX7_load 328 = .ok (.iadd, 1) := by decide +kernel
theorem dX7_load_329 : decode cX7_load 329 = .ok (.iaload, 1) := by decide +kernel
theorem dX7_load_330 : decode cX7_load 330 = .ok (.imul, 1) := by decide +kernel
theorem dX7_load_331 : decode cX7_load 331 = .ok (.iadd, 1) := by decide +kernel
theorem dX7_load_332 : decode cX7_load 332 = .ok (.istore 4, 2) := by decide +kernel
theorem dX7_load_334 : decode cX7_load 334 = .ok (.iload_n 3, 1) := by decide +kernel
theorem dX7_load_335 : decode cX7_load 335 = .ok (.iload 6, 2) := by decide +kernel
theorem dX7_load_337 : decode cX7_load 337 = .ok (.aload_n 0, 1) := by decide +kernel
theorem dX7_load_338 : decode cX7_load 338 = .ok (.iload_n 1, 1) := by decide +kernel
theorem dX7_load_339 : decode cX7_load 339 = .ok (.iload 5, 2) := by decide +kernel
theorem dX7_load_341 : decode cX7_load 341 = .ok (.invokevirtual 166, 3) := by decide +kernel
theorem dX7_load_344 : decode cX7_load 344 = .ok (.imul, 1) := by decide +kernel
theorem dX7_load_345 : decode cX7_load 345 = .ok (.isub, 1) := by decide +kernel
theorem dX7_load_346 : decode cX7_load 346 = .ok (.istore_n 3, 1) := by decide +kernel
theorem dX7_load_347 : decode cX7_load 347 = .ok (.iinc 5 1, 3) := by decide +kernel
theorem dX7_load_350 : decode cX7_load 350 = .ok (.goto (-147), 3) := by decide +kernel
theorem dX7_load_353 : decode cX7_load 353 = .ok (.iload 4, 2) := by decide +kernel
theorem dX7_load_355 : decode cX7_load 355 = .ok (.ireturn, 1) := by decide +kernel
theorem dX7_mayTake_0 : decode cX7_mayTake 0 = .ok (.bipush 8, 2) := by decide +kernel
theorem dX7_mayTake_2 : decode cX7_mayTake 2 = .ok (.iload_n 1, 1) := by decide +kernel
theorem dX7_mayTake_3 : decode cX7_mayTake 3 = .ok (.imul, 1) := by decide +kernel
theorem dX7_mayTake_4 : decode cX7_mayTake 4 = .ok (.iload_n 2, 1) := by decide +kernel
theorem dX7_mayTake_5 : decode cX7_mayTake 5 = .ok (.iadd, 1) := by decide +kernel
theorem dX7_mayTake_6 : decode cX7_mayTake 6 = .ok (.istore_n 3, 1) := by decide +kernel
theorem dX7_mayTake_7 : decode cX7_mayTake 7 = .ok (.iload_n 2, 1) := by decide +kernel
theorem dX7_mayTake_8 : decode cX7_mayTake 8 = .ok (.aload_n 0, 1) := by decide +kernel
theorem dX7_mayTake_9 : decode cX7_mayTake 9 = .ok (.getfield 7, 3) := by decide +kernel
theorem dX7_mayTake_12 : decode cX7_mayTake 12 = .ok (.iload_n 1, 1) := by decide +kernel
theorem dX7_mayTake_13 : decode cX7_mayTake 13 = .ok (.iaload, 1) := by decide +kernel
theorem dX7_mayTake_14 : decode cX7_mayTake 14 = .ok (.if_icmp .ge 37, 3) := by decide +kernel
theorem dX7_mayTake_17 : decode cX7_mayTake 17 = .ok (.aload_n 0, 1) := by decide +kernel
theorem dX7_mayTake_18 : decode cX7_mayTake 18 = .ok (.getfield 59, 3) := by decide +kernel
theorem dX7_mayTake_21 : decode cX7_mayTake 21 = .ok (.iload_n 3, 1) := by decide +kernel
theorem dX7_mayTake_22 : decode cX7_mayTake 22 = .ok (.baload, 1) := by decide +kernel
theorem dX7_mayTake_23 : decode cX7_mayTake 23 = .ok (.ifCond .ne 28, 3) := by decide +kernel
theorem dX7_mayTake_26 : decode cX7_mayTake 26 = .ok (.aload_n 0, 1) := by decide +kernel
theorem dX7_mayTake_27 : decode cX7_mayTake 27 = .ok (.getfield 62, 3) := by decide +kernel
theorem dX7_mayTake_30 : decode cX7_mayTake 30 = .ok (.iload_n 3, 1) := by decide +kernel
theorem dX7_mayTake_31 : decode cX7_mayTake 31 = .ok (.baload, 1) := by decide +kernel
theorem dX7_mayTake_32 : decode cX7_mayTake 32 = .ok (.ifCond .ne 19, 3) := by decide +kernel
theorem dX7_mayTake_35 : decode cX7_mayTake 35 = .ok (.aload_n 0, 1) := by decide +kernel
theorem dX7_mayTake_36 : decode cX7_mayTake 36 = .ok (.getfield 41, 3) := by decide +kernel
theorem dX7_mayTake_39 : decode cX7_mayTake 39 = .ok (.iload_n 3, 1) := by decide +kernel
theorem dX7_mayTake_40 : decode cX7_mayTake 40 = .ok (.iaload, 1) := by decide +kernel
theorem dX7_mayTake_41 : decode cX7_mayTake 41 = .ok (.aload_n 0, 1) := by decide +kernel
theorem dX7_mayTake_42 : decode cX7_mayTake 42 = .ok (.getfield 44, 3) := by decide +kernel
theorem dX7_mayTake_45 : decode cX7_mayTake 45 = .ok (.iload_n 3, 1) := by decide +kernel
theorem dX7_mayTake_46 : decode cX7_mayTake 46 = .ok (.iaload, 1) := by decide +kernel
theorem dX7_mayTake_47 : decode cX7_mayTake 47 = .ok (.isub, 1) := by decide +kernel
theorem dX7_mayTake_48 : decode cX7_mayTake 48 = .ok (.goto 4, 3) := by decide +kernel
theorem dX7_mayTake_51 : decode cX7_mayTake 51 = .ok (.iconst 0, 1) := by decide +kernel
theorem dX7_mayTake_52 : decode cX7_mayTake 52 = .ok (.ireturn, 1) := by decide +kernel
theorem dX7_sizeAt_0 : decode cX7_sizeAt 0 = .ok (.aload_n 0, 1) := by decide +kernel
theorem dX7_sizeAt_1 : decode cX7_sizeAt 1 = .ok (.getfield 65, 3) := by decide +kernel
theorem dX7_sizeAt_4 : decode cX7_sizeAt 4 = .ok (.aload_n 0, 1) := by decide +kernel
theorem dX7_sizeAt_5 : decode cX7_sizeAt 5 = .ok (.getfield 35, 3) := by decide +kernel
theorem dX7_sizeAt_8 : decode cX7_sizeAt 8 = .ok (.bipush 8, 2) := by decide +kernel
theorem dX7_sizeAt_10 : decode cX7_sizeAt 10 = .ok (.iload_n 1, 1) := by decide +kernel
theorem dX7_sizeAt_11 : decode cX7_sizeAt 11 = .ok (.imul, 1) := by decide +kernel
theorem dX7_sizeAt_12 : decode cX7_sizeAt 12 = .ok (.iload_n 2, 1) := by decide +kernel
theorem dX7_sizeAt_13 : decode cX7_sizeAt 13 = .ok (.iadd, 1) := by decide +kernel
theorem dX7_sizeAt_14 : decode cX7_sizeAt 14 = .ok (.iaload, 1) := by decide +kernel
theorem dX7_sizeAt_15 : decode cX7_sizeAt 15 = .ok (.iaload, 1) := by decide +kernel
theorem dX7_sizeAt_16 : decode cX7_sizeAt 16 = .ok (.ireturn, 1) := by decide +kernel
theorem dX7_worthAt_0 : decode cX7_worthAt 0 = .ok (.iload_n 3, 1) := by decide +kernel
theorem dX7_worthAt_1 : decode cX7_worthAt 1 = .ok (.sipush 1000, 3) := by decide +kernel
theorem dX7_worthAt_4 : decode cX7_worthAt 4 = .ok (.aload_n 0, 1) := by decide +kernel
theorem dX7_worthAt_5 : decode cX7_worthAt 5 = .ok (.getfield 38, 3) := by decide +kernel
theorem dX7_worthAt_8 : decode cX7_worthAt 8 = .ok (.bipush 8, 2) := by decide +kernel
theorem dX7_worthAt_10 : decode cX7_worthAt 10 = .ok (.iload_n 1, 1) := by decide +kernel
theorem dX7_worthAt_11 : decode cX7_worthAt 11 = .ok (.imul, 1) := by decide +kernel
theorem dX7_worthAt_12 : decode cX7_worthAt 12 = .ok (.iload_n 2, 1) := by decide +kernel
theorem dX7_worthAt_13 : decode cX7_worthAt 13 = .ok (.iadd, 1) := by decide +kernel
theorem dX7_worthAt_14 : decode cX7_worthAt 14 = .ok (.iaload, 1) := by decide +kernel
theorem dX7_worthAt_15 : decode cX7_worthAt 15 = .ok (.imul, 1) := by decide +kernel
theorem dX7_worthAt_16 : decode cX7_worthAt 16 = .ok (.aload_n 0, 1) := by decide +kernel
theorem dX7_worthAt_17 : decode cX7_worthAt 17 = .ok (.iload_n 1, 1) := by decide +kernel
theorem dX7_worthAt_18 : decode cX7_worthAt 18 = .ok (.iload_n 2, 1) := by decide +kernel
theorem dX7_worthAt_19 : decode cX7_worthAt 19 = .ok (.invokevirtual 166, 3) := by decide +kernel
theorem dX7_worthAt_22 : decode cX7_worthAt 22 = .ok (.isub, 1) := by decide +kernel
theorem dX7_worthAt_23 : decode cX7_worthAt 23 = .ok (.imul, 1) := by decide +kernel
theorem dX7_worthAt_24 : decode cX7_worthAt 24 = .ok (.ireturn, 1) := by decide +kernel
theorem dX7_loaded_0 : decode cX7_loaded 0 = .ok (.iload_n 1, 1) := by decide +kernel
theorem dX7_loaded_1 : decode cX7_loaded 1 = .ok (.ifCond .ge 12, 3) := by decide +kernel
theorem dX7_loaded_4 : decode cX7_loaded 4 = .ok (.aload_n 0, 1) := by decide +kernel
theorem dX7_loaded_5 : decode cX7_loaded 5 = .ok (.bipush (-4), 2) := by decide +kernel
theorem dX7_loaded_7 : decode cX7_loaded 7 = .ok (.invokevirtual 116, 3) := by decide +kernel
theorem dX7_loaded_10 : decode cX7_loaded 10 = .ok (.goto 19, 3) := by decide +kernel
theorem dX7_loaded_13 : decode cX7_loaded 13 = .ok (.iload_n 1, 1) := by decide +kernel
theorem dX7_loaded_14 : decode cX7_loaded 14 = .ok (.bipush 8, 2) := by decide +kernel
theorem dX7_loaded_16 : decode cX7_loaded 16 = .ok (.if_icmp .ge 12, 3) := by decide +kernel
theorem dX7_loaded_19 : decode cX7_loaded 19 = .ok (.aload_n 0, 1) := by decide +kernel
theorem dX7_loaded_20 : decode cX7_loaded 20 = .ok (.getfield 89, 3) := by decide +kernel
theorem dX7_loaded_23 : decode cX7_loaded 23 = .ok (.iload_n 1, 1) := by decide +kernel
theorem dX7_loaded_24 : decode cX7_loaded 24 = .ok (.iaload, 1) := by decide +kernel
theorem dX7_loaded_25 : decode cX7_loaded 25 = .ok (.goto 4, 3) := by decide +kernel
theorem dX7_loaded_28 : decode cX7_loaded 28 = .ok (.iconst 0, 1) := by decide +kernel
theorem dX7_loaded_29 : decode cX7_loaded 29 = .ok (.ireturn, 1) := by decide +kernel
theorem dX7_laneOf_0 : decode cX7_laneOf 0 = .ok (.aload_n 0, 1) := by decide +kernel
theorem dX7_laneOf_1 : decode cX7_laneOf 1 = .ok (.iload_n 1, 1) := by decide +kernel
theorem dX7_laneOf_2 : decode cX7_laneOf 2 = .ok (.iload_n 2, 1) := by decide +kernel
theorem dX7_laneOf_3 : decode cX7_laneOf 3 = .ok (.invokevirtual 123, 3) := by decide +kernel
theorem dX7_laneOf_6 : decode cX7_laneOf 6 = .ok (.ifCond .ne 9, 3) := by decide +kernel
theorem dX7_laneOf_9 : decode cX7_laneOf 9 = .ok (.aload_n 0, 1) := by decide +kernel
theorem dX7_laneOf_10 : decode cX7_laneOf 10 = .ok (.iconst (-1), 1) := by decide +kernel
theorem dX7_laneOf_11 : decode cX7_laneOf 11 = .ok (.invokevirtual 116, 3) := by decide +kernel
theorem dX7_laneOf_14 : decode cX7_laneOf 14 = .ok (.ireturn, 1) := by decide +kernel
theorem dX7_laneOf_15 : decode cX7_laneOf 15 = .ok (.bipush 8, 2) := by decide +kernel
theorem dX7_laneOf_17 : decode cX7_laneOf 17 = .ok (.iload_n 1, 1) := by decide +kernel
theorem dX7_laneOf_18 : decode cX7_laneOf 18 = .ok (.imul, 1) := by decide +kernel
theorem dX7_laneOf_19 : decode cX7_laneOf 19 = .ok (.iload_n 2, 1) := by decide +kernel
theorem dX7_laneOf_20 : decode cX7_laneOf 20 = .ok (.iadd, 1) := by decide +kernel
theorem dX7_laneOf_21 : decode cX7_laneOf 21 = .ok (.istore 4, 2) := by decide +kernel
theorem dX7_laneOf_23 : decode cX7_laneOf 23 = .ok (.iload_n 3, 1) := by decide +kernel
theorem dX7_laneOf_24 : decode cX7_laneOf 24 = .ok (.tableswitch 147 0 8 #[52, 60, 68, 76, 84, 92, 108, 116, 132], 52) := by decide +kernel
theorem dX7_laneOf_76 : decode cX7_laneOf 76 = .ok (.aload_n 0, 1) := by decide +kernel
theorem dX7_laneOf_77 : decode cX7_laneOf 77 = .ok (.getfield 35, 3) := by decide +kernel
theorem dX7_laneOf_80 : decode cX7_laneOf 80 = .ok (.iload 4, 2) := by decide +kernel
theorem dX7_laneOf_82 : decode cX7_laneOf 82 = .ok (.iaload, 1) := by decide +kernel
theorem dX7_laneOf_83 : decode cX7_laneOf 83 = .ok (.ireturn, 1) := by decide +kernel
theorem dX7_laneOf_84 : decode cX7_laneOf 84 = .ok (.aload_n 0, 1) := by decide +kernel
theorem dX7_laneOf_85 : decode cX7_laneOf 85 = .ok (.getfield 38, 3) := by decide +kernel
theorem dX7_laneOf_88 : decode cX7_laneOf 88 = .ok (.iload 4, 2) := by decide +kernel
theorem dX7_laneOf_90 : decode cX7_laneOf 90 = .ok (.iaload, 1) := by decide +kernel
theorem dX7_laneOf_91 : decode cX7_laneOf 91 = .ok (.ireturn, 1) := by decide +kernel
theorem dX7_laneOf_92 : decode cX7_laneOf 92 = .ok (.aload_n 0, 1) := by decide +kernel
theorem dX7_laneOf_93 : decode cX7_laneOf 93 = .ok (.getfield 41, 3) := by decide +kernel
theorem dX7_laneOf_96 : decode cX7_laneOf 96 = .ok (.iload 4, 2) := by decide +kernel
theorem dX7_laneOf_98 : decode cX7_laneOf 98 = .ok (.iaload, 1) := by decide +kernel
theorem dX7_laneOf_99 : decode cX7_laneOf 99 = .ok (.ireturn, 1) := by decide +kernel
theorem dX7_laneOf_100 : decode cX7_laneOf 100 = .ok (.aload_n 0, 1) := by decide +kernel
theorem dX7_laneOf_101 : decode cX7_laneOf 101 = .ok (.getfield 44, 3) := by decide +kernel
theorem dX7_laneOf_104 : decode cX7_laneOf 104 = .ok (.iload 4, 2) := by decide +kernel
theorem dX7_laneOf_106 : decode cX7_laneOf 106 = .ok (.iaload, 1) := by decide +kernel
theorem dX7_laneOf_107 : decode cX7_laneOf 107 = .ok (.ireturn, 1) := by decide +kernel
theorem dX7_laneOf_108 : decode cX7_laneOf 108 = .ok (.aload_n 0, 1) := by decide +kernel
theorem dX7_laneOf_109 : decode cX7_laneOf 109 = .ok (.getfield 47, 3) := by decide +kernel
theorem dX7_laneOf_112 : decode cX7_laneOf 112 = .ok (.iload 4, 2) := by decide +kernel
theorem dX7_laneOf_114 : decode cX7_laneOf 114 = .ok (.iaload, 1) := by decide +kernel
theorem dX7_laneOf_115 : decode cX7_laneOf 115 = .ok (.ireturn, 1) := by decide +kernel
theorem dX7_laneOf_116 : decode cX7_laneOf 116 = .ok (.aload_n 0, 1) := by decide +kernel
theorem dX7_laneOf_117 : decode cX7_laneOf 117 = .ok (.getfield 59, 3) := by decide +kernel
theorem dX7_laneOf_120 : decode cX7_laneOf 120 = .ok (.iload 4, 2) := by decide +kernel
theorem dX7_laneOf_122 : decode cX7_laneOf 122 = .ok (.baload, 1) := by decide +kernel
theorem dX7_laneOf_123 : decode cX7_laneOf 123 = .ok (.ifCond .eq 7, 3) := by decide +kernel
theorem dX7_laneOf_126 : decode cX7_laneOf 126 = .ok (.iconst 1, 1) := by decide +kernel
theorem dX7_laneOf_127 : decode cX7_laneOf 127 = .ok (.goto 4, 3) := by decide +kernel
theorem dX7_laneOf_130 : decode cX7_laneOf 130 = .ok (.iconst 0, 1) := by decide +kernel
theorem dX7_laneOf_131 : decode cX7_laneOf 131 = .ok (.ireturn, 1) := by decide +kernel
theorem dX7_laneOf_132 : decode cX7_laneOf 132 = .ok (.aload_n 0, 1) := by decide +kernel
theorem dX7_laneOf_133 : decode cX7_laneOf 133 = .ok (.getfield 56, 3) := by decide +kernel
theorem dX7_laneOf_136 : decode cX7_laneOf 136 = .ok (.iload 4, 2) := by decide +kernel
theorem dX7_laneOf_138 : decode cX7_laneOf 138 = .ok (.iaload, 1) := by decide +kernel
theorem dX7_laneOf_139 : decode cX7_laneOf 139 = .ok (.ireturn, 1) := by decide +kernel
theorem dX7_laneOf_140 : decode cX7_laneOf 140 = .ok (.aload_n 0, 1) := by decide +kernel
theorem dX7_laneOf_141 : decode cX7_laneOf 141 = .ok (.getfield 62, 3) := by decide +kernel
theorem dX7_laneOf_144 : decode cX7_laneOf 144 = .ok (.iload 4, 2) := by decide +kernel
theorem dX7_laneOf_146 : decode cX7_laneOf 146 = .ok (.baload, 1) := by decide +kernel
theorem dX7_laneOf_147 : decode cX7_laneOf 147 = .ok (.ifCond .eq 7, 3) := by decide +kernel
theorem dX7_laneOf_150 : decode cX7_laneOf 150 = .ok (.iconst 1, 1) := by decide +kernel
theorem dX7_laneOf_151 : decode cX7_laneOf 151 = .ok (.goto 4, 3) := by decide +kernel
theorem dX7_laneOf_154 : decode cX7_laneOf 154 = .ok (.iconst 0, 1) := by decide +kernel
theorem dX7_laneOf_155 : decode cX7_laneOf 155 = .ok (.ireturn, 1) := by decide +kernel
theorem dX7_laneOf_156 : decode cX7_laneOf 156 = .ok (.aload_n 0, 1) := by decide +kernel
theorem dX7_laneOf_157 : decode cX7_laneOf 157 = .ok (.iload_n 1, 1) := by decide +kernel
theorem dX7_laneOf_158 : decode cX7_laneOf 158 = .ok (.iload_n 2, 1) := by decide +kernel
theorem dX7_laneOf_159 : decode cX7_laneOf 159 = .ok (.invokevirtual 147, 3) := by decide +kernel
theorem dX7_laneOf_162 : decode cX7_laneOf 162 = .ok (.ifCond .eq 7, 3) := by decide +kernel
theorem dX7_laneOf_165 : decode cX7_laneOf 165 = .ok (.iconst 1, 1) := by decide +kernel
theorem dX7_laneOf_166 : decode cX7_laneOf 166 = .ok (.goto 4, 3) := by decide +kernel
theorem dX7_laneOf_169 : decode cX7_laneOf 169 = .ok (.iconst 0, 1) := by decide +kernel
theorem dX7_laneOf_170 : decode cX7_laneOf 170 = .ok (.ireturn, 1) := by decide +kernel
theorem dX7_laneOf_171 : decode cX7_laneOf 171 = .ok (.aload_n 0, 1) := by decide +kernel
theorem dX7_laneOf_172 : decode cX7_laneOf 172 = .ok (.bipush (-2), 2) := by decide +kernel
theorem dX7_laneOf_174 : decode cX7_laneOf 174 = .ok (.invokevirtual 116, 3) := by decide +kernel
theorem dX7_laneOf_177 : decode cX7_laneOf 177 = .ok (.ireturn, 1) := by decide +kernel
theorem dX7_machineOf_0 : decode cX7_machineOf 0 = .ok (.aload_n 0, 1) := by decide +kernel
theorem dX7_machineOf_1 : decode cX7_machineOf 1 = .ok (.iload_n 1, 1) := by decide +kernel
theorem dX7_machineOf_2 : decode cX7_machineOf 2 = .ok (.invokevirtual 112, 3) := by decide +kernel
theorem dX7_machineOf_5 : decode cX7_machineOf 5 = .ok (.ifCond .eq 13, 3) := by decide +kernel
theorem dX7_machineOf_8 : decode cX7_machineOf 8 = .ok (.iload_n 2, 1) := by decide +kernel
theorem dX7_machineOf_9 : decode cX7_machineOf 9 = .ok (.iconst 0, 1) := by decide +kernel
theorem dX7_machineOf_10 : decode cX7_machineOf 10 = .ok (.bipush 8, 2) := by decide +kernel
theorem dX7_machineOf_12 : decode cX7_machineOf 12 = .ok (.invokestatic 108, 3) := by decide +kernel
theorem dX7_machineOf_15 : decode cX7_machineOf 15 = .ok (.ifCond .ne 25, 3) := by decide +kernel
theorem dX7_machineOf_18 : decode cX7_machineOf 18 = .ok (.ldc 172, 2) := by decide +kernel
theorem dX7_machineOf_20 : decode cX7_machineOf 20 = .ok (.aload_n 0, 1) := by decide +kernel
theorem dX7_machineOf_21 : decode cX7_machineOf 21 = .ok (.aload_n 0, 1) := by decide +kernel
theorem dX7_machineOf_22 : decode cX7_machineOf 22 = .ok (.iload_n 1, 1) := by decide +kernel
theorem dX7_machineOf_23 : decode cX7_machineOf 23 = .ok (.invokevirtual 112, 3) := by decide +kernel
theorem dX7_machineOf_26 : decode cX7_machineOf 26 = .ok (.ifCond .eq 8, 3) := by decide +kernel
theorem dX7_machineOf_29 : decode cX7_machineOf 29 = .ok (.bipush (-2), 2) := by decide +kernel
theorem dX7_machineOf_31 : decode cX7_machineOf 31 = .ok (.goto 4, 3) := by decide +kernel
theorem dX7_machineOf_34 : decode cX7_machineOf 34 = .ok (.iconst (-1), 1) := by decide +kernel
theorem dX7_machineOf_35 : decode cX7_machineOf 35 = .ok (.invokevirtual 116, 3) := by decide +kernel
theorem dX7_machineOf_38 : decode cX7_machineOf 38 = .ok (.isub, 1) := by decide +kernel
theorem dX7_machineOf_39 : decode cX7_machineOf 39 = .ok (.ireturn, 1) := by decide +kernel
theorem dX7_machineOf_40 : decode cX7_machineOf 40 = .ok (.iload_n 2, 1) := by decide +kernel
theorem dX7_machineOf_41 : decode cX7_machineOf 41 = .ok (.tableswitch 112 0 7 #[47, 54, 64, 74, 84, 91, 98, 105], 47) := by decide +kernel
theorem dX7_machineOf_88 : decode cX7_machineOf 88 = .ok (.aload_n 0, 1) := by decide +kernel
theorem dX7_machineOf_89 : decode cX7_machineOf 89 = .ok (.getfield 7, 3) := by decide +kernel
theorem dX7_machineOf_92 : decode cX7_machineOf 92 = .ok (.iload_n 1, 1) := by decide +kernel
theorem dX7_machineOf_93 : decode cX7_machineOf 93 = .ok (.iaload, 1) := by decide +kernel
theorem dX7_machineOf_94 : decode cX7_machineOf 94 = .ok (.ireturn, 1) := by decide +kernel
theorem dX7_machineOf_95 : decode cX7_machineOf 95 = .ok (.aload_n 0, 1) := by decide +kernel
theorem dX7_machineOf_96 : decode cX7_machineOf 96 = .ok (.aload_n 0, 1) := by decide +kernel
theorem dX7_machineOf_97 : decode cX7_machineOf 97 = .ok (.getfield 13, 3) := by decide +kernel
theorem dX7_machineOf_100 : decode cX7_machineOf 100 = .ok (.iload_n 1, 1) := by decide +kernel
theorem dX7_machineOf_101 : decode cX7_machineOf 101 = .ok (.invokevirtual 136, 3) := by decide +kernel
theorem dX7_machineOf_104 : decode cX7_machineOf 104 = .ok (.ireturn, 1) := by decide +kernel
theorem dX7_machineOf_105 : decode cX7_machineOf 105 = .ok (.aload_n 0, 1) := by decide +kernel
theorem dX7_machineOf_106 : decode cX7_machineOf 106 = .ok (.aload_n 0, 1) := by decide +kernel
theorem dX7_machineOf_107 : decode cX7_machineOf 107 = .ok (.getfield 16, 3) := by decide +kernel
theorem dX7_machineOf_110 : decode cX7_machineOf 110 = .ok (.iload_n 1, 1) := by decide +kernel
theorem dX7_machineOf_111 : decode cX7_machineOf 111 = .ok (.invokevirtual 136, 3) := by decide +kernel
theorem dX7_machineOf_114 : decode cX7_machineOf 114 = .ok (.ireturn, 1) := by decide +kernel
theorem dX7_machineOf_115 : decode cX7_machineOf 115 = .ok (.aload_n 0, 1) := by decide +kernel
theorem dX7_machineOf_116 : decode cX7_machineOf 116 = .ok (.aload_n 0, 1) := by decide +kernel
theorem dX7_machineOf_117 : decode cX7_machineOf 117 = .ok (.getfield 19, 3) := by decide +kernel
theorem dX7_machineOf_120 : decode cX7_machineOf 120 = .ok (.iload_n 1, 1) := by decide +kernel
theorem dX7_machineOf_121 : decode cX7_machineOf 121 = .ok (.invokevirtual 136, 3) := by decide +kernel
theorem dX7_machineOf_124 : decode cX7_machineOf 124 = .ok (.ireturn, 1) := by decide +kernel
theorem dX7_machineOf_125 : decode cX7_machineOf 125 = .ok (.aload_n 0, 1) := by decide +kernel
theorem dX7_machineOf_126 : decode cX7_machineOf 126 = .ok (.getfield 74, 3) := by decide +kernel
theorem dX7_machineOf_129 : decode cX7_machineOf 129 = .ok (.iload_n 1, 1) := by decide +kernel
theorem dX7_machineOf_130 : decode cX7_machineOf 130 = .ok (.iaload, 1) := by decide +kernel
theorem dX7_machineOf_131 : decode cX7_machineOf 131 = .ok (.ireturn, 1) := by decide +kernel
theorem dX7_machineOf_132 : decode cX7_machineOf 132 = .ok (.aload_n 0, 1) := by decide +kernel
theorem dX7_machineOf_133 : decode cX7_machineOf 133 = .ok (.getfield 77, 3) := by decide +kernel
theorem dX7_machineOf_136 : decode cX7_machineOf 136 = .ok (.iload_n 1, 1) := by decide +kernel
theorem dX7_machineOf_137 : decode cX7_machineOf 137 = .ok (.iaload, 1) := by decide +kernel
theorem dX7_machineOf_138 : decode cX7_machineOf 138 = .ok (.ireturn, 1) := by decide +kernel
theorem dX7_machineOf_139 : decode cX7_machineOf 139 = .ok (.aload_n 0, 1) := by decide +kernel
theorem dX7_machineOf_140 : decode cX7_machineOf 140 = .ok (.getfield 80, 3) := by decide +kernel
theorem dX7_machineOf_143 : decode cX7_machineOf 143 = .ok (.iload_n 1, 1) := by decide +kernel
theorem dX7_machineOf_144 : decode cX7_machineOf 144 = .ok (.iaload, 1) := by decide +kernel
theorem dX7_machineOf_145 : decode cX7_machineOf 145 = .ok (.ireturn, 1) := by decide +kernel
theorem dX7_machineOf_146 : decode cX7_machineOf 146 = .ok (.aload_n 0, 1) := by decide +kernel
theorem dX7_machineOf_147 : decode cX7_machineOf 147 = .ok (.getfield 83, 3) := by decide +kernel
theorem dX7_machineOf_150 : decode cX7_machineOf 150 = .ok (.iload_n 1, 1) := by decide +kernel
theorem dX7_machineOf_151 : decode cX7_machineOf 151 = .ok (.iaload, 1) := by decide +kernel
theorem dX7_machineOf_152 : decode cX7_machineOf 152 = .ok (.ireturn, 1) := by decide +kernel
theorem dX7_machineOf_153 : decode cX7_machineOf 153 = .ok (.aload_n 0, 1) := by decide +kernel
theorem dX7_machineOf_154 : decode cX7_machineOf 154 = .ok (.getfield 32, 3) := by decide +kernel
theorem dX7_machineOf_157 : decode cX7_machineOf 157 = .ok (.iload_n 1, 1) := by decide +kernel
theorem dX7_machineOf_158 : decode cX7_machineOf 158 = .ok (.iaload, 1) := by decide +kernel
theorem dX7_machineOf_159 : decode cX7_machineOf 159 = .ok (.ireturn, 1) := by decide +kernel
theorem dX7_tubeOf_0 : decode cX7_tubeOf 0 = .ok (.aload_n 0, 1) := by decide +kernel
theorem dX7_tubeOf_1 : decode cX7_tubeOf 1 = .ok (.iload_n 1, 1) := by decide +kernel
theorem dX7_tubeOf_2 : decode cX7_tubeOf 2 = .ok (.invokevirtual 112, 3) := by decide +kernel
theorem dX7_tubeOf_5 : decode cX7_tubeOf 5 = .ok (.ifCond .eq 26, 3) := by decide +kernel
theorem dX7_tubeOf_8 : decode cX7_tubeOf 8 = .ok (.iload_n 2, 1) := by decide +kernel
theorem dX7_tubeOf_9 : decode cX7_tubeOf 9 = .ok (.iconst 0, 1) := by decide +kernel
theorem dX7_tubeOf_10 : decode cX7_tubeOf 10 = .ok (.iconst 5, 1) := by decide +kernel
theorem dX7_tubeOf_11 : decode cX7_tubeOf 11 = .ok (.invokestatic 108, 3) := by decide +kernel
theorem dX7_tubeOf_14 : decode cX7_tubeOf 14 = .ok (.ifCond .eq 17, 3) := by decide +kernel
theorem dX7_tubeOf_17 : decode cX7_tubeOf 17 = .ok (.aload_n 0, 1) := by decide +kernel
theorem dX7_tubeOf_18 : decode cX7_tubeOf 18 = .ok (.getfield 13, 3) := by decide +kernel
theorem dX7_tubeOf_21 : decode cX7_tubeOf 21 = .ok (.bipush 6, 2) := by decide +kernel
theorem dX7_tubeOf_23 : decode cX7_tubeOf 23 = .ok (.iload_n 1, 1) := by decide +kernel
theorem dX7_tubeOf_24 : decode cX7_tubeOf 24 = .ok (.imul, 1) := by decide +kernel
theorem dX7_tubeOf_25 : decode cX7_tubeOf 25 = .ok (.iload_n 2, 1) := by decide +kernel
theorem dX7_tubeOf_26 : decode cX7_tubeOf 26 = .ok (.iadd, 1) := by decide +kernel
theorem dX7_tubeOf_27 : decode cX7_tubeOf 27 = .ok (.iaload, 1) := by decide +kernel
theorem dX7_tubeOf_28 : decode cX7_tubeOf 28 = .ok (.goto 8, 3) := by decide +kernel
theorem dX7_tubeOf_31 : decode cX7_tubeOf 31 = .ok (.aload_n 0, 1) := by decide +kernel
theorem dX7_tubeOf_32 : decode cX7_tubeOf 32 = .ok (.iconst (-1), 1) := by decide +kernel
theorem dX7_tubeOf_33 : decode cX7_tubeOf 33 = .ok (.invokevirtual 116, 3) := by decide +kernel
theorem dX7_tubeOf_36 : decode cX7_tubeOf 36 = .ok (.ireturn, 1) := by decide +kernel
theorem dX7_collect_0 : decode cX7_collect 0 = .ok (.aload_n 0, 1) := by decide +kernel
theorem dX7_collect_1 : decode cX7_collect 1 = .ok (.iload_n 1, 1) := by decide +kernel
theorem dX7_collect_2 : decode cX7_collect 2 = .ok (.invokevirtual 112, 3) := by decide +kernel
theorem dX7_collect_5 : decode cX7_collect 5 = .ok (.ifCond .ne 9, 3) := by decide +kernel
theorem dX7_collect_8 : decode cX7_collect 8 = .ok (.aload_n 0, 1) := by decide +kernel
theorem dX7_collect_9 : decode cX7_collect 9 = .ok (.iconst (-1), 1) := by decide +kernel
theorem dX7_collect_10 : decode cX7_collect 10 = .ok (.invokevirtual 116, 3) := by decide +kernel
theorem dX7_collect_13 : decode cX7_collect 13 = .ok (.ireturn, 1) := by decide +kernel
theorem dX7_collect_14 : decode cX7_collect 14 = .ok (.aload_n 0, 1) := by decide +kernel
theorem dX7_collect_15 : decode cX7_collect 15 = .ok (.aload_n 0, 1) := by decide +kernel
theorem dX7_collect_16 : decode cX7_collect 16 = .ok (.getfield 16, 3) := by decide +kernel
theorem dX7_collect_19 : decode cX7_collect 19 = .ok (.iload_n 1, 1) := by decide +kernel
theorem dX7_collect_20 : decode cX7_collect 20 = .ok (.invokevirtual 136, 3) := by decide +kernel
theorem dX7_collect_23 : decode cX7_collect 23 = .ok (.istore_n 2, 1) := by decide +kernel
theorem dX7_collect_24 : decode cX7_collect 24 = .ok (.bipush 6, 2) := by decide +kernel
theorem dX7_collect_26 : decode cX7_collect 26 = .ok (.iload_n 1, 1) := by decide +kernel
theorem dX7_collect_27 : decode cX7_collect 27 = .ok (.imul, 1) := by decide +kernel
theorem dX7_collect_28 : decode cX7_collect 28 = .ok (.istore_n 3, 1) := by decide +kernel
theorem dX7_collect_29 : decode cX7_collect 29 = .ok (.iload_n 3, 1) := by decide +kernel
theorem dX7_collect_30 : decode cX7_collect 30 = .ok (.bipush 6, 2) := by decide +kernel
theorem dX7_collect_32 : decode cX7_collect 32 = .ok (.iload_n 1, 1) := by decide +kernel
theorem dX7_collect_33 : decode cX7_collect 33 = .ok (.imul, 1) := by decide +kernel
theorem dX7_collect_34 : decode cX7_collect 34 = .ok (.bipush 6, 2) := by decide +kernel
theorem dX7_collect_36 : decode cX7_collect 36 = .ok (.iadd, 1) := by decide +kernel
theorem dX7_collect_37 : decode cX7_collect 37 = .ok (.if_icmp .ge 31, 3) := by decide +kernel
theorem dX7_collect_40 : decode cX7_collect 40 = .ok (.aload_n 0, 1) := by decide +kernel
theorem dX7_collect_41 : decode cX7_collect 41 = .ok (.getfield 25, 3) := by decide +kernel
theorem dX7_collect_44 : decode cX7_collect 44 = .ok (.iload_n 3, 1) := by decide +kernel
theorem dX7_collect_45 : decode cX7_collect 45 = .ok (.dup2, 1) := by decide +kernel
theorem dX7_collect_46 : decode cX7_collect 46 = .ok (.iaload, 1) := by decide +kernel
theorem dX7_collect_47 : decode cX7_collect 47 = .ok (.aload_n 0, 1) := by decide +kernel
theorem dX7_collect_48 : decode cX7_collect 48 = .ok (.getfield 16, 3) := by decide +kernel
theorem dX7_collect_51 : decode cX7_collect 51 = .ok (.iload_n 3, 1) := by decide +kernel
theorem dX7_collect_52 : decode cX7_collect 52 = .ok (.iaload, 1) := by decide +kernel
theorem dX7_collect_53 : decode cX7_collect 53 = .ok (.iadd, 1) := by decide +kernel
theorem dX7_collect_54 : decode cX7_collect 54 = .ok (.iastore, 1) := by decide +kernel
theorem dX7_collect_55 : decode cX7_collect 55 = .ok (.aload_n 0, 1) := by decide +kernel
theorem dX7_collect_56 : decode cX7_collect 56 = .ok (.getfield 16, 3) := by decide +kernel
theorem dX7_collect_59 : decode cX7_collect 59 = .ok (.iload_n 3, 1) := by decide +kernel
theorem dX7_collect_60 : decode cX7_collect 60 = .ok (.iconst 0, 1) := by decide +kernel
theorem dX7_collect_61 : decode cX7_collect 61 = .ok (.iastore, 1) := by decide +kernel
theorem dX7_collect_62 : decode cX7_collect 62 = .ok (.iinc 3 1, 3) := by decide +kernel
theorem dX7_collect_65 : decode cX7_collect 65 = .ok (.goto (-36), 3) := by decide +kernel
theorem dX7_collect_68 : decode cX7_collect 68 = .ok (.iload_n 2, 1) := by decide +kernel
theorem dX7_collect_69 : decode cX7_collect 69 = .ok (.ireturn, 1) := by decide +kernel
theorem dX7_check_0 : decode cX7_check 0 = .ok (.aload_n 0, 1) := by decide +kernel
theorem dX7_check_1 : decode cX7_check 1 = .ok (.iload_n 1, 1) := by decide +kernel
theorem dX7_check_2 : decode cX7_check 2 = .ok (.invokevirtual 112, 3) := by decide +kernel
theorem dX7_check_5 : decode cX7_check 5 = .ok (.ifCond .ne 5, 3) := by decide +kernel
theorem dX7_check_8 : decode cX7_check 8 = .ok (.iconst 0, 1) := by decide +kernel
theorem dX7_check_9 : decode cX7_check 9 = .ok (.ireturn, 1) := by decide +kernel
theorem dX7_check_10 : decode cX7_check 10 = .ok (.aload_n 0, 1) := by decide +kernel
theorem dX7_check_11 : decode cX7_check 11 = .ok (.getfield 80, 3) := by decide +kernel
theorem dX7_check_14 : decode cX7_check 14 = .ok (.iload_n 1, 1) := by decide +kernel
theorem dX7_check_15 : decode cX7_check 15 = .ok (.iaload, 1) := by decide +kernel
theorem dX7_check_16 : decode cX7_check 16 = .ok (.aload_n 0, 1) := by decide +kernel
theorem dX7_check_17 : decode cX7_check 17 = .ok (.getfield 77, 3) := by decide +kernel
theorem dX7_check_20 : decode cX7_check 20 = .ok (.iload_n 1, 1) := by decide +kernel
theorem dX7_check_21 : decode cX7_check 21 = .ok (.iaload, 1) := by decide +kernel
theorem dX7_check_22 : decode cX7_check 22 = .ok (.iadd, 1) := by decide +kernel
theorem dX7_check_23 : decode cX7_check 23 = .ok (.aload_n 0, 1) := by decide +kernel
theorem dX7_check_24 : decode cX7_check 24 = .ok (.getfield 74, 3) := by decide +kernel
theorem dX7_check_27 : decode cX7_check 27 = .ok (.iload_n 1, 1) := by decide +kernel
theorem dX7_check_28 : decode cX7_check 28 = .ok (.iaload, 1) := by decide +kernel
theorem dX7_check_29 : decode cX7_check 29 = .ok (.iadd, 1) := by decide +kernel
theorem dX7_check_30 : decode cX7_check 30 = .ok (.istore_n 2, 1) := by decide +kernel
theorem dX7_check_31 : decode cX7_check 31 = .ok (.bipush 8, 2) := by decide +kernel
theorem dX7_check_33 : decode cX7_check 33 = .ok (.iload_n 1, 1) := by decide +kernel
theorem dX7_check_34 : decode cX7_check 34 = .ok (.imul, 1) := by decide +kernel
theorem dX7_check_35 : decode cX7_check 35 = .ok (.istore_n 3, 1) := by decide +kernel
theorem dX7_check_36 : decode cX7_check 36 = .ok (.iload_n 3, 1) := by decide +kernel
theorem dX7_check_37 : decode cX7_check 37 = .ok (.bipush 8, 2) := by decide +kernel
theorem dX7_check_39 : decode cX7_check 39 = .ok (.iload_n 1, 1) := by decide +kernel
theorem dX7_check_40 : decode cX7_check 40 = .ok (.imul, 1) := by decide +kernel
theorem dX7_check_41 : decode cX7_check 41 = .ok (.aload_n 0, 1) := by decide +kernel
theorem dX7_check_42 : decode cX7_check 42 = .ok (.getfield 7, 3) := by decide +kernel
theorem dX7_check_45 : decode cX7_check 45 = .ok (.iload_n 1, 1) := by decide +kernel
theorem dX7_check_46 : decode cX7_check 46 = .ok (.iaload, 1) := by decide +kernel
theorem dX7_check_47 : decode cX7_check 47 = .ok (.iadd, 1) := by decide +kernel
theorem dX7_check_48 : decode cX7_check 48 = .ok (.if_icmp .ge 18, 3) := by decide +kernel
theorem dX7_check_51 : decode cX7_check 51 = .ok (.iload_n 2, 1) := by decide +kernel
theorem dX7_check_52 : decode cX7_check 52 = .ok (.aload_n 0, 1) := by decide +kernel
theorem dX7_check_53 : decode cX7_check 53 = .ok (.getfield 44, 3) := by decide +kernel
theorem dX7_check_56 : decode cX7_check 56 = .ok (.iload_n 3, 1) := by decide +kernel
theorem dX7_check_57 : decode cX7_check 57 = .ok (.iaload, 1) := by decide +kernel
theorem dX7_check_58 : decode cX7_check 58 = .ok (.iadd, 1) := by decide +kernel
theorem dX7_check_59 : decode cX7_check 59 = .ok (.istore_n 2, 1) := by decide +kernel
theorem dX7_check_60 : decode cX7_check 60 = .ok (.iinc 3 1, 3) := by decide +kernel
theorem dX7_check_63 : decode cX7_check 63 = .ok (.goto (-27), 3) := by decide +kernel
theorem dX7_check_66 : decode cX7_check 66 = .ok (.iload_n 2, 1) := by decide +kernel
theorem dX7_check_67 : decode cX7_check 67 = .ok (.aload_n 0, 1) := by decide +kernel
theorem dX7_check_68 : decode cX7_check 68 = .ok (.getfield 83, 3) := by decide +kernel
theorem dX7_check_71 : decode cX7_check 71 = .ok (.iload_n 1, 1) := by decide +kernel
theorem dX7_check_72 : decode cX7_check 72 = .ok (.iaload, 1) := by decide +kernel
theorem dX7_check_73 : decode cX7_check 73 = .ok (.if_icmp .ne 7, 3) := by decide +kernel
theorem dX7_check_76 : decode cX7_check 76 = .ok (.iconst 1, 1) := by decide +kernel
theorem dX7_check_77 : decode cX7_check 77 = .ok (.goto 4, 3) := by decide +kernel
theorem dX7_check_80 : decode cX7_check 80 = .ok (.iconst 0, 1) := by decide +kernel
theorem dX7_check_81 : decode cX7_check 81 = .ok (.istore_n 3, 1) := by decide +kernel
theorem dX7_check_82 : decode cX7_check 82 = .ok (.bipush 6, 2) := by decide +kernel
theorem dX7_check_84 : decode cX7_check 84 = .ok (.iload_n 1, 1) := by decide +kernel
theorem dX7_check_85 : decode cX7_check 85 = .ok (.imul, 1) := by decide +kernel
theorem dX7_check_86 : decode cX7_check 86 = .ok (.istore 4, 2) := by decide +kernel
theorem dX7_check_88 : decode cX7_check 88 = .ok (.iload 4, 2) := by decide +kernel
theorem dX7_check_90 : decode cX7_check 90 = .ok (.bipush 6, 2) := by decide +kernel
theorem dX7_check_92 : decode cX7_check 92 = .ok (.iload_n 1, 1) := by decide +kernel
theorem dX7_check_93 : decode cX7_check 93 = .ok (.imul, 1) := by decide +kernel
theorem dX7_check_94 : decode cX7_check 94 = .ok (.bipush 6, 2) := by decide +kernel
theorem dX7_check_96 : decode cX7_check 96 = .ok (.iadd, 1) := by decide +kernel
theorem dX7_check_97 : decode cX7_check 97 = .ok (.if_icmp .ge 60, 3) := by decide +kernel
theorem dX7_check_100 : decode cX7_check 100 = .ok (.iload_n 3, 1) := by decide +kernel
theorem dX7_check_101 : decode cX7_check 101 = .ok (.ifCond .eq 48, 3) := by decide +kernel
theorem dX7_check_104 : decode cX7_check 104 = .ok (.aload_n 0, 1) := by decide +kernel
theorem dX7_check_105 : decode cX7_check 105 = .ok (.getfield 22, 3) := by decide +kernel
theorem dX7_check_108 : decode cX7_check 108 = .ok (.iload 4, 2) := by decide +kernel
theorem dX7_check_110 : decode cX7_check 110 = .ok (.iaload, 1) := by decide +kernel
theorem dX7_check_111 : decode cX7_check 111 = .ok (.aload_n 0, 1) := by decide +kernel
theorem dX7_check_112 : decode cX7_check 112 = .ok (.getfield 13, 3) := by decide +kernel
theorem dX7_check_115 : decode cX7_check 115 = .ok (.iload 4, 2) := by decide +kernel
theorem dX7_check_117 : decode cX7_check 117 = .ok (.iaload, 1) := by decide +kernel
theorem dX7_check_118 : decode cX7_check 118 = .ok (.aload_n 0, 1) := by decide +kernel
theorem dX7_check_119 : decode cX7_check 119 = .ok (.getfield 16, 3) := by decide +kernel
theorem dX7_check_122 : decode cX7_check 122 = .ok (.iload 4, 2) := by decide +kernel
theorem dX7_check_124 : decode cX7_check 124 = .ok (.iaload, 1) := by decide +kernel
theorem dX7_check_125 : decode cX7_check 125 = .ok (.iadd, 1) := by decide +kernel
theorem dX7_check_126 : decode cX7_check 126 = .ok (.aload_n 0, 1) := by decide +kernel
theorem dX7_check_127 : decode cX7_check 127 = .ok (.getfield 19, 3) := by decide +kernel
theorem dX7_check_130 : decode cX7_check 130 = .ok (.iload 4, 2) := by decide +kernel
theorem dX7_check_132 : decode cX7_check 132 = .ok (.iaload, 1) := by decide +kernel
theorem dX7_check_133 : decode cX7_check 133 = .ok (.iadd, 1) := by decide +kernel
theorem dX7_check_134 : decode cX7_check 134 = .ok (.aload_n 0, 1) := by decide +kernel
theorem dX7_check_135 : decode cX7_check 135 = .ok (.getfield 25, 3) := by decide +kernel
theorem dX7_check_138 : decode cX7_check 138 = .ok (.iload 4, 2) := by decide +kernel
theorem dX7_check_140 : decode cX7_check 140 = .ok (.iaload, 1) := by decide +kernel
theorem dX7_check_141 : decode cX7_check 141 = .ok (.iadd, 1) := by decide +kernel
theorem dX7_check_142 : decode cX7_check 142 = .ok (.if_icmp .ne 7, 3) := by decide +kernel
theorem dX7_check_145 : decode cX7_check 145 = .ok (.iconst 1, 1) := by decide +kernel
theorem dX7_check_146 : decode cX7_check 146 = .ok (.goto 4, 3) := by decide +kernel
theorem dX7_check_149 : decode cX7_check 149 = .ok (.iconst 0, 1) := by decide +kernel
theorem dX7_check_150 : decode cX7_check 150 = .ok (.istore_n 3, 1) := by decide +kernel
theorem dX7_check_151 : decode cX7_check 151 = .ok (.iinc 4 1, 3) := by decide +kernel
theorem dX7_check_154 : decode cX7_check 154 = .ok (.goto (-66), 3) := by decide +kernel
theorem dX7_check_157 : decode cX7_check 157 = .ok (.iload_n 3, 1) := by decide +kernel
theorem dX7_check_158 : decode cX7_check 158 = .ok (.ireturn, 1) := by decide +kernel
theorem dX7_count_0 : decode cX7_count 0 = .ok (.iconst 0, 1) := by decide +kernel
theorem dX7_count_1 : decode cX7_count 1 = .ok (.istore_n 2, 1) := by decide +kernel
theorem dX7_count_2 : decode cX7_count 2 = .ok (.iload_n 1, 1) := by decide +kernel
theorem dX7_count_3 : decode cX7_count 3 = .ok (.tableswitch 71 0 3 #[29, 34, 39, 66], 29) := by decide +kernel
theorem dX7_count_32 : decode cX7_count 32 = .ok (.aload_n 0, 1) := by decide +kernel
theorem dX7_count_33 : decode cX7_count 33 = .ok (.getfield 153, 3) := by decide +kernel
theorem dX7_count_36 : decode cX7_count 36 = .ok (.ireturn, 1) := by decide +kernel
theorem dX7_count_37 : decode cX7_count 37 = .ok (.aload_n 0, 1) := by decide +kernel
theorem dX7_count_38 : decode cX7_count 38 = .ok (.getfield 104, 3) := by decide +kernel
theorem dX7_count_41 : decode cX7_count 41 = .ok (.ireturn, 1) := by decide +kernel
theorem dX7_count_42 : decode cX7_count 42 = .ok (.iconst 0, 1) := by decide +kernel
theorem dX7_count_43 : decode cX7_count 43 = .ok (.istore_n 3, 1) := by decide +kernel
theorem dX7_count_44 : decode cX7_count 44 = .ok (.iload_n 3, 1) := by decide +kernel
theorem dX7_count_45 : decode cX7_count 45 = .ok (.aload_n 0, 1) := by decide +kernel
theorem dX7_count_46 : decode cX7_count 46 = .ok (.getfield 104, 3) := by decide +kernel
theorem dX7_count_49 : decode cX7_count 49 = .ok (.if_icmp .ge 18, 3) := by decide +kernel
theorem dX7_count_52 : decode cX7_count 52 = .ok (.iload_n 2, 1) := by decide +kernel
theorem dX7_count_53 : decode cX7_count 53 = .ok (.aload_n 0, 1) := by decide +kernel
theorem dX7_count_54 : decode cX7_count 54 = .ok (.getfield 80, 3) := by decide +kernel
theorem dX7_count_57 : decode cX7_count 57 = .ok (.iload_n 3, 1) := by decide +kernel
theorem dX7_count_58 : decode cX7_count 58 = .ok (.iaload, 1) := by decide +kernel
theorem dX7_count_59 : decode cX7_count 59 = .ok (.iadd, 1) := by decide +kernel
theorem dX7_count_60 : decode cX7_count 60 = .ok (.istore_n 2, 1) := by decide +kernel
theorem dX7_count_61 : decode cX7_count 61 = .ok (.iinc 3 1, 3) := by decide +kernel
theorem dX7_count_64 : decode cX7_count 64 = .ok (.goto (-20), 3) := by decide +kernel
theorem dX7_count_67 : decode cX7_count 67 = .ok (.iload_n 2, 1) := by decide +kernel
theorem dX7_count_68 : decode cX7_count 68 = .ok (.ireturn, 1) := by decide +kernel
theorem dX7_count_69 : decode cX7_count 69 = .ok (.aload_n 0, 1) := by decide +kernel
theorem dX7_count_70 : decode cX7_count 70 = .ok (.getfield 150, 3) := by decide +kernel
theorem dX7_count_73 : decode cX7_count 73 = .ok (.ireturn, 1) := by decide +kernel
theorem dX7_count_74 : decode cX7_count 74 = .ok (.iload_n 1, 1) := by decide +kernel
theorem dX7_count_75 : decode cX7_count 75 = .ok (.bipush 11, 2) := by decide +kernel
theorem dX7_count_77 : decode cX7_count 77 = .ok (.bipush 16, 2) := by decide +kernel
theorem dX7_count_79 : decode cX7_count 79 = .ok (.invokestatic 108, 3) := by decide +kernel
theorem dX7_count_82 : decode cX7_count 82 = .ok (.ifCond .eq 15, 3) := by decide +kernel
theorem dX7_count_85 : decode cX7_count 85 = .ok (.aload_n 0, 1) := by decide +kernel
theorem dX7_count_86 : decode cX7_count 86 = .ok (.getfield 92, 3) := by decide +kernel
theorem dX7_count_89 : decode cX7_count 89 = .ok (.iload_n 1, 1) := by decide +kernel
theorem dX7_count_90 : decode cX7_count 90 = .ok (.bipush 10, 2) := by decide +kernel
theorem dX7_count_92 : decode cX7_count 92 = .ok (.isub, 1) := by decide +kernel
theorem dX7_count_93 : decode cX7_count 93 = .ok (.iaload, 1) := by decide +kernel
theorem dX7_count_94 : decode cX7_count 94 = .ok (.goto 5, 3) := by decide +kernel
theorem dX7_count_97 : decode cX7_count 97 = .ok (.bipush (-9), 2) := by decide +kernel
theorem dX7_count_99 : decode cX7_count 99 = .ok (.ireturn, 1) := by decide +kernel

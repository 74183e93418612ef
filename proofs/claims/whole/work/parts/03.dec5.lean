theorem dX7_change_32 : decode cX7_change 32 = .ok (.aload_n 0, 1) := by decide +kernel
theorem dX7_change_33 : decode cX7_change 33 = .ok (.bipush (-6), 2) := by decide +kernel
theorem dX7_change_35 : decode cX7_change 35 = .ok (.invokevirtual 116, 3) := by decide +kernel
theorem dX7_change_38 : decode cX7_change 38 = .ok (.ireturn, 1) := by decide +kernel
theorem dX7_change_39 : decode cX7_change 39 = .ok (.aload_n 0, 1) := by decide +kernel
theorem dX7_change_40 : decode cX7_change 40 = .ok (.iload_n 1, 1) := by decide +kernel
theorem dX7_change_41 : decode cX7_change 41 = .ok (.iload_n 2, 1) := by decide +kernel
theorem dX7_change_42 : decode cX7_change 42 = .ok (.invokevirtual 143, 3) := by decide +kernel
theorem dX7_change_45 : decode cX7_change 45 = .ok (.istore_n 3, 1) := by decide +kernel
theorem dX7_change_46 : decode cX7_change 46 = .ok (.iload_n 3, 1) := by decide +kernel
theorem dX7_change_47 : decode cX7_change 47 = .ok (.sipush 1000, 3) := by decide +kernel
theorem dX7_change_50 : decode cX7_change 50 = .ok (.if_icmp .ge 7, 3) := by decide +kernel
theorem dX7_change_53 : decode cX7_change 53 = .ok (.iload_n 3, 1) := by decide +kernel
theorem dX7_change_54 : decode cX7_change 54 = .ok (.goto 5, 3) := by decide +kernel
theorem dX7_change_57 : decode cX7_change 57 = .ok (.bipush (-9), 2) := by decide +kernel
theorem dX7_change_59 : decode cX7_change 59 = .ok (.ireturn, 1) := by decide +kernel
theorem dX7_choose_0 : decode cX7_choose 0 = .ok (.aload_n 0, 1) := by decide +kernel
theorem dX7_choose_1 : decode cX7_choose 1 = .ok (.iload_n 1, 1) := by decide +kernel
theorem dX7_choose_2 : decode cX7_choose 2 = .ok (.iload_n 2, 1) := by decide +kernel
theorem dX7_choose_3 : decode cX7_choose 3 = .ok (.invokevirtual 123, 3) := by decide +kernel
theorem dX7_choose_6 : decode cX7_choose 6 = .ok (.ifCond .ne 9, 3) := by decide +kernel
theorem dX7_choose_9 : decode cX7_choose 9 = .ok (.aload_n 0, 1) := by decide +kernel
theorem dX7_choose_10 : decode cX7_choose 10 = .ok (.iconst (-1), 1) := by decide +kernel
theorem dX7_choose_11 : decode cX7_choose 11 = .ok (.invokevirtual 116, 3) := by decide +kernel
theorem dX7_choose_14 : decode cX7_choose 14 = .ok (.ireturn, 1) := by decide +kernel
theorem dX7_choose_15 : decode cX7_choose 15 = .ok (.bipush 8, 2) := by decide +kernel
theorem dX7_choose_17 : decode cX7_choose 17 = .ok (.iload_n 1, 1) := by decide +kernel
theorem dX7_choose_18 : decode cX7_choose 18 = .ok (.imul, 1) := by decide +kernel
theorem dX7_choose_19 : decode cX7_choose 19 = .ok (.iload_n 2, 1) := by decide +kernel
theorem dX7_choose_20 : decode cX7_choose 20 = .ok (.iadd, 1) := by decide +kernel
theorem dX7_choose_21 : decode cX7_choose 21 = .ok (.istore_n 3, 1) := by decide +kernel
theorem dX7_choose_22 : decode cX7_choose 22 = .ok (.aload_n 0, 1) := by decide +kernel
theorem dX7_choose_23 : decode cX7_choose 23 = .ok (.iload_n 1, 1) := by decide +kernel
theorem dX7_choose_24 : decode cX7_choose 24 = .ok (.iload_n 2, 1) := by decide +kernel
theorem dX7_choose_25 : decode cX7_choose 25 = .ok (.invokevirtual 147, 3) := by decide +kernel
theorem dX7_choose_28 : decode cX7_choose 28 = .ok (.ifCond .ne 10, 3) := by decide +kernel
theorem dX7_choose_31 : decode cX7_choose 31 = .ok (.aload_n 0, 1) := by decide +kernel
theorem dX7_choose_32 : decode cX7_choose 32 = .ok (.bipush (-3), 2) := by decide +kernel
theorem dX7_choose_34 : decode cX7_choose 34 = .ok (.invokevirtual 116, 3) := by decide +kernel
theorem dX7_choose_37 : decode cX7_choose 37 = .ok (.ireturn, 1) := by decide +kernel
theorem dX7_choose_38 : decode cX7_choose 38 = .ok (.aload_n 0, 1) := by decide +kernel
theorem dX7_choose_39 : decode cX7_choose 39 = .ok (.aload_n 0, 1) := by decide +kernel
theorem dX7_choose_40 : decode cX7_choose 40 = .ok (.getfield 19, 3) := by decide +kernel
theorem dX7_choose_43 : decode cX7_choose 43 = .ok (.iload_n 1, 1) := by decide +kernel
theorem dX7_choose_44 : decode cX7_choose 44 = .ok (.invokevirtual 136, 3) := by decide +kernel
theorem dX7_choose_47 : decode cX7_choose 47 = .ok (.aload_n 0, 1) := by decide +kernel
theorem dX7_choose_48 : decode cX7_choose 48 = .ok (.getfield 38, 3) := by decide +kernel
theorem dX7_choose_51 : decode cX7_choose 51 = .ok (.iload_n 3, 1) := by decide +kernel
theorem dX7_choose_52 : decode cX7_choose 52 = .ok (.iaload, 1) := by decide +kernel
theorem dX7_choose_53 : decode cX7_choose 53 = .ok (.isub, 1) := by decide +kernel
theorem dX7_choose_54 : decode cX7_choose 54 = .ok (.istore 4, 2) := by decide +kernel
theorem dX7_choose_56 : decode cX7_choose 56 = .ok (.iload 4, 2) := by decide +kernel
theorem dX7_choose_58 : decode cX7_choose 58 = .ok (.ifCond .ge 10, 3) := by decide +kernel
theorem dX7_choose_61 : decode cX7_choose 61 = .ok (.aload_n 0, 1) := by decide +kernel
theorem dX7_choose_62 : decode cX7_choose 62 = .ok (.bipush (-5), 2) := by decide +kernel
theorem dX7_choose_64 : decode cX7_choose 64 = .ok (.invokevirtual 116, 3) := by decide +kernel
theorem dX7_choose_67 : decode cX7_choose 67 = .ok (.ireturn, 1) := by decide +kernel
theorem dX7_choose_68 : decode cX7_choose 68 = .ok (.aload_n 0, 1) := by decide +kernel
theorem dX7_choose_69 : decode cX7_choose 69 = .ok (.iload_n 1, 1) := by decide +kernel
theorem dX7_choose_70 : decode cX7_choose 70 = .ok (.iload 4, 2) := by decide +kernel
theorem dX7_choose_72 : decode cX7_choose 72 = .ok (.invokevirtual 143, 3) := by decide +kernel
theorem dX7_choose_75 : decode cX7_choose 75 = .ok (.sipush 1000, 3) := by decide +kernel
theorem dX7_choose_78 : decode cX7_choose 78 = .ok (.if_icmp .lt 10, 3) := by decide +kernel
theorem dX7_choose_81 : decode cX7_choose 81 = .ok (.aload_n 0, 1) := by decide +kernel
theorem dX7_choose_82 : decode cX7_choose 82 = .ok (.bipush (-6), 2) := by decide +kernel
theorem dX7_choose_84 : decode cX7_choose 84 = .ok (.invokevirtual 116, 3) := by decide +kernel
theorem dX7_choose_87 : decode cX7_choose 87 = .ok (.ireturn, 1) := by decide +kernel
theorem dX7_choose_88 : decode cX7_choose 88 = .ok (.aload_n 0, 1) := by decide +kernel
theorem dX7_choose_89 : decode cX7_choose 89 = .ok (.getfield 53, 3) := by decide +kernel
theorem dX7_choose_92 : decode cX7_choose 92 = .ok (.iload_n 3, 1) := by decide +kernel
theorem dX7_choose_93 : decode cX7_choose 93 = .ok (.iaload, 1) := by decide +kernel
theorem dX7_choose_94 : decode cX7_choose 94 = .ok (.ifCond .le 64, 3) := by decide +kernel
theorem dX7_choose_97 : decode cX7_choose 97 = .ok (.aload_n 0, 1) := by decide +kernel
theorem dX7_choose_98 : decode cX7_choose 98 = .ok (.getfield 53, 3) := by decide +kernel
theorem dX7_choose_101 : decode cX7_choose 101 = .ok (.iload_n 3, 1) := by decide +kernel
theorem dX7_choose_102 : decode cX7_choose 102 = .ok (.dup2, 1) := by decide +kernel
theorem dX7_choose_103 : decode cX7_choose 103 = .ok (.iaload, 1) := by decide +kernel
theorem dX7_choose_104 : decode cX7_choose 104 = .ok (.iconst 1, 1) := by decide +kernel
theorem dX7_choose_105 : decode cX7_choose 105 = .ok (.isub, 1) := by decide +kernel
theorem dX7_choose_106 : decode cX7_choose 106 = .ok (.iastore, 1) := by decide +kernel
theorem dX7_choose_107 : decode cX7_choose 107 = .ok (.aload_n 0, 1) := by decide +kernel
theorem dX7_choose_108 : decode cX7_choose 108 = .ok (.getfield 56, 3) := by decide +kernel
theorem dX7_choose_111 : decode cX7_choose 111 = .ok (.iload_n 3, 1) := by decide +kernel
theorem dX7_choose_112 : decode cX7_choose 112 = .ok (.dup2, 1) := by decide +kernel
theorem dX7_choose_113 : decode cX7_choose 113 = .ok (.iaload, 1) := by decide +kernel
theorem dX7_choose_114 : decode cX7_choose 114 = .ok (.iconst 1, 1) := by decide +kernel
theorem dX7_choose_115 : decode cX7_choose 115 = .ok (.iadd, 1) := by decide +kernel
theorem dX7_choose_116 : decode cX7_choose 116 = .ok (.iastore, 1) := by decide +kernel
theorem dX7_choose_117 : decode cX7_choose 117 = .ok (.aload_n 0, 1) := by decide +kernel
theorem dX7_choose_118 : decode cX7_choose 118 = .ok (.getfield 59, 3) := by decide +kernel
theorem dX7_choose_121 : decode cX7_choose 121 = .ok (.iload_n 3, 1) := by decide +kernel
theorem dX7_choose_122 : decode cX7_choose 122 = .ok (.aload_n 0, 1) := by decide +kernel
theorem dX7_choose_123 : decode cX7_choose 123 = .ok (.getfield 56, 3) := by decide +kernel
theorem dX7_choose_126 : decode cX7_choose 126 = .ok (.iload_n 3, 1) := by decide +kernel
theorem dX7_choose_127 : decode cX7_choose 127 = .ok (.iaload, 1) := by decide +kernel
theorem dX7_choose_128 : decode cX7_choose 128 = .ok (.iconst 3, 1) := by decide +kernel
theorem dX7_choose_129 : decode cX7_choose 129 = .ok (.if_icmp .ne 7, 3) := by decide +kernel
theorem dX7_choose_132 : decode cX7_choose 132 = .ok (.iconst 1, 1) := by decide +kernel
theorem dX7_choose_133 : decode cX7_choose 133 = .ok (.goto 4, 3) := by decide +kernel
theorem dX7_choose_136 : decode cX7_choose 136 = .ok (.iconst 0, 1) := by decide +kernel
theorem dX7_choose_137 : decode cX7_choose 137 = .ok (.bastore, 1) := by decide +kernel
theorem dX7_choose_138 : decode cX7_choose 138 = .ok (.aload_n 0, 1) := by decide +kernel
theorem dX7_choose_139 : decode cX7_choose 139 = .ok (.dup, 1) := by decide +kernel
theorem dX7_choose_140 : decode cX7_choose 140 = .ok (.getfield 150, 3) := by decide +kernel
theorem dX7_choose_143 : decode cX7_choose 143 = .ok (.iconst 1, 1) := by decide +kernel
theorem dX7_choose_144 : decode cX7_choose 144 = .ok (.iadd, 1) := by decide +kernel
theorem dX7_choose_145 : decode cX7_choose 145 = .ok (.putfield 150, 3) := by decide +kernel
theorem dX7_choose_148 : decode cX7_choose 148 = .ok (.aload_n 0, 1) := by decide +kernel
theorem dX7_choose_149 : decode cX7_choose 149 = .ok (.iload_n 1, 1) := by decide +kernel
theorem dX7_choose_150 : decode cX7_choose 150 = .ok (.invokevirtual 140, 3) := by decide +kernel
theorem dX7_choose_153 : decode cX7_choose 153 = .ok (.istore 5, 2) := by decide +kernel
theorem dX7_choose_155 : decode cX7_choose 155 = .ok (.bipush (-7), 2) := by decide +kernel
theorem dX7_choose_157 : decode cX7_choose 157 = .ok (.ireturn, 1) := by decide +kernel
theorem dX7_choose_158 : decode cX7_choose 158 = .ok (.aload_n 0, 1) := by decide +kernel
theorem dX7_choose_159 : decode cX7_choose 159 = .ok (.getfield 44, 3) := by decide +kernel
theorem dX7_choose_162 : decode cX7_choose 162 = .ok (.iload_n 3, 1) := by decide +kernel
theorem dX7_choose_163 : decode cX7_choose 163 = .ok (.iaload, 1) := by decide +kernel
theorem dX7_choose_164 : decode cX7_choose 164 = .ok (.ifCond .le 7, 3) := by decide +kernel
theorem dX7_choose_167 : decode cX7_choose 167 = .ok (.iload_n 3, 1) := by decide +kernel
theorem dX7_choose_168 : decode cX7_choose 168 = .ok (.goto 6, 3) := by decide +kernel
theorem dX7_choose_171 : decode cX7_choose 171 = .ok (.iload_n 3, 1) := by decide +kernel
theorem dX7_choose_172 : decode cX7_choose 172 = .ok (.iconst 1, 1) := by decide +kernel
theorem dX7_choose_173 : decode cX7_choose 173 = .ok (.iadd, 1) := by decide +kernel
theorem dX7_choose_174 : decode cX7_choose 174 = .ok (.istore 5, 2) := by decide +kernel
theorem dX7_choose_176 : decode cX7_choose 176 = .ok (.aload_n 0, 1) := by decide +kernel
theorem dX7_choose_177 : decode cX7_choose 177 = .ok (.getfield 44, 3) := by decide +kernel
theorem dX7_choose_180 : decode cX7_choose 180 = .ok (.iload 5, 2) := by decide +kernel
theorem dX7_choose_182 : decode cX7_choose 182 = .ok (.dup2, 1) := by decide +kernel
theorem dX7_choose_183 : decode cX7_choose 183 = .ok (.iaload, 1) := by decide +kernel
theorem dX7_choose_184 : decode cX7_choose 184 = .ok (.iconst 1, 1) := by decide +kernel
theorem dX7_choose_185 : decode cX7_choose 185 = .ok (.isub, 1) := by decide +kernel
theorem dX7_choose_186 : decode cX7_choose 186 = .ok (.iastore, 1) := by decide +kernel
theorem dX7_choose_187 : decode cX7_choose 187 = .ok (.aload_n 0, 1) := by decide +kernel
theorem dX7_choose_188 : decode cX7_choose 188 = .ok (.getfield 56, 3) := by decide +kernel
theorem dX7_choose_191 : decode cX7_choose 191 = .ok (.iload_n 3, 1) := by decide +kernel
theorem dX7_choose_192 : decode cX7_choose 192 = .ok (.iconst 0, 1) := by decide +kernel
theorem dX7_choose_193 : decode cX7_choose 193 = .ok (.iastore, 1) := by decide +kernel
theorem dX7_choose_194 : decode cX7_choose 194 = .ok (.aload_n 0, 1) := by decide +kernel
theorem dX7_choose_195 : decode cX7_choose 195 = .ok (.getfield 80, 3) := by decide +kernel
theorem dX7_choose_198 : decode cX7_choose 198 = .ok (.iload_n 1, 1) := by decide +kernel
theorem dX7_choose_199 : decode cX7_choose 199 = .ok (.dup2, 1) := by decide +kernel
theorem dX7_choose_200 : decode cX7_choose 200 = .ok (.iaload, 1) := by decide +kernel
theorem dX7_choose_201 : decode cX7_choose 201 = .ok (.iconst 1, 1) := by decide +kernel
theorem dX7_choose_202 : decode cX7_choose 202 = .ok (.iadd, 1) := by decide +kernel
theorem dX7_choose_203 : decode cX7_choose 203 = .ok (.iastore, 1) := by decide +kernel
theorem dX7_choose_204 : decode cX7_choose 204 = .ok (.aload_n 0, 1) := by decide +kernel
theorem dX7_choose_205 : decode cX7_choose 205 = .ok (.getfield 68, 3) := by decide +kernel
theorem dX7_choose_208 : decode cX7_choose 208 = .ok (.sipush 384, 3) := by decide +kernel
theorem dX7_choose_211 : decode cX7_choose 211 = .ok (.iload_n 1, 1) := by decide +kernel
theorem dX7_choose_212 : decode cX7_choose 212 = .ok (.imul, 1) := by decide +kernel
theorem dX7_choose_213 : decode cX7_choose 213 = .ok (.bipush 24, 2) := by decide +kernel
theorem dX7_choose_215 : decode cX7_choose 215 = .ok (.aload_n 0, 1) := by decide +kernel
theorem dX7_choose_216 : decode cX7_choose 216 = .ok (.getfield 35, 3) := by decide +kernel
theorem dX7_choose_219 : decode cX7_choose 219 = .ok (.iload_n 3, 1) := by decide +kernel
theorem dX7_choose_220 : decode cX7_choose 220 = .ok (.iaload, 1) := by decide +kernel
theorem dX7_choose_221 : decode cX7_choose 221 = .ok (.imul, 1) := by decide +kernel
theorem dX7_choose_222 : decode cX7_choose 222 = .ok (.iadd, 1) := by decide +kernel
theorem dX7_choose_223 : decode cX7_choose 223 = .ok (.aload_n 0, 1) := by decide +kernel
theorem dX7_choose_224 : decode cX7_choose 224 = .ok (.getfield 153, 3) := by decide +kernel
theorem dX7_choose_227 : decode cX7_choose 227 = .ok (.bipush 24, 2) := by decide +kernel
theorem dX7_choose_229 : decode cX7_choose 229 = .ok (.irem, 1) := by decide +kernel
theorem dX7_choose_230 : decode cX7_choose 230 = .ok (.iadd, 1) := by decide +kernel
theorem dX7_choose_231 : decode cX7_choose 231 = .ok (.dup2, 1) := by decide +kernel
theorem dX7_choose_232 : decode cX7_choose 232 = .ok (.iaload, 1) := by decide +kernel
theorem dX7_choose_233 : decode cX7_choose 233 = .ok (.iconst 1, 1) := by decide +kernel
theorem dX7_choose_234 : decode cX7_choose 234 = .ok (.iadd, 1) := by decide +kernel
theorem dX7_choose_235 : decode cX7_choose 235 = .ok (.iastore, 1) := by decide +kernel
theorem dX7_choose_236 : decode cX7_choose 236 = .ok (.iconst 0, 1) := by decide +kernel
theorem dX7_choose_237 : decode cX7_choose 237 = .ok (.istore 6, 2) := by decide +kernel
theorem dX7_choose_239 : decode cX7_choose 239 = .ok (.iload 6, 2) := by decide +kernel
theorem dX7_choose_241 : decode cX7_choose 241 = .ok (.bipush 6, 2) := by decide +kernel
theorem dX7_choose_243 : decode cX7_choose 243 = .ok (.if_icmp .ge 129, 3) := by decide +kernel
theorem dX7_choose_246 : decode cX7_choose 246 = .ok (.bipush 6, 2) := by decide +kernel
theorem dX7_choose_248 : decode cX7_choose 248 = .ok (.iload_n 1, 1) := by decide +kernel
theorem dX7_choose_249 : decode cX7_choose 249 = .ok (.imul, 1) := by decide +kernel
theorem dX7_choose_250 : decode cX7_choose 250 = .ok (.iload 6, 2) := by decide +kernel
theorem dX7_choose_252 : decode cX7_choose 252 = .ok (.iadd, 1) := by decide +kernel
theorem dX7_choose_253 : decode cX7_choose 253 = .ok (.istore 7, 2) := by decide +kernel
theorem dX7_choose_255 : decode cX7_choose 255 = .ok (.aload_n 0, 1) := by decide +kernel
theorem dX7_choose_256 : decode cX7_choose 256 = .ok (.getfield 13, 3) := by decide +kernel
theorem dX7_choose_259 : decode cX7_choose 259 = .ok (.iload 7, 2) := by decide +kernel
theorem dX7_choose_261 : decode cX7_choose 261 = .ok (.iaload, 1) := by decide +kernel
theorem dX7_choose_262 : decode cX7_choose 262 = .ok (.aload_n 0, 1) := by decide +kernel
theorem dX7_choose_263 : decode cX7_choose 263 = .ok (.getfield 19, 3) := by decide +kernel
theorem dX7_choose_266 : decode cX7_choose 266 = .ok (.iload 7, 2) := by decide +kernel
theorem dX7_choose_268 : decode cX7_choose 268 = .ok (.iaload, 1) := by decide +kernel
theorem dX7_choose_269 : decode cX7_choose 269 = .ok (.iadd, 1) := by decide +kernel
theorem dX7_choose_270 : decode cX7_choose 270 = .ok (.aload_n 0, 1) := by decide +kernel
theorem dX7_choose_271 : decode cX7_choose 271 = .ok (.getfield 98, 3) := by decide +kernel
theorem dX7_choose_274 : decode cX7_choose 274 = .ok (.iload 6, 2) := by decide +kernel
theorem dX7_choose_276 : decode cX7_choose 276 = .ok (.iaload, 1) := by decide +kernel
theorem dX7_choose_277 : decode cX7_choose 277 = .ok (.isub, 1) := by decide +kernel
theorem dX7_choose_278 : decode cX7_choose 278 = .ok (.istore 8, 2) := by decide +kernel
theorem dX7_choose_280 : decode cX7_choose 280 = .ok (.aload_n 0, 1) := by decide +kernel
theorem dX7_choose_281 : decode cX7_choose 281 = .ok (.getfield 19, 3) := by decide +kernel
theorem dX7_choose_284 : decode cX7_choose 284 = .ok (.iload 7, 2) := by decide +kernel
theorem dX7_choose_286 : decode cX7_choose 286 = .ok (.iconst 0, 1) := by decide +kernel
theorem dX7_choose_287 : decode cX7_choose 287 = .ok (.iastore, 1) := by decide +kernel
theorem dX7_choose_288 : decode cX7_choose 288 = .ok (.aload_n 0, 1) := by decide +kernel
theorem dX7_choose_289 : decode cX7_choose 289 = .ok (.getfield 13, 3) := by decide +kernel
theorem dX7_choose_292 : decode cX7_choose 292 = .ok (.iload 7, 2) := by decide +kernel
theorem dX7_choose_294 : decode cX7_choose 294 = .ok (.iload 8, 2) := by decide +kernel
theorem dX7_choose_296 : decode cX7_choose 296 = .ok (.bipush 50, 2) := by decide +kernel
theorem dX7_choose_298 : decode cX7_choose 298 = .ok (.if_icmp .le 8, 3) := by decide +kernel
theorem dX7_choose_301 : decode cX7_choose 301 = .ok (.bipush 50, 2) := by decide +kernel
theorem dX7_choose_303 : decode cX7_choose 303 = .ok (.goto 5, 3) := by decide +kernel
theorem dX7_choose_306 : decode cX7_choose 306 = .ok (.iload 8, 2) := by decide +kernel
theorem dX7_choose_308 : decode cX7_choose 308 = .ok (.iastore, 1) := by decide +kernel
theorem dX7_choose_309 : decode cX7_choose 309 = .ok (.aload_n 0, 1) := by decide +kernel
theorem dX7_choose_310 : decode cX7_choose 310 = .ok (.getfield 16, 3) := by decide +kernel
theorem dX7_choose_313 : decode cX7_choose 313 = .ok (.iload 7, 2) := by decide +kernel
theorem dX7_choose_315 : decode cX7_choose 315 = .ok (.dup2, 1) := by decide +kernel
theorem dX7_choose_316 : decode cX7_choose 316 = .ok (.iaload, 1) := by decide +kernel
theorem dX7_choose_317 : decode cX7_choose 317 = .ok (.iload 8, 2) := by decide +kernel
theorem dX7_choose_319 : decode cX7_choose 319 = .ok (.bipush 50, 2) := by decide +kernel
theorem dX7_choose_321 : decode cX7_choose 321 = .ok (.if_icmp .le 11, 3) := by decide +kernel
theorem dX7_choose_324 : decode cX7_choose 324 = .ok (.iload 8, 2) := by decide +kernel
theorem dX7_choose_326 : decode cX7_choose 326 = .ok (.bipush 50, 2) := by decide +kernel
theorem dX7_choose_328 : decode cX7_choose 328 = .ok (.isub, 1) := by decide +kernel
theorem dX7_choose_329 : decode cX7_choose 329 = .ok (.goto 4, 3) := by decide +kernel
theorem dX7_choose_332 : decode cX7_choose 332 = .ok (.iconst 0, 1) := by decide +kernel
theorem dX7_choose_333 : decode cX7_choose 333 = .ok (.iadd, 1) := by decide +kernel
theorem dX7_choose_334 : decode cX7_choose 334 = .ok (.iastore, 1) := by decide +kernel
theorem dX7_choose_335 : decode cX7_choose 335 = .ok (.aload_n 0, 1) := by decide +kernel
theorem dX7_choose_336 : decode cX7_choose 336 = .ok (.getfield 86, 3) := by decide +kernel
theorem dX7_choose_339 : decode cX7_choose 339 = .ok (.iload 6, 2) := by decide +kernel
theorem dX7_choose_341 : decode cX7_choose 341 = .ok (.aload_n 0, 1) := by decide +kernel
theorem dX7_choose_342 : decode cX7_choose 342 = .ok (.getfield 98, 3) := by decide +kernel
theorem dX7_choose_345 : decode cX7_choose 345 = .ok (.iload 6, 2) := by decide +kernel
theorem dX7_choose_347 : decode cX7_choose 347 = .ok (.iaload, 1) := by decide +kernel
theorem dX7_choose_348 : decode cX7_choose 348 = .ok (.iastore, 1) := by decide +kernel
theorem dX7_choose_349 : decode cX7_choose 349 = .ok (.aload_n 0, 1) := by decide +kernel
theorem dX7_choose_350 : decode cX7_choose 350 = .ok (.getfield 25, 3) := by decide +kernel
theorem dX7_choose_353 : decode cX7_choose 353 = .ok (.iload 7, 2) := by decide +kernel
theorem dX7_choose_355 : decode cX7_choose 355 = .ok (.dup2, 1) := by decide +kernel
theorem dX7_choose_356 : decode cX7_choose 356 = .ok (.iaload, 1) := by decide +kernel
theorem dX7_choose_357 : decode cX7_choose 357 = .ok (.aload_n 0, 1) := by decide +kernel
theorem dX7_choose_358 : decode cX7_choose 358 = .ok (.getfield 98, 3) := by decide +kernel
theorem dX7_choose_361 : decode cX7_choose 361 = .ok (.iload 6, 2) := by decide +kernel
theorem dX7_choose_363 : decode cX7_choose 363 = .ok (.iaload, 1) := by decide +kernel
theorem dX7_choose_364 : decode cX7_choose 364 = .ok (.iadd, 1) := by decide +kernel
theorem dX7_choose_365 : decode cX7_choose 365 = .ok (.iastore, 1) := by decide +kernel
theorem dX7_choose_366 : decode cX7_choose 366 = .ok (.iinc 6 1, 3) := by decide +kernel
theorem dX7_choose_369 : decode cX7_choose 369 = .ok (.goto (-130), 3) := by decide +kernel
theorem dX7_choose_372 : decode cX7_choose 372 = .ok (.iload 4, 2) := by decide +kernel
theorem dX7_choose_374 : decode cX7_choose 374 = .ok (.ireturn, 1) := by decide +kernel
theorem dX7_given_0 : decode cX7_given 0 = .ok (.iload_n 1, 1) := by decide +kernel
theorem dX7_given_1 : decode cX7_given 1 = .ok (.iconst 0, 1) := by decide +kernel
theorem dX7_given_2 : decode cX7_given 2 = .ok (.iconst 5, 1) := by decide +kernel
theorem dX7_given_3 : decode cX7_given 3 = .ok (.invokestatic 108, 3) := by decide +kernel
theorem dX7_given_6 : decode cX7_given 6 = .ok (.ifCond .eq 12, 3) := by decide +kernel
theorem dX7_given_9 : decode cX7_given 9 = .ok (.aload_n 0, 1) := by decide +kernel
theorem dX7_given_10 : decode cX7_given 10 = .ok (.getfield 86, 3) := by decide +kernel
theorem dX7_given_13 : decode cX7_given 13 = .ok (.iload_n 1, 1) := by decide +kernel
theorem dX7_given_14 : decode cX7_given 14 = .ok (.iaload, 1) := by decide +kernel
theorem dX7_given_15 : decode cX7_given 15 = .ok (.goto 8, 3) := by decide +kernel
theorem dX7_given_18 : decode cX7_given 18 = .ok (.aload_n 0, 1) := by decide +kernel
theorem dX7_given_19 : decode cX7_given 19 = .ok (.iconst (-1), 1) := by decide +kernel
theorem dX7_given_20 : decode cX7_given 20 = .ok (.invokevirtual 116, 3) := by decide +kernel
theorem dX7_given_23 : decode cX7_given 23 = .ok (.ireturn, 1) := by decide +kernel
theorem dX7_passOne_0 : decode cX7_passOne 0 = .ok (.iconst 0, 1) := by decide +kernel
theorem dX7_passOne_1 : decode cX7_passOne 1 = .ok (.istore_n 1, 1) := by decide +kernel
theorem dX7_passOne_2 : decode cX7_passOne 2 = .ok (.iload_n 1, 1) := by decide +kernel
theorem dX7_passOne_3 : decode cX7_passOne 3 = .ok (.aload_n 0, 1) := by decide +kernel
theorem dX7_passOne_4 : decode cX7_passOne 4 = .ok (.getfield 104, 3) := by decide +kernel
theorem dX7_passOne_7 : decode cX7_passOne 7 = .ok (.if_icmp .ge 116, 3) := by decide +kernel
theorem dX7_passOne_10 : decode cX7_passOne 10 = .ok (.iconst 0, 1) := by decide +kernel
theorem dX7_passOne_11 : decode cX7_passOne 11 = .ok (.istore_n 2, 1) := by decide +kernel
theorem dX7_passOne_12 : decode cX7_passOne 12 = .ok (.iload_n 2, 1) := by decide +kernel
theorem dX7_passOne_13 : decode cX7_passOne 13 = .ok (.bipush 16, 2) := by decide +kernel
theorem dX7_passOne_15 : decode cX7_passOne 15 = .ok (.if_icmp .ge 102, 3) := by decide +kernel
theorem dX7_passOne_18 : decode cX7_passOne 18 = .ok (.iconst 0, 1) := by decide +kernel
theorem dX7_passOne_19 : decode cX7_passOne 19 = .ok (.istore_n 3, 1) := by decide +kernel
theorem dX7_passOne_20 : decode cX7_passOne 20 = .ok (.iconst 0, 1) := by decide +kernel
theorem dX7_passOne_21 : decode cX7_passOne 21 = .ok (.istore 4, 2) := by decide +kernel
theorem dX7_passOne_23 : decode cX7_passOne 23 = .ok (.iload 4, 2) := by decide +kernel
theorem dX7_passOne_25 : decode cX7_passOne 25 = .ok (.aload_n 0, 1) := by decide +kernel
theorem dX7_passOne_26 : decode cX7_passOne 26 = .ok (.getfield 7, 3) := by decide +kernel
theorem dX7_passOne_29 : decode cX7_passOne 29 = .ok (.iload_n 1, 1) := by decide +kernel
theorem dX7_passOne_30 : decode cX7_passOne 30 = .ok (.iaload, 1) := by decide +kernel
theorem dX7_passOne_31 : decode cX7_passOne 31 = .ok (.if_icmp .ge 45, 3) := by decide +kernel
theorem dX7_passOne_34 : decode cX7_passOne 34 = .ok (.iload_n 3, 1) := by decide +kernel
theorem dX7_passOne_35 : decode cX7_passOne 35 = .ok (.ifCond .ne 29, 3) := by decide +kernel
theorem dX7_passOne_38 : decode cX7_passOne 38 = .ok (.aload_n 0, 1) := by decide +kernel
theorem dX7_passOne_39 : decode cX7_passOne 39 = .ok (.getfield 35, 3) := by decide +kernel
theorem dX7_passOne_42 : decode cX7_passOne 42 = .ok (.bipush 8, 2) := by decide +kernel
theorem dX7_passOne_44 : decode cX7_passOne 44 = .ok (.iload_n 1, 1) := by decide +kernel
theorem dX7_passOne_45 : decode cX7_passOne 45 = .ok (.imul, 1) := by decide +kernel
theorem dX7_passOne_46 : decode cX7_passOne 46 = .ok (.iload 4, 2) := by decide +kernel
theorem dX7_passOne_48 : decode cX7_passOne 48 = .ok (.iadd, 1) := by decide +kernel
theorem dX7_passOne_49 : decode cX7_passOne 49 = .ok (.iaload, 1) := by decide +kernel
theorem dX7_passOne_50 : decode cX7_passOne 50 = .ok (.iload_n 2, 1) := by decide +kernel
theorem dX7_passOne_51 : decode cX7_passOne 51 = .ok (.if_icmp .ne 17, 3) := by decide +kernel
theorem dX7_passOne_54 : decode cX7_passOne 54 = .ok (.aload_n 0, 1) := by decide +kernel
theorem dX7_passOne_55 : decode cX7_passOne 55 = .ok (.iload_n 1, 1) := by decide +kernel
theorem dX7_passOne_56 : decode cX7_passOne 56 = .ok (.iload 4, 2) := by decide +kernel
theorem dX7_passOne_58 : decode cX7_passOne 58 = .ok (.invokevirtual 147, 3) := by decide +kernel
theorem dX7_passOne_61 : decode cX7_passOne 61 = .ok (.ifCond .eq 7, 3) := by decide +kernel
theorem dX7_passOne_64 : decode cX7_passOne 64 = .ok (.iconst 1, 1) := by decide +kernel
theorem dX7_passOne_65 : decode cX7_passOne 65 = .ok (.goto 4, 3) := by decide +kernel
theorem dX7_passOne_68 : decode cX7_passOne 68 = .ok (.iconst 0, 1) := by decide +kernel
theorem dX7_passOne_69 : decode cX7_passOne 69 = .ok (.istore_n 3, 1) := by decide +kernel
theorem dX7_passOne_70 : decode cX7_passOne 70 = .ok (.iinc 4 1, 3) := by decide +kernel
theorem dX7_passOne_73 : decode cX7_passOne 73 = .ok (.goto (-50), 3) := by decide +kernel
theorem dX7_passOne_76 : decode cX7_passOne 76 = .ok (.aload_n 0, 1) := by decide +kernel
theorem dX7_passOne_77 : decode cX7_passOne 77 = .ok (.getfield 71, 3) := by decide +kernel
theorem dX7_passOne_80 : decode cX7_passOne 80 = .ok (.sipush 384, 3) := by decide +kernel
theorem dX7_passOne_83 : decode cX7_passOne 83 = .ok (.iload_n 1, 1) := by decide +kernel
theorem dX7_passOne_84 : decode cX7_passOne 84 = .ok (.imul, 1) := by decide +kernel
theorem dX7_passOne_85 : decode cX7_passOne 85 = .ok (.bipush 24, 2) := by decide +kernel
theorem dX7_passOne_87 : decode cX7_passOne 87 = .ok (.iload_n 2, 1) := by decide +kernel
theorem dX7_passOne_88 : decode cX7_passOne 88 = .ok (.imul, 1) := by decide +kernel
theorem dX7_passOne_89 : decode cX7_passOne 89 = .ok (.iadd, 1) := by decide +kernel
theorem dX7_passOne_90 : decode cX7_passOne 90 = .ok (.aload_n 0, 1) := by decide +kernel
theorem dX7_passOne_91 : decode cX7_passOne 91 = .ok (.getfield 153, 3) := by decide +kernel
theorem dX7_passOne_94 : decode cX7_passOne 94 = .ok (.bipush 24, 2) := by decide +kernel
theorem dX7_passOne_96 : decode cX7_passOne 96 = .ok (.irem, 1) := by decide +kernel
theorem dX7_passOne_97 : decode cX7_passOne 97 = .ok (.iadd, 1) := by decide +kernel
theorem dX7_passOne_98 : decode cX7_passOne 98 = .ok (.dup2, 1) := by decide +kernel
theorem dX7_passOne_99 : decode cX7_passOne 99 = .ok (.iaload, 1) := by decide +kernel
theorem dX7_passOne_100 : decode cX7_passOne 100 = .ok (.iload_n 3, 1) := by decide +kernel
theorem dX7_passOne_101 : decode cX7_passOne 101 = .ok (.ifCond .eq 7, 3) := by decide +kernel
theorem dX7_passOne_104 : decode cX7_passOne 104 = .ok (.iconst 1, 1) := by decide +kernel
theorem dX7_passOne_105 : decode cX7_passOne 105 = .ok (.goto 4, 3) := by decide +kernel
theorem dX7_passOne_108 : decode cX7_passOne 108 = .ok (.iconst 0, 1) := by decide +kernel
theorem dX7_passOne_109 : decode cX7_passOne 109 = .ok (.iadd, 1) := by decide +kernel
theorem dX7_passOne_110 : decode cX7_passOne 110 = .ok (.iastore, 1) := by decide +kernel
theorem dX7_passOne_111 : decode cX7_passOne 111 = .ok (.iinc 2 1, 3) := by decide +kernel
theorem dX7_passOne_114 : decode cX7_passOne 114 = .ok (.goto (-102), 3) := by decide +kernel
theorem dX7_passOne_117 : decode cX7_passOne 117 = .ok (.iinc 1 1, 3) := by decide +kernel
theorem dX7_passOne_120 : decode cX7_passOne 120 = .ok (.goto (-118), 3) := by decide +kernel
theorem dX7_passOne_123 : decode cX7_passOne 123 = .ok (.aload_n 0, 1) := by decide +kernel
theorem dX7_passOne_124 : decode cX7_passOne 124 = .ok (.dup, 1) := by decide +kernel
theorem dX7_passOne_125 : decode cX7_passOne 125 = .ok (.getfield 153, 3) := by decide +kernel
theorem dX7_passOne_128 : decode cX7_passOne 128 = .ok (.iconst 1, 1) := by decide +kernel
theorem dX7_passOne_129 : decode cX7_passOne 129 = .ok (.iadd, 1) := by decide +kernel
theorem dX7_passOne_130 : decode cX7_passOne 130 = .ok (.putfield 153, 3) := by decide +kernel
theorem dX7_passOne_133 : decode cX7_passOne 133 = .ok (.iconst 0, 1) := by decide +kernel
theorem dX7_passOne_134 : decode cX7_passOne 134 = .ok (.istore_n 1, 1) := by decide +kernel
theorem dX7_passOne_135 : decode cX7_passOne 135 = .ok (.iload_n 1, 1) := by decide +kernel
theorem dX7_passOne_136 : decode cX7_passOne 136 = .ok (.aload_n 0, 1) := by decide +kernel
theorem dX7_passOne_137 : decode cX7_passOne 137 = .ok (.getfield 104, 3) := by decide +kernel
theorem dX7_passOne_140 : decode cX7_passOne 140 = .ok (.if_icmp .ge 108, 3) := by decide +kernel
theorem dX7_passOne_143 : decode cX7_passOne 143 = .ok (.aload_n 0, 1) := by decide +kernel
theorem dX7_passOne_144 : decode cX7_passOne 144 = .ok (.getfield 32, 3) := by decide +kernel
theorem dX7_passOne_147 : decode cX7_passOne 147 = .ok (.iload_n 1, 1) := by decide +kernel
theorem dX7_passOne_148 : decode cX7_passOne 148 = .ok (.dup2, 1) := by decide +kernel
theorem dX7_passOne_149 : decode cX7_passOne 149 = .ok (.iaload, 1) := by decide +kernel
theorem dX7_passOne_150 : decode cX7_passOne 150 = .ok (.aload_n 0, 1) := by decide +kernel
theorem dX7_passOne_151 : decode cX7_passOne 151 = .ok (.getfield 28, 3) := by decide +kernel
theorem dX7_passOne_154 : decode cX7_passOne 154 = .ok (.iload_n 1, 1) := by decide +kernel
theorem dX7_passOne_155 : decode cX7_passOne 155 = .ok (.baload, 1) := by decide +kernel
theorem dX7_passOne_156 : decode cX7_passOne 156 = .ok (.ifCond .eq 7, 3) := by decide +kernel
theorem dX7_passOne_159 : decode cX7_passOne 159 = .ok (.iconst 1, 1) := by decide +kernel
theorem dX7_passOne_160 : decode cX7_passOne 160 = .ok (.goto 4, 3) := by decide +kernel
theorem dX7_passOne_163 : decode cX7_passOne 163 = .ok (.iconst 0, 1) := by decide +kernel
theorem dX7_passOne_164 : decode cX7_passOne 164 = .ok (.iadd, 1) := by decide +kernel
theorem dX7_passOne_165 : decode cX7_passOne 165 = .ok (.iastore, 1) := by decide +kernel
theorem dX7_passOne_166 : decode cX7_passOne 166 = .ok (.bipush 8, 2) := by decide +kernel
theorem dX7_passOne_168 : decode cX7_passOne 168 = .ok (.iload_n 1, 1) := by decide +kernel
theorem dX7_passOne_169 : decode cX7_passOne 169 = .ok (.imul, 1) := by decide +kernel
theorem dX7_passOne_170 : decode cX7_passOne 170 = .ok (.istore_n 2, 1) := by decide +kernel
theorem dX7_passOne_171 : decode cX7_passOne 171 = .ok (.iload_n 2, 1) := by decide +kernel
theorem dX7_passOne_172 : decode cX7_passOne 172 = .ok (.bipush 8, 2) := by decide +kernel
theorem dX7_passOne_174 : decode cX7_passOne 174 = .ok (.iload_n 1, 1) := by decide +kernel
theorem dX7_passOne_175 : decode cX7_passOne 175 = .ok (.imul, 1) := by decide +kernel
theorem dX7_passOne_176 : decode cX7_passOne 176 = .ok (.aload_n 0, 1) := by decide +kernel
theorem dX7_passOne_177 : decode cX7_passOne 177 = .ok (.getfield 7, 3) := by decide +kernel
theorem dX7_passOne_180 : decode cX7_passOne 180 = .ok (.iload_n 1, 1) := by decide +kernel
theorem dX7_passOne_181 : decode cX7_passOne 181 = .ok (.iaload, 1) := by decide +kernel
theorem dX7_passOne_182 : decode cX7_passOne 182 = .ok (.iadd, 1) := by decide +kernel
theorem dX7_passOne_183 : decode cX7_passOne 183 = .ok (.if_icmp .ge 59, 3) := by decide +kernel
theorem dX7_passOne_186 : decode cX7_passOne 186 = .ok (.aload_n 0, 1) := by decide +kernel
theorem dX7_passOne_187 : decode cX7_passOne 187 = .ok (.getfield 28, 3) := by decide +kernel
theorem dX7_passOne_190 : decode cX7_passOne 190 = .ok (.iload_n 1, 1) := by decide +kernel
theorem dX7_passOne_191 : decode cX7_passOne 191 = .ok (.baload, 1) := by decide +kernel
theorem dX7_passOne_192 : decode cX7_passOne 192 = .ok (.ifCond .eq 44, 3) := by decide +kernel
theorem dX7_passOne_195 : decode cX7_passOne 195 = .ok (.aload_n 0, 1) := by decide +kernel
theorem dX7_passOne_196 : decode cX7_passOne 196 = .ok (.getfield 47, 3) := by decide +kernel
theorem dX7_passOne_199 : decode cX7_passOne 199 = .ok (.iload_n 2, 1) := by decide +kernel
theorem dX7_passOne_200 : decode cX7_passOne 200 = .ok (.iaload, 1) := by decide +kernel
theorem dX7_passOne_201 : decode cX7_passOne 201 = .ok (.iconst 2, 1) := by decide +kernel
theorem dX7_passOne_202 : decode cX7_passOne 202 = .ok (.if_icmp .ne 34, 3) := by decide +kernel
theorem dX7_passOne_205 : decode cX7_passOne 205 = .ok (.aload_n 0, 1) := by decide +kernel
theorem dX7_passOne_206 : decode cX7_passOne 206 = .ok (.getfield 32, 3) := by decide +kernel
theorem dX7_passOne_209 : decode cX7_passOne 209 = .ok (.iload_n 1, 1) := by decide +kernel
theorem dX7_passOne_210 : decode cX7_passOne 210 = .ok (.iaload, 1) := by decide +kernel
theorem dX7_passOne_211 : decode cX7_passOne 211 = .ok (.aload_n 0, 1) := by decide +kernel
theorem dX7_passOne_212 : decode cX7_passOne 212 = .ok (.getfield 50, 3) := by decide +kernel
theorem dX7_passOne_215 : decode cX7_passOne 215 = .ok (.iload_n 2, 1) := by decide +kernel
theorem dX7_passOne_216 : decode cX7_passOne 216 = .ok (.iaload, 1) := by decide +kernel
theorem dX7_passOne_217 : decode cX7_passOne 217 = .ok (.if_icmp .le 19, 3) := by decide +kernel
theorem dX7_passOne_220 : decode cX7_passOne 220 = .ok (.aload_n 0, 1) := by decide +kernel
theorem dX7_passOne_221 : decode cX7_passOne 221 = .ok (.getfield 44, 3) := by decide +kernel
theorem dX7_passOne_224 : decode cX7_passOne 224 = .ok (.iload_n 2, 1) := by decide +kernel
theorem dX7_passOne_225 : decode cX7_passOne 225 = .ok (.iaload, 1) := by decide +kernel
theorem dX7_passOne_226 : decode cX7_passOne 226 = .ok (.ifCond .le 10, 3) := by decide +kernel
theorem dX7_passOne_229 : decode cX7_passOne 229 = .ok (.aload_n 0, 1) := by decide +kernel
theorem dX7_passOne_230 : decode cX7_passOne 230 = .ok (.getfield 62, 3) := by decide +kernel
theorem dX7_passOne_233 : decode cX7_passOne 233 = .ok (.iload_n 2, 1) := by decide +kernel
theorem dX7_passOne_234 : decode cX7_passOne 234 = .ok (.iconst 1, 1) := by decide +kernel
theorem dX7_passOne_235 : decode cX7_passOne 235 = .ok (.bastore, 1) := by decide +kernel
theorem dX7_passOne_236 : decode cX7_passOne 236 = .ok (.iinc 2 1, 3) := by decide +kernel
theorem dX7_passOne_239 : decode cX7_passOne 239 = .ok (.goto (-68), 3) := by decide +kernel
theorem dX7_passOne_242 : decode cX7_passOne 242 = .ok (.iinc 1 1, 3) := by decide +kernel
theorem dX7_passOne_245 : decode cX7_passOne 245 = .ok (.goto (-110), 3) := by decide +kernel
theorem dX7_passOne_248 : decode cX7_passOne 248 = .ok (.return_, 1) := by decide +kernel
theorem dX7_hours_0 : decode cX7_hours 0 = .ok (.iload_n 1, 1) := by decide +kernel
theorem dX7_hours_1 : decode cX7_hours 1 = .ok (.iconst 1, 1) := by decide +kernel
theorem dX7_hours_2 : decode cX7_hours 2 = .ok (.if_icmp .ge 10, 3) := by decide +kernel
theorem dX7_hours_5 : decode cX7_hours 5 = .ok (.aload_n 0, 1) := by decide +kernel
theorem dX7_hours_6 : decode cX7_hours 6 = .ok (.bipush (-4), 2) := by decide +kernel
theorem dX7_hours_8 : decode cX7_hours 8 = .ok (.invokevirtual 116, 3) := by decide +kernel
theorem dX7_hours_11 : decode cX7_hours 11 = .ok (.ireturn, 1) := by decide +kernel
theorem dX7_hours_12 : decode cX7_hours 12 = .ok (.iload_n 1, 1) := by decide +kernel
theorem dX7_hours_13 : decode cX7_hours 13 = .ok (.sipush 3000, 3) := by decide +kernel
theorem dX7_hours_16 : decode cX7_hours 16 = .ok (.aload_n 0, 1) := by decide +kernel
theorem dX7_hours_17 : decode cX7_hours 17 = .ok (.getfield 153, 3) := by decide +kernel
theorem dX7_hours_20 : decode cX7_hours 20 = .ok (.isub, 1) := by decide +kernel
theorem dX7_hours_21 : decode cX7_hours 21 = .ok (.if_icmp .le 10, 3) := by decide +kernel
theorem dX7_hours_24 : decode cX7_hours 24 = .ok (.aload_n 0, 1) := by decide +kernel
theorem dX7_hours_25 : decode cX7_hours 25 = .ok (.bipush (-6), 2) := by decide +kernel
theorem dX7_hours_27 : decode cX7_hours 27 = .ok (.invokevirtual 116, 3) := by decide +kernel
theorem dX7_hours_30 : decode cX7_hours 30 = .ok (.ireturn, 1) := by decide +kernel
theorem dX7_hours_31 : decode cX7_hours 31 = .ok (.iconst 0, 1) := by decide +kernel
theorem dX7_hours_32 : decode cX7_hours 32 = .ok (.istore_n 2, 1) := by decide +kernel
theorem dX7_hours_33 : decode cX7_hours 33 = .ok (.iload_n 2, 1) := by decide +kernel
theorem dX7_hours_34 : decode cX7_hours 34 = .ok (.iload_n 1, 1) := by decide +kernel
theorem dX7_hours_35 : decode cX7_hours 35 = .ok (.if_icmp .ge 13, 3) := by decide +kernel
theorem dX7_hours_38 : decode cX7_hours 38 = .ok (.aload_n 0, 1) := by decide +kernel
theorem dX7_hours_39 : decode cX7_hours 39 = .ok (.invokevirtual 156, 3) := by decide +kernel
theorem dX7_hours_42 : decode cX7_hours 42 = .ok (.iinc 2 1, 3) := by decide +kernel
theorem dX7_hours_45 : decode cX7_hours 45 = .ok (.goto (-12), 3) := by decide +kernel
theorem dX7_hours_48 : decode cX7_hours 48 = .ok (.aload_n 0, 1) := by decide +kernel
theorem dX7_hours_49 : decode cX7_hours 49 = .ok (.getfield 153, 3) := by decide +kernel
theorem dX7_hours_52 : decode cX7_hours 52 = .ok (.ireturn, 1) := by decide +kernel
theorem dX7_counted_0 : decode cX7_counted 0 = .ok (.aload_n 0, 1) := by decide +kernel
theorem dX7_counted_1 : decode cX7_counted 1 = .ok (.iload_n 1, 1) := by decide +kernel
theorem dX7_counted_2 : decode cX7_counted 2 = .ok (.invokevirtual 112, 3) := by decide +kernel
theorem dX7_counted_5 : decode cX7_counted 5 = .ok (.ifCond .eq 13, 3) := by decide +kernel
theorem dX7_counted_8 : decode cX7_counted 8 = .ok (.iload_n 2, 1) := by decide +kernel
theorem dX7_counted_9 : decode cX7_counted 9 = .ok (.iconst 0, 1) := by decide +kernel
theorem dX7_counted_10 : decode cX7_counted 10 = .ok (.bipush 15, 2) := by decide +kernel
theorem dX7_counted_12 : decode cX7_counted 12 = .ok (.invokestatic 108, 3) := by decide +kernel
theorem dX7_counted_15 : decode cX7_counted 15 = .ok (.ifCond .ne 9, 3) := by decide +kernel
theorem dX7_counted_18 : decode cX7_counted 18 = .ok (.aload_n 0, 1) := by decide +kernel
theorem dX7_counted_19 : decode cX7_counted 19 = .ok (.iconst (-1), 1) := by decide +kernel
theorem dX7_counted_20 : decode cX7_counted 20 = .ok (.invokevirtual 116, 3) := by decide +kernel
theorem dX7_counted_23 : decode cX7_counted 23 = .ok (.ireturn, 1) := by decide +kernel
theorem dX7_counted_24 : decode cX7_counted 24 = .ok (.iload 4, 2) := by decide +kernel
theorem dX7_counted_26 : decode cX7_counted 26 = .ok (.iconst 0, 1) := by decide +kernel
theorem dX7_counted_27 : decode cX7_counted 27 = .ok (.iconst 1, 1) := by decide +kernel
theorem dX7_counted_28 : decode cX7_counted 28 = .ok (.invokestatic 108, 3) := by decide +kernel
theorem dX7_counted_31 : decode cX7_counted 31 = .ok (.ifCond .ne 10, 3) := by decide +kernel
theorem dX7_counted_34 : decode cX7_counted 34 = .ok (.aload_n 0, 1) := by decide +kernel
theorem dX7_counted_35 : decode cX7_counted 35 = .ok (.bipush (-2), 2) := by decide +kernel
theorem dX7_counted_37 : decode cX7_counted 37 = .ok (.invokevirtual 116, 3) := by decide +kernel
theorem dX7_counted_40 : decode cX7_counted 40 = .ok (.ireturn, 1) := by decide +kernel
theorem dX7_counted_41 : decode cX7_counted 41 = .ok (.iload_n 3, 1) := by decide +kernel
theorem dX7_counted_42 : decode cX7_counted 42 = .ok (.ifCond .ge 10, 3) := by decide +kernel
theorem dX7_counted_45 : decode cX7_counted 45 = .ok (.aload_n 0, 1) := by decide +kernel
theorem dX7_counted_46 : decode cX7_counted 46 = .ok (.bipush (-4), 2) := by decide +kernel
theorem dX7_counted_48 : decode cX7_counted 48 = .ok (.invokevirtual 116, 3) := by decide +kernel
theorem dX7_counted_51 : decode cX7_counted 51 = .ok (.ireturn, 1) := by decide +kernel
theorem dX7_counted_52 : decode cX7_counted 52 = .ok (.iload_n 3, 1) := by decide +kernel
theorem dX7_counted_53 : decode cX7_counted 53 = .ok (.bipush 23, 2) := by decide +kernel
theorem dX7_counted_55 : decode cX7_counted 55 = .ok (.if_icmp .le 10, 3) := by decide +kernel
theorem dX7_counted_58 : decode cX7_counted 58 = .ok (.aload_n 0, 1) := by decide +kernel
theorem dX7_counted_59 : decode cX7_counted 59 = .ok (.bipush (-6), 2) := by decide +kernel
theorem dX7_counted_61 : decode cX7_counted 61 = .ok (.invokevirtual 116, 3) := by decide +kernel
theorem dX7_counted_64 : decode cX7_counted 64 = .ok (.ireturn, 1) := by decide +kernel
theorem dX7_counted_65 : decode cX7_counted 65 = .ok (.sipush 384, 3) := by decide +kernel
theorem dX7_counted_68 : decode cX7_counted 68 = .ok (.iload_n 1, 1) := by decide +kernel
theorem dX7_counted_69 : decode cX7_counted 69 = .ok (.imul, 1) := by decide +kernel
theorem dX7_counted_70 : decode cX7_counted 70 = .ok (.bipush 24, 2) := by decide +kernel
theorem dX7_counted_72 : decode cX7_counted 72 = .ok (.iload_n 2, 1) := by decide +kernel
theorem dX7_counted_73 : decode cX7_counted 73 = .ok (.imul, 1) := by decide +kernel
theorem dX7_counted_74 : decode cX7_counted 74 = .ok (.iadd, 1) := by decide +kernel
theorem dX7_counted_75 : decode cX7_counted 75 = .ok (.iload_n 3, 1) := by decide +kernel
theorem dX7_counted_76 : decode cX7_counted 76 = .ok (.iadd, 1) := by decide +kernel
theorem dX7_counted_77 : decode cX7_counted 77 = .ok (.istore 5, 2) := by decide +kernel
theorem dX7_counted_79 : decode cX7_counted 79 = .ok (.iload 4, 2) := by decide +kernel
theorem dX7_counted_81 : decode cX7_counted 81 = .ok (.ifCond .ne 13, 3) := by decide +kernel
theorem dX7_counted_84 : decode cX7_counted 84 = .ok (.aload_n 0, 1) := by decide +kernel
theorem dX7_counted_85 : decode cX7_counted 85 = .ok (.getfield 68, 3) := by decide +kernel
theorem dX7_counted_88 : decode cX7_counted 88 = .ok (.iload 5, 2) := by decide +kernel
theorem dX7_counted_90 : decode cX7_counted 90 = .ok (.iaload, 1) := by decide +kernel
theorem dX7_counted_91 : decode cX7_counted 91 = .ok (.goto 10, 3) := by decide +kernel
theorem dX7_counted_94 : decode cX7_counted 94 = .ok (.aload_n 0, 1) := by decide +kernel
theorem dX7_counted_95 : decode cX7_counted 95 = .ok (.getfield 71, 3) := by decide +kernel
theorem dX7_counted_98 : decode cX7_counted 98 = .ok (.iload 5, 2) := by decide +kernel
theorem dX7_counted_100 : decode cX7_counted 100 = .ok (.iaload, 1) := by decide +kernel
theorem dX7_counted_101 : decode cX7_counted 101 = .ok (.ireturn, 1) := by decide +kernel
theorem dX7_rate_0 : decode cX7_rate 0 = .ok (.sipush 384, 3) := by decide +kernel
theorem dX7_rate_3 : decode cX7_rate 3 = .ok (.iload_n 1, 1) := by decide +kernel
theorem dX7_rate_4 : decode cX7_rate 4 = .ok (.imul, 1) := by decide +kernel
theorem dX7_rate_5 : decode cX7_rate 5 = .ok (.bipush 24, 2) := by decide +kernel
theorem dX7_rate_7 : decode cX7_rate 7 = .ok (.iload_n 2, 1) := by decide +kernel
theorem dX7_rate_8 : decode cX7_rate 8 = .ok (.imul, 1) := by decide +kernel
theorem dX7_rate_9 : decode cX7_rate 9 = .ok (.iadd, 1) := by decide +kernel
theorem dX7_rate_10 : decode cX7_rate 10 = .ok (.iload_n 3, 1) := by decide +kernel
theorem dX7_rate_11 : decode cX7_rate 11 = .ok (.bipush 24, 2) := by decide +kernel
theorem dX7_rate_13 : decode cX7_rate 13 = .ok (.irem, 1) := by decide +kernel
theorem dX7_rate_14 : decode cX7_rate 14 = .ok (.iadd, 1) := by decide +kernel
theorem dX7_rate_15 : decode cX7_rate 15 = .ok (.istore 4, 2) := by decide +kernel
theorem dX7_rate_17 : decode cX7_rate 17 = .ok (.aload_n 0, 1) := by decide +kernel
theorem dX7_rate_18 : decode cX7_rate 18 = .ok (.getfield 71, 3) := by decide +kernel
theorem dX7_rate_21 : decode cX7_rate 21 = .ok (.iload 4, 2) := by decide +kernel
theorem dX7_rate_23 : decode cX7_rate 23 = .ok (.iaload, 1) := by decide +kernel
theorem dX7_rate_24 : decode cX7_rate 24 = .ok (.ifCond .ne 7, 3) := by decide +kernel
theorem dX7_rate_27 : decode cX7_rate 27 = .ok (.iconst 0, 1) := by decide +kernel
theorem dX7_rate_28 : decode cX7_rate 28 = .ok (.goto 22, 3) := by decide +kernel
theorem dX7_rate_31 : decode cX7_rate 31 = .ok (.sipush 1000, 3) := by decide +kernel
theorem dX7_rate_34 : decode cX7_rate 34 = .ok (.aload_n 0, 1) := by decide +kernel
theorem dX7_rate_35 : decode cX7_rate 35 = .ok (.getfield 68, 3) := by decide +kernel
theorem dX7_rate_38 : decode cX7_rate 38 = .ok (.iload 4, 2) := by decide +kernel
theorem dX7_rate_40 : decode cX7_rate 40 = .ok (.iaload, 1) := by decide +kernel
theorem dX7_rate_41 : decode cX7_rate 41 = .ok (.imul, 1) := by decide +kernel
theorem dX7_rate_42 : decode cX7_rate 42 = .ok (.aload_n 0, 1) := by decide +kernel
theorem dX7_rate_43 : decode cX7_rate 43 = .ok (.getfield 71, 3) := by decide +kernel
theorem dX7_rate_46 : decode cX7_rate 46 = .ok (.iload 4, 2) := by decide +kernel
theorem dX7_rate_48 : decode cX7_rate 48 = .ok (.iaload, 1) := by decide +kernel
theorem dX7_rate_49 : decode cX7_rate 49 = .ok (.idiv, 1) := by decide +kernel
theorem dX7_rate_50 : decode cX7_rate 50 = .ok (.ireturn, 1) := by decide +kernel
theorem dX7_foretell_0 : decode cX7_foretell 0 = .ok (.aload_n 0, 1) := by decide +kernel
theorem dX7_foretell_1 : decode cX7_foretell 1 = .ok (.iload_n 1, 1) := by decide +kernel
theorem dX7_foretell_2 : decode cX7_foretell 2 = .ok (.invokevirtual 112, 3) := by decide +kernel
theorem dX7_foretell_5 : decode cX7_foretell 5 = .ok (.ifCond .eq 13, 3) := by decide +kernel
theorem dX7_foretell_8 : decode cX7_foretell 8 = .ok (.iload_n 2, 1) := by decide +kernel
theorem dX7_foretell_9 : decode cX7_foretell 9 = .ok (.iconst 0, 1) := by decide +kernel
theorem dX7_foretell_10 : decode cX7_foretell 10 = .ok (.bipush 15, 2) := by decide +kernel
theorem dX7_foretell_12 : decode cX7_foretell 12 = .ok (.invokestatic 108, 3) := by decide +kernel
theorem dX7_foretell_15 : decode cX7_foretell 15 = .ok (.ifCond .ne 9, 3) := by decide +kernel
theorem dX7_foretell_18 : decode cX7_foretell 18 = .ok (.aload_n 0, 1) := by decide +kernel
theorem dX7_foretell_19 : decode cX7_foretell 19 = .ok (.iconst (-1), 1) := by decide +kernel
theorem dX7_foretell_20 : decode cX7_foretell 20 = .ok (.invokevirtual 116, 3) := by decide +kernel
theorem dX7_foretell_23 : decode cX7_foretell 23 = .ok (.ireturn, 1) := by decide +kernel
theorem dX7_foretell_24 : decode cX7_foretell 24 = .ok (.iload_n 3, 1) := by decide +kernel
theorem dX7_foretell_25 : decode cX7_foretell 25 = .ok (.ifCond .ge 10, 3) := by decide +kernel
theorem dX7_foretell_28 : decode cX7_foretell 28 = .ok (.aload_n 0, 1) := by decide +kernel
theorem dX7_foretell_29 : decode cX7_foretell 29 = .ok (.bipush (-4), 2) := by decide +kernel
theorem dX7_foretell_31 : decode cX7_foretell 31 = .ok (.invokevirtual 116, 3) := by decide +kernel
theorem dX7_foretell_34 : decode cX7_foretell 34 = .ok (.ireturn, 1) := by decide +kernel
theorem dX7_foretell_35 : decode cX7_foretell 35 = .ok (.iload_n 3, 1) := by decide +kernel
theorem dX7_foretell_36 : decode cX7_foretell 36 = .ok (.sipush 240, 3) := by decide +kernel
theorem dX7_foretell_39 : decode cX7_foretell 39 = .ok (.if_icmp .le 10, 3) := by decide +kernel
theorem dX7_foretell_42 : decode cX7_foretell 42 = .ok (.aload_n 0, 1) := by decide +kernel
theorem dX7_foretell_43 : decode cX7_foretell 43 = .ok (.bipush (-6), 2) := by decide +kernel
theorem dX7_foretell_45 : decode cX7_foretell 45 = .ok (.invokevirtual 116, 3) := by decide +kernel
theorem dX7_foretell_48 : decode cX7_foretell 48 = .ok (.ireturn, 1) := by decide +kernel
theorem dX7_foretell_49 : decode cX7_foretell 49 = .ok (.iconst 0, 1) := by decide +kernel
theorem dX7_foretell_50 : decode cX7_foretell 50 = .ok (.istore 4, 2) := by decide +kernel
theorem dX7_foretell_52 : decode cX7_foretell 52 = .ok (.iconst 0, 1) := by decide +kernel
theorem dX7_foretell_53 : decode cX7_foretell 53 = .ok (.istore 5, 2) := by decide +kernel
theorem dX7_foretell_55 : decode cX7_foretell 55 = .ok (.iload 5, 2) := by decide +kernel
theorem dX7_foretell_57 : decode cX7_foretell 57 = .ok (.iload_n 3, 1) := by decide +kernel
theorem dX7_foretell_58 : decode cX7_foretell 58 = .ok (.if_icmp .ge 27, 3) := by decide +kernel
theorem dX7_foretell_61 : decode cX7_foretell 61 = .ok (.iload 4, 2) := by decide +kernel
theorem dX7_foretell_63 : decode cX7_foretell 63 = .ok (.aload_n 0, 1) := by decide +kernel
theorem dX7_foretell_64 : decode cX7_foretell 64 = .ok (.iload_n 1, 1) := by decide +kernel
theorem dX7_foretell_65 : decode cX7_foretell 65 = .ok (.iload_n 2, 1) := by decide +kernel
theorem dX7_foretell_66 : decode cX7_foretell 66 = .ok (.aload_n 0, 1) := by decide +kernel
theorem dX7_foretell_67 : decode cX7_foretell 67 = .ok (.getfield 153, 3) := by decide +kernel
theorem dX7_foretell_70 : decode cX7_foretell 70 = .ok (.iload 5, 2) := by decide +kernel
theorem dX7_foretell_72 : decode cX7_foretell 72 = .ok (.iadd, 1) := by decide +kernel
theorem dX7_foretell_73 : decode cX7_foretell 73 = .ok (.invokevirtual 159, 3) := by decide +kernel
theorem dX7_foretell_76 : decode cX7_foretell 76 = .ok (.iadd, 1) := by decide +kernel
theorem dX7_foretell_77 : decode cX7_foretell 77 = .ok (.istore 4, 2) := by decide +kernel
theorem dX7_foretell_79 : decode cX7_foretell 79 = .ok (.iinc 5 1, 3) := by decide +kernel
theorem dX7_foretell_82 : decode cX7_foretell 82 = .ok (.goto (-27), 3) := by decide +kernel
theorem dX7_foretell_85 : decode cX7_foretell 85 = .ok (.iload 4, 2) := by decide +kernel
theorem dX7_foretell_87 : decode cX7_foretell 87 = .ok (.ireturn, 1) := by decide +kernel
theorem dX7_when_0 : decode cX7_when 0 = .ok (.aload_n 0, 1) := by decide +kernel
theorem dX7_when_1 : decode cX7_when 1 = .ok (.iload_n 1, 1) := by decide +kernel
theorem dX7_when_2 : decode cX7_when 2 = .ok (.iload_n 2, 1) := by decide +kernel
theorem dX7_when_3 : decode cX7_when 3 = .ok (.invokevirtual 123, 3) := by decide +kernel
theorem dX7_when_6 : decode cX7_when 6 = .ok (.ifCond .ne 9, 3) := by decide +kernel
theorem dX7_when_9 : decode cX7_when 9 = .ok (.aload_n 0, 1) := by decide +kernel
theorem dX7_when_10 : decode cX7_when 10 = .ok (.iconst (-1), 1) := by decide +kernel
theorem dX7_when_11 : decode cX7_when 11 = .ok (.invokevirtual 116, 3) := by decide +kernel
theorem dX7_when_14 : decode cX7_when 14 = .ok (.ireturn, 1) := by decide +kernel
theorem dX7_when_15 : decode cX7_when 15 = .ok (.aload_n 0, 1) := by decide +kernel
theorem dX7_when_16 : decode cX7_when 16 = .ok (.getfield 35, 3) := by decide +kernel
theorem dX7_when_19 : decode cX7_when 19 = .ok (.bipush 8, 2) := by decide +kernel
theorem dX7_when_21 : decode cX7_when 21 = .ok (.iload_n 1, 1) := by decide +kernel
theorem dX7_when_22 : decode cX7_when 22 = .ok (.imul, 1) := by decide +kernel
theorem dX7_when_23 : decode cX7_when 23 = .ok (.iload_n 2, 1) := by decide +kernel
theorem dX7_when_24 : decode cX7_when 24 = .ok (.iadd, 1) := by decide +kernel
theorem dX7_when_25 : decode cX7_when 25 = .ok (.iaload, 1) := by decide +kernel
theorem dX7_when_26 : decode cX7_when 26 = .ok (.istore_n 3, 1) := by decide +kernel
theorem dX7_when_27 : decode cX7_when 27 = .ok (.iconst 0, 1) := by decide +kernel
theorem dX7_when_28 : decode cX7_when 28 = .ok (.istore 4, 2) := by decide +kernel
theorem dX7_when_30 : decode cX7_when 30 = .ok (.iconst 0, 1) := by decide +kernel
theorem dX7_when_31 : decode cX7_when 31 = .ok (.istore 5, 2) := by decide +kernel
theorem dX7_when_33 : decode cX7_when 33 = .ok (.iload 5, 2) := by decide +kernel
theorem dX7_when_35 : decode cX7_when 35 = .ok (.aload_n 0, 1) := by decide +kernel
theorem dX7_when_36 : decode cX7_when 36 = .ok (.getfield 7, 3) := by decide +kernel
theorem dX7_when_39 : decode cX7_when 39 = .ok (.iload_n 1, 1) := by decide +kernel
theorem dX7_when_40 : decode cX7_when 40 = .ok (.iaload, 1) := by decide +kernel
theorem dX7_when_41 : decode cX7_when 41 = .ok (.if_icmp .ge 46, 3) := by decide +kernel
theorem dX7_when_44 : decode cX7_when 44 = .ok (.iload 4, 2) := by decide +kernel
theorem dX7_when_46 : decode cX7_when 46 = .ok (.aload_n 0, 1) := by decide +kernel
theorem dX7_when_47 : decode cX7_when 47 = .ok (.getfield 35, 3) := by decide +kernel
theorem dX7_when_50 : decode cX7_when 50 = .ok (.bipush 8, 2) := by decide +kernel
theorem dX7_when_52 : decode cX7_when 52 = .ok (.iload_n 1, 1) := by decide +kernel
theorem dX7_when_53 : decode cX7_when 53 = .ok (.imul, 1) := by decide +kernel
theorem dX7_when_54 : decode cX7_when 54 = .ok (.iload 5, 2) := by decide +kernel
theorem dX7_when_56 : decode cX7_when 56 = .ok (.iadd, 1) := by decide +kernel
theorem dX7_when_57 : decode cX7_when 57 = .ok (.iaload, 1) := by decide +kernel
theorem dX7_when_58 : decode cX7_when 58 = .ok (.iload_n 3, 1) := by decide +kernel
theorem dX7_when_59 : decode cX7_when 59 = .ok (.if_icmp .ne 18, 3) := by decide +kernel
theorem dX7_when_62 : decode cX7_when 62 = .ok (.aload_n 0, 1) := by decide +kernel
theorem dX7_when_63 : decode cX7_when 63 = .ok (.getfield 44, 3) := by decide +kernel
theorem dX7_when_66 : decode cX7_when 66 = .ok (.bipush 8, 2) := by decide +kernel
theorem dX7_when_68 : decode cX7_when 68 = .ok (.iload_n 1, 1) := by decide +kernel
theorem dX7_when_69 : decode cX7_when 69 = .ok (.imul, 1) := by decide +kernel
theorem dX7_when_70 : decode cX7_when 70 = .ok (.iload 5, 2) := by decide +kernel
theorem dX7_when_72 : decode cX7_when 72 = .ok (.iadd, 1) := by decide +kernel
theorem dX7_when_73 : decode cX7_when 73 = .ok (.iaload, 1) := by decide +kernel
theorem dX7_when_74 : decode cX7_when 74 = .ok (.goto 4, 3) := by decide +kernel
theorem dX7_when_77 : decode cX7_when 77 = .ok (.iconst 0, 1) := by decide +kernel
theorem dX7_when_78 : decode cX7_when 78 = .ok (.iadd, 1) := by decide +kernel
theorem dX7_when_79 : decode cX7_when 79 = .ok (.istore 4, 2) := by decide +kernel
theorem dX7_when_81 : decode cX7_when 81 = .ok (.iinc 5 1, 3) := by decide +kernel
theorem dX7_when_84 : decode cX7_when 84 = .ok (.goto (-51), 3) := by decide +kernel
theorem dX7_when_87 : decode cX7_when 87 = .ok (.iload 4, 2) := by decide +kernel
theorem dX7_when_89 : decode cX7_when 89 = .ok (.ifCond .ne 5, 3) := by decide +kernel
theorem dX7_when_92 : decode cX7_when 92 = .ok (.iconst 0, 1) := by decide +kernel
theorem dX7_when_93 : decode cX7_when 93 = .ok (.ireturn, 1) := by decide +kernel
theorem dX7_when_94 : decode cX7_when 94 = .ok (.iconst 0, 1) := by decide +kernel
theorem dX7_when_95 : decode cX7_when 95 = .ok (.istore 5, 2) := by decide +kernel
theorem dX7_when_97 : decode cX7_when 97 = .ok (.iconst 1, 1) := by decide +kernel
theorem dX7_when_98 : decode cX7_when 98 = .ok (.istore 6, 2) := by decide +kernel
theorem dX7_when_100 : decode cX7_when 100 = .ok (.iload 6, 2) := by decide +kernel
theorem dX7_when_102 : decode cX7_when 102 = .ok (.sipush 240, 3) := by decide +kernel
theorem dX7_when_105 : decode cX7_when 105 = .ok (.if_icmp .gt 43, 3) := by decide +kernel
theorem dX7_when_108 : decode cX7_when 108 = .ok (.iload 5, 2) := by decide +kernel
theorem dX7_when_110 : decode cX7_when 110 = .ok (.aload_n 0, 1) := by decide +kernel
theorem dX7_when_111 : decode cX7_when 111 = .ok (.iload_n 1, 1) := by decide +kernel
theorem dX7_when_112 : decode cX7_when 112 = .ok (.iload_n 3, 1) := by decide +kernel
theorem dX7_when_113 : decode cX7_when 113 = .ok (.aload_n 0, 1) := by decide +kernel
theorem dX7_when_114 : decode cX7_when 114 = .ok (.getfield 153, 3) := by decide +kernel
theorem dX7_when_117 : decode cX7_when 117 = .ok (.iload 6, 2) := by decide +kernel
theorem dX7_when_119 : decode cX7_when 119 = .ok (.iadd, 1) := by decide +kernel
theorem dX7_when_120 : decode cX7_when 120 = .ok (.iconst 1, 1) := by decide +kernel
theorem dX7_when_121 : decode cX7_when 121 = .ok (.isub, 1) := by decide +kernel
theorem dX7_when_122 : decode cX7_when 122 = .ok (.invokevirtual 159, 3) := by decide +kernel
theorem dX7_when_125 : decode cX7_when 125 = .ok (.iadd, 1) := by decide +kernel
theorem dX7_when_126 : decode cX7_when 126 = .ok (.istore 5, 2) := by decide +kernel
theorem dX7_when_128 : decode cX7_when 128 = .ok (.iload 5, 2) := by decide +kernel
theorem dX7_when_130 : decode cX7_when 130 = .ok (.sipush 1000, 3) := by decide +kernel
theorem dX7_when_133 : decode cX7_when 133 = .ok (.iload 4, 2) := by decide +kernel
theorem dX7_when_135 : decode cX7_when 135 = .ok (.imul, 1) := by decide +kernel
theorem dX7_when_136 : decode cX7_when 136 = .ok (.if_icmp .lt 6, 3) := by decide +kernel
theorem dX7_when_139 : decode cX7_when 139 = .ok (.iload 6, 2) := by decide +kernel
theorem dX7_when_141 : decode cX7_when 141 = .ok (.ireturn, 1) := by decide +kernel
theorem dX7_when_142 : decode cX7_when 142 = .ok (.iinc 6 1, 3) := by decide +kernel
theorem dX7_when_145 : decode cX7_when 145 = .ok (.goto (-45), 3) := by decide +kernel
theorem dX7_when_148 : decode cX7_when 148 = .ok (.bipush (-9), 2) := by decide +kernel
theorem dX7_when_150 : decode cX7_when 150 = .ok (.ireturn, 1) := by decide +kernel

theorem dX7_init_0 : decode cX7_init 0 = .ok (.aload_n 0, 1) := by decide +kernel
theorem dX7_init_1 : decode cX7_init 1 = .ok (.invokespecial 1, 3) := by decide +kernel
theorem dX7_init_4 : decode cX7_init 4 = .ok (.aload_n 0, 1) := by decide +kernel
theorem dX7_init_5 : decode cX7_init 5 = .ok (.bipush 6, 2) := by decide +kernel
theorem dX7_init_7 : decode cX7_init 7 = .ok (.newarray .int, 2) := by decide +kernel
theorem dX7_init_9 : decode cX7_init 9 = .ok (.putfield 7, 3) := by decide +kernel
theorem dX7_init_12 : decode cX7_init 12 = .ok (.aload_n 0, 1) := by decide +kernel
theorem dX7_init_13 : decode cX7_init 13 = .ok (.bipush 36, 2) := by decide +kernel
theorem dX7_init_15 : decode cX7_init 15 = .ok (.newarray .int, 2) := by decide +kernel
theorem dX7_init_17 : decode cX7_init 17 = .ok (.putfield 13, 3) := by decide +kernel
theorem dX7_init_20 : decode cX7_init 20 = .ok (.aload_n 0, 1) := by decide +kernel
theorem dX7_init_21 : decode cX7_init 21 = .ok (.bipush 36, 2) := by decide +kernel
theorem dX7_init_23 : decode cX7_init 23 = .ok (.newarray .int, 2) := by decide +kernel
theorem dX7_init_25 : decode cX7_init 25 = .ok (.putfield 16, 3) := by decide +kernel
theorem dX7_init_28 : decode cX7_init 28 = .ok (.aload_n 0, 1) := by decide +kernel
theorem dX7_init_29 : decode cX7_init 29 = .ok (.bipush 36, 2) := by decide +kernel
theorem dX7_init_31 : decode cX7_init 31 = .ok (.newarray .int, 2) := by decide +kernel
theorem dX7_init_33 : decode cX7_init 33 = .ok (.putfield 19, 3) := by decide +kernel
theorem dX7_init_36 : decode cX7_init 36 = .ok (.aload_n 0, 1) := by decide +kernel
theorem dX7_init_37 : decode cX7_init 37 = .ok (.bipush 36, 2) := by decide +kernel
theorem dX7_init_39 : decode cX7_init 39 = .ok (.newarray .int, 2) := by decide +kernel
theorem dX7_init_41 : decode cX7_init 41 = .ok (.putfield 22, 3) := by decide +kernel
theorem dX7_init_44 : decode cX7_init 44 = .ok (.aload_n 0, 1) := by decide +kernel
theorem dX7_init_45 : decode cX7_init 45 = .ok (.bipush 36, 2) := by decide +kernel
theorem dX7_init_47 : decode cX7_init 47 = .ok (.newarray .int, 2) := by decide +kernel
theorem dX7_init_49 : decode cX7_init 49 = .ok (.putfield 25, 3) := by decide +kernel
theorem dX7_init_52 : decode cX7_init 52 = .ok (.aload_n 0, 1) := by decide +kernel
theorem dX7_init_53 : decode cX7_init 53 = .ok (.bipush 6, 2) := by decide +kernel
theorem dX7_init_55 : decode cX7_init 55 = .ok (.newarray .boolean, 2) := by decide +kernel
theorem dX7_init_57 : decode cX7_init 57 = .ok (.putfield 28, 3) := by decide +kernel
theorem dX7_init_60 : decode cX7_init 60 = .ok (.aload_n 0, 1) := by decide +kernel
theorem dX7_init_61 : decode cX7_init 61 = .ok (.bipush 6, 2) := by decide +kernel
theorem dX7_init_63 : decode cX7_init 63 = .ok (.newarray .int, 2) := by decide +kernel
theorem dX7_init_65 : decode cX7_init 65 = .ok (.putfield 32, 3) := by decide +kernel
theorem dX7_init_68 : decode cX7_init 68 = .ok (.aload_n 0, 1) := by decide +kernel
theorem dX7_init_69 : decode cX7_init 69 = .ok (.bipush 48, 2) := by decide +kernel
theorem dX7_init_71 : decode cX7_init 71 = .ok (.newarray .int, 2) := by decide +kernel
theorem dX7_init_73 : decode cX7_init 73 = .ok (.putfield 35, 3) := by decide +kernel
theorem dX7_init_76 : decode cX7_init 76 = .ok (.aload_n 0, 1) := by decide +kernel
theorem dX7_init_77 : decode cX7_init 77 = .ok (.bipush 48, 2) := by decide +kernel
theorem dX7_init_79 : decode cX7_init 79 = .ok (.newarray .int, 2) := by decide +kernel
theorem dX7_init_81 : decode cX7_init 81 = .ok (.putfield 38, 3) := by decide +kernel
theorem dX7_init_84 : decode cX7_init 84 = .ok (.aload_n 0, 1) := by decide +kernel
theorem dX7_init_85 : decode cX7_init 85 = .ok (.bipush 48, 2) := by decide +kernel
theorem dX7_init_87 : decode cX7_init 87 = .ok (.newarray .int, 2) := by decide +kernel
theorem dX7_init_89 : decode cX7_init 89 = .ok (.putfield 41, 3) := by decide +kernel
theorem dX7_init_92 : decode cX7_init 92 = .ok (.aload_n 0, 1) := by decide +kernel
theorem dX7_init_93 : decode cX7_init 93 = .ok (.bipush 48, 2) := by decide +kernel
theorem dX7_init_95 : decode cX7_init 95 = .ok (.newarray .int, 2) := by decide +kernel
theorem dX7_init_97 : decode cX7_init 97 = .ok (.putfield 44, 3) := by decide +kernel
theorem dX7_init_100 : decode cX7_init 100 = .ok (.aload_n 0, 1) := by decide +kernel
theorem dX7_init_101 : decode cX7_init 101 = .ok (.bipush 48, 2) := by decide +kernel
theorem dX7_init_103 : decode cX7_init 103 = .ok (.newarray .int, 2) := by decide +kernel
theorem dX7_init_105 : decode cX7_init 105 = .ok (.putfield 47, 3) := by decide +kernel
theorem dX7_init_108 : decode cX7_init 108 = .ok (.aload_n 0, 1) := by decide +kernel
theorem dX7_init_109 : decode cX7_init 109 = .ok (.bipush 48, 2) := by decide +kernel
theorem dX7_init_111 : decode cX7_init 111 = .ok (.newarray .int, 2) := by decide +kernel
theorem dX7_init_113 : decode cX7_init 113 = .ok (.putfield 50, 3) := by decide +kernel
theorem dX7_init_116 : decode cX7_init 116 = .ok (.aload_n 0, 1) := by decide +kernel
theorem dX7_init_117 : decode cX7_init 117 = .ok (.bipush 48, 2) := by decide +kernel
theorem dX7_init_119 : decode cX7_init 119 = .ok (.newarray .int, 2) := by decide +kernel
theorem dX7_init_121 : decode cX7_init 121 = .ok (.putfield 53, 3) := by decide +kernel
theorem dX7_init_124 : decode cX7_init 124 = .ok (.aload_n 0, 1) := by decide +kernel
theorem dX7_init_125 : decode cX7_init 125 = .ok (.bipush 48, 2) := by decide +kernel
theorem dX7_init_127 : decode cX7_init 127 = .ok (.newarray .int, 2) := by decide +kernel
theorem dX7_init_129 : decode cX7_init 129 = .ok (.putfield 56, 3) := by decide +kernel
theorem dX7_init_132 : decode cX7_init 132 = .ok (.aload_n 0, 1) := by decide +kernel
theorem dX7_init_133 : decode cX7_init 133 = .ok (.bipush 48, 2) := by decide +kernel
theorem dX7_init_135 : decode cX7_init 135 = .ok (.newarray .boolean, 2) := by decide +kernel
theorem dX7_init_137 : decode cX7_init 137 = .ok (.putfield 59, 3) := by decide +kernel
theorem dX7_init_140 : decode cX7_init 140 = .ok (.aload_n 0, 1) := by decide +kernel
theorem dX7_init_141 : decode cX7_init 141 = .ok (.bipush 48, 2) := by decide +kernel
theorem dX7_init_143 : decode cX7_init 143 = .ok (.newarray .boolean, 2) := by decide +kernel
theorem dX7_init_145 : decode cX7_init 145 = .ok (.putfield 62, 3) := by decide +kernel
theorem dX7_init_148 : decode cX7_init 148 = .ok (.aload_n 0, 1) := by decide +kernel
theorem dX7_init_149 : decode cX7_init 149 = .ok (.bipush 16, 2) := by decide +kernel
theorem dX7_init_151 : decode cX7_init 151 = .ok (.newarray .int, 2) := by decide +kernel
theorem dX7_init_153 : decode cX7_init 153 = .ok (.dup, 1) := by decide +kernel
theorem dX7_init_154 : decode cX7_init 154 = .ok (.iconst 0, 1) := by decide +kernel
theorem dX7_init_155 : decode cX7_init 155 = .ok (.iconst 1, 1) := by decide +kernel
theorem dX7_init_156 : decode cX7_init 156 = .ok (.iastore, 1) := by decide +kernel
theorem dX7_init_157 : decode cX7_init 157 = .ok (.dup, 1) := by decide +kernel
theorem dX7_init_158 : decode cX7_init 158 = .ok (.iconst 1, 1) := by decide +kernel
theorem dX7_init_159 : decode cX7_init 159 = .ok (.iconst 1, 1) := by decide +kernel
theorem dX7_init_160 : decode cX7_init 160 = .ok (.iastore, 1) := by decide +kernel
theorem dX7_init_161 : decode cX7_init 161 = .ok (.dup, 1) := by decide +kernel
theorem dX7_init_162 : decode cX7_init 162 = .ok (.iconst 2, 1) := by decide +kernel
theorem dX7_init_163 : decode cX7_init 163 = .ok (.iconst 1, 1) := by decide +kernel
theorem dX7_init_164 : decode cX7_init 164 = .ok (.iastore, 1) := by decide +kernel
theorem dX7_init_165 : decode cX7_init 165 = .ok (.dup, 1) := by decide +kernel
theorem dX7_init_166 : decode cX7_init 166 = .ok (.iconst 3, 1) := by decide +kernel
theorem dX7_init_167 : decode cX7_init 167 = .ok (.iconst 1, 1) := by decide +kernel
theorem dX7_init_168 : decode cX7_init 168 = .ok (.iastore, 1) := by decide +kernel
theorem dX7_init_169 : decode cX7_init 169 = .ok (.dup, 1) := by decide +kernel
theorem dX7_init_170 : decode cX7_init 170 = .ok (.iconst 4, 1) := by decide +kernel
theorem dX7_init_171 : decode cX7_init 171 = .ok (.iconst 1, 1) := by decide +kernel
theorem dX7_init_172 : decode cX7_init 172 = .ok (.iastore, 1) := by decide +kernel
theorem dX7_init_173 : decode cX7_init 173 = .ok (.dup, 1) := by decide +kernel
theorem dX7_init_174 : decode cX7_init 174 = .ok (.iconst 5, 1) := by decide +kernel
theorem dX7_init_175 : decode cX7_init 175 = .ok (.iconst 1, 1) := by decide +kernel
theorem dX7_init_176 : decode cX7_init 176 = .ok (.iastore, 1) := by decide +kernel
theorem dX7_init_177 : decode cX7_init 177 = .ok (.dup, 1) := by decide +kernel
theorem dX7_init_178 : decode cX7_init 178 = .ok (.bipush 6, 2) := by decide +kernel
theorem dX7_init_180 : decode cX7_init 180 = .ok (.iconst 1, 1) := by decide +kernel
theorem dX7_init_181 : decode cX7_init 181 = .ok (.iastore, 1) := by decide +kernel
theorem dX7_init_182 : decode cX7_init 182 = .ok (.dup, 1) := by decide +kernel
theorem dX7_init_183 : decode cX7_init 183 = .ok (.bipush 7, 2) := by decide +kernel
theorem dX7_init_185 : decode cX7_init 185 = .ok (.iconst 1, 1) := by decide +kernel
theorem dX7_init_186 : decode cX7_init 186 = .ok (.iastore, 1) := by decide +kernel
theorem dX7_init_187 : decode cX7_init 187 = .ok (.dup, 1) := by decide +kernel
theorem dX7_init_188 : decode cX7_init 188 = .ok (.bipush 8, 2) := by decide +kernel
theorem dX7_init_190 : decode cX7_init 190 = .ok (.iconst 1, 1) := by decide +kernel
theorem dX7_init_191 : decode cX7_init 191 = .ok (.iastore, 1) := by decide +kernel
theorem dX7_init_192 : decode cX7_init 192 = .ok (.dup, 1) := by decide +kernel
theorem dX7_init_193 : decode cX7_init 193 = .ok (.bipush 9, 2) := by decide +kernel
theorem dX7_init_195 : decode cX7_init 195 = .ok (.iconst 1, 1) := by decide +kernel
theorem dX7_init_196 : decode cX7_init 196 = .ok (.iastore, 1) := by decide +kernel
theorem dX7_init_197 : decode cX7_init 197 = .ok (.dup, 1) := by decide +kernel
theorem dX7_init_198 : decode cX7_init 198 = .ok (.bipush 10, 2) := by decide +kernel
theorem dX7_init_200 : decode cX7_init 200 = .ok (.iconst 1, 1) := by decide +kernel
theorem dX7_init_201 : decode cX7_init 201 = .ok (.iastore, 1) := by decide +kernel
theorem dX7_init_202 : decode cX7_init 202 = .ok (.dup, 1) := by decide +kernel
theorem dX7_init_203 : decode cX7_init 203 = .ok (.bipush 11, 2) := by decide +kernel
theorem dX7_init_205 : decode cX7_init 205 = .ok (.iconst 1, 1) := by decide +kernel
theorem dX7_init_206 : decode cX7_init 206 = .ok (.iastore, 1) := by decide +kernel
theorem dX7_init_207 : decode cX7_init 207 = .ok (.dup, 1) := by decide +kernel
theorem dX7_init_208 : decode cX7_init 208 = .ok (.bipush 12, 2) := by decide +kernel
theorem dX7_init_210 : decode cX7_init 210 = .ok (.iconst 1, 1) := by decide +kernel
theorem dX7_init_211 : decode cX7_init 211 = .ok (.iastore, 1) := by decide +kernel
theorem dX7_init_212 : decode cX7_init 212 = .ok (.dup, 1) := by decide +kernel
theorem dX7_init_213 : decode cX7_init 213 = .ok (.bipush 13, 2) := by decide +kernel
theorem dX7_init_215 : decode cX7_init 215 = .ok (.iconst 1, 1) := by decide +kernel
theorem dX7_init_216 : decode cX7_init 216 = .ok (.iastore, 1) := by decide +kernel
theorem dX7_init_217 : decode cX7_init 217 = .ok (.dup, 1) := by decide +kernel
theorem dX7_init_218 : decode cX7_init 218 = .ok (.bipush 14, 2) := by decide +kernel
theorem dX7_init_220 : decode cX7_init 220 = .ok (.iconst 1, 1) := by decide +kernel
theorem dX7_init_221 : decode cX7_init 221 = .ok (.iastore, 1) := by decide +kernel
theorem dX7_init_222 : decode cX7_init 222 = .ok (.dup, 1) := by decide +kernel
theorem dX7_init_223 : decode cX7_init 223 = .ok (.bipush 15, 2) := by decide +kernel
theorem dX7_init_225 : decode cX7_init 225 = .ok (.iconst 1, 1) := by decide +kernel
theorem dX7_init_226 : decode cX7_init 226 = .ok (.iastore, 1) := by decide +kernel
theorem dX7_init_227 : decode cX7_init 227 = .ok (.putfield 65, 3) := by decide +kernel
theorem dX7_init_230 : decode cX7_init 230 = .ok (.aload_n 0, 1) := by decide +kernel
theorem dX7_init_231 : decode cX7_init 231 = .ok (.sipush 2304, 3) := by decide +kernel
theorem dX7_init_234 : decode cX7_init 234 = .ok (.newarray .int, 2) := by decide +kernel
theorem dX7_init_236 : decode cX7_init 236 = .ok (.putfield 68, 3) := by decide +kernel
theorem dX7_init_239 : decode cX7_init 239 = .ok (.aload_n 0, 1) := by decide +kernel
theorem dX7_init_240 : decode cX7_init 240 = .ok (.sipush 2304, 3) := by decide +kernel
theorem dX7_init_243 : decode cX7_init 243 = .ok (.newarray .int, 2) := by decide +kernel
theorem dX7_init_245 : decode cX7_init 245 = .ok (.putfield 71, 3) := by decide +kernel
theorem dX7_init_248 : decode cX7_init 248 = .ok (.aload_n 0, 1) := by decide +kernel
theorem dX7_init_249 : decode cX7_init 249 = .ok (.bipush 6, 2) := by decide +kernel
theorem dX7_init_251 : decode cX7_init 251 = .ok (.newarray .int, 2) := by decide +kernel
theorem dX7_init_253 : decode cX7_init 253 = .ok (.putfield 74, 3) := by decide +kernel
theorem dX7_init_256 : decode cX7_init 256 = .ok (.aload_n 0, 1) := by decide +kernel
theorem dX7_init_257 : decode cX7_init 257 = .ok (.bipush 6, 2) := by decide +kernel
theorem dX7_init_259 : decode cX7_init 259 = .ok (.newarray .int, 2) := by decide +kernel
theorem dX7_init_261 : decode cX7_init 261 = .ok (.putfield 77, 3) := by decide +kernel
theorem dX7_init_264 : decode cX7_init 264 = .ok (.aload_n 0, 1) := by decide +kernel
theorem dX7_init_265 : decode cX7_init 265 = .ok (.bipush 6, 2) := by decide +kernel
theorem dX7_init_267 : decode cX7_init 267 = .ok (.newarray .int, 2) := by decide +kernel
theorem dX7_init_269 : decode cX7_init 269 = .ok (.putfield 80, 3) := by decide +kernel
theorem dX7_init_272 : decode cX7_init 272 = .ok (.aload_n 0, 1) := by decide +kernel
theorem dX7_init_273 : decode cX7_init 273 = .ok (.bipush 6, 2) := by decide +kernel
theorem dX7_init_275 : decode cX7_init 275 = .ok (.newarray .int, 2) := by decide +kernel
theorem dX7_init_277 : decode cX7_init 277 = .ok (.putfield 83, 3) := by decide +kernel
theorem dX7_init_280 : decode cX7_init 280 = .ok (.aload_n 0, 1) := by decide +kernel
theorem dX7_init_281 : decode cX7_init 281 = .ok (.bipush 6, 2) := by decide +kernel
theorem dX7_init_283 : decode cX7_init 283 = .ok (.newarray .int, 2) := by decide +kernel
theorem dX7_init_285 : decode cX7_init 285 = .ok (.putfield 86, 3) := by decide +kernel
theorem dX7_init_288 : decode cX7_init 288 = .ok (.aload_n 0, 1) := by decide +kernel
theorem dX7_init_289 : decode cX7_init 289 = .ok (.bipush 8, 2) := by decide +kernel
theorem dX7_init_291 : decode cX7_init 291 = .ok (.newarray .int, 2) := by decide +kernel
theorem dX7_init_293 : decode cX7_init 293 = .ok (.putfield 89, 3) := by decide +kernel
theorem dX7_init_296 : decode cX7_init 296 = .ok (.aload_n 0, 1) := by decide +kernel
theorem dX7_init_297 : decode cX7_init 297 = .ok (.bipush 7, 2) := by decide +kernel
theorem dX7_init_299 : decode cX7_init 299 = .ok (.newarray .int, 2) := by decide +kernel
theorem dX7_init_301 : decode cX7_init 301 = .ok (.putfield 92, 3) := by decide +kernel
theorem dX7_init_304 : decode cX7_init 304 = .ok (.aload_n 0, 1) := by decide +kernel
theorem dX7_init_305 : decode cX7_init 305 = .ok (.sipush 14007, 3) := by decide +kernel
theorem dX7_init_308 : decode cX7_init 308 = .ok (.newarray .int, 2) := by decide +kernel
theorem dX7_init_310 : decode cX7_init 310 = .ok (.putfield 95, 3) := by decide +kernel
theorem dX7_init_313 : decode cX7_init 313 = .ok (.aload_n 0, 1) := by decide +kernel
theorem dX7_init_314 : decode cX7_init 314 = .ok (.bipush 6, 2) := by decide +kernel
theorem dX7_init_316 : decode cX7_init 316 = .ok (.newarray .int, 2) := by decide +kernel
theorem dX7_init_318 : decode cX7_init 318 = .ok (.putfield 98, 3) := by decide +kernel
theorem dX7_init_321 : decode cX7_init 321 = .ok (.aload_n 0, 1) := by decide +kernel
theorem dX7_init_322 : decode cX7_init 322 = .ok (.sipush 1809, 3) := by decide +kernel
theorem dX7_init_325 : decode cX7_init 325 = .ok (.newarray .int, 2) := by decide +kernel
theorem dX7_init_327 : decode cX7_init 327 = .ok (.putfield 101, 3) := by decide +kernel
theorem dX7_init_330 : decode cX7_init 330 = .ok (.return_, 1) := by decide +kernel
theorem dX7_in_0 : decode cX7_in 0 = .ok (.iload_n 0, 1) := by decide +kernel
theorem dX7_in_1 : decode cX7_in 1 = .ok (.iload_n 1, 1) := by decide +kernel
theorem dX7_in_2 : decode cX7_in 2 = .ok (.if_icmp .lt 12, 3) := by decide +kernel
theorem dX7_in_5 : decode cX7_in 5 = .ok (.iload_n 0, 1) := by decide +kernel
theorem dX7_in_6 : decode cX7_in 6 = .ok (.iload_n 2, 1) := by decide +kernel
theorem dX7_in_7 : decode cX7_in 7 = .ok (.if_icmp .gt 7, 3) := by decide +kernel
theorem dX7_in_10 : decode cX7_in 10 = .ok (.iconst 1, 1) := by decide +kernel
theorem dX7_in_11 : decode cX7_in 11 = .ok (.goto 4, 3) := by decide +kernel
theorem dX7_in_14 : decode cX7_in 14 = .ok (.iconst 0, 1) := by decide +kernel
theorem dX7_in_15 : decode cX7_in 15 = .ok (.ireturn, 1) := by decide +kernel
theorem dX7_refuse_0 : decode cX7_refuse 0 = .ok (.aload_n 0, 1) := by decide +kernel
theorem dX7_refuse_1 : decode cX7_refuse 1 = .ok (.getfield 92, 3) := by decide +kernel
theorem dX7_refuse_4 : decode cX7_refuse 4 = .ok (.iload_n 1, 1) := by decide +kernel
theorem dX7_refuse_5 : decode cX7_refuse 5 = .ok (.ineg, 1) := by decide +kernel
theorem dX7_refuse_6 : decode cX7_refuse 6 = .ok (.dup2, 1) := by decide +kernel
theorem dX7_refuse_7 : decode cX7_refuse 7 = .ok (.iaload, 1) := by decide +kernel
theorem dX7_refuse_8 : decode cX7_refuse 8 = .ok (.iconst 1, 1) := by decide +kernel
theorem dX7_refuse_9 : decode cX7_refuse 9 = .ok (.iadd, 1) := by decide +kernel
theorem dX7_refuse_10 : decode cX7_refuse 10 = .ok (.iastore, 1) := by decide +kernel
theorem dX7_refuse_11 : decode cX7_refuse 11 = .ok (.iload_n 1, 1) := by decide +kernel
theorem dX7_refuse_12 : decode cX7_refuse 12 = .ok (.ireturn, 1) := by decide +kernel
theorem dX7_worthOf_0 : decode cX7_worthOf 0 = .ok (.iload_n 0, 1) := by decide +kernel
theorem dX7_worthOf_1 : decode cX7_worthOf 1 = .ok (.ifCond .ne 9, 3) := by decide +kernel
theorem dX7_worthOf_4 : decode cX7_worthOf 4 = .ok (.sipush 500, 3) := by decide +kernel
theorem dX7_worthOf_7 : decode cX7_worthOf 7 = .ok (.goto 46, 3) := by decide +kernel
theorem dX7_worthOf_10 : decode cX7_worthOf 10 = .ok (.iload_n 0, 1) := by decide +kernel
theorem dX7_worthOf_11 : decode cX7_worthOf 11 = .ok (.iconst 1, 1) := by decide +kernel
theorem dX7_worthOf_12 : decode cX7_worthOf 12 = .ok (.if_icmp .ne 9, 3) := by decide +kernel
theorem dX7_worthOf_15 : decode cX7_worthOf 15 = .ok (.sipush 200, 3) := by decide +kernel
theorem dX7_worthOf_18 : decode cX7_worthOf 18 = .ok (.goto 35, 3) := by decide +kernel
theorem dX7_worthOf_21 : decode cX7_worthOf 21 = .ok (.iload_n 0, 1) := by decide +kernel
theorem dX7_worthOf_22 : decode cX7_worthOf 22 = .ok (.iconst 2, 1) := by decide +kernel
theorem dX7_worthOf_23 : decode cX7_worthOf 23 = .ok (.if_icmp .ne 8, 3) := by decide +kernel
theorem dX7_worthOf_26 : decode cX7_worthOf 26 = .ok (.bipush 100, 2) := by decide +kernel
theorem dX7_worthOf_28 : decode cX7_worthOf 28 = .ok (.goto 25, 3) := by decide +kernel
theorem dX7_worthOf_31 : decode cX7_worthOf 31 = .ok (.iload_n 0, 1) := by decide +kernel
theorem dX7_worthOf_32 : decode cX7_worthOf 32 = .ok (.iconst 3, 1) := by decide +kernel
theorem dX7_worthOf_33 : decode cX7_worthOf 33 = .ok (.if_icmp .ne 8, 3) := by decide +kernel
theorem dX7_worthOf_36 : decode cX7_worthOf 36 = .ok (.bipush 50, 2) := by decide +kernel
theorem dX7_worthOf_38 : decode cX7_worthOf 38 = .ok (.goto 15, 3) := by decide +kernel
theorem dX7_worthOf_41 : decode cX7_worthOf 41 = .ok (.iload_n 0, 1) := by decide +kernel
theorem dX7_worthOf_42 : decode cX7_worthOf 42 = .ok (.iconst 4, 1) := by decide +kernel
theorem dX7_worthOf_43 : decode cX7_worthOf 43 = .ok (.if_icmp .ne 8, 3) := by decide +kernel
theorem dX7_worthOf_46 : decode cX7_worthOf 46 = .ok (.bipush 20, 2) := by decide +kernel
theorem dX7_worthOf_48 : decode cX7_worthOf 48 = .ok (.goto 5, 3) := by decide +kernel
theorem dX7_worthOf_51 : decode cX7_worthOf 51 = .ok (.bipush 10, 2) := by decide +kernel
theorem dX7_worthOf_53 : decode cX7_worthOf 53 = .ok (.ireturn, 1) := by decide +kernel
theorem dX7_isMachine_0 : decode cX7_isMachine 0 = .ok (.iload_n 1, 1) := by decide +kernel
theorem dX7_isMachine_1 : decode cX7_isMachine 1 = .ok (.iconst 0, 1) := by decide +kernel
theorem dX7_isMachine_2 : decode cX7_isMachine 2 = .ok (.aload_n 0, 1) := by decide +kernel
theorem dX7_isMachine_3 : decode cX7_isMachine 3 = .ok (.getfield 104, 3) := by decide +kernel
theorem dX7_isMachine_6 : decode cX7_isMachine 6 = .ok (.iconst 1, 1) := by decide +kernel
theorem dX7_isMachine_7 : decode cX7_isMachine 7 = .ok (.isub, 1) := by decide +kernel
theorem dX7_isMachine_8 : decode cX7_isMachine 8 = .ok (.invokestatic 108, 3) := by decide +kernel
theorem dX7_isMachine_11 : decode cX7_isMachine 11 = .ok (.ireturn, 1) := by decide +kernel
theorem dX7_isLane_0 : decode cX7_isLane 0 = .ok (.aload_n 0, 1) := by decide +kernel
theorem dX7_isLane_1 : decode cX7_isLane 1 = .ok (.iload_n 1, 1) := by decide +kernel
theorem dX7_isLane_2 : decode cX7_isLane 2 = .ok (.invokevirtual 112, 3) := by decide +kernel
theorem dX7_isLane_5 : decode cX7_isLane 5 = .ok (.ifCond .eq 23, 3) := by decide +kernel
theorem dX7_isLane_8 : decode cX7_isLane 8 = .ok (.iload_n 2, 1) := by decide +kernel
theorem dX7_isLane_9 : decode cX7_isLane 9 = .ok (.iconst 0, 1) := by decide +kernel
theorem dX7_isLane_10 : decode cX7_isLane 10 = .ok (.aload_n 0, 1) := by decide +kernel
theorem dX7_isLane_11 : decode cX7_isLane 11 = .ok (.getfield 7, 3) := by decide +kernel
theorem dX7_isLane_14 : decode cX7_isLane 14 = .ok (.iload_n 1, 1) := by decide +kernel
theorem dX7_isLane_15 : decode cX7_isLane 15 = .ok (.iaload, 1) := by decide +kernel
theorem dX7_isLane_16 : decode cX7_isLane 16 = .ok (.iconst 1, 1) := by decide +kernel
theorem dX7_isLane_17 : decode cX7_isLane 17 = .ok (.isub, 1) := by decide +kernel
theorem dX7_isLane_18 : decode cX7_isLane 18 = .ok (.invokestatic 108, 3) := by decide +kernel
theorem dX7_isLane_21 : decode cX7_isLane 21 = .ok (.ifCond .eq 7, 3) := by decide +kernel
theorem dX7_isLane_24 : decode cX7_isLane 24 = .ok (.iconst 1, 1) := by decide +kernel
theorem dX7_isLane_25 : decode cX7_isLane 25 = .ok (.goto 4, 3) := by decide +kernel
theorem dX7_isLane_28 : decode cX7_isLane 28 = .ok (.iconst 0, 1) := by decide +kernel
theorem dX7_isLane_29 : decode cX7_isLane 29 = .ok (.ireturn, 1) := by decide +kernel
theorem dX7_machine_0 : decode cX7_machine 0 = .ok (.aload_n 0, 1) := by decide +kernel
theorem dX7_machine_1 : decode cX7_machine 1 = .ok (.getfield 104, 3) := by decide +kernel
theorem dX7_machine_4 : decode cX7_machine 4 = .ok (.bipush 6, 2) := by decide +kernel
theorem dX7_machine_6 : decode cX7_machine 6 = .ok (.if_icmp .ne 10, 3) := by decide +kernel
theorem dX7_machine_9 : decode cX7_machine 9 = .ok (.aload_n 0, 1) := by decide +kernel
theorem dX7_machine_10 : decode cX7_machine 10 = .ok (.bipush (-6), 2) := by decide +kernel
theorem dX7_machine_12 : decode cX7_machine 12 = .ok (.invokevirtual 116, 3) := by decide +kernel
theorem dX7_machine_15 : decode cX7_machine 15 = .ok (.ireturn, 1) := by decide +kernel
theorem dX7_machine_16 : decode cX7_machine 16 = .ok (.aload_n 0, 1) := by decide +kernel
theorem dX7_machine_17 : decode cX7_machine 17 = .ok (.dup, 1) := by decide +kernel
theorem dX7_machine_18 : decode cX7_machine 18 = .ok (.getfield 104, 3) := by decide +kernel
theorem dX7_machine_21 : decode cX7_machine 21 = .ok (.iconst 1, 1) := by decide +kernel
theorem dX7_machine_22 : decode cX7_machine 22 = .ok (.iadd, 1) := by decide +kernel
theorem dX7_machine_23 : decode cX7_machine 23 = .ok (.putfield 104, 3) := by decide +kernel
theorem dX7_machine_26 : decode cX7_machine 26 = .ok (.aload_n 0, 1) := by decide +kernel
theorem dX7_machine_27 : decode cX7_machine 27 = .ok (.getfield 104, 3) := by decide +kernel
theorem dX7_machine_30 : decode cX7_machine 30 = .ok (.iconst 1, 1) := by decide +kernel
theorem dX7_machine_31 : decode cX7_machine 31 = .ok (.isub, 1) := by decide +kernel
theorem dX7_machine_32 : decode cX7_machine 32 = .ok (.ireturn, 1) := by decide +kernel
theorem dX7_isBelow_0 : decode cX7_isBelow 0 = .ok (.iload_n 0, 1) := by decide +kernel
theorem dX7_isBelow_1 : decode cX7_isBelow 1 = .ok (.bipush 10, 2) := by decide +kernel
theorem dX7_isBelow_3 : decode cX7_isBelow 3 = .ok (.if_icmp .lt 10, 3) := by decide +kernel
theorem dX7_isBelow_6 : decode cX7_isBelow 6 = .ok (.iload_n 0, 1) := by decide +kernel
theorem dX7_isBelow_7 : decode cX7_isBelow 7 = .ok (.bipush 10, 2) := by decide +kernel
theorem dX7_isBelow_9 : decode cX7_isBelow 9 = .ok (.irem, 1) := by decide +kernel
theorem dX7_isBelow_10 : decode cX7_isBelow 10 = .ok (.ifCond .eq 7, 3) := by decide +kernel
theorem dX7_isBelow_13 : decode cX7_isBelow 13 = .ok (.iconst 1, 1) := by decide +kernel
theorem dX7_isBelow_14 : decode cX7_isBelow 14 = .ok (.goto 4, 3) := by decide +kernel
theorem dX7_isBelow_17 : decode cX7_isBelow 17 = .ok (.iconst 0, 1) := by decide +kernel
theorem dX7_isBelow_18 : decode cX7_isBelow 18 = .ok (.ireturn, 1) := by decide +kernel
theorem dX7_lane_0 : decode cX7_lane 0 = .ok (.aload_n 0, 1) := by decide +kernel
theorem dX7_lane_1 : decode cX7_lane 1 = .ok (.iload_n 1, 1) := by decide +kernel
theorem dX7_lane_2 : decode cX7_lane 2 = .ok (.invokevirtual 112, 3) := by decide +kernel
theorem dX7_lane_5 : decode cX7_lane 5 = .ok (.ifCond .eq 13, 3) := by decide +kernel
theorem dX7_lane_8 : decode cX7_lane 8 = .ok (.iload_n 2, 1) := by decide +kernel
theorem dX7_lane_9 : decode cX7_lane 9 = .ok (.iconst 0, 1) := by decide +kernel
theorem dX7_lane_10 : decode cX7_lane 10 = .ok (.bipush 15, 2) := by decide +kernel
theorem dX7_lane_12 : decode cX7_lane 12 = .ok (.invokestatic 108, 3) := by decide +kernel
theorem dX7_lane_15 : decode cX7_lane 15 = .ok (.ifCond .ne 9, 3) := by decide +kernel
theorem dX7_lane_18 : decode cX7_lane 18 = .ok (.aload_n 0, 1) := by decide +kernel
theorem dX7_lane_19 : decode cX7_lane 19 = .ok (.iconst (-1), 1) := by decide +kernel
theorem dX7_lane_20 : decode cX7_lane 20 = .ok (.invokevirtual 116, 3) := by decide +kernel
theorem dX7_lane_23 : decode cX7_lane 23 = .ok (.ireturn, 1) := by decide +kernel
theorem dX7_lane_24 : decode cX7_lane 24 = .ok (.iload 5, 2) := by decide +kernel
theorem dX7_lane_26 : decode cX7_lane 26 = .ok (.iconst 0, 1) := by decide +kernel
theorem dX7_lane_27 : decode cX7_lane 27 = .ok (.iconst 3, 1) := by decide +kernel
theorem dX7_lane_28 : decode cX7_lane 28 = .ok (.invokestatic 108, 3) := by decide +kernel
theorem dX7_lane_31 : decode cX7_lane 31 = .ok (.ifCond .ne 10, 3) := by decide +kernel
theorem dX7_lane_34 : decode cX7_lane 34 = .ok (.aload_n 0, 1) := by decide +kernel
theorem dX7_lane_35 : decode cX7_lane 35 = .ok (.bipush (-2), 2) := by decide +kernel
theorem dX7_lane_37 : decode cX7_lane 37 = .ok (.invokevirtual 116, 3) := by decide +kernel
theorem dX7_lane_40 : decode cX7_lane 40 = .ok (.ireturn, 1) := by decide +kernel
theorem dX7_lane_41 : decode cX7_lane 41 = .ok (.iload_n 3, 1) := by decide +kernel
theorem dX7_lane_42 : decode cX7_lane 42 = .ok (.invokestatic 120, 3) := by decide +kernel
theorem dX7_lane_45 : decode cX7_lane 45 = .ok (.ifCond .ne 20, 3) := by decide +kernel
theorem dX7_lane_48 : decode cX7_lane 48 = .ok (.iload 4, 2) := by decide +kernel
theorem dX7_lane_50 : decode cX7_lane 50 = .ok (.iconst 1, 1) := by decide +kernel
theorem dX7_lane_51 : decode cX7_lane 51 = .ok (.if_icmp .lt 14, 3) := by decide +kernel
theorem dX7_lane_54 : decode cX7_lane 54 = .ok (.iload 5, 2) := by decide +kernel
theorem dX7_lane_56 : decode cX7_lane 56 = .ok (.iconst 2, 1) := by decide +kernel
theorem dX7_lane_57 : decode cX7_lane 57 = .ok (.if_icmp .ne 15, 3) := by decide +kernel
theorem dX7_lane_60 : decode cX7_lane 60 = .ok (.iload 6, 2) := by decide +kernel
theorem dX7_lane_62 : decode cX7_lane 62 = .ok (.ifCond .ge 10, 3) := by decide +kernel
theorem dX7_lane_65 : decode cX7_lane 65 = .ok (.aload_n 0, 1) := by decide +kernel
theorem dX7_lane_66 : decode cX7_lane 66 = .ok (.bipush (-4), 2) := by decide +kernel
theorem dX7_lane_68 : decode cX7_lane 68 = .ok (.invokevirtual 116, 3) := by decide +kernel
theorem dX7_lane_71 : decode cX7_lane 71 = .ok (.ireturn, 1) := by decide +kernel
theorem dX7_lane_72 : decode cX7_lane 72 = .ok (.iload_n 3, 1) := by decide +kernel
theorem dX7_lane_73 : decode cX7_lane 73 = .ok (.sipush 5000, 3) := by decide +kernel
theorem dX7_lane_76 : decode cX7_lane 76 = .ok (.if_icmp .gt 34, 3) := by decide +kernel
theorem dX7_lane_79 : decode cX7_lane 79 = .ok (.iload 4, 2) := by decide +kernel
theorem dX7_lane_81 : decode cX7_lane 81 = .ok (.bipush 20, 2) := by decide +kernel
theorem dX7_lane_83 : decode cX7_lane 83 = .ok (.if_icmp .gt 27, 3) := by decide +kernel
theorem dX7_lane_86 : decode cX7_lane 86 = .ok (.iload 5, 2) := by decide +kernel
theorem dX7_lane_88 : decode cX7_lane 88 = .ok (.iconst 2, 1) := by decide +kernel
theorem dX7_lane_89 : decode cX7_lane 89 = .ok (.if_icmp .ne 10, 3) := by decide +kernel
theorem dX7_lane_92 : decode cX7_lane 92 = .ok (.iload 6, 2) := by decide +kernel
theorem dX7_lane_94 : decode cX7_lane 94 = .ok (.bipush 48, 2) := by decide +kernel
theorem dX7_lane_96 : decode cX7_lane 96 = .ok (.if_icmp .gt 14, 3) := by decide +kernel
theorem dX7_lane_99 : decode cX7_lane 99 = .ok (.aload_n 0, 1) := by decide +kernel
theorem dX7_lane_100 : decode cX7_lane 100 = .ok (.getfield 7, 3) := by decide +kernel
theorem dX7_lane_103 : decode cX7_lane 103 = .ok (.iload_n 1, 1) := by decide +kernel
theorem dX7_lane_104 : decode cX7_lane 104 = .ok (.iaload, 1) := by decide +kernel
theorem dX7_lane_105 : decode cX7_lane 105 = .ok (.bipush 8, 2) := by decide +kernel
theorem dX7_lane_107 : decode cX7_lane 107 = .ok (.if_icmp .ne 10, 3) := by decide +kernel
theorem dX7_lane_110 : decode cX7_lane 110 = .ok (.aload_n 0, 1) := by decide +kernel
theorem dX7_lane_111 : decode cX7_lane 111 = .ok (.bipush (-6), 2) := by decide +kernel
theorem dX7_lane_113 : decode cX7_lane 113 = .ok (.invokevirtual 116, 3) := by decide +kernel
theorem dX7_lane_116 : decode cX7_lane 116 = .ok (.ireturn, 1) := by decide +kernel
theorem dX7_lane_117 : decode cX7_lane 117 = .ok (.bipush 8, 2) := by decide +kernel
theorem dX7_lane_119 : decode cX7_lane 119 = .ok (.iload_n 1, 1) := by decide +kernel
theorem dX7_lane_120 : decode cX7_lane 120 = .ok (.imul, 1) := by decide +kernel
theorem dX7_lane_121 : decode cX7_lane 121 = .ok (.aload_n 0, 1) := by decide +kernel
theorem dX7_lane_122 : decode cX7_lane 122 = .ok (.getfield 7, 3) := by decide +kernel
theorem dX7_lane_125 : decode cX7_lane 125 = .ok (.iload_n 1, 1) := by decide +kernel
theorem dX7_lane_126 : decode cX7_lane 126 = .ok (.iaload, 1) := by decide +kernel
theorem dX7_lane_127 : decode cX7_lane 127 = .ok (.iadd, 1) := by decide +kernel
theorem dX7_lane_128 : decode cX7_lane 128 = .ok (.istore 7, 2) := by decide +kernel
theorem dX7_lane_130 : decode cX7_lane 130 = .ok (.aload_n 0, 1) := by decide +kernel
theorem dX7_lane_131 : decode cX7_lane 131 = .ok (.getfield 7, 3) := by decide +kernel
theorem dX7_lane_134 : decode cX7_lane 134 = .ok (.iload_n 1, 1) := by decide +kernel
theorem dX7_lane_135 : decode cX7_lane 135 = .ok (.dup2, 1) := by decide +kernel
theorem dX7_lane_136 : decode cX7_lane 136 = .ok (.iaload, 1) := by decide +kernel
theorem dX7_lane_137 : decode cX7_lane 137 = .ok (.iconst 1, 1) := by decide +kernel
theorem dX7_lane_138 : decode cX7_lane 138 = .ok (.iadd, 1) := by decide +kernel
theorem dX7_lane_139 : decode cX7_lane 139 = .ok (.iastore, 1) := by decide +kernel
theorem dX7_lane_140 : decode cX7_lane 140 = .ok (.aload_n 0, 1) := by decide +kernel
theorem dX7_lane_141 : decode cX7_lane 141 = .ok (.getfield 35, 3) := by decide +kernel
theorem dX7_lane_144 : decode cX7_lane 144 = .ok (.iload 7, 2) := by decide +kernel
theorem dX7_lane_146 : decode cX7_lane 146 = .ok (.iload_n 2, 1) := by decide +kernel
theorem dX7_lane_147 : decode cX7_lane 147 = .ok (.iastore, 1) := by decide +kernel
theorem dX7_lane_148 : decode cX7_lane 148 = .ok (.aload_n 0, 1) := by decide +kernel
theorem dX7_lane_149 : decode cX7_lane 149 = .ok (.getfield 38, 3) := by decide +kernel
theorem dX7_lane_152 : decode cX7_lane 152 = .ok (.iload 7, 2) := by decide +kernel
theorem dX7_lane_154 : decode cX7_lane 154 = .ok (.iload_n 3, 1) := by decide +kernel
theorem dX7_lane_155 : decode cX7_lane 155 = .ok (.iastore, 1) := by decide +kernel
theorem dX7_lane_156 : decode cX7_lane 156 = .ok (.aload_n 0, 1) := by decide +kernel
theorem dX7_lane_157 : decode cX7_lane 157 = .ok (.getfield 41, 3) := by decide +kernel
theorem dX7_lane_160 : decode cX7_lane 160 = .ok (.iload 7, 2) := by decide +kernel
theorem dX7_lane_162 : decode cX7_lane 162 = .ok (.iload 4, 2) := by decide +kernel
theorem dX7_lane_164 : decode cX7_lane 164 = .ok (.iastore, 1) := by decide +kernel
theorem dX7_lane_165 : decode cX7_lane 165 = .ok (.aload_n 0, 1) := by decide +kernel
theorem dX7_lane_166 : decode cX7_lane 166 = .ok (.getfield 47, 3) := by decide +kernel
theorem dX7_lane_169 : decode cX7_lane 169 = .ok (.iload 7, 2) := by decide +kernel
theorem dX7_lane_171 : decode cX7_lane 171 = .ok (.iload 5, 2) := by decide +kernel
theorem dX7_lane_173 : decode cX7_lane 173 = .ok (.iastore, 1) := by decide +kernel
theorem dX7_lane_174 : decode cX7_lane 174 = .ok (.aload_n 0, 1) := by decide +kernel
theorem dX7_lane_175 : decode cX7_lane 175 = .ok (.getfield 50, 3) := by decide +kernel
theorem dX7_lane_178 : decode cX7_lane 178 = .ok (.iload 7, 2) := by decide +kernel
theorem dX7_lane_180 : decode cX7_lane 180 = .ok (.iload 6, 2) := by decide +kernel
theorem dX7_lane_182 : decode cX7_lane 182 = .ok (.iastore, 1) := by decide +kernel
theorem dX7_lane_183 : decode cX7_lane 183 = .ok (.aload_n 0, 1) := by decide +kernel
theorem dX7_lane_184 : decode cX7_lane 184 = .ok (.getfield 7, 3) := by decide +kernel
theorem dX7_lane_187 : decode cX7_lane 187 = .ok (.iload_n 1, 1) := by decide +kernel
theorem dX7_lane_188 : decode cX7_lane 188 = .ok (.iaload, 1) := by decide +kernel
theorem dX7_lane_189 : decode cX7_lane 189 = .ok (.iconst 1, 1) := by decide +kernel
theorem dX7_lane_190 : decode cX7_lane 190 = .ok (.isub, 1) := by decide +kernel
theorem dX7_lane_191 : decode cX7_lane 191 = .ok (.ireturn, 1) := by decide +kernel
theorem dX7_size_0 : decode cX7_size 0 = .ok (.iload_n 1, 1) := by decide +kernel
theorem dX7_size_1 : decode cX7_size 1 = .ok (.iconst 0, 1) := by decide +kernel
theorem dX7_size_2 : decode cX7_size 2 = .ok (.bipush 15, 2) := by decide +kernel
theorem dX7_size_4 : decode cX7_size 4 = .ok (.invokestatic 108, 3) := by decide +kernel
theorem dX7_size_7 : decode cX7_size 7 = .ok (.ifCond .ne 9, 3) := by decide +kernel
theorem dX7_size_10 : decode cX7_size 10 = .ok (.aload_n 0, 1) := by decide +kernel
theorem dX7_size_11 : decode cX7_size 11 = .ok (.iconst (-1), 1) := by decide +kernel
theorem dX7_size_12 : decode cX7_size 12 = .ok (.invokevirtual 116, 3) := by decide +kernel
theorem dX7_size_15 : decode cX7_size 15 = .ok (.ireturn, 1) := by decide +kernel
theorem dX7_size_16 : decode cX7_size 16 = .ok (.iload_n 2, 1) := by decide +kernel
theorem dX7_size_17 : decode cX7_size 17 = .ok (.iconst 1, 1) := by decide +kernel
theorem dX7_size_18 : decode cX7_size 18 = .ok (.if_icmp .ge 10, 3) := by decide +kernel
theorem dX7_size_21 : decode cX7_size 21 = .ok (.aload_n 0, 1) := by decide +kernel
theorem dX7_size_22 : decode cX7_size 22 = .ok (.bipush (-4), 2) := by decide +kernel
theorem dX7_size_24 : decode cX7_size 24 = .ok (.invokevirtual 116, 3) := by decide +kernel
theorem dX7_size_27 : decode cX7_size 27 = .ok (.ireturn, 1) := by decide +kernel
theorem dX7_size_28 : decode cX7_size 28 = .ok (.iload_n 2, 1) := by decide +kernel
theorem dX7_size_29 : decode cX7_size 29 = .ok (.bipush 9, 2) := by decide +kernel
theorem dX7_size_31 : decode cX7_size 31 = .ok (.if_icmp .le 10, 3) := by decide +kernel
theorem dX7_size_34 : decode cX7_size 34 = .ok (.aload_n 0, 1) := by decide +kernel
theorem dX7_size_35 : decode cX7_size 35 = .ok (.bipush (-6), 2) := by decide +kernel
theorem dX7_size_37 : decode cX7_size 37 = .ok (.invokevirtual 116, 3) := by decide +kernel
theorem dX7_size_40 : decode cX7_size 40 = .ok (.ireturn, 1) := by decide +kernel
theorem dX7_size_41 : decode cX7_size 41 = .ok (.aload_n 0, 1) := by decide +kernel
theorem dX7_size_42 : decode cX7_size 42 = .ok (.getfield 65, 3) := by decide +kernel
theorem dX7_size_45 : decode cX7_size 45 = .ok (.iload_n 1, 1) := by decide +kernel
theorem dX7_size_46 : decode cX7_size 46 = .ok (.iaload, 1) := by decide +kernel
theorem dX7_size_47 : decode cX7_size 47 = .ok (.istore_n 3, 1) := by decide +kernel
theorem dX7_size_48 : decode cX7_size 48 = .ok (.aload_n 0, 1) := by decide +kernel
theorem dX7_size_49 : decode cX7_size 49 = .ok (.getfield 65, 3) := by decide +kernel
theorem dX7_size_52 : decode cX7_size 52 = .ok (.iload_n 1, 1) := by decide +kernel
theorem dX7_size_53 : decode cX7_size 53 = .ok (.iload_n 2, 1) := by decide +kernel
theorem dX7_size_54 : decode cX7_size 54 = .ok (.iastore, 1) := by decide +kernel
theorem dX7_size_55 : decode cX7_size 55 = .ok (.iload_n 3, 1) := by decide +kernel
theorem dX7_size_56 : decode cX7_size 56 = .ok (.ireturn, 1) := by decide +kernel
theorem dX7_price_0 : decode cX7_price 0 = .ok (.aload_n 0, 1) := by decide +kernel
theorem dX7_price_1 : decode cX7_price 1 = .ok (.iload_n 1, 1) := by decide +kernel
theorem dX7_price_2 : decode cX7_price 2 = .ok (.iload_n 2, 1) := by decide +kernel
theorem dX7_price_3 : decode cX7_price 3 = .ok (.invokevirtual 123, 3) := by decide +kernel
theorem dX7_price_6 : decode cX7_price 6 = .ok (.ifCond .ne 9, 3) := by decide +kernel
theorem dX7_price_9 : decode cX7_price 9 = .ok (.aload_n 0, 1) := by decide +kernel
theorem dX7_price_10 : decode cX7_price 10 = .ok (.iconst (-1), 1) := by decide +kernel
theorem dX7_price_11 : decode cX7_price 11 = .ok (.invokevirtual 116, 3) := by decide +kernel
theorem dX7_price_14 : decode cX7_price 14 = .ok (.ireturn, 1) := by decide +kernel
theorem dX7_price_15 : decode cX7_price 15 = .ok (.iload_n 3, 1) := by decide +kernel
theorem dX7_price_16 : decode cX7_price 16 = .ok (.invokestatic 120, 3) := by decide +kernel
theorem dX7_price_19 : decode cX7_price 19 = .ok (.ifCond .eq 10, 3) := by decide +kernel
theorem dX7_price_22 : decode cX7_price 22 = .ok (.aload_n 0, 1) := by decide +kernel
theorem dX7_price_23 : decode cX7_price 23 = .ok (.bipush (-4), 2) := by decide +kernel
theorem dX7_price_25 : decode cX7_price 25 = .ok (.invokevirtual 116, 3) := by decide +kernel
theorem dX7_price_28 : decode cX7_price 28 = .ok (.ireturn, 1) := by decide +kernel
theorem dX7_price_29 : decode cX7_price 29 = .ok (.iload_n 3, 1) := by decide +kernel
theorem dX7_price_30 : decode cX7_price 30 = .ok (.sipush 5000, 3) := by decide +kernel
theorem dX7_price_33 : decode cX7_price 33 = .ok (.if_icmp .le 10, 3) := by decide +kernel
theorem dX7_price_36 : decode cX7_price 36 = .ok (.aload_n 0, 1) := by decide +kernel
theorem dX7_price_37 : decode cX7_price 37 = .ok (.bipush (-6), 2) := by decide +kernel
theorem dX7_price_39 : decode cX7_price 39 = .ok (.invokevirtual 116, 3) := by decide +kernel
theorem dX7_price_42 : decode cX7_price 42 = .ok (.ireturn, 1) := by decide +kernel
theorem dX7_price_43 : decode cX7_price 43 = .ok (.aload_n 0, 1) := by decide +kernel
theorem dX7_price_44 : decode cX7_price 44 = .ok (.getfield 38, 3) := by decide +kernel
theorem dX7_price_47 : decode cX7_price 47 = .ok (.bipush 8, 2) := by decide +kernel
theorem dX7_price_49 : decode cX7_price 49 = .ok (.iload_n 1, 1) := by decide +kernel
theorem dX7_price_50 : decode cX7_price 50 = .ok (.imul, 1) := by decide +kernel
theorem dX7_price_51 : decode cX7_price 51 = .ok (.iload_n 2, 1) := by decide +kernel
theorem dX7_price_52 : decode cX7_price 52 = .ok (.iadd, 1) := by decide +kernel
theorem dX7_price_53 : decode cX7_price 53 = .ok (.iaload, 1) := by decide +kernel
theorem dX7_price_54 : decode cX7_price 54 = .ok (.istore 4, 2) := by decide +kernel
theorem dX7_price_56 : decode cX7_price 56 = .ok (.aload_n 0, 1) := by decide +kernel
theorem dX7_price_57 : decode cX7_price 57 = .ok (.getfield 38, 3) := by decide +kernel
theorem dX7_price_60 : decode cX7_price 60 = .ok (.bipush 8, 2) := by decide +kernel
theorem dX7_price_62 : decode cX7_price 62 = .ok (.iload_n 1, 1) := by decide +kernel
theorem dX7_price_63 : decode cX7_price 63 = .ok (.imul, 1) := by decide +kernel
theorem dX7_price_64 : decode cX7_price 64 = .ok (.iload_n 2, 1) := by decide +kernel
theorem dX7_price_65 : decode cX7_price 65 = .ok (.iadd, 1) := by decide +kernel
theorem dX7_price_66 : decode cX7_price 66 = .ok (.iload_n 3, 1) := by decide +kernel
theorem dX7_price_67 : decode cX7_price 67 = .ok (.iastore, 1) := by decide +kernel
theorem dX7_price_68 : decode cX7_price 68 = .ok (.iload 4, 2) := by decide +kernel
theorem dX7_price_70 : decode cX7_price 70 = .ok (.ireturn, 1) := by decide +kernel
theorem dX7_tube_0 : decode cX7_tube 0 = .ok (.aload_n 0, 1) := by decide +kernel
theorem dX7_tube_1 : decode cX7_tube 1 = .ok (.iload_n 1, 1) := by decide +kernel
theorem dX7_tube_2 : decode cX7_tube 2 = .ok (.invokevirtual 112, 3) := by decide +kernel
theorem dX7_tube_5 : decode cX7_tube 5 = .ok (.ifCond .eq 12, 3) := by decide +kernel
theorem dX7_tube_8 : decode cX7_tube 8 = .ok (.iload_n 2, 1) := by decide +kernel
theorem dX7_tube_9 : decode cX7_tube 9 = .ok (.iconst 0, 1) := by decide +kernel
theorem dX7_tube_10 : decode cX7_tube 10 = .ok (.iconst 5, 1) := by decide +kernel
theorem dX7_tube_11 : decode cX7_tube 11 = .ok (.invokestatic 108, 3) := by decide +kernel
theorem dX7_tube_14 : decode cX7_tube 14 = .ok (.ifCond .ne 9, 3) := by decide +kernel
theorem dX7_tube_17 : decode cX7_tube 17 = .ok (.aload_n 0, 1) := by decide +kernel
theorem dX7_tube_18 : decode cX7_tube 18 = .ok (.iconst (-1), 1) := by decide +kernel
theorem dX7_tube_19 : decode cX7_tube 19 = .ok (.invokevirtual 116, 3) := by decide +kernel
theorem dX7_tube_22 : decode cX7_tube 22 = .ok (.ireturn, 1) := by decide +kernel
theorem dX7_tube_23 : decode cX7_tube 23 = .ok (.iload_n 3, 1) := by decide +kernel
theorem dX7_tube_24 : decode cX7_tube 24 = .ok (.ifCond .ge 10, 3) := by decide +kernel
theorem dX7_tube_27 : decode cX7_tube 27 = .ok (.aload_n 0, 1) := by decide +kernel
theorem dX7_tube_28 : decode cX7_tube 28 = .ok (.bipush (-4), 2) := by decide +kernel
theorem dX7_tube_30 : decode cX7_tube 30 = .ok (.invokevirtual 116, 3) := by decide +kernel
theorem dX7_tube_33 : decode cX7_tube 33 = .ok (.ireturn, 1) := by decide +kernel
theorem dX7_tube_34 : decode cX7_tube 34 = .ok (.iload_n 3, 1) := by decide +kernel
theorem dX7_tube_35 : decode cX7_tube 35 = .ok (.bipush 50, 2) := by decide +kernel
theorem dX7_tube_37 : decode cX7_tube 37 = .ok (.aload_n 0, 1) := by decide +kernel
theorem dX7_tube_38 : decode cX7_tube 38 = .ok (.getfield 13, 3) := by decide +kernel
theorem dX7_tube_41 : decode cX7_tube 41 = .ok (.bipush 6, 2) := by decide +kernel
theorem dX7_tube_43 : decode cX7_tube 43 = .ok (.iload_n 1, 1) := by decide +kernel
theorem dX7_tube_44 : decode cX7_tube 44 = .ok (.imul, 1) := by decide +kernel
theorem dX7_tube_45 : decode cX7_tube 45 = .ok (.iload_n 2, 1) := by decide +kernel
theorem dX7_tube_46 : decode cX7_tube 46 = .ok (.iadd, 1) := by decide +kernel
theorem dX7_tube_47 : decode cX7_tube 47 = .ok (.iaload, 1) := by decide +kernel
theorem dX7_tube_48 : decode cX7_tube 48 = .ok (.isub, 1) := by decide +kernel
theorem dX7_tube_49 : decode cX7_tube 49 = .ok (.if_icmp .le 10, 3) := by decide +kernel
theorem dX7_tube_52 : decode cX7_tube 52 = .ok (.aload_n 0, 1) := by decide +kernel
theorem dX7_tube_53 : decode cX7_tube 53 = .ok (.bipush (-6), 2) := by decide +kernel
theorem dX7_tube_55 : decode cX7_tube 55 = .ok (.invokevirtual 116, 3) := by decide +kernel
theorem dX7_tube_58 : decode cX7_tube 58 = .ok (.ireturn, 1) := by decide +kernel
theorem dX7_tube_59 : decode cX7_tube 59 = .ok (.aload_n 0, 1) := by decide +kernel
theorem dX7_tube_60 : decode cX7_tube 60 = .ok (.getfield 13, 3) := by decide +kernel
theorem dX7_tube_63 : decode cX7_tube 63 = .ok (.bipush 6, 2) := by decide +kernel
theorem dX7_tube_65 : decode cX7_tube 65 = .ok (.iload_n 1, 1) := by decide +kernel
theorem dX7_tube_66 : decode cX7_tube 66 = .ok (.imul, 1) := by decide +kernel
theorem dX7_tube_67 : decode cX7_tube 67 = .ok (.iload_n 2, 1) := by decide +kernel
theorem dX7_tube_68 : decode cX7_tube 68 = .ok (.iadd, 1) := by decide +kernel
theorem dX7_tube_69 : decode cX7_tube 69 = .ok (.dup2, 1) := by decide +kernel
theorem dX7_tube_70 : decode cX7_tube 70 = .ok (.iaload, 1) := by decide +kernel
theorem dX7_tube_71 : decode cX7_tube 71 = .ok (.iload_n 3, 1) := by decide +kernel
theorem dX7_tube_72 : decode cX7_tube 72 = .ok (.iadd, 1) := by decide +kernel
theorem dX7_tube_73 : decode cX7_tube 73 = .ok (.iastore, 1) := by decide +kernel
theorem dX7_tube_74 : decode cX7_tube 74 = .ok (.aload_n 0, 1) := by decide +kernel
theorem dX7_tube_75 : decode cX7_tube 75 = .ok (.getfield 22, 3) := by decide +kernel
theorem dX7_tube_78 : decode cX7_tube 78 = .ok (.bipush 6, 2) := by decide +kernel
theorem dX7_tube_80 : decode cX7_tube 80 = .ok (.iload_n 1, 1) := by decide +kernel
theorem dX7_tube_81 : decode cX7_tube 81 = .ok (.imul, 1) := by decide +kernel
theorem dX7_tube_82 : decode cX7_tube 82 = .ok (.iload_n 2, 1) := by decide +kernel
theorem dX7_tube_83 : decode cX7_tube 83 = .ok (.iadd, 1) := by decide +kernel
theorem dX7_tube_84 : decode cX7_tube 84 = .ok (.dup2, 1) := by decide +kernel
theorem dX7_tube_85 : decode cX7_tube 85 = .ok (.iaload, 1) := by decide +kernel
theorem dX7_tube_86 : decode cX7_tube 86 = .ok (.iload_n 3, 1) := by decide +kernel
theorem dX7_tube_87 : decode cX7_tube 87 = .ok (.iadd, 1) := by decide +kernel
theorem dX7_tube_88 : decode cX7_tube 88 = .ok (.iastore, 1) := by decide +kernel
theorem dX7_tube_89 : decode cX7_tube 89 = .ok (.aload_n 0, 1) := by decide +kernel
theorem dX7_tube_90 : decode cX7_tube 90 = .ok (.getfield 13, 3) := by decide +kernel
theorem dX7_tube_93 : decode cX7_tube 93 = .ok (.bipush 6, 2) := by decide +kernel
theorem dX7_tube_95 : decode cX7_tube 95 = .ok (.iload_n 1, 1) := by decide +kernel
theorem dX7_tube_96 : decode cX7_tube 96 = .ok (.imul, 1) := by decide +kernel
theorem dX7_tube_97 : decode cX7_tube 97 = .ok (.iload_n 2, 1) := by decide +kernel
theorem dX7_tube_98 : decode cX7_tube 98 = .ok (.iadd, 1) := by decide +kernel
theorem dX7_tube_99 : decode cX7_tube 99 = .ok (.iaload, 1) := by decide +kernel
theorem dX7_tube_100 : decode cX7_tube 100 = .ok (.ireturn, 1) := by decide +kernel
theorem dX7_stick_0 : decode cX7_stick 0 = .ok (.aload_n 0, 1) := by decide +kernel
theorem dX7_stick_1 : decode cX7_stick 1 = .ok (.iload_n 1, 1) := by decide +kernel
theorem dX7_stick_2 : decode cX7_stick 2 = .ok (.iload_n 2, 1) := by decide +kernel
theorem dX7_stick_3 : decode cX7_stick 3 = .ok (.invokevirtual 123, 3) := by decide +kernel
theorem dX7_stick_6 : decode cX7_stick 6 = .ok (.ifCond .ne 9, 3) := by decide +kernel
theorem dX7_stick_9 : decode cX7_stick 9 = .ok (.aload_n 0, 1) := by decide +kernel
theorem dX7_stick_10 : decode cX7_stick 10 = .ok (.iconst (-1), 1) := by decide +kernel
theorem dX7_stick_11 : decode cX7_stick 11 = .ok (.invokevirtual 116, 3) := by decide +kernel
theorem dX7_stick_14 : decode cX7_stick 14 = .ok (.ireturn, 1) := by decide +kernel
theorem dX7_stick_15 : decode cX7_stick 15 = .ok (.aload_n 0, 1) := by decide +kernel
theorem dX7_stick_16 : decode cX7_stick 16 = .ok (.getfield 47, 3) := by decide +kernel
theorem dX7_stick_19 : decode cX7_stick 19 = .ok (.bipush 8, 2) := by decide +kernel
theorem dX7_stick_21 : decode cX7_stick 21 = .ok (.iload_n 1, 1) := by decide +kernel
theorem dX7_stick_22 : decode cX7_stick 22 = .ok (.imul, 1) := by decide +kernel
theorem dX7_stick_23 : decode cX7_stick 23 = .ok (.iload_n 2, 1) := by decide +kernel
theorem dX7_stick_24 : decode cX7_stick 24 = .ok (.iadd, 1) := by decide +kernel
theorem dX7_stick_25 : decode cX7_stick 25 = .ok (.iaload, 1) := by decide +kernel
theorem dX7_stick_26 : decode cX7_stick 26 = .ok (.iconst 1, 1) := by decide +kernel
theorem dX7_stick_27 : decode cX7_stick 27 = .ok (.if_icmp .eq 10, 3) := by decide +kernel
theorem dX7_stick_30 : decode cX7_stick 30 = .ok (.aload_n 0, 1) := by decide +kernel
theorem dX7_stick_31 : decode cX7_stick 31 = .ok (.bipush (-2), 2) := by decide +kernel
theorem dX7_stick_33 : decode cX7_stick 33 = .ok (.invokevirtual 116, 3) := by decide +kernel
theorem dX7_stick_36 : decode cX7_stick 36 = .ok (.ireturn, 1) := by decide +kernel
theorem dX7_stick_37 : decode cX7_stick 37 = .ok (.iload_n 3, 1) := by decide +kernel
theorem dX7_stick_38 : decode cX7_stick 38 = .ok (.ifCond .ge 10, 3) := by decide +kernel
theorem dX7_stick_41 : decode cX7_stick 41 = .ok (.aload_n 0, 1) := by decide +kernel
theorem dX7_stick_42 : decode cX7_stick 42 = .ok (.bipush (-4), 2) := by decide +kernel
theorem dX7_stick_44 : decode cX7_stick 44 = .ok (.invokevirtual 116, 3) := by decide +kernel
theorem dX7_stick_47 : decode cX7_stick 47 = .ok (.ireturn, 1) := by decide +kernel
theorem dX7_stick_48 : decode cX7_stick 48 = .ok (.iload_n 3, 1) := by decide +kernel
theorem dX7_stick_49 : decode cX7_stick 49 = .ok (.bipush 9, 2) := by decide +kernel
theorem dX7_stick_51 : decode cX7_stick 51 = .ok (.aload_n 0, 1) := by decide +kernel
theorem dX7_stick_52 : decode cX7_stick 52 = .ok (.getfield 53, 3) := by decide +kernel
theorem dX7_stick_55 : decode cX7_stick 55 = .ok (.bipush 8, 2) := by decide +kernel
theorem dX7_stick_57 : decode cX7_stick 57 = .ok (.iload_n 1, 1) := by decide +kernel
theorem dX7_stick_58 : decode cX7_stick 58 = .ok (.imul, 1) := by decide +kernel
theorem dX7_stick_59 : decode cX7_stick 59 = .ok (.iload_n 2, 1) := by decide +kernel
theorem dX7_stick_60 : decode cX7_stick 60 = .ok (.iadd, 1) := by decide +kernel
theorem dX7_stick_61 : decode cX7_stick 61 = .ok (.iaload, 1) := by decide +kernel
theorem dX7_stick_62 : decode cX7_stick 62 = .ok (.isub, 1) := by decide +kernel
theorem dX7_stick_63 : decode cX7_stick 63 = .ok (.if_icmp .le 10, 3) := by decide +kernel
theorem dX7_stick_66 : decode cX7_stick 66 = .ok (.aload_n 0, 1) := by decide +kernel
theorem dX7_stick_67 : decode cX7_stick 67 = .ok (.bipush (-6), 2) := by decide +kernel
theorem dX7_stick_69 : decode cX7_stick 69 = .ok (.invokevirtual 116, 3) := by decide +kernel
theorem dX7_stick_72 : decode cX7_stick 72 = .ok (.ireturn, 1) := by decide +kernel
theorem dX7_stick_73 : decode cX7_stick 73 = .ok (.aload_n 0, 1) := by decide +kernel
theorem dX7_stick_74 : decode cX7_stick 74 = .ok (.getfield 53, 3) := by decide +kernel
theorem dX7_stick_77 : decode cX7_stick 77 = .ok (.bipush 8, 2) := by decide +kernel
theorem dX7_stick_79 : decode cX7_stick 79 = .ok (.iload_n 1, 1) := by decide +kernel
theorem dX7_stick_80 : decode cX7_stick 80 = .ok (.imul, 1) := by decide +kernel
theorem dX7_stick_81 : decode cX7_stick 81 = .ok (.iload_n 2, 1) := by decide +kernel
theorem dX7_stick_82 : decode cX7_stick 82 = .ok (.iadd, 1) := by decide +kernel
theorem dX7_stick_83 : decode cX7_stick 83 = .ok (.dup2, 1) := by decide +kernel
theorem dX7_stick_84 : decode cX7_stick 84 = .ok (.iaload, 1) := by decide +kernel
theorem dX7_stick_85 : decode cX7_stick 85 = .ok (.iload_n 3, 1) := by decide +kernel
theorem dX7_stick_86 : decode cX7_stick 86 = .ok (.iadd, 1) := by decide +kernel
theorem dX7_stick_87 : decode cX7_stick 87 = .ok (.iastore, 1) := by decide +kernel
theorem dX7_stick_88 : decode cX7_stick 88 = .ok (.aload_n 0, 1) := by decide +kernel
theorem dX7_stick_89 : decode cX7_stick 89 = .ok (.getfield 53, 3) := by decide +kernel
theorem dX7_stick_92 : decode cX7_stick 92 = .ok (.bipush 8, 2) := by decide +kernel
theorem dX7_stick_94 : decode cX7_stick 94 = .ok (.iload_n 1, 1) := by decide +kernel
theorem dX7_stick_95 : decode cX7_stick 95 = .ok (.imul, 1) := by decide +kernel
theorem dX7_stick_96 : decode cX7_stick 96 = .ok (.iload_n 2, 1) := by decide +kernel
theorem dX7_stick_97 : decode cX7_stick 97 = .ok (.iadd, 1) := by decide +kernel
theorem dX7_stick_98 : decode cX7_stick 98 = .ok (.iaload, 1) := by decide +kernel
theorem dX7_stick_99 : decode cX7_stick 99 = .ok (.ireturn, 1) := by decide +kernel
theorem dX7_shut_0 : decode cX7_shut 0 = .ok (.aload_n 0, 1) := by decide +kernel
theorem dX7_shut_1 : decode cX7_shut 1 = .ok (.iload_n 1, 1) := by decide +kernel
theorem dX7_shut_2 : decode cX7_shut 2 = .ok (.iload_n 2, 1) := by decide +kernel
theorem dX7_shut_3 : decode cX7_shut 3 = .ok (.invokevirtual 123, 3) := by decide +kernel
theorem dX7_shut_6 : decode cX7_shut 6 = .ok (.ifCond .eq 18, 3) := by decide +kernel
theorem dX7_shut_9 : decode cX7_shut 9 = .ok (.aload_n 0, 1) := by decide +kernel
theorem dX7_shut_10 : decode cX7_shut 10 = .ok (.getfield 59, 3) := by decide +kernel
theorem dX7_shut_13 : decode cX7_shut 13 = .ok (.bipush 8, 2) := by decide +kernel
theorem dX7_shut_15 : decode cX7_shut 15 = .ok (.iload_n 1, 1) := by decide +kernel
theorem dX7_shut_16 : decode cX7_shut 16 = .ok (.imul, 1) := by decide +kernel
theorem dX7_shut_17 : decode cX7_shut 17 = .ok (.iload_n 2, 1) := by decide +kernel
theorem dX7_shut_18 : decode cX7_shut 18 = .ok (.iadd, 1) := by decide +kernel
theorem dX7_shut_19 : decode cX7_shut 19 = .ok (.baload, 1) := by decide +kernel
theorem dX7_shut_20 : decode cX7_shut 20 = .ok (.iload_n 3, 1) := by decide +kernel
theorem dX7_shut_21 : decode cX7_shut 21 = .ok (.if_icmp .ne 5, 3) := by decide +kernel
theorem dX7_shut_24 : decode cX7_shut 24 = .ok (.iconst 0, 1) := by decide +kernel
theorem dX7_shut_25 : decode cX7_shut 25 = .ok (.ireturn, 1) := by decide +kernel
theorem dX7_shut_26 : decode cX7_shut 26 = .ok (.aload_n 0, 1) := by decide +kernel
theorem dX7_shut_27 : decode cX7_shut 27 = .ok (.getfield 59, 3) := by decide +kernel
theorem dX7_shut_30 : decode cX7_shut 30 = .ok (.bipush 8, 2) := by decide +kernel
theorem dX7_shut_32 : decode cX7_shut 32 = .ok (.iload_n 1, 1) := by decide +kernel
theorem dX7_shut_33 : decode cX7_shut 33 = .ok (.imul, 1) := by decide +kernel
theorem dX7_shut_34 : decode cX7_shut 34 = .ok (.iload_n 2, 1) := by decide +kernel
theorem dX7_shut_35 : decode cX7_shut 35 = .ok (.iadd, 1) := by decide +kernel
theorem dX7_shut_36 : decode cX7_shut 36 = .ok (.iload_n 3, 1) := by decide +kernel
theorem dX7_shut_37 : decode cX7_shut 37 = .ok (.bastore, 1) := by decide +kernel
theorem dX7_shut_38 : decode cX7_shut 38 = .ok (.aload_n 0, 1) := by decide +kernel
theorem dX7_shut_39 : decode cX7_shut 39 = .ok (.getfield 56, 3) := by decide +kernel
theorem dX7_shut_42 : decode cX7_shut 42 = .ok (.bipush 8, 2) := by decide +kernel
theorem dX7_shut_44 : decode cX7_shut 44 = .ok (.iload_n 1, 1) := by decide +kernel
theorem dX7_shut_45 : decode cX7_shut 45 = .ok (.imul, 1) := by decide +kernel
theorem dX7_shut_46 : decode cX7_shut 46 = .ok (.iload_n 2, 1) := by decide +kernel
theorem dX7_shut_47 : decode cX7_shut 47 = .ok (.iadd, 1) := by decide +kernel
theorem dX7_shut_48 : decode cX7_shut 48 = .ok (.iload_n 3, 1) := by decide +kernel
theorem dX7_shut_49 : decode cX7_shut 49 = .ok (.ifCond .eq 17, 3) := by decide +kernel
theorem dX7_shut_52 : decode cX7_shut 52 = .ok (.aload_n 0, 1) := by decide +kernel
theorem dX7_shut_53 : decode cX7_shut 53 = .ok (.getfield 56, 3) := by decide +kernel
theorem dX7_shut_56 : decode cX7_shut 56 = .ok (.bipush 8, 2) := by decide +kernel
theorem dX7_shut_58 : decode cX7_shut 58 = .ok (.iload_n 1, 1) := by decide +kernel
theorem dX7_shut_59 : decode cX7_shut 59 = .ok (.imul, 1) := by decide +kernel
theorem dX7_shut_60 : decode cX7_shut 60 = .ok (.iload_n 2, 1) := by decide +kernel
theorem dX7_shut_61 : decode cX7_shut 61 = .ok (.iadd, 1) := by decide +kernel
theorem dX7_shut_62 : decode cX7_shut 62 = .ok (.iaload, 1) := by decide +kernel
theorem dX7_shut_63 : decode cX7_shut 63 = .ok (.goto 4, 3) := by decide +kernel
theorem dX7_shut_66 : decode cX7_shut 66 = .ok (.iconst 0, 1) := by decide +kernel
theorem dX7_shut_67 : decode cX7_shut 67 = .ok (.iastore, 1) := by decide +kernel

theorem dX7_init_0 : decode cX7_init 0 = .ok (.aload_n 0, 1) := by decide +kernel
theorem dX7_init_1 : decode cX7_init 1 = .ok (.invokespecial 1, 3) := by decide +kernel
theorem dX7_init_4 : decode cX7_init 4 = .ok (.aload_n 0, 1) := by decide +kernel
theorem dX7_init_5 : decode cX7_init 5 = .ok (.iconst 1, 1) := by decide +kernel
theorem dX7_init_6 : decode cX7_init 6 = .ok (.putfield 7, 3) := by decide +kernel
theorem dX7_init_9 : decode cX7_init 9 = .ok (.aload_n 0, 1) := by decide +kernel
theorem dX7_init_10 : decode cX7_init 10 = .ok (.bipush 7, 2) := by decide +kernel
theorem dX7_init_12 : decode cX7_init 12 = .ok (.putfield 13, 3) := by decide +kernel
theorem dX7_init_15 : decode cX7_init 15 = .ok (.aload_n 0, 1) := by decide +kernel
theorem dX7_init_16 : decode cX7_init 16 = .ok (.iconst 1, 1) := by decide +kernel
theorem dX7_init_17 : decode cX7_init 17 = .ok (.putfield 16, 3) := by decide +kernel
theorem dX7_init_20 : decode cX7_init 20 = .ok (.aload_n 0, 1) := by decide +kernel
theorem dX7_init_21 : decode cX7_init 21 = .ok (.iconst 5, 1) := by decide +kernel
theorem dX7_init_22 : decode cX7_init 22 = .ok (.newarray .int, 2) := by decide +kernel
theorem dX7_init_24 : decode cX7_init 24 = .ok (.putfield 19, 3) := by decide +kernel
theorem dX7_init_27 : decode cX7_init 27 = .ok (.aload_n 0, 1) := by decide +kernel
theorem dX7_init_28 : decode cX7_init 28 = .ok (.iconst 5, 1) := by decide +kernel
theorem dX7_init_29 : decode cX7_init 29 = .ok (.newarray .int, 2) := by decide +kernel
theorem dX7_init_31 : decode cX7_init 31 = .ok (.putfield 23, 3) := by decide +kernel
theorem dX7_init_34 : decode cX7_init 34 = .ok (.aload_n 0, 1) := by decide +kernel
theorem dX7_init_35 : decode cX7_init 35 = .ok (.bipush 6, 2) := by decide +kernel
theorem dX7_init_37 : decode cX7_init 37 = .ok (.newarray .int, 2) := by decide +kernel
theorem dX7_init_39 : decode cX7_init 39 = .ok (.putfield 26, 3) := by decide +kernel
theorem dX7_init_42 : decode cX7_init 42 = .ok (.aload_n 0, 1) := by decide +kernel
theorem dX7_init_43 : decode cX7_init 43 = .ok (.bipush 6, 2) := by decide +kernel
theorem dX7_init_45 : decode cX7_init 45 = .ok (.newarray .int, 2) := by decide +kernel
theorem dX7_init_47 : decode cX7_init 47 = .ok (.putfield 29, 3) := by decide +kernel
theorem dX7_init_50 : decode cX7_init 50 = .ok (.aload_n 0, 1) := by decide +kernel
theorem dX7_init_51 : decode cX7_init 51 = .ok (.bipush 6, 2) := by decide +kernel
theorem dX7_init_53 : decode cX7_init 53 = .ok (.newarray .int, 2) := by decide +kernel
theorem dX7_init_55 : decode cX7_init 55 = .ok (.putfield 32, 3) := by decide +kernel
theorem dX7_init_58 : decode cX7_init 58 = .ok (.aload_n 0, 1) := by decide +kernel
theorem dX7_init_59 : decode cX7_init 59 = .ok (.bipush 54, 2) := by decide +kernel
theorem dX7_init_61 : decode cX7_init 61 = .ok (.newarray .int, 2) := by decide +kernel
theorem dX7_init_63 : decode cX7_init 63 = .ok (.putfield 35, 3) := by decide +kernel
theorem dX7_init_66 : decode cX7_init 66 = .ok (.aload_n 0, 1) := by decide +kernel
theorem dX7_init_67 : decode cX7_init 67 = .ok (.iconst 2, 1) := by decide +kernel
theorem dX7_init_68 : decode cX7_init 68 = .ok (.newarray .int, 2) := by decide +kernel
theorem dX7_init_70 : decode cX7_init 70 = .ok (.putfield 38, 3) := by decide +kernel
theorem dX7_init_73 : decode cX7_init 73 = .ok (.aload_n 0, 1) := by decide +kernel
theorem dX7_init_74 : decode cX7_init 74 = .ok (.iconst 2, 1) := by decide +kernel
theorem dX7_init_75 : decode cX7_init 75 = .ok (.newarray .int, 2) := by decide +kernel
theorem dX7_init_77 : decode cX7_init 77 = .ok (.putfield 41, 3) := by decide +kernel
theorem dX7_init_80 : decode cX7_init 80 = .ok (.aload_n 0, 1) := by decide +kernel
theorem dX7_init_81 : decode cX7_init 81 = .ok (.iconst 2, 1) := by decide +kernel
theorem dX7_init_82 : decode cX7_init 82 = .ok (.newarray .int, 2) := by decide +kernel
theorem dX7_init_84 : decode cX7_init 84 = .ok (.putfield 44, 3) := by decide +kernel
theorem dX7_init_87 : decode cX7_init 87 = .ok (.aload_n 0, 1) := by decide +kernel
theorem dX7_init_88 : decode cX7_init 88 = .ok (.iconst 2, 1) := by decide +kernel
theorem dX7_init_89 : decode cX7_init 89 = .ok (.newarray .int, 2) := by decide +kernel
theorem dX7_init_91 : decode cX7_init 91 = .ok (.putfield 47, 3) := by decide +kernel
theorem dX7_init_94 : decode cX7_init 94 = .ok (.aload_n 0, 1) := by decide +kernel
theorem dX7_init_95 : decode cX7_init 95 = .ok (.iconst 2, 1) := by decide +kernel
theorem dX7_init_96 : decode cX7_init 96 = .ok (.newarray .boolean, 2) := by decide +kernel
theorem dX7_init_98 : decode cX7_init 98 = .ok (.putfield 50, 3) := by decide +kernel
theorem dX7_init_101 : decode cX7_init 101 = .ok (.aload_n 0, 1) := by decide +kernel
theorem dX7_init_102 : decode cX7_init 102 = .ok (.iconst 2, 1) := by decide +kernel
theorem dX7_init_103 : decode cX7_init 103 = .ok (.newarray .int, 2) := by decide +kernel
theorem dX7_init_105 : decode cX7_init 105 = .ok (.putfield 54, 3) := by decide +kernel
theorem dX7_init_108 : decode cX7_init 108 = .ok (.aload_n 0, 1) := by decide +kernel
theorem dX7_init_109 : decode cX7_init 109 = .ok (.iconst 2, 1) := by decide +kernel
theorem dX7_init_110 : decode cX7_init 110 = .ok (.newarray .int, 2) := by decide +kernel
theorem dX7_init_112 : decode cX7_init 112 = .ok (.putfield 57, 3) := by decide +kernel
theorem dX7_init_115 : decode cX7_init 115 = .ok (.aload_n 0, 1) := by decide +kernel
theorem dX7_init_116 : decode cX7_init 116 = .ok (.bipush 10, 2) := by decide +kernel
theorem dX7_init_118 : decode cX7_init 118 = .ok (.newarray .int, 2) := by decide +kernel
theorem dX7_init_120 : decode cX7_init 120 = .ok (.putfield 60, 3) := by decide +kernel
theorem dX7_init_123 : decode cX7_init 123 = .ok (.aload_n 0, 1) := by decide +kernel
theorem dX7_init_124 : decode cX7_init 124 = .ok (.iconst 2, 1) := by decide +kernel
theorem dX7_init_125 : decode cX7_init 125 = .ok (.newarray .int, 2) := by decide +kernel
theorem dX7_init_127 : decode cX7_init 127 = .ok (.putfield 63, 3) := by decide +kernel
theorem dX7_init_130 : decode cX7_init 130 = .ok (.aload_n 0, 1) := by decide +kernel
theorem dX7_init_131 : decode cX7_init 131 = .ok (.bipush 36, 2) := by decide +kernel
theorem dX7_init_133 : decode cX7_init 133 = .ok (.newarray .int, 2) := by decide +kernel
theorem dX7_init_135 : decode cX7_init 135 = .ok (.putfield 66, 3) := by decide +kernel
theorem dX7_init_138 : decode cX7_init 138 = .ok (.aload_n 0, 1) := by decide +kernel
theorem dX7_init_139 : decode cX7_init 139 = .ok (.bipush 36, 2) := by decide +kernel
theorem dX7_init_141 : decode cX7_init 141 = .ok (.newarray .int, 2) := by decide +kernel
theorem dX7_init_143 : decode cX7_init 143 = .ok (.putfield 69, 3) := by decide +kernel
theorem dX7_init_146 : decode cX7_init 146 = .ok (.aload_n 0, 1) := by decide +kernel
theorem dX7_init_147 : decode cX7_init 147 = .ok (.bipush 36, 2) := by decide +kernel
theorem dX7_init_149 : decode cX7_init 149 = .ok (.newarray .boolean, 2) := by decide +kernel
theorem dX7_init_151 : decode cX7_init 151 = .ok (.putfield 72, 3) := by decide +kernel
theorem dX7_init_154 : decode cX7_init 154 = .ok (.aload_n 0, 1) := by decide +kernel
theorem dX7_init_155 : decode cX7_init 155 = .ok (.bipush 18, 2) := by decide +kernel
theorem dX7_init_157 : decode cX7_init 157 = .ok (.newarray .int, 2) := by decide +kernel
theorem dX7_init_159 : decode cX7_init 159 = .ok (.putfield 75, 3) := by decide +kernel
theorem dX7_init_162 : decode cX7_init 162 = .ok (.aload_n 0, 1) := by decide +kernel
theorem dX7_init_163 : decode cX7_init 163 = .ok (.sipush 192, 3) := by decide +kernel
theorem dX7_init_166 : decode cX7_init 166 = .ok (.newarray .int, 2) := by decide +kernel
theorem dX7_init_168 : decode cX7_init 168 = .ok (.putfield 78, 3) := by decide +kernel
theorem dX7_init_171 : decode cX7_init 171 = .ok (.aload_n 0, 1) := by decide +kernel
theorem dX7_init_172 : decode cX7_init 172 = .ok (.getfield 26, 3) := by decide +kernel
theorem dX7_init_175 : decode cX7_init 175 = .ok (.iconst 0, 1) := by decide +kernel
theorem dX7_init_176 : decode cX7_init 176 = .ok (.iload_n 1, 1) := by decide +kernel
theorem dX7_init_177 : decode cX7_init 177 = .ok (.invokestatic 81, 3) := by decide +kernel
theorem dX7_init_180 : decode cX7_init 180 = .ok (.iastore, 1) := by decide +kernel
theorem dX7_init_181 : decode cX7_init 181 = .ok (.aload_n 0, 1) := by decide +kernel
theorem dX7_init_182 : decode cX7_init 182 = .ok (.getfield 26, 3) := by decide +kernel
theorem dX7_init_185 : decode cX7_init 185 = .ok (.iconst 1, 1) := by decide +kernel
theorem dX7_init_186 : decode cX7_init 186 = .ok (.iload_n 2, 1) := by decide +kernel
theorem dX7_init_187 : decode cX7_init 187 = .ok (.invokestatic 81, 3) := by decide +kernel
theorem dX7_init_190 : decode cX7_init 190 = .ok (.iastore, 1) := by decide +kernel
theorem dX7_init_191 : decode cX7_init 191 = .ok (.aload_n 0, 1) := by decide +kernel
theorem dX7_init_192 : decode cX7_init 192 = .ok (.getfield 26, 3) := by decide +kernel
theorem dX7_init_195 : decode cX7_init 195 = .ok (.iconst 2, 1) := by decide +kernel
theorem dX7_init_196 : decode cX7_init 196 = .ok (.aload_n 0, 1) := by decide +kernel
theorem dX7_init_197 : decode cX7_init 197 = .ok (.getfield 26, 3) := by decide +kernel
theorem dX7_init_200 : decode cX7_init 200 = .ok (.iconst 1, 1) := by decide +kernel
theorem dX7_init_201 : decode cX7_init 201 = .ok (.iaload, 1) := by decide +kernel
theorem dX7_init_202 : decode cX7_init 202 = .ok (.iastore, 1) := by decide +kernel
theorem dX7_init_203 : decode cX7_init 203 = .ok (.aload_n 0, 1) := by decide +kernel
theorem dX7_init_204 : decode cX7_init 204 = .ok (.getfield 26, 3) := by decide +kernel
theorem dX7_init_207 : decode cX7_init 207 = .ok (.iconst 3, 1) := by decide +kernel
theorem dX7_init_208 : decode cX7_init 208 = .ok (.iload_n 3, 1) := by decide +kernel
theorem dX7_init_209 : decode cX7_init 209 = .ok (.invokestatic 81, 3) := by decide +kernel
theorem dX7_init_212 : decode cX7_init 212 = .ok (.iastore, 1) := by decide +kernel
theorem dX7_init_213 : decode cX7_init 213 = .ok (.aload_n 0, 1) := by decide +kernel
theorem dX7_init_214 : decode cX7_init 214 = .ok (.getfield 26, 3) := by decide +kernel
theorem dX7_init_217 : decode cX7_init 217 = .ok (.iconst 4, 1) := by decide +kernel
theorem dX7_init_218 : decode cX7_init 218 = .ok (.iload 4, 2) := by decide +kernel
theorem dX7_init_220 : decode cX7_init 220 = .ok (.invokestatic 81, 3) := by decide +kernel
theorem dX7_init_223 : decode cX7_init 223 = .ok (.iastore, 1) := by decide +kernel
theorem dX7_init_224 : decode cX7_init 224 = .ok (.aload_n 0, 1) := by decide +kernel
theorem dX7_init_225 : decode cX7_init 225 = .ok (.getfield 26, 3) := by decide +kernel
theorem dX7_init_228 : decode cX7_init 228 = .ok (.iconst 5, 1) := by decide +kernel
theorem dX7_init_229 : decode cX7_init 229 = .ok (.aload_n 0, 1) := by decide +kernel
theorem dX7_init_230 : decode cX7_init 230 = .ok (.getfield 26, 3) := by decide +kernel
theorem dX7_init_233 : decode cX7_init 233 = .ok (.iconst 4, 1) := by decide +kernel
theorem dX7_init_234 : decode cX7_init 234 = .ok (.iaload, 1) := by decide +kernel
theorem dX7_init_235 : decode cX7_init 235 = .ok (.iastore, 1) := by decide +kernel
theorem dX7_init_236 : decode cX7_init 236 = .ok (.iconst 3, 1) := by decide +kernel
theorem dX7_init_237 : decode cX7_init 237 = .ok (.istore 5, 2) := by decide +kernel
theorem dX7_init_239 : decode cX7_init 239 = .ok (.iload 5, 2) := by decide +kernel
theorem dX7_init_241 : decode cX7_init 241 = .ok (.bipush 6, 2) := by decide +kernel
theorem dX7_init_243 : decode cX7_init 243 = .ok (.if_icmp .ge 23, 3) := by decide +kernel
theorem dX7_init_246 : decode cX7_init 246 = .ok (.aload_n 0, 1) := by decide +kernel
theorem dX7_init_247 : decode cX7_init 247 = .ok (.getfield 29, 3) := by decide +kernel
theorem dX7_init_250 : decode cX7_init 250 = .ok (.iload 5, 2) := by decide +kernel
theorem dX7_init_252 : decode cX7_init 252 = .ok (.aload_n 0, 1) := by decide +kernel
theorem dX7_init_253 : decode cX7_init 253 = .ok (.getfield 26, 3) := by decide +kernel
theorem dX7_init_256 : decode cX7_init 256 = .ok (.iload 5, 2) := by decide +kernel
theorem dX7_init_258 : decode cX7_init 258 = .ok (.iaload, 1) := by decide +kernel
theorem dX7_init_259 : decode cX7_init 259 = .ok (.iastore, 1) := by decide +kernel
theorem dX7_init_260 : decode cX7_init 260 = .ok (.iinc 5 1, 3) := by decide +kernel
theorem dX7_init_263 : decode cX7_init 263 = .ok (.goto (-24), 3) := by decide +kernel
theorem dX7_init_266 : decode cX7_init 266 = .ok (.aload_n 0, 1) := by decide +kernel
theorem dX7_init_267 : decode cX7_init 267 = .ok (.invokevirtual 85, 3) := by decide +kernel
theorem dX7_init_270 : decode cX7_init 270 = .ok (.iconst 0, 1) := by decide +kernel
theorem dX7_init_271 : decode cX7_init 271 = .ok (.istore 5, 2) := by decide +kernel
theorem dX7_init_273 : decode cX7_init 273 = .ok (.iload 5, 2) := by decide +kernel
theorem dX7_init_275 : decode cX7_init 275 = .ok (.iconst 2, 1) := by decide +kernel
theorem dX7_init_276 : decode cX7_init 276 = .ok (.if_icmp .ge 75, 3) := by decide +kernel
theorem dX7_init_279 : decode cX7_init 279 = .ok (.aload_n 0, 1) := by decide +kernel
theorem dX7_init_280 : decode cX7_init 280 = .ok (.getfield 44, 3) := by decide +kernel
theorem dX7_init_283 : decode cX7_init 283 = .ok (.iload 5, 2) := by decide +kernel
theorem dX7_init_285 : decode cX7_init 285 = .ok (.iconst 1, 1) := by decide +kernel
theorem dX7_init_286 : decode cX7_init 286 = .ok (.iastore, 1) := by decide +kernel
theorem dX7_init_287 : decode cX7_init 287 = .ok (.aload_n 0, 1) := by decide +kernel
theorem dX7_init_288 : decode cX7_init 288 = .ok (.getfield 57, 3) := by decide +kernel
theorem dX7_init_291 : decode cX7_init 291 = .ok (.iload 5, 2) := by decide +kernel
theorem dX7_init_293 : decode cX7_init 293 = .ok (.iconst (-1), 1) := by decide +kernel
theorem dX7_init_294 : decode cX7_init 294 = .ok (.iastore, 1) := by decide +kernel
theorem dX7_init_295 : decode cX7_init 295 = .ok (.iconst 0, 1) := by decide +kernel
theorem dX7_init_296 : decode cX7_init 296 = .ok (.istore 6, 2) := by decide +kernel
theorem dX7_init_298 : decode cX7_init 298 = .ok (.iload 6, 2) := by decide +kernel
theorem dX7_init_300 : decode cX7_init 300 = .ok (.bipush 18, 2) := by decide +kernel
theorem dX7_init_302 : decode cX7_init 302 = .ok (.if_icmp .ge 43, 3) := by decide +kernel
theorem dX7_init_305 : decode cX7_init 305 = .ok (.aload_n 0, 1) := by decide +kernel
theorem dX7_init_306 : decode cX7_init 306 = .ok (.getfield 66, 3) := by decide +kernel
theorem dX7_init_309 : decode cX7_init 309 = .ok (.bipush 18, 2) := by decide +kernel
theorem dX7_init_311 : decode cX7_init 311 = .ok (.iload 5, 2) := by decide +kernel
theorem dX7_init_313 : decode cX7_init 313 = .ok (.imul, 1) := by decide +kernel
theorem dX7_init_314 : decode cX7_init 314 = .ok (.iload 6, 2) := by decide +kernel
theorem dX7_init_316 : decode cX7_init 316 = .ok (.iadd, 1) := by decide +kernel
theorem dX7_init_317 : decode cX7_init 317 = .ok (.aload_n 0, 1) := by decide +kernel
theorem dX7_init_318 : decode cX7_init 318 = .ok (.iload 6, 2) := by decide +kernel
theorem dX7_init_320 : decode cX7_init 320 = .ok (.invokevirtual 88, 3) := by decide +kernel
theorem dX7_init_323 : decode cX7_init 323 = .ok (.iastore, 1) := by decide +kernel
theorem dX7_init_324 : decode cX7_init 324 = .ok (.aload_n 0, 1) := by decide +kernel
theorem dX7_init_325 : decode cX7_init 325 = .ok (.getfield 69, 3) := by decide +kernel
theorem dX7_init_328 : decode cX7_init 328 = .ok (.bipush 18, 2) := by decide +kernel
theorem dX7_init_330 : decode cX7_init 330 = .ok (.iload 5, 2) := by decide +kernel
theorem dX7_init_332 : decode cX7_init 332 = .ok (.imul, 1) := by decide +kernel
theorem dX7_init_333 : decode cX7_init 333 = .ok (.iload 6, 2) := by decide +kernel
theorem dX7_init_335 : decode cX7_init 335 = .ok (.iadd, 1) := by decide +kernel
theorem dX7_init_336 : decode cX7_init 336 = .ok (.bipush 7, 2) := by decide +kernel
theorem dX7_init_338 : decode cX7_init 338 = .ok (.iastore, 1) := by decide +kernel
theorem dX7_init_339 : decode cX7_init 339 = .ok (.iinc 6 1, 3) := by decide +kernel
theorem dX7_init_342 : decode cX7_init 342 = .ok (.goto (-44), 3) := by decide +kernel
theorem dX7_init_345 : decode cX7_init 345 = .ok (.iinc 5 1, 3) := by decide +kernel
theorem dX7_init_348 : decode cX7_init 348 = .ok (.goto (-75), 3) := by decide +kernel
theorem dX7_init_351 : decode cX7_init 351 = .ok (.return_, 1) := by decide +kernel
theorem dX7_lengthOf_0 : decode cX7_lengthOf 0 = .ok (.iload_n 0, 1) := by decide +kernel
theorem dX7_lengthOf_1 : decode cX7_lengthOf 1 = .ok (.iconst 5, 1) := by decide +kernel
theorem dX7_lengthOf_2 : decode cX7_lengthOf 2 = .ok (.if_icmp .lt 9, 3) := by decide +kernel
theorem dX7_lengthOf_5 : decode cX7_lengthOf 5 = .ok (.iload_n 0, 1) := by decide +kernel
theorem dX7_lengthOf_6 : decode cX7_lengthOf 6 = .ok (.bipush 40, 2) := by decide +kernel
theorem dX7_lengthOf_8 : decode cX7_lengthOf 8 = .ok (.if_icmp .le 8, 3) := by decide +kernel
theorem dX7_lengthOf_11 : decode cX7_lengthOf 11 = .ok (.bipush 15, 2) := by decide +kernel
theorem dX7_lengthOf_13 : decode cX7_lengthOf 13 = .ok (.goto 4, 3) := by decide +kernel
theorem dX7_lengthOf_16 : decode cX7_lengthOf 16 = .ok (.iload_n 0, 1) := by decide +kernel
theorem dX7_lengthOf_17 : decode cX7_lengthOf 17 = .ok (.ireturn, 1) := by decide +kernel
theorem dX7_in_0 : decode cX7_in 0 = .ok (.iload_n 0, 1) := by decide +kernel
theorem dX7_in_1 : decode cX7_in 1 = .ok (.iload_n 1, 1) := by decide +kernel
theorem dX7_in_2 : decode cX7_in 2 = .ok (.if_icmp .lt 12, 3) := by decide +kernel
theorem dX7_in_5 : decode cX7_in 5 = .ok (.iload_n 0, 1) := by decide +kernel
theorem dX7_in_6 : decode cX7_in 6 = .ok (.iload_n 2, 1) := by decide +kernel
theorem dX7_in_7 : decode cX7_in 7 = .ok (.if_icmp .gt 7, 3) := by decide +kernel
theorem dX7_in_10 : decode cX7_in 10 = .ok (.iconst 1, 1) := by decide +kernel
theorem dX7_in_11 : decode cX7_in 11 = .ok (.goto 4, 3) := by decide +kernel
theorem dX7_in_14 : decode cX7_in 14 = .ok (.iconst 0, 1) := by decide +kernel
theorem dX7_in_15 : decode cX7_in 15 = .ok (.ireturn, 1) := by decide +kernel
theorem dX7_handle_0 : decode cX7_handle 0 = .ok (.aload_n 0, 1) := by decide +kernel
theorem dX7_handle_1 : decode cX7_handle 1 = .ok (.iconst 0, 1) := by decide +kernel
theorem dX7_handle_2 : decode cX7_handle 2 = .ok (.putfield 91, 3) := by decide +kernel
theorem dX7_handle_5 : decode cX7_handle 5 = .ok (.iload_n 1, 1) := by decide +kernel
theorem dX7_handle_6 : decode cX7_handle 6 = .ok (.iconst 0, 1) := by decide +kernel
theorem dX7_handle_7 : decode cX7_handle 7 = .ok (.iconst 1, 1) := by decide +kernel
theorem dX7_handle_8 : decode cX7_handle 8 = .ok (.invokestatic 94, 3) := by decide +kernel
theorem dX7_handle_11 : decode cX7_handle 11 = .ok (.ifCond .ne 6, 3) := by decide +kernel
theorem dX7_handle_14 : decode cX7_handle 14 = .ok (.bipush (-2), 2) := by decide +kernel
theorem dX7_handle_16 : decode cX7_handle 16 = .ok (.ireturn, 1) := by decide +kernel
theorem dX7_handle_17 : decode cX7_handle 17 = .ok (.aload_n 0, 1) := by decide +kernel
theorem dX7_handle_18 : decode cX7_handle 18 = .ok (.getfield 7, 3) := by decide +kernel
theorem dX7_handle_21 : decode cX7_handle 21 = .ok (.istore_n 2, 1) := by decide +kernel
theorem dX7_handle_22 : decode cX7_handle 22 = .ok (.aload_n 0, 1) := by decide +kernel
theorem dX7_handle_23 : decode cX7_handle 23 = .ok (.iload_n 1, 1) := by decide +kernel
theorem dX7_handle_24 : decode cX7_handle 24 = .ok (.putfield 7, 3) := by decide +kernel
theorem dX7_handle_27 : decode cX7_handle 27 = .ok (.aload_n 0, 1) := by decide +kernel
theorem dX7_handle_28 : decode cX7_handle 28 = .ok (.iload_n 2, 1) := by decide +kernel
theorem dX7_handle_29 : decode cX7_handle 29 = .ok (.iload_n 1, 1) := by decide +kernel
theorem dX7_handle_30 : decode cX7_handle 30 = .ok (.if_icmp .eq 9, 3) := by decide +kernel
theorem dX7_handle_33 : decode cX7_handle 33 = .ok (.sipush 200, 3) := by decide +kernel
theorem dX7_handle_36 : decode cX7_handle 36 = .ok (.goto 7, 3) := by decide +kernel
theorem dX7_handle_39 : decode cX7_handle 39 = .ok (.aload_n 0, 1) := by decide +kernel
theorem dX7_handle_40 : decode cX7_handle 40 = .ok (.getfield 98, 3) := by decide +kernel
theorem dX7_handle_43 : decode cX7_handle 43 = .ok (.putfield 98, 3) := by decide +kernel
theorem dX7_handle_46 : decode cX7_handle 46 = .ok (.iload_n 2, 1) := by decide +kernel
theorem dX7_handle_47 : decode cX7_handle 47 = .ok (.ireturn, 1) := by decide +kernel
theorem dX7_ground_0 : decode cX7_ground 0 = .ok (.aload_n 0, 1) := by decide +kernel
theorem dX7_ground_1 : decode cX7_ground 1 = .ok (.iconst 0, 1) := by decide +kernel
theorem dX7_ground_2 : decode cX7_ground 2 = .ok (.putfield 91, 3) := by decide +kernel
theorem dX7_ground_5 : decode cX7_ground 5 = .ok (.iload_n 1, 1) := by decide +kernel
theorem dX7_ground_6 : decode cX7_ground 6 = .ok (.iconst 0, 1) := by decide +kernel
theorem dX7_ground_7 : decode cX7_ground 7 = .ok (.bipush 7, 2) := by decide +kernel
theorem dX7_ground_9 : decode cX7_ground 9 = .ok (.invokestatic 94, 3) := by decide +kernel
theorem dX7_ground_12 : decode cX7_ground 12 = .ok (.ifCond .ne 6, 3) := by decide +kernel
theorem dX7_ground_15 : decode cX7_ground 15 = .ok (.bipush (-2), 2) := by decide +kernel
theorem dX7_ground_17 : decode cX7_ground 17 = .ok (.ireturn, 1) := by decide +kernel
theorem dX7_ground_18 : decode cX7_ground 18 = .ok (.aload_n 0, 1) := by decide +kernel
theorem dX7_ground_19 : decode cX7_ground 19 = .ok (.getfield 13, 3) := by decide +kernel
theorem dX7_ground_22 : decode cX7_ground 22 = .ok (.istore_n 2, 1) := by decide +kernel
theorem dX7_ground_23 : decode cX7_ground 23 = .ok (.aload_n 0, 1) := by decide +kernel
theorem dX7_ground_24 : decode cX7_ground 24 = .ok (.iload_n 1, 1) := by decide +kernel
theorem dX7_ground_25 : decode cX7_ground 25 = .ok (.putfield 13, 3) := by decide +kernel
theorem dX7_ground_28 : decode cX7_ground 28 = .ok (.iload_n 2, 1) := by decide +kernel
theorem dX7_ground_29 : decode cX7_ground 29 = .ok (.ireturn, 1) := by decide +kernel
theorem dX7_channel_0 : decode cX7_channel 0 = .ok (.aload_n 0, 1) := by decide +kernel
theorem dX7_channel_1 : decode cX7_channel 1 = .ok (.iconst 0, 1) := by decide +kernel
theorem dX7_channel_2 : decode cX7_channel 2 = .ok (.putfield 91, 3) := by decide +kernel
theorem dX7_channel_5 : decode cX7_channel 5 = .ok (.iload_n 1, 1) := by decide +kernel
theorem dX7_channel_6 : decode cX7_channel 6 = .ok (.iconst 0, 1) := by decide +kernel
theorem dX7_channel_7 : decode cX7_channel 7 = .ok (.bipush 17, 2) := by decide +kernel
theorem dX7_channel_9 : decode cX7_channel 9 = .ok (.invokestatic 94, 3) := by decide +kernel
theorem dX7_channel_12 : decode cX7_channel 12 = .ok (.ifCond .eq 21, 3) := by decide +kernel
theorem dX7_channel_15 : decode cX7_channel 15 = .ok (.iload_n 2, 1) := by decide +kernel
theorem dX7_channel_16 : decode cX7_channel 16 = .ok (.iconst 0, 1) := by decide +kernel
theorem dX7_channel_17 : decode cX7_channel 17 = .ok (.iconst 2, 1) := by decide +kernel
theorem dX7_channel_18 : decode cX7_channel 18 = .ok (.invokestatic 94, 3) := by decide +kernel
theorem dX7_channel_21 : decode cX7_channel 21 = .ok (.ifCond .eq 12, 3) := by decide +kernel
theorem dX7_channel_24 : decode cX7_channel 24 = .ok (.iload_n 3, 1) := by decide +kernel
theorem dX7_channel_25 : decode cX7_channel 25 = .ok (.iconst 0, 1) := by decide +kernel
theorem dX7_channel_26 : decode cX7_channel 26 = .ok (.iconst 3, 1) := by decide +kernel
theorem dX7_channel_27 : decode cX7_channel 27 = .ok (.invokestatic 94, 3) := by decide +kernel
theorem dX7_channel_30 : decode cX7_channel 30 = .ok (.ifCond .ne 6, 3) := by decide +kernel
theorem dX7_channel_33 : decode cX7_channel 33 = .ok (.bipush (-2), 2) := by decide +kernel
theorem dX7_channel_35 : decode cX7_channel 35 = .ok (.ireturn, 1) := by decide +kernel
theorem dX7_channel_36 : decode cX7_channel 36 = .ok (.aload_n 0, 1) := by decide +kernel
theorem dX7_channel_37 : decode cX7_channel 37 = .ok (.getfield 35, 3) := by decide +kernel
theorem dX7_channel_40 : decode cX7_channel 40 = .ok (.iconst 3, 1) := by decide +kernel
theorem dX7_channel_41 : decode cX7_channel 41 = .ok (.iload_n 1, 1) := by decide +kernel
theorem dX7_channel_42 : decode cX7_channel 42 = .ok (.imul, 1) := by decide +kernel
theorem dX7_channel_43 : decode cX7_channel 43 = .ok (.iload_n 2, 1) := by decide +kernel
theorem dX7_channel_44 : decode cX7_channel 44 = .ok (.iadd, 1) := by decide +kernel
theorem dX7_channel_45 : decode cX7_channel 45 = .ok (.iaload, 1) := by decide +kernel
theorem dX7_channel_46 : decode cX7_channel 46 = .ok (.istore 4, 2) := by decide +kernel
theorem dX7_channel_48 : decode cX7_channel 48 = .ok (.aload_n 0, 1) := by decide +kernel
theorem dX7_channel_49 : decode cX7_channel 49 = .ok (.getfield 35, 3) := by decide +kernel
theorem dX7_channel_52 : decode cX7_channel 52 = .ok (.iconst 3, 1) := by decide +kernel
theorem dX7_channel_53 : decode cX7_channel 53 = .ok (.iload_n 1, 1) := by decide +kernel
theorem dX7_channel_54 : decode cX7_channel 54 = .ok (.imul, 1) := by decide +kernel
theorem dX7_channel_55 : decode cX7_channel 55 = .ok (.iload_n 2, 1) := by decide +kernel
theorem dX7_channel_56 : decode cX7_channel 56 = .ok (.iadd, 1) := by decide +kernel
theorem dX7_channel_57 : decode cX7_channel 57 = .ok (.iload_n 3, 1) := by decide +kernel
theorem dX7_channel_58 : decode cX7_channel 58 = .ok (.iastore, 1) := by decide +kernel
theorem dX7_channel_59 : decode cX7_channel 59 = .ok (.iload 4, 2) := by decide +kernel
theorem dX7_channel_61 : decode cX7_channel 61 = .ok (.ireturn, 1) := by decide +kernel
theorem dX7_cylinder_0 : decode cX7_cylinder 0 = .ok (.aload_n 0, 1) := by decide +kernel
theorem dX7_cylinder_1 : decode cX7_cylinder 1 = .ok (.iconst 0, 1) := by decide +kernel
theorem dX7_cylinder_2 : decode cX7_cylinder 2 = .ok (.putfield 91, 3) := by decide +kernel
theorem dX7_cylinder_5 : decode cX7_cylinder 5 = .ok (.iload_n 1, 1) := by decide +kernel
theorem dX7_cylinder_6 : decode cX7_cylinder 6 = .ok (.iconst 0, 1) := by decide +kernel
theorem dX7_cylinder_7 : decode cX7_cylinder 7 = .ok (.iconst 5, 1) := by decide +kernel
theorem dX7_cylinder_8 : decode cX7_cylinder 8 = .ok (.invokestatic 94, 3) := by decide +kernel
theorem dX7_cylinder_11 : decode cX7_cylinder 11 = .ok (.ifCond .eq 12, 3) := by decide +kernel
theorem dX7_cylinder_14 : decode cX7_cylinder 14 = .ok (.iload_n 2, 1) := by decide +kernel
theorem dX7_cylinder_15 : decode cX7_cylinder 15 = .ok (.iconst 0, 1) := by decide +kernel
theorem dX7_cylinder_16 : decode cX7_cylinder 16 = .ok (.iconst 1, 1) := by decide +kernel
theorem dX7_cylinder_17 : decode cX7_cylinder 17 = .ok (.invokestatic 94, 3) := by decide +kernel
theorem dX7_cylinder_20 : decode cX7_cylinder 20 = .ok (.ifCond .ne 6, 3) := by decide +kernel
theorem dX7_cylinder_23 : decode cX7_cylinder 23 = .ok (.bipush (-2), 2) := by decide +kernel
theorem dX7_cylinder_25 : decode cX7_cylinder 25 = .ok (.ireturn, 1) := by decide +kernel
theorem dX7_cylinder_26 : decode cX7_cylinder 26 = .ok (.aload_n 0, 1) := by decide +kernel
theorem dX7_cylinder_27 : decode cX7_cylinder 27 = .ok (.getfield 32, 3) := by decide +kernel
theorem dX7_cylinder_30 : decode cX7_cylinder 30 = .ok (.iload_n 1, 1) := by decide +kernel
theorem dX7_cylinder_31 : decode cX7_cylinder 31 = .ok (.iaload, 1) := by decide +kernel
theorem dX7_cylinder_32 : decode cX7_cylinder 32 = .ok (.istore_n 3, 1) := by decide +kernel
theorem dX7_cylinder_33 : decode cX7_cylinder 33 = .ok (.aload_n 0, 1) := by decide +kernel
theorem dX7_cylinder_34 : decode cX7_cylinder 34 = .ok (.getfield 32, 3) := by decide +kernel
theorem dX7_cylinder_37 : decode cX7_cylinder 37 = .ok (.iload_n 1, 1) := by decide +kernel
theorem dX7_cylinder_38 : decode cX7_cylinder 38 = .ok (.iload_n 2, 1) := by decide +kernel
theorem dX7_cylinder_39 : decode cX7_cylinder 39 = .ok (.iastore, 1) := by decide +kernel
theorem dX7_cylinder_40 : decode cX7_cylinder 40 = .ok (.iload_n 3, 1) := by decide +kernel
theorem dX7_cylinder_41 : decode cX7_cylinder 41 = .ok (.ireturn, 1) := by decide +kernel
theorem dX7_valve_0 : decode cX7_valve 0 = .ok (.aload_n 0, 1) := by decide +kernel
theorem dX7_valve_1 : decode cX7_valve 1 = .ok (.iconst 0, 1) := by decide +kernel
theorem dX7_valve_2 : decode cX7_valve 2 = .ok (.putfield 91, 3) := by decide +kernel
theorem dX7_valve_5 : decode cX7_valve 5 = .ok (.iload_n 1, 1) := by decide +kernel
theorem dX7_valve_6 : decode cX7_valve 6 = .ok (.iconst 0, 1) := by decide +kernel
theorem dX7_valve_7 : decode cX7_valve 7 = .ok (.iconst 4, 1) := by decide +kernel
theorem dX7_valve_8 : decode cX7_valve 8 = .ok (.invokestatic 94, 3) := by decide +kernel
theorem dX7_valve_11 : decode cX7_valve 11 = .ok (.ifCond .eq 12, 3) := by decide +kernel
theorem dX7_valve_14 : decode cX7_valve 14 = .ok (.iload_n 2, 1) := by decide +kernel
theorem dX7_valve_15 : decode cX7_valve 15 = .ok (.iconst 0, 1) := by decide +kernel
theorem dX7_valve_16 : decode cX7_valve 16 = .ok (.iconst 2, 1) := by decide +kernel
theorem dX7_valve_17 : decode cX7_valve 17 = .ok (.invokestatic 94, 3) := by decide +kernel
theorem dX7_valve_20 : decode cX7_valve 20 = .ok (.ifCond .ne 6, 3) := by decide +kernel
theorem dX7_valve_23 : decode cX7_valve 23 = .ok (.bipush (-2), 2) := by decide +kernel
theorem dX7_valve_25 : decode cX7_valve 25 = .ok (.ireturn, 1) := by decide +kernel
theorem dX7_valve_26 : decode cX7_valve 26 = .ok (.aload_n 0, 1) := by decide +kernel
theorem dX7_valve_27 : decode cX7_valve 27 = .ok (.getfield 23, 3) := by decide +kernel
theorem dX7_valve_30 : decode cX7_valve 30 = .ok (.iload_n 1, 1) := by decide +kernel
theorem dX7_valve_31 : decode cX7_valve 31 = .ok (.iaload, 1) := by decide +kernel
theorem dX7_valve_32 : decode cX7_valve 32 = .ok (.istore_n 3, 1) := by decide +kernel
theorem dX7_valve_33 : decode cX7_valve 33 = .ok (.aload_n 0, 1) := by decide +kernel
theorem dX7_valve_34 : decode cX7_valve 34 = .ok (.getfield 23, 3) := by decide +kernel
theorem dX7_valve_37 : decode cX7_valve 37 = .ok (.iload_n 1, 1) := by decide +kernel
theorem dX7_valve_38 : decode cX7_valve 38 = .ok (.iload_n 2, 1) := by decide +kernel
theorem dX7_valve_39 : decode cX7_valve 39 = .ok (.iastore, 1) := by decide +kernel
theorem dX7_valve_40 : decode cX7_valve 40 = .ok (.iload_n 3, 1) := by decide +kernel
theorem dX7_valve_41 : decode cX7_valve 41 = .ok (.ireturn, 1) := by decide +kernel
theorem dX7_stick_0 : decode cX7_stick 0 = .ok (.aload_n 0, 1) := by decide +kernel
theorem dX7_stick_1 : decode cX7_stick 1 = .ok (.iconst 0, 1) := by decide +kernel
theorem dX7_stick_2 : decode cX7_stick 2 = .ok (.putfield 91, 3) := by decide +kernel
theorem dX7_stick_5 : decode cX7_stick 5 = .ok (.iload_n 1, 1) := by decide +kernel
theorem dX7_stick_6 : decode cX7_stick 6 = .ok (.iconst 0, 1) := by decide +kernel
theorem dX7_stick_7 : decode cX7_stick 7 = .ok (.iconst 1, 1) := by decide +kernel
theorem dX7_stick_8 : decode cX7_stick 8 = .ok (.invokestatic 94, 3) := by decide +kernel
theorem dX7_stick_11 : decode cX7_stick 11 = .ok (.ifCond .ne 6, 3) := by decide +kernel
theorem dX7_stick_14 : decode cX7_stick 14 = .ok (.bipush (-2), 2) := by decide +kernel
theorem dX7_stick_16 : decode cX7_stick 16 = .ok (.ireturn, 1) := by decide +kernel
theorem dX7_stick_17 : decode cX7_stick 17 = .ok (.aload_n 0, 1) := by decide +kernel
theorem dX7_stick_18 : decode cX7_stick 18 = .ok (.getfield 101, 3) := by decide +kernel
theorem dX7_stick_21 : decode cX7_stick 21 = .ok (.istore_n 2, 1) := by decide +kernel
theorem dX7_stick_22 : decode cX7_stick 22 = .ok (.aload_n 0, 1) := by decide +kernel
theorem dX7_stick_23 : decode cX7_stick 23 = .ok (.iload_n 1, 1) := by decide +kernel
theorem dX7_stick_24 : decode cX7_stick 24 = .ok (.putfield 101, 3) := by decide +kernel
theorem dX7_stick_27 : decode cX7_stick 27 = .ok (.iload_n 2, 1) := by decide +kernel
theorem dX7_stick_28 : decode cX7_stick 28 = .ok (.ireturn, 1) := by decide +kernel
theorem dX7_module_0 : decode cX7_module 0 = .ok (.aload_n 0, 1) := by decide +kernel
theorem dX7_module_1 : decode cX7_module 1 = .ok (.iconst 0, 1) := by decide +kernel
theorem dX7_module_2 : decode cX7_module 2 = .ok (.putfield 91, 3) := by decide +kernel
theorem dX7_module_5 : decode cX7_module 5 = .ok (.iload_n 1, 1) := by decide +kernel
theorem dX7_module_6 : decode cX7_module 6 = .ok (.iconst 0, 1) := by decide +kernel
theorem dX7_module_7 : decode cX7_module 7 = .ok (.iconst 1, 1) := by decide +kernel
theorem dX7_module_8 : decode cX7_module 8 = .ok (.invokestatic 94, 3) := by decide +kernel
theorem dX7_module_11 : decode cX7_module 11 = .ok (.ifCond .eq 12, 3) := by decide +kernel
theorem dX7_module_14 : decode cX7_module 14 = .ok (.iload_n 2, 1) := by decide +kernel
theorem dX7_module_15 : decode cX7_module 15 = .ok (.iconst 0, 1) := by decide +kernel
theorem dX7_module_16 : decode cX7_module 16 = .ok (.iconst 1, 1) := by decide +kernel
theorem dX7_module_17 : decode cX7_module 17 = .ok (.invokestatic 94, 3) := by decide +kernel
theorem dX7_module_20 : decode cX7_module 20 = .ok (.ifCond .ne 6, 3) := by decide +kernel
theorem dX7_module_23 : decode cX7_module 23 = .ok (.bipush (-2), 2) := by decide +kernel
theorem dX7_module_25 : decode cX7_module 25 = .ok (.ireturn, 1) := by decide +kernel
theorem dX7_module_26 : decode cX7_module 26 = .ok (.aload_n 0, 1) := by decide +kernel
theorem dX7_module_27 : decode cX7_module 27 = .ok (.getfield 54, 3) := by decide +kernel
theorem dX7_module_30 : decode cX7_module 30 = .ok (.iload_n 1, 1) := by decide +kernel
theorem dX7_module_31 : decode cX7_module 31 = .ok (.iaload, 1) := by decide +kernel
theorem dX7_module_32 : decode cX7_module 32 = .ok (.istore_n 3, 1) := by decide +kernel
theorem dX7_module_33 : decode cX7_module 33 = .ok (.aload_n 0, 1) := by decide +kernel
theorem dX7_module_34 : decode cX7_module 34 = .ok (.getfield 54, 3) := by decide +kernel
theorem dX7_module_37 : decode cX7_module 37 = .ok (.iload_n 1, 1) := by decide +kernel
theorem dX7_module_38 : decode cX7_module 38 = .ok (.iload_n 2, 1) := by decide +kernel
theorem dX7_module_39 : decode cX7_module 39 = .ok (.iastore, 1) := by decide +kernel
theorem dX7_module_40 : decode cX7_module 40 = .ok (.iload_n 3, 1) := by decide +kernel
theorem dX7_module_41 : decode cX7_module 41 = .ok (.ireturn, 1) := by decide +kernel
theorem dX7_sensor_0 : decode cX7_sensor 0 = .ok (.iload_n 1, 1) := by decide +kernel
theorem dX7_sensor_1 : decode cX7_sensor 1 = .ok (.iconst 3, 1) := by decide +kernel
theorem dX7_sensor_2 : decode cX7_sensor 2 = .ok (.if_icmp .ge 66, 3) := by decide +kernel
theorem dX7_sensor_5 : decode cX7_sensor 5 = .ok (.iload_n 1, 1) := by decide +kernel
theorem dX7_sensor_6 : decode cX7_sensor 6 = .ok (.ifCond .ne 19, 3) := by decide +kernel
theorem dX7_sensor_9 : decode cX7_sensor 9 = .ok (.aload_n 0, 1) := by decide +kernel
theorem dX7_sensor_10 : decode cX7_sensor 10 = .ok (.getfield 7, 3) := by decide +kernel
theorem dX7_sensor_13 : decode cX7_sensor 13 = .ok (.iconst 1, 1) := by decide +kernel
theorem dX7_sensor_14 : decode cX7_sensor 14 = .ok (.if_icmp .ne 7, 3) := by decide +kernel
theorem dX7_sensor_17 : decode cX7_sensor 17 = .ok (.iconst 1, 1) := by decide +kernel
theorem dX7_sensor_18 : decode cX7_sensor 18 = .ok (.goto 46, 3) := by decide +kernel
theorem dX7_sensor_21 : decode cX7_sensor 21 = .ok (.iconst 0, 1) := by decide +kernel
theorem dX7_sensor_22 : decode cX7_sensor 22 = .ok (.goto 42, 3) := by decide +kernel
theorem dX7_sensor_25 : decode cX7_sensor 25 = .ok (.iload_n 1, 1) := by decide +kernel
theorem dX7_sensor_26 : decode cX7_sensor 26 = .ok (.iconst 1, 1) := by decide +kernel
theorem dX7_sensor_27 : decode cX7_sensor 27 = .ok (.if_icmp .ne 20, 3) := by decide +kernel
theorem dX7_sensor_30 : decode cX7_sensor 30 = .ok (.aload_n 0, 1) := by decide +kernel
theorem dX7_sensor_31 : decode cX7_sensor 31 = .ok (.getfield 104, 3) := by decide +kernel
theorem dX7_sensor_34 : decode cX7_sensor 34 = .ok (.bipush 24, 2) := by decide +kernel
theorem dX7_sensor_36 : decode cX7_sensor 36 = .ok (.if_icmp .ne 7, 3) := by decide +kernel
theorem dX7_sensor_39 : decode cX7_sensor 39 = .ok (.iconst 1, 1) := by decide +kernel
theorem dX7_sensor_40 : decode cX7_sensor 40 = .ok (.goto 24, 3) := by decide +kernel
theorem dX7_sensor_43 : decode cX7_sensor 43 = .ok (.iconst 0, 1) := by decide +kernel
theorem dX7_sensor_44 : decode cX7_sensor 44 = .ok (.goto 20, 3) := by decide +kernel
theorem dX7_sensor_47 : decode cX7_sensor 47 = .ok (.aload_n 0, 1) := by decide +kernel
theorem dX7_sensor_48 : decode cX7_sensor 48 = .ok (.getfield 19, 3) := by decide +kernel
theorem dX7_sensor_51 : decode cX7_sensor 51 = .ok (.iconst 0, 1) := by decide +kernel
theorem dX7_sensor_52 : decode cX7_sensor 52 = .ok (.iaload, 1) := by decide +kernel
theorem dX7_sensor_53 : decode cX7_sensor 53 = .ok (.sipush 360, 3) := by decide +kernel
theorem dX7_sensor_56 : decode cX7_sensor 56 = .ok (.if_icmp .ne 7, 3) := by decide +kernel
theorem dX7_sensor_59 : decode cX7_sensor 59 = .ok (.iconst 1, 1) := by decide +kernel
theorem dX7_sensor_60 : decode cX7_sensor 60 = .ok (.goto 4, 3) := by decide +kernel
theorem dX7_sensor_63 : decode cX7_sensor 63 = .ok (.iconst 0, 1) := by decide +kernel
theorem dX7_sensor_64 : decode cX7_sensor 64 = .ok (.istore_n 2, 1) := by decide +kernel
theorem dX7_sensor_65 : decode cX7_sensor 65 = .ok (.goto 149, 3) := by decide +kernel
theorem dX7_sensor_68 : decode cX7_sensor 68 = .ok (.iload_n 1, 1) := by decide +kernel
theorem dX7_sensor_69 : decode cX7_sensor 69 = .ok (.bipush 6, 2) := by decide +kernel
theorem dX7_sensor_71 : decode cX7_sensor 71 = .ok (.if_icmp .ge 23, 3) := by decide +kernel
theorem dX7_sensor_74 : decode cX7_sensor 74 = .ok (.aload_n 0, 1) := by decide +kernel
theorem dX7_sensor_75 : decode cX7_sensor 75 = .ok (.getfield 29, 3) := by decide +kernel
theorem dX7_sensor_78 : decode cX7_sensor 78 = .ok (.iload_n 1, 1) := by decide +kernel
theorem dX7_sensor_79 : decode cX7_sensor 79 = .ok (.iconst 3, 1) := by decide +kernel
theorem dX7_sensor_80 : decode cX7_sensor 80 = .ok (.isub, 1) := by decide +kernel
theorem dX7_sensor_81 : decode cX7_sensor 81 = .ok (.iaload, 1) := by decide +kernel
theorem dX7_sensor_82 : decode cX7_sensor 82 = .ok (.ifCond .ne 7, 3) := by decide +kernel
theorem dX7_sensor_85 : decode cX7_sensor 85 = .ok (.iconst 1, 1) := by decide +kernel
theorem dX7_sensor_86 : decode cX7_sensor 86 = .ok (.goto 4, 3) := by decide +kernel
theorem dX7_sensor_89 : decode cX7_sensor 89 = .ok (.iconst 0, 1) := by decide +kernel
theorem dX7_sensor_90 : decode cX7_sensor 90 = .ok (.istore_n 2, 1) := by decide +kernel
theorem dX7_sensor_91 : decode cX7_sensor 91 = .ok (.goto 123, 3) := by decide +kernel
theorem dX7_sensor_94 : decode cX7_sensor 94 = .ok (.iload_n 1, 1) := by decide +kernel
theorem dX7_sensor_95 : decode cX7_sensor 95 = .ok (.bipush 9, 2) := by decide +kernel
theorem dX7_sensor_97 : decode cX7_sensor 97 = .ok (.if_icmp .ge 33, 3) := by decide +kernel
theorem dX7_sensor_100 : decode cX7_sensor 100 = .ok (.aload_n 0, 1) := by decide +kernel
theorem dX7_sensor_101 : decode cX7_sensor 101 = .ok (.getfield 29, 3) := by decide +kernel
theorem dX7_sensor_104 : decode cX7_sensor 104 = .ok (.iload_n 1, 1) := by decide +kernel
theorem dX7_sensor_105 : decode cX7_sensor 105 = .ok (.bipush 6, 2) := by decide +kernel
theorem dX7_sensor_107 : decode cX7_sensor 107 = .ok (.isub, 1) := by decide +kernel
theorem dX7_sensor_108 : decode cX7_sensor 108 = .ok (.iaload, 1) := by decide +kernel
theorem dX7_sensor_109 : decode cX7_sensor 109 = .ok (.aload_n 0, 1) := by decide +kernel
theorem dX7_sensor_110 : decode cX7_sensor 110 = .ok (.getfield 26, 3) := by decide +kernel
theorem dX7_sensor_113 : decode cX7_sensor 113 = .ok (.iload_n 1, 1) := by decide +kernel
theorem dX7_sensor_114 : decode cX7_sensor 114 = .ok (.bipush 6, 2) := by decide +kernel
theorem dX7_sensor_116 : decode cX7_sensor 116 = .ok (.isub, 1) := by decide +kernel
theorem dX7_sensor_117 : decode cX7_sensor 117 = .ok (.iaload, 1) := by decide +kernel
theorem dX7_sensor_118 : decode cX7_sensor 118 = .ok (.if_icmp .ne 7, 3) := by decide +kernel
theorem dX7_sensor_121 : decode cX7_sensor 121 = .ok (.iconst 1, 1) := by decide +kernel
theorem dX7_sensor_122 : decode cX7_sensor 122 = .ok (.goto 4, 3) := by decide +kernel
theorem dX7_sensor_125 : decode cX7_sensor 125 = .ok (.iconst 0, 1) := by decide +kernel
theorem dX7_sensor_126 : decode cX7_sensor 126 = .ok (.istore_n 2, 1) := by decide +kernel
theorem dX7_sensor_127 : decode cX7_sensor 127 = .ok (.goto 87, 3) := by decide +kernel
theorem dX7_sensor_130 : decode cX7_sensor 130 = .ok (.iload_n 1, 1) := by decide +kernel
theorem dX7_sensor_131 : decode cX7_sensor 131 = .ok (.bipush 12, 2) := by decide +kernel
theorem dX7_sensor_133 : decode cX7_sensor 133 = .ok (.if_icmp .ge 33, 3) := by decide +kernel
theorem dX7_sensor_136 : decode cX7_sensor 136 = .ok (.aload_n 0, 1) := by decide +kernel
theorem dX7_sensor_137 : decode cX7_sensor 137 = .ok (.getfield 29, 3) := by decide +kernel
theorem dX7_sensor_140 : decode cX7_sensor 140 = .ok (.iload_n 1, 1) := by decide +kernel
theorem dX7_sensor_141 : decode cX7_sensor 141 = .ok (.bipush 6, 2) := by decide +kernel
theorem dX7_sensor_143 : decode cX7_sensor 143 = .ok (.isub, 1) := by decide +kernel
theorem dX7_sensor_144 : decode cX7_sensor 144 = .ok (.iaload, 1) := by decide +kernel
theorem dX7_sensor_145 : decode cX7_sensor 145 = .ok (.aload_n 0, 1) := by decide +kernel
theorem dX7_sensor_146 : decode cX7_sensor 146 = .ok (.getfield 26, 3) := by decide +kernel
theorem dX7_sensor_149 : decode cX7_sensor 149 = .ok (.iload_n 1, 1) := by decide +kernel
theorem dX7_sensor_150 : decode cX7_sensor 150 = .ok (.bipush 6, 2) := by decide +kernel
theorem dX7_sensor_152 : decode cX7_sensor 152 = .ok (.isub, 1) := by decide +kernel
theorem dX7_sensor_153 : decode cX7_sensor 153 = .ok (.iaload, 1) := by decide +kernel
theorem dX7_sensor_154 : decode cX7_sensor 154 = .ok (.if_icmp .ne 7, 3) := by decide +kernel
theorem dX7_sensor_157 : decode cX7_sensor 157 = .ok (.iconst 1, 1) := by decide +kernel
theorem dX7_sensor_158 : decode cX7_sensor 158 = .ok (.goto 4, 3) := by decide +kernel
theorem dX7_sensor_161 : decode cX7_sensor 161 = .ok (.iconst 0, 1) := by decide +kernel
theorem dX7_sensor_162 : decode cX7_sensor 162 = .ok (.istore_n 2, 1) := by decide +kernel
theorem dX7_sensor_163 : decode cX7_sensor 163 = .ok (.goto 51, 3) := by decide +kernel
theorem dX7_sensor_166 : decode cX7_sensor 166 = .ok (.iload_n 1, 1) := by decide +kernel
theorem dX7_sensor_167 : decode cX7_sensor 167 = .ok (.bipush 15, 2) := by decide +kernel
theorem dX7_sensor_169 : decode cX7_sensor 169 = .ok (.if_icmp .ge 24, 3) := by decide +kernel
theorem dX7_sensor_172 : decode cX7_sensor 172 = .ok (.aload_n 0, 1) := by decide +kernel
theorem dX7_sensor_173 : decode cX7_sensor 173 = .ok (.getfield 29, 3) := by decide +kernel
theorem dX7_sensor_176 : decode cX7_sensor 176 = .ok (.iload_n 1, 1) := by decide +kernel
theorem dX7_sensor_177 : decode cX7_sensor 177 = .ok (.bipush 9, 2) := by decide +kernel
theorem dX7_sensor_179 : decode cX7_sensor 179 = .ok (.isub, 1) := by decide +kernel
theorem dX7_sensor_180 : decode cX7_sensor 180 = .ok (.iaload, 1) := by decide +kernel
theorem dX7_sensor_181 : decode cX7_sensor 181 = .ok (.ifCond .ne 7, 3) := by decide +kernel
theorem dX7_sensor_184 : decode cX7_sensor 184 = .ok (.iconst 1, 1) := by decide +kernel
theorem dX7_sensor_185 : decode cX7_sensor 185 = .ok (.goto 4, 3) := by decide +kernel
theorem dX7_sensor_188 : decode cX7_sensor 188 = .ok (.iconst 0, 1) := by decide +kernel
theorem dX7_sensor_189 : decode cX7_sensor 189 = .ok (.istore_n 2, 1) := by decide +kernel
theorem dX7_sensor_190 : decode cX7_sensor 190 = .ok (.goto 24, 3) := by decide +kernel
theorem dX7_sensor_193 : decode cX7_sensor 193 = .ok (.aload_n 0, 1) := by decide +kernel
theorem dX7_sensor_194 : decode cX7_sensor 194 = .ok (.getfield 13, 3) := by decide +kernel
theorem dX7_sensor_197 : decode cX7_sensor 197 = .ok (.iload_n 1, 1) := by decide +kernel
theorem dX7_sensor_198 : decode cX7_sensor 198 = .ok (.bipush 15, 2) := by decide +kernel
theorem dX7_sensor_200 : decode cX7_sensor 200 = .ok (.isub, 1) := by decide +kernel
theorem dX7_sensor_201 : decode cX7_sensor 201 = .ok (.ishr, 1) := by decide +kernel
theorem dX7_sensor_202 : decode cX7_sensor 202 = .ok (.iconst 1, 1) := by decide +kernel
theorem dX7_sensor_203 : decode cX7_sensor 203 = .ok (.iand, 1) := by decide +kernel
theorem dX7_sensor_204 : decode cX7_sensor 204 = .ok (.iconst 1, 1) := by decide +kernel
theorem dX7_sensor_205 : decode cX7_sensor 205 = .ok (.if_icmp .ne 7, 3) := by decide +kernel
theorem dX7_sensor_208 : decode cX7_sensor 208 = .ok (.iconst 1, 1) := by decide +kernel
theorem dX7_sensor_209 : decode cX7_sensor 209 = .ok (.goto 4, 3) := by decide +kernel
theorem dX7_sensor_212 : decode cX7_sensor 212 = .ok (.iconst 0, 1) := by decide +kernel
theorem dX7_sensor_213 : decode cX7_sensor 213 = .ok (.istore_n 2, 1) := by decide +kernel
theorem dX7_sensor_214 : decode cX7_sensor 214 = .ok (.iload_n 2, 1) := by decide +kernel
theorem dX7_sensor_215 : decode cX7_sensor 215 = .ok (.ifCond .eq 7, 3) := by decide +kernel
theorem dX7_sensor_218 : decode cX7_sensor 218 = .ok (.iconst 1, 1) := by decide +kernel
theorem dX7_sensor_219 : decode cX7_sensor 219 = .ok (.goto 4, 3) := by decide +kernel
theorem dX7_sensor_222 : decode cX7_sensor 222 = .ok (.iconst 0, 1) := by decide +kernel
theorem dX7_sensor_223 : decode cX7_sensor 223 = .ok (.ireturn, 1) := by decide +kernel
theorem dX7_feel_0 : decode cX7_feel 0 = .ok (.iconst 0, 1) := by decide +kernel
theorem dX7_feel_1 : decode cX7_feel 1 = .ok (.istore_n 1, 1) := by decide +kernel
theorem dX7_feel_2 : decode cX7_feel 2 = .ok (.iload_n 1, 1) := by decide +kernel
theorem dX7_feel_3 : decode cX7_feel 3 = .ok (.bipush 18, 2) := by decide +kernel
theorem dX7_feel_5 : decode cX7_feel 5 = .ok (.if_icmp .ge 20, 3) := by decide +kernel
theorem dX7_feel_8 : decode cX7_feel 8 = .ok (.aload_n 0, 1) := by decide +kernel
theorem dX7_feel_9 : decode cX7_feel 9 = .ok (.getfield 75, 3) := by decide +kernel
theorem dX7_feel_12 : decode cX7_feel 12 = .ok (.iload_n 1, 1) := by decide +kernel
theorem dX7_feel_13 : decode cX7_feel 13 = .ok (.aload_n 0, 1) := by decide +kernel
theorem dX7_feel_14 : decode cX7_feel 14 = .ok (.iload_n 1, 1) := by decide +kernel
theorem dX7_feel_15 : decode cX7_feel 15 = .ok (.invokevirtual 88, 3) := by decide +kernel
theorem dX7_feel_18 : decode cX7_feel 18 = .ok (.iastore, 1) := by decide +kernel
theorem dX7_feel_19 : decode cX7_feel 19 = .ok (.iinc 1 1, 3) := by decide +kernel
theorem dX7_feel_22 : decode cX7_feel 22 = .ok (.goto (-20), 3) := by decide +kernel
theorem dX7_feel_25 : decode cX7_feel 25 = .ok (.return_, 1) := by decide +kernel
theorem dX7_tell_0 : decode cX7_tell 0 = .ok (.aload_n 0, 1) := by decide +kernel
theorem dX7_tell_1 : decode cX7_tell 1 = .ok (.getfield 35, 3) := by decide +kernel
theorem dX7_tell_4 : decode cX7_tell 4 = .ok (.iconst 3, 1) := by decide +kernel
theorem dX7_tell_5 : decode cX7_tell 5 = .ok (.iload_n 1, 1) := by decide +kernel
theorem dX7_tell_6 : decode cX7_tell 6 = .ok (.imul, 1) := by decide +kernel
theorem dX7_tell_7 : decode cX7_tell 7 = .ok (.iload_n 2, 1) := by decide +kernel
theorem dX7_tell_8 : decode cX7_tell 8 = .ok (.iadd, 1) := by decide +kernel
theorem dX7_tell_9 : decode cX7_tell 9 = .ok (.iaload, 1) := by decide +kernel
theorem dX7_tell_10 : decode cX7_tell 10 = .ok (.istore_n 3, 1) := by decide +kernel
theorem dX7_tell_11 : decode cX7_tell 11 = .ok (.iload_n 3, 1) := by decide +kernel
theorem dX7_tell_12 : decode cX7_tell 12 = .ok (.ifCond .ne 12, 3) := by decide +kernel
theorem dX7_tell_15 : decode cX7_tell 15 = .ok (.aload_n 0, 1) := by decide +kernel
theorem dX7_tell_16 : decode cX7_tell 16 = .ok (.getfield 75, 3) := by decide +kernel
theorem dX7_tell_19 : decode cX7_tell 19 = .ok (.iload_n 1, 1) := by decide +kernel
theorem dX7_tell_20 : decode cX7_tell 20 = .ok (.iaload, 1) := by decide +kernel
theorem dX7_tell_21 : decode cX7_tell 21 = .ok (.goto 29, 3) := by decide +kernel
theorem dX7_tell_24 : decode cX7_tell 24 = .ok (.iload_n 3, 1) := by decide +kernel
theorem dX7_tell_25 : decode cX7_tell 25 = .ok (.iconst 1, 1) := by decide +kernel
theorem dX7_tell_26 : decode cX7_tell 26 = .ok (.if_icmp .ne 7, 3) := by decide +kernel
theorem dX7_tell_29 : decode cX7_tell 29 = .ok (.iconst 0, 1) := by decide +kernel
theorem dX7_tell_30 : decode cX7_tell 30 = .ok (.goto 20, 3) := by decide +kernel
theorem dX7_tell_33 : decode cX7_tell 33 = .ok (.iload_n 3, 1) := by decide +kernel
theorem dX7_tell_34 : decode cX7_tell 34 = .ok (.iconst 2, 1) := by decide +kernel
theorem dX7_tell_35 : decode cX7_tell 35 = .ok (.if_icmp .ne 7, 3) := by decide +kernel
theorem dX7_tell_38 : decode cX7_tell 38 = .ok (.iconst 1, 1) := by decide +kernel
theorem dX7_tell_39 : decode cX7_tell 39 = .ok (.goto 11, 3) := by decide +kernel
theorem dX7_tell_42 : decode cX7_tell 42 = .ok (.iconst 1, 1) := by decide +kernel
theorem dX7_tell_43 : decode cX7_tell 43 = .ok (.aload_n 0, 1) := by decide +kernel
theorem dX7_tell_44 : decode cX7_tell 44 = .ok (.getfield 75, 3) := by decide +kernel
theorem dX7_tell_47 : decode cX7_tell 47 = .ok (.iload_n 1, 1) := by decide +kernel
theorem dX7_tell_48 : decode cX7_tell 48 = .ok (.iaload, 1) := by decide +kernel
theorem dX7_tell_49 : decode cX7_tell 49 = .ok (.isub, 1) := by decide +kernel
theorem dX7_tell_50 : decode cX7_tell 50 = .ok (.ireturn, 1) := by decide +kernel
theorem dX7_vote_0 : decode cX7_vote 0 = .ok (.bipush 18, 2) := by decide +kernel
theorem dX7_vote_2 : decode cX7_vote 2 = .ok (.iload_n 1, 1) := by decide +kernel
theorem dX7_vote_3 : decode cX7_vote 3 = .ok (.imul, 1) := by decide +kernel
theorem dX7_vote_4 : decode cX7_vote 4 = .ok (.iload_n 2, 1) := by decide +kernel
theorem dX7_vote_5 : decode cX7_vote 5 = .ok (.iadd, 1) := by decide +kernel
theorem dX7_vote_6 : decode cX7_vote 6 = .ok (.istore_n 3, 1) := by decide +kernel
theorem dX7_vote_7 : decode cX7_vote 7 = .ok (.aload_n 0, 1) := by decide +kernel
theorem dX7_vote_8 : decode cX7_vote 8 = .ok (.getfield 72, 3) := by decide +kernel
theorem dX7_vote_11 : decode cX7_vote 11 = .ok (.iload_n 3, 1) := by decide +kernel
theorem dX7_vote_12 : decode cX7_vote 12 = .ok (.baload, 1) := by decide +kernel
theorem dX7_vote_13 : decode cX7_vote 13 = .ok (.ifCond .eq 4, 3) := by decide +kernel
theorem dX7_vote_16 : decode cX7_vote 16 = .ok (.return_, 1) := by decide +kernel
theorem dX7_vote_17 : decode cX7_vote 17 = .ok (.iconst 0, 1) := by decide +kernel
theorem dX7_vote_18 : decode cX7_vote 18 = .ok (.istore 4, 2) := by decide +kernel
theorem dX7_vote_20 : decode cX7_vote 20 = .ok (.iconst 0, 1) := by decide +kernel
theorem dX7_vote_21 : decode cX7_vote 21 = .ok (.istore 5, 2) := by decide +kernel
theorem dX7_vote_23 : decode cX7_vote 23 = .ok (.iconst 0, 1) := by decide +kernel
theorem dX7_vote_24 : decode cX7_vote 24 = .ok (.istore 6, 2) := by decide +kernel
theorem dX7_vote_26 : decode cX7_vote 26 = .ok (.iload 6, 2) := by decide +kernel
theorem dX7_vote_28 : decode cX7_vote 28 = .ok (.iconst 3, 1) := by decide +kernel
theorem dX7_vote_29 : decode cX7_vote 29 = .ok (.if_icmp .ge 39, 3) := by decide +kernel
theorem dX7_vote_32 : decode cX7_vote 32 = .ok (.aload_n 0, 1) := by decide +kernel
theorem dX7_vote_33 : decode cX7_vote 33 = .ok (.getfield 69, 3) := by decide +kernel
theorem dX7_vote_36 : decode cX7_vote 36 = .ok (.iload_n 3, 1) := by decide +kernel
theorem dX7_vote_37 : decode cX7_vote 37 = .ok (.iaload, 1) := by decide +kernel
theorem dX7_vote_38 : decode cX7_vote 38 = .ok (.iload 6, 2) := by decide +kernel
theorem dX7_vote_40 : decode cX7_vote 40 = .ok (.ishr, 1) := by decide +kernel
theorem dX7_vote_41 : decode cX7_vote 41 = .ok (.iconst 1, 1) := by decide +kernel
theorem dX7_vote_42 : decode cX7_vote 42 = .ok (.iand, 1) := by decide +kernel
theorem dX7_vote_43 : decode cX7_vote 43 = .ok (.iconst 1, 1) := by decide +kernel
theorem dX7_vote_44 : decode cX7_vote 44 = .ok (.if_icmp .ne 18, 3) := by decide +kernel
theorem dX7_vote_47 : decode cX7_vote 47 = .ok (.iinc 5 1, 3) := by decide +kernel
theorem dX7_vote_50 : decode cX7_vote 50 = .ok (.iload 4, 2) := by decide +kernel
theorem dX7_vote_52 : decode cX7_vote 52 = .ok (.aload_n 0, 1) := by decide +kernel
theorem dX7_vote_53 : decode cX7_vote 53 = .ok (.iload_n 2, 1) := by decide +kernel
theorem dX7_vote_54 : decode cX7_vote 54 = .ok (.iload 6, 2) := by decide +kernel
theorem dX7_vote_56 : decode cX7_vote 56 = .ok (.invokevirtual 107, 3) := by decide +kernel
theorem dX7_vote_59 : decode cX7_vote 59 = .ok (.iadd, 1) := by decide +kernel
theorem dX7_vote_60 : decode cX7_vote 60 = .ok (.istore 4, 2) := by decide +kernel
theorem dX7_vote_62 : decode cX7_vote 62 = .ok (.iinc 6 1, 3) := by decide +kernel
theorem dX7_vote_65 : decode cX7_vote 65 = .ok (.goto (-39), 3) := by decide +kernel
theorem dX7_vote_68 : decode cX7_vote 68 = .ok (.iload 5, 2) := by decide +kernel
theorem dX7_vote_70 : decode cX7_vote 70 = .ok (.iconst 2, 1) := by decide +kernel
theorem dX7_vote_71 : decode cX7_vote 71 = .ok (.if_icmp .ne 68, 3) := by decide +kernel
theorem dX7_vote_74 : decode cX7_vote 74 = .ok (.aload_n 0, 1) := by decide +kernel
theorem dX7_vote_75 : decode cX7_vote 75 = .ok (.getfield 72, 3) := by decide +kernel
theorem dX7_vote_78 : decode cX7_vote 78 = .ok (.iload_n 3, 1) := by decide +kernel
theorem dX7_vote_79 : decode cX7_vote 79 = .ok (.iload 4, 2) := by decide +kernel
theorem dX7_vote_81 : decode cX7_vote 81 = .ok (.iconst 1, 1) := by decide +kernel
theorem dX7_vote_82 : decode cX7_vote 82 = .ok (.if_icmp .ne 7, 3) := by decide +kernel
theorem dX7_vote_85 : decode cX7_vote 85 = .ok (.iconst 1, 1) := by decide +kernel
theorem dX7_vote_86 : decode cX7_vote 86 = .ok (.goto 4, 3) := by decide +kernel
theorem dX7_vote_89 : decode cX7_vote 89 = .ok (.iconst 0, 1) := by decide +kernel
theorem dX7_vote_90 : decode cX7_vote 90 = .ok (.bastore, 1) := by decide +kernel
theorem dX7_vote_91 : decode cX7_vote 91 = .ok (.aload_n 0, 1) := by decide +kernel
theorem dX7_vote_92 : decode cX7_vote 92 = .ok (.getfield 69, 3) := by decide +kernel
theorem dX7_vote_95 : decode cX7_vote 95 = .ok (.iload_n 3, 1) := by decide +kernel
theorem dX7_vote_96 : decode cX7_vote 96 = .ok (.iload 4, 2) := by decide +kernel
theorem dX7_vote_98 : decode cX7_vote 98 = .ok (.iconst 1, 1) := by decide +kernel
theorem dX7_vote_99 : decode cX7_vote 99 = .ok (.if_icmp .ne 7, 3) := by decide +kernel
theorem dX7_vote_102 : decode cX7_vote 102 = .ok (.iconst 0, 1) := by decide +kernel
theorem dX7_vote_103 : decode cX7_vote 103 = .ok (.goto 9, 3) := by decide +kernel
theorem dX7_vote_106 : decode cX7_vote 106 = .ok (.aload_n 0, 1) := by decide +kernel
theorem dX7_vote_107 : decode cX7_vote 107 = .ok (.getfield 69, 3) := by decide +kernel
theorem dX7_vote_110 : decode cX7_vote 110 = .ok (.iload_n 3, 1) := by decide +kernel
theorem dX7_vote_111 : decode cX7_vote 111 = .ok (.iaload, 1) := by decide +kernel
theorem dX7_vote_112 : decode cX7_vote 112 = .ok (.iastore, 1) := by decide +kernel
theorem dX7_vote_113 : decode cX7_vote 113 = .ok (.aload_n 0, 1) := by decide +kernel
theorem dX7_vote_114 : decode cX7_vote 114 = .ok (.getfield 66, 3) := by decide +kernel
theorem dX7_vote_117 : decode cX7_vote 117 = .ok (.iload_n 3, 1) := by decide +kernel
theorem dX7_vote_118 : decode cX7_vote 118 = .ok (.iload 4, 2) := by decide +kernel
theorem dX7_vote_120 : decode cX7_vote 120 = .ok (.iconst 1, 1) := by decide +kernel
theorem dX7_vote_121 : decode cX7_vote 121 = .ok (.if_icmp .ne 12, 3) := by decide +kernel
theorem dX7_vote_124 : decode cX7_vote 124 = .ok (.aload_n 0, 1) := by decide +kernel
theorem dX7_vote_125 : decode cX7_vote 125 = .ok (.getfield 66, 3) := by decide +kernel
theorem dX7_vote_128 : decode cX7_vote 128 = .ok (.iload_n 3, 1) := by decide +kernel
theorem dX7_vote_129 : decode cX7_vote 129 = .ok (.iaload, 1) := by decide +kernel
theorem dX7_vote_130 : decode cX7_vote 130 = .ok (.goto 7, 3) := by decide +kernel
theorem dX7_vote_133 : decode cX7_vote 133 = .ok (.iload 4, 2) := by decide +kernel
theorem dX7_vote_135 : decode cX7_vote 135 = .ok (.iconst 2, 1) := by decide +kernel
theorem dX7_vote_136 : decode cX7_vote 136 = .ok (.idiv, 1) := by decide +kernel
theorem dX7_vote_137 : decode cX7_vote 137 = .ok (.iastore, 1) := by decide +kernel
theorem dX7_vote_138 : decode cX7_vote 138 = .ok (.return_, 1) := by decide +kernel
theorem dX7_vote_139 : decode cX7_vote 139 = .ok (.aload_n 0, 1) := by decide +kernel
theorem dX7_vote_140 : decode cX7_vote 140 = .ok (.getfield 66, 3) := by decide +kernel
theorem dX7_vote_143 : decode cX7_vote 143 = .ok (.iload_n 3, 1) := by decide +kernel
theorem dX7_vote_144 : decode cX7_vote 144 = .ok (.iload 4, 2) := by decide +kernel
theorem dX7_vote_146 : decode cX7_vote 146 = .ok (.iconst 1, 1) := by decide +kernel
theorem dX7_vote_147 : decode cX7_vote 147 = .ok (.if_icmp .le 7, 3) := by decide +kernel
theorem dX7_vote_150 : decode cX7_vote 150 = .ok (.iconst 1, 1) := by decide +kernel
theorem dX7_vote_151 : decode cX7_vote 151 = .ok (.goto 4, 3) := by decide +kernel
theorem dX7_vote_154 : decode cX7_vote 154 = .ok (.iconst 0, 1) := by decide +kernel
theorem dX7_vote_155 : decode cX7_vote 155 = .ok (.iastore, 1) := by decide +kernel
theorem dX7_vote_156 : decode cX7_vote 156 = .ok (.iconst 0, 1) := by decide +kernel
theorem dX7_vote_157 : decode cX7_vote 157 = .ok (.istore 6, 2) := by decide +kernel
theorem dX7_vote_159 : decode cX7_vote 159 = .ok (.iload 6, 2) := by decide +kernel
theorem dX7_vote_161 : decode cX7_vote 161 = .ok (.iconst 3, 1) := by decide +kernel
theorem dX7_vote_162 : decode cX7_vote 162 = .ok (.if_icmp .ge 55, 3) := by decide +kernel
theorem dX7_vote_165 : decode cX7_vote 165 = .ok (.iload 4, 2) := by decide +kernel
theorem dX7_vote_167 : decode cX7_vote 167 = .ok (.iconst 1, 1) := by decide +kernel
theorem dX7_vote_168 : decode cX7_vote 168 = .ok (.iconst 2, 1) := by decide +kernel
theorem dX7_vote_169 : decode cX7_vote 169 = .ok (.invokestatic 94, 3) := by decide +kernel
theorem dX7_vote_172 : decode cX7_vote 172 = .ok (.ifCond .eq 45, 3) := by decide +kernel
theorem dX7_vote_175 : decode cX7_vote 175 = .ok (.aload_n 0, 1) := by decide +kernel
theorem dX7_vote_176 : decode cX7_vote 176 = .ok (.getfield 69, 3) := by decide +kernel
theorem dX7_vote_179 : decode cX7_vote 179 = .ok (.iload_n 3, 1) := by decide +kernel
theorem dX7_vote_180 : decode cX7_vote 180 = .ok (.dup2, 1) := by decide +kernel
theorem dX7_vote_181 : decode cX7_vote 181 = .ok (.iaload, 1) := by decide +kernel
theorem dX7_vote_182 : decode cX7_vote 182 = .ok (.aload_n 0, 1) := by decide +kernel
theorem dX7_vote_183 : decode cX7_vote 183 = .ok (.iload_n 2, 1) := by decide +kernel
theorem dX7_vote_184 : decode cX7_vote 184 = .ok (.iload 6, 2) := by decide +kernel
theorem dX7_vote_186 : decode cX7_vote 186 = .ok (.invokevirtual 107, 3) := by decide +kernel
theorem dX7_vote_189 : decode cX7_vote 189 = .ok (.aload_n 0, 1) := by decide +kernel
theorem dX7_vote_190 : decode cX7_vote 190 = .ok (.getfield 66, 3) := by decide +kernel
theorem dX7_vote_193 : decode cX7_vote 193 = .ok (.iload_n 3, 1) := by decide +kernel
theorem dX7_vote_194 : decode cX7_vote 194 = .ok (.iaload, 1) := by decide +kernel
theorem dX7_vote_195 : decode cX7_vote 195 = .ok (.if_icmp .ne 8, 3) := by decide +kernel
theorem dX7_vote_198 : decode cX7_vote 198 = .ok (.bipush 7, 2) := by decide +kernel
theorem dX7_vote_200 : decode cX7_vote 200 = .ok (.goto 9, 3) := by decide +kernel
theorem dX7_vote_203 : decode cX7_vote 203 = .ok (.iconst 1, 1) := by decide +kernel
theorem dX7_vote_204 : decode cX7_vote 204 = .ok (.iload 6, 2) := by decide +kernel
theorem dX7_vote_206 : decode cX7_vote 206 = .ok (.ishl, 1) := by decide +kernel
theorem dX7_vote_207 : decode cX7_vote 207 = .ok (.iconst (-1), 1) := by decide +kernel
theorem dX7_vote_208 : decode cX7_vote 208 = .ok (.ixor, 1) := by decide +kernel
theorem dX7_vote_209 : decode cX7_vote 209 = .ok (.iand, 1) := by decide +kernel
theorem dX7_vote_210 : decode cX7_vote 210 = .ok (.iastore, 1) := by decide +kernel
theorem dX7_vote_211 : decode cX7_vote 211 = .ok (.iinc 6 1, 3) := by decide +kernel
theorem dX7_vote_214 : decode cX7_vote 214 = .ok (.goto (-55), 3) := by decide +kernel
theorem dX7_vote_217 : decode cX7_vote 217 = .ok (.return_, 1) := by decide +kernel
theorem dX7_all_0 : decode cX7_all 0 = .ok (.aload_n 0, 1) := by decide +kernel
theorem dX7_all_1 : decode cX7_all 1 = .ok (.getfield 66, 3) := by decide +kernel
theorem dX7_all_4 : decode cX7_all 4 = .ok (.bipush 18, 2) := by decide +kernel
theorem dX7_all_6 : decode cX7_all 6 = .ok (.iload_n 1, 1) := by decide +kernel
theorem dX7_all_7 : decode cX7_all 7 = .ok (.imul, 1) := by decide +kernel
theorem dX7_all_8 : decode cX7_all 8 = .ok (.iload_n 2, 1) := by decide +kernel
theorem dX7_all_9 : decode cX7_all 9 = .ok (.iadd, 1) := by decide +kernel
theorem dX7_all_10 : decode cX7_all 10 = .ok (.iaload, 1) := by decide +kernel
theorem dX7_all_11 : decode cX7_all 11 = .ok (.aload_n 0, 1) := by decide +kernel
theorem dX7_all_12 : decode cX7_all 12 = .ok (.getfield 66, 3) := by decide +kernel
theorem dX7_all_15 : decode cX7_all 15 = .ok (.bipush 18, 2) := by decide +kernel
theorem dX7_all_17 : decode cX7_all 17 = .ok (.iload_n 1, 1) := by decide +kernel
theorem dX7_all_18 : decode cX7_all 18 = .ok (.imul, 1) := by decide +kernel
theorem dX7_all_19 : decode cX7_all 19 = .ok (.iload_n 2, 1) := by decide +kernel
theorem dX7_all_20 : decode cX7_all 20 = .ok (.iadd, 1) := by decide +kernel
theorem dX7_all_21 : decode cX7_all 21 = .ok (.iconst 1, 1) := by decide +kernel
theorem dX7_all_22 : decode cX7_all 22 = .ok (.iadd, 1) := by decide +kernel
theorem dX7_all_23 : decode cX7_all 23 = .ok (.iaload, 1) := by decide +kernel
theorem dX7_all_24 : decode cX7_all 24 = .ok (.iadd, 1) := by decide +kernel
theorem dX7_all_25 : decode cX7_all 25 = .ok (.aload_n 0, 1) := by decide +kernel
theorem dX7_all_26 : decode cX7_all 26 = .ok (.getfield 66, 3) := by decide +kernel
theorem dX7_all_29 : decode cX7_all 29 = .ok (.bipush 18, 2) := by decide +kernel
theorem dX7_all_31 : decode cX7_all 31 = .ok (.iload_n 1, 1) := by decide +kernel
theorem dX7_all_32 : decode cX7_all 32 = .ok (.imul, 1) := by decide +kernel
theorem dX7_all_33 : decode cX7_all 33 = .ok (.iload_n 2, 1) := by decide +kernel
theorem dX7_all_34 : decode cX7_all 34 = .ok (.iadd, 1) := by decide +kernel
theorem dX7_all_35 : decode cX7_all 35 = .ok (.iconst 2, 1) := by decide +kernel
theorem dX7_all_36 : decode cX7_all 36 = .ok (.iadd, 1) := by decide +kernel
theorem dX7_all_37 : decode cX7_all 37 = .ok (.iaload, 1) := by decide +kernel
theorem dX7_all_38 : decode cX7_all 38 = .ok (.iadd, 1) := by decide +kernel
theorem dX7_all_39 : decode cX7_all 39 = .ok (.iconst 3, 1) := by decide +kernel
theorem dX7_all_40 : decode cX7_all 40 = .ok (.if_icmp .ne 7, 3) := by decide +kernel
theorem dX7_all_43 : decode cX7_all 43 = .ok (.iconst 1, 1) := by decide +kernel
theorem dX7_all_44 : decode cX7_all 44 = .ok (.goto 4, 3) := by decide +kernel
theorem dX7_all_47 : decode cX7_all 47 = .ok (.iconst 0, 1) := by decide +kernel
theorem dX7_all_48 : decode cX7_all 48 = .ok (.ireturn, 1) := by decide +kernel
theorem dX7_some_0 : decode cX7_some 0 = .ok (.aload_n 0, 1) := by decide +kernel
theorem dX7_some_1 : decode cX7_some 1 = .ok (.getfield 66, 3) := by decide +kernel
theorem dX7_some_4 : decode cX7_some 4 = .ok (.bipush 18, 2) := by decide +kernel
theorem dX7_some_6 : decode cX7_some 6 = .ok (.iload_n 1, 1) := by decide +kernel
theorem dX7_some_7 : decode cX7_some 7 = .ok (.imul, 1) := by decide +kernel
theorem dX7_some_8 : decode cX7_some 8 = .ok (.iload_n 2, 1) := by decide +kernel
theorem dX7_some_9 : decode cX7_some 9 = .ok (.iadd, 1) := by decide +kernel
theorem dX7_some_10 : decode cX7_some 10 = .ok (.iaload, 1) := by decide +kernel
theorem dX7_some_11 : decode cX7_some 11 = .ok (.aload_n 0, 1) := by decide +kernel
theorem dX7_some_12 : decode cX7_some 12 = .ok (.getfield 66, 3) := by decide +kernel
theorem dX7_some_15 : decode cX7_some 15 = .ok (.bipush 18, 2) := by decide +kernel
theorem dX7_some_17 : decode cX7_some 17 = .ok (.iload_n 1, 1) := by decide +kernel
theorem dX7_some_18 : decode cX7_some 18 = .ok (.imul, 1) := by decide +kernel
theorem dX7_some_19 : decode cX7_some 19 = .ok (.iload_n 2, 1) := by decide +kernel
theorem dX7_some_20 : decode cX7_some 20 = .ok (.iadd, 1) := by decide +kernel
theorem dX7_some_21 : decode cX7_some 21 = .ok (.iconst 1, 1) := by decide +kernel
theorem dX7_some_22 : decode cX7_some 22 = .ok (.iadd, 1) := by decide +kernel
theorem dX7_some_23 : decode cX7_some 23 = .ok (.iaload, 1) := by decide +kernel
theorem dX7_some_24 : decode cX7_some 24 = .ok (.iadd, 1) := by decide +kernel
theorem dX7_some_25 : decode cX7_some 25 = .ok (.aload_n 0, 1) := by decide +kernel
theorem dX7_some_26 : decode cX7_some 26 = .ok (.getfield 66, 3) := by decide +kernel
theorem dX7_some_29 : decode cX7_some 29 = .ok (.bipush 18, 2) := by decide +kernel
theorem dX7_some_31 : decode cX7_some 31 = .ok (.iload_n 1, 1) := by decide +kernel
theorem dX7_some_32 : decode cX7_some 32 = .ok (.imul, 1) := by decide +kernel
theorem dX7_some_33 : decode cX7_some 33 = .ok (.iload_n 2, 1) := by decide +kernel
theorem dX7_some_34 : decode cX7_some 34 = .ok (.iadd, 1) := by decide +kernel
theorem dX7_some_35 : decode cX7_some 35 = .ok (.iconst 2, 1) := by decide +kernel
theorem dX7_some_36 : decode cX7_some 36 = .ok (.iadd, 1) := by decide +kernel
theorem dX7_some_37 : decode cX7_some 37 = .ok (.iaload, 1) := by decide +kernel
theorem dX7_some_38 : decode cX7_some 38 = .ok (.iadd, 1) := by decide +kernel
theorem dX7_some_39 : decode cX7_some 39 = .ok (.ifCond .le 7, 3) := by decide +kernel
theorem dX7_some_42 : decode cX7_some 42 = .ok (.iconst 1, 1) := by decide +kernel
theorem dX7_some_43 : decode cX7_some 43 = .ok (.goto 4, 3) := by decide +kernel
theorem dX7_some_46 : decode cX7_some 46 = .ok (.iconst 0, 1) := by decide +kernel
theorem dX7_some_47 : decode cX7_some 47 = .ok (.ireturn, 1) := by decide +kernel
theorem dX7_orders_0 : decode cX7_orders 0 = .ok (.aload_n 0, 1) := by decide +kernel
theorem dX7_orders_1 : decode cX7_orders 1 = .ok (.getfield 54, 3) := by decide +kernel
theorem dX7_orders_4 : decode cX7_orders 4 = .ok (.iload_n 1, 1) := by decide +kernel
theorem dX7_orders_5 : decode cX7_orders 5 = .ok (.iaload, 1) := by decide +kernel
theorem dX7_orders_6 : decode cX7_orders 6 = .ok (.iconst 1, 1) := by decide +kernel
theorem dX7_orders_7 : decode cX7_orders 7 = .ok (.if_icmp .eq 12, 3) := by decide +kernel
theorem dX7_orders_10 : decode cX7_orders 10 = .ok (.aload_n 0, 1) := by decide +kernel
theorem dX7_orders_11 : decode cX7_orders 11 = .ok (.getfield 47, 3) := by decide +kernel
theorem dX7_orders_14 : decode cX7_orders 14 = .ok (.iload_n 1, 1) := by decide +kernel
theorem dX7_orders_15 : decode cX7_orders 15 = .ok (.iaload, 1) := by decide +kernel
theorem dX7_orders_16 : decode cX7_orders 16 = .ok (.ifCond .le 5, 3) := by decide +kernel
theorem dX7_orders_19 : decode cX7_orders 19 = .ok (.iconst 0, 1) := by decide +kernel
theorem dX7_orders_20 : decode cX7_orders 20 = .ok (.ireturn, 1) := by decide +kernel
theorem dX7_orders_21 : decode cX7_orders 21 = .ok (.aload_n 0, 1) := by decide +kernel
theorem dX7_orders_22 : decode cX7_orders 22 = .ok (.getfield 38, 3) := by decide +kernel
theorem dX7_orders_25 : decode cX7_orders 25 = .ok (.iload_n 1, 1) := by decide +kernel
theorem dX7_orders_26 : decode cX7_orders 26 = .ok (.iaload, 1) := by decide +kernel
theorem dX7_orders_27 : decode cX7_orders 27 = .ok (.tableswitch 65 0 6 #[41, 65, 43, 45, 43, 65, 63], 41) := by decide +kernel
theorem dX7_orders_68 : decode cX7_orders 68 = .ok (.iconst 0, 1) := by decide +kernel
theorem dX7_orders_69 : decode cX7_orders 69 = .ok (.ireturn, 1) := by decide +kernel
theorem dX7_orders_70 : decode cX7_orders 70 = .ok (.iconst 3, 1) := by decide +kernel
theorem dX7_orders_71 : decode cX7_orders 71 = .ok (.ireturn, 1) := by decide +kernel
theorem dX7_orders_72 : decode cX7_orders 72 = .ok (.aload_n 0, 1) := by decide +kernel
theorem dX7_orders_73 : decode cX7_orders 73 = .ok (.getfield 44, 3) := by decide +kernel
theorem dX7_orders_76 : decode cX7_orders 76 = .ok (.iload_n 1, 1) := by decide +kernel
theorem dX7_orders_77 : decode cX7_orders 77 = .ok (.iaload, 1) := by decide +kernel
theorem dX7_orders_78 : decode cX7_orders 78 = .ok (.iconst 1, 1) := by decide +kernel
theorem dX7_orders_79 : decode cX7_orders 79 = .ok (.if_icmp .ne 8, 3) := by decide +kernel
theorem dX7_orders_82 : decode cX7_orders 82 = .ok (.bipush 11, 2) := by decide +kernel
theorem dX7_orders_84 : decode cX7_orders 84 = .ok (.goto 5, 3) := by decide +kernel
theorem dX7_orders_87 : decode cX7_orders 87 = .ok (.bipush 19, 2) := by decide +kernel
theorem dX7_orders_89 : decode cX7_orders 89 = .ok (.ireturn, 1) := by decide +kernel
theorem dX7_orders_90 : decode cX7_orders 90 = .ok (.iconst 5, 1) := by decide +kernel
theorem dX7_orders_91 : decode cX7_orders 91 = .ok (.ireturn, 1) := by decide +kernel
theorem dX7_orders_92 : decode cX7_orders 92 = .ok (.iconst 1, 1) := by decide +kernel
theorem dX7_orders_93 : decode cX7_orders 93 = .ok (.ireturn, 1) := by decide +kernel
theorem dX7_ordered_0 : decode cX7_ordered 0 = .ok (.aload_n 0, 1) := by decide +kernel
theorem dX7_ordered_1 : decode cX7_ordered 1 = .ok (.iconst 0, 1) := by decide +kernel
theorem dX7_ordered_2 : decode cX7_ordered 2 = .ok (.invokevirtual 111, 3) := by decide +kernel
theorem dX7_ordered_5 : decode cX7_ordered 5 = .ok (.aload_n 0, 1) := by decide +kernel
theorem dX7_ordered_6 : decode cX7_ordered 6 = .ok (.iconst 1, 1) := by decide +kernel
theorem dX7_ordered_7 : decode cX7_ordered 7 = .ok (.invokevirtual 111, 3) := by decide +kernel
theorem dX7_ordered_10 : decode cX7_ordered 10 = .ok (.ior, 1) := by decide +kernel
theorem dX7_ordered_11 : decode cX7_ordered 11 = .ok (.ireturn, 1) := by decide +kernel
theorem dX7_note_0 : decode cX7_note 0 = .ok (.aload_n 0, 1) := by decide +kernel
theorem dX7_note_1 : decode cX7_note 1 = .ok (.getfield 114, 3) := by decide +kernel
theorem dX7_note_4 : decode cX7_note 4 = .ok (.bipush 64, 2) := by decide +kernel
theorem dX7_note_6 : decode cX7_note 6 = .ok (.irem, 1) := by decide +kernel
theorem dX7_note_7 : decode cX7_note 7 = .ok (.istore_n 3, 1) := by decide +kernel
theorem dX7_note_8 : decode cX7_note 8 = .ok (.aload_n 0, 1) := by decide +kernel
theorem dX7_note_9 : decode cX7_note 9 = .ok (.getfield 78, 3) := by decide +kernel
theorem dX7_note_12 : decode cX7_note 12 = .ok (.iconst 3, 1) := by decide +kernel
theorem dX7_note_13 : decode cX7_note 13 = .ok (.iload_n 3, 1) := by decide +kernel
theorem dX7_note_14 : decode cX7_note 14 = .ok (.imul, 1) := by decide +kernel
theorem dX7_note_15 : decode cX7_note 15 = .ok (.aload_n 0, 1) := by decide +kernel
theorem dX7_note_16 : decode cX7_note 16 = .ok (.getfield 117, 3) := by decide +kernel
theorem dX7_note_19 : decode cX7_note 19 = .ok (.iastore, 1) := by decide +kernel
theorem dX7_note_20 : decode cX7_note 20 = .ok (.aload_n 0, 1) := by decide +kernel
theorem dX7_note_21 : decode cX7_note 21 = .ok (.getfield 78, 3) := by decide +kernel
theorem dX7_note_24 : decode cX7_note 24 = .ok (.iconst 3, 1) := by decide +kernel
theorem dX7_note_25 : decode cX7_note 25 = .ok (.iload_n 3, 1) := by decide +kernel
theorem dX7_note_26 : decode cX7_note 26 = .ok (.imul, 1) := by decide +kernel
theorem dX7_note_27 : decode cX7_note 27 = .ok (.iconst 1, 1) := by decide +kernel
theorem dX7_note_28 : decode cX7_note 28 = .ok (.iadd, 1) := by decide +kernel
theorem dX7_note_29 : decode cX7_note 29 = .ok (.iload_n 1, 1) := by decide +kernel
theorem dX7_note_30 : decode cX7_note 30 = .ok (.iastore, 1) := by decide +kernel
theorem dX7_note_31 : decode cX7_note 31 = .ok (.aload_n 0, 1) := by decide +kernel
theorem dX7_note_32 : decode cX7_note 32 = .ok (.getfield 78, 3) := by decide +kernel
theorem dX7_note_35 : decode cX7_note 35 = .ok (.iconst 3, 1) := by decide +kernel
theorem dX7_note_36 : decode cX7_note 36 = .ok (.iload_n 3, 1) := by decide +kernel
theorem dX7_note_37 : decode cX7_note 37 = .ok (.imul, 1) := by decide +kernel
theorem dX7_note_38 : decode cX7_note 38 = .ok (.iconst 2, 1) := by decide +kernel
theorem dX7_note_39 : decode cX7_note 39 = .ok (.iadd, 1) := by decide +kernel
theorem dX7_note_40 : decode cX7_note 40 = .ok (.iload_n 2, 1) := by decide +kernel
theorem dX7_note_41 : decode cX7_note 41 = .ok (.iastore, 1) := by decide +kernel
theorem dX7_note_42 : decode cX7_note 42 = .ok (.aload_n 0, 1) := by decide +kernel
theorem dX7_note_43 : decode cX7_note 43 = .ok (.dup, 1) := by decide +kernel
theorem dX7_note_44 : decode cX7_note 44 = .ok (.getfield 114, 3) := by decide +kernel
theorem dX7_note_47 : decode cX7_note 47 = .ok (.iconst 1, 1) := by decide +kernel
theorem dX7_note_48 : decode cX7_note 48 = .ok (.iadd, 1) := by decide +kernel
theorem dX7_note_49 : decode cX7_note 49 = .ok (.putfield 114, 3) := by decide +kernel
theorem dX7_note_52 : decode cX7_note 52 = .ok (.return_, 1) := by decide +kernel
theorem dX7_come_0 : decode cX7_come 0 = .ok (.aload_n 0, 1) := by decide +kernel
theorem dX7_come_1 : decode cX7_come 1 = .ok (.getfield 38, 3) := by decide +kernel
theorem dX7_come_4 : decode cX7_come 4 = .ok (.iload_n 1, 1) := by decide +kernel
theorem dX7_come_5 : decode cX7_come 5 = .ok (.iload_n 2, 1) := by decide +kernel
theorem dX7_come_6 : decode cX7_come 6 = .ok (.iastore, 1) := by decide +kernel
theorem dX7_come_7 : decode cX7_come 7 = .ok (.aload_n 0, 1) := by decide +kernel
theorem dX7_come_8 : decode cX7_come 8 = .ok (.getfield 41, 3) := by decide +kernel
theorem dX7_come_11 : decode cX7_come 11 = .ok (.iload_n 1, 1) := by decide +kernel
theorem dX7_come_12 : decode cX7_come 12 = .ok (.iconst 0, 1) := by decide +kernel
theorem dX7_come_13 : decode cX7_come 13 = .ok (.iastore, 1) := by decide +kernel
theorem dX7_come_14 : decode cX7_come 14 = .ok (.aload_n 0, 1) := by decide +kernel
theorem dX7_come_15 : decode cX7_come 15 = .ok (.iload_n 1, 1) := by decide +kernel
theorem dX7_come_16 : decode cX7_come 16 = .ok (.iload_n 2, 1) := by decide +kernel
theorem dX7_come_17 : decode cX7_come 17 = .ok (.invokevirtual 120, 3) := by decide +kernel
theorem dX7_come_20 : decode cX7_come 20 = .ok (.return_, 1) := by decide +kernel
theorem dX7_change_0 : decode cX7_change 0 = .ok (.aload_n 0, 1) := by decide +kernel
theorem dX7_change_1 : decode cX7_change 1 = .ok (.getfield 44, 3) := by decide +kernel
theorem dX7_change_4 : decode cX7_change 4 = .ok (.iload_n 1, 1) := by decide +kernel
theorem dX7_change_5 : decode cX7_change 5 = .ok (.aload_n 0, 1) := by decide +kernel
theorem dX7_change_6 : decode cX7_change 6 = .ok (.getfield 66, 3) := by decide +kernel
theorem dX7_change_9 : decode cX7_change 9 = .ok (.bipush 18, 2) := by decide +kernel
theorem dX7_change_11 : decode cX7_change 11 = .ok (.iload_n 1, 1) := by decide +kernel
theorem dX7_change_12 : decode cX7_change 12 = .ok (.imul, 1) := by decide +kernel
theorem dX7_change_13 : decode cX7_change 13 = .ok (.iaload, 1) := by decide +kernel
theorem dX7_change_14 : decode cX7_change 14 = .ok (.iastore, 1) := by decide +kernel
theorem dX7_change_15 : decode cX7_change 15 = .ok (.aload_n 0, 1) := by decide +kernel
theorem dX7_change_16 : decode cX7_change 16 = .ok (.getfield 38, 3) := by decide +kernel
theorem dX7_change_19 : decode cX7_change 19 = .ok (.iload_n 1, 1) := by decide +kernel
theorem dX7_change_20 : decode cX7_change 20 = .ok (.iaload, 1) := by decide +kernel
theorem dX7_change_21 : decode cX7_change 21 = .ok (.istore_n 2, 1) := by decide +kernel
theorem dX7_change_22 : decode cX7_change 22 = .ok (.aload_n 0, 1) := by decide +kernel
theorem dX7_change_23 : decode cX7_change 23 = .ok (.getfield 50, 3) := by decide +kernel
theorem dX7_change_26 : decode cX7_change 26 = .ok (.iload_n 1, 1) := by decide +kernel
theorem dX7_change_27 : decode cX7_change 27 = .ok (.aload_n 0, 1) := by decide +kernel
theorem dX7_change_28 : decode cX7_change 28 = .ok (.getfield 50, 3) := by decide +kernel
theorem dX7_change_31 : decode cX7_change 31 = .ok (.iload_n 1, 1) := by decide +kernel
theorem dX7_change_32 : decode cX7_change 32 = .ok (.baload, 1) := by decide +kernel
theorem dX7_change_33 : decode cX7_change 33 = .ok (.ifCond .ne 20, 3) := by decide +kernel
theorem dX7_change_36 : decode cX7_change 36 = .ok (.iload_n 2, 1) := by decide +kernel
theorem dX7_change_37 : decode cX7_change 37 = .ok (.iconst 5, 1) := by decide +kernel
theorem dX7_change_38 : decode cX7_change 38 = .ok (.if_icmp .eq 15, 3) := by decide +kernel
theorem dX7_change_41 : decode cX7_change 41 = .ok (.iload_n 2, 1) := by decide +kernel
theorem dX7_change_42 : decode cX7_change 42 = .ok (.bipush 6, 2) := by decide +kernel
theorem dX7_change_44 : decode cX7_change 44 = .ok (.if_icmp .eq 9, 3) := by decide +kernel
theorem dX7_change_47 : decode cX7_change 47 = .ok (.iload_n 2, 1) := by decide +kernel
theorem dX7_change_48 : decode cX7_change 48 = .ok (.bipush 7, 2) := by decide +kernel
theorem dX7_change_50 : decode cX7_change 50 = .ok (.if_icmp .ne 7, 3) := by decide +kernel
theorem dX7_change_53 : decode cX7_change 53 = .ok (.iconst 1, 1) := by decide +kernel
theorem dX7_change_54 : decode cX7_change 54 = .ok (.goto 4, 3) := by decide +kernel
theorem dX7_change_57 : decode cX7_change 57 = .ok (.iconst 0, 1) := by decide +kernel
theorem dX7_change_58 : decode cX7_change 58 = .ok (.bastore, 1) := by decide +kernel
theorem dX7_change_59 : decode cX7_change 59 = .ok (.iload_n 2, 1) := by decide +kernel
theorem dX7_change_60 : decode cX7_change 60 = .ok (.ifCond .ne 12, 3) := by decide +kernel
theorem dX7_change_63 : decode cX7_change 63 = .ok (.aload_n 0, 1) := by decide +kernel
theorem dX7_change_64 : decode cX7_change 64 = .ok (.iload_n 1, 1) := by decide +kernel
theorem dX7_change_65 : decode cX7_change 65 = .ok (.iconst 1, 1) := by decide +kernel
theorem dX7_change_66 : decode cX7_change 66 = .ok (.invokevirtual 124, 3) := by decide +kernel
theorem dX7_change_69 : decode cX7_change 69 = .ok (.goto 35, 3) := by decide +kernel
theorem dX7_change_72 : decode cX7_change 72 = .ok (.iload_n 2, 1) := by decide +kernel
theorem dX7_change_73 : decode cX7_change 73 = .ok (.iconst 3, 1) := by decide +kernel
theorem dX7_change_74 : decode cX7_change 74 = .ok (.if_icmp .ne 12, 3) := by decide +kernel
theorem dX7_change_77 : decode cX7_change 77 = .ok (.aload_n 0, 1) := by decide +kernel
theorem dX7_change_78 : decode cX7_change 78 = .ok (.iload_n 1, 1) := by decide +kernel
theorem dX7_change_79 : decode cX7_change 79 = .ok (.iconst 4, 1) := by decide +kernel
theorem dX7_change_80 : decode cX7_change 80 = .ok (.invokevirtual 124, 3) := by decide +kernel
theorem dX7_change_83 : decode cX7_change 83 = .ok (.goto 21, 3) := by decide +kernel
theorem dX7_change_86 : decode cX7_change 86 = .ok (.iload_n 2, 1) := by decide +kernel
theorem dX7_change_87 : decode cX7_change 87 = .ok (.bipush 6, 2) := by decide +kernel
theorem dX7_change_89 : decode cX7_change 89 = .ok (.if_icmp .eq 9, 3) := by decide +kernel
theorem dX7_change_92 : decode cX7_change 92 = .ok (.iload_n 2, 1) := by decide +kernel
theorem dX7_change_93 : decode cX7_change 93 = .ok (.bipush 7, 2) := by decide +kernel
theorem dX7_change_95 : decode cX7_change 95 = .ok (.if_icmp .ne 9, 3) := by decide +kernel
theorem dX7_change_98 : decode cX7_change 98 = .ok (.aload_n 0, 1) := by decide +kernel
theorem dX7_change_99 : decode cX7_change 99 = .ok (.iload_n 1, 1) := by decide +kernel
theorem dX7_change_100 : decode cX7_change 100 = .ok (.iconst 5, 1) := by decide +kernel
theorem dX7_change_101 : decode cX7_change 101 = .ok (.invokevirtual 124, 3) := by decide +kernel
theorem dX7_change_104 : decode cX7_change 104 = .ok (.return_, 1) := by decide +kernel
theorem dX7_advance_0 : decode cX7_advance 0 = .ok (.aload_n 0, 1) := by decide +kernel
theorem dX7_advance_1 : decode cX7_advance 1 = .ok (.iload_n 1, 1) := by decide +kernel
theorem dX7_advance_2 : decode cX7_advance 2 = .ok (.aload_n 0, 1) := by decide +kernel
theorem dX7_advance_3 : decode cX7_advance 3 = .ok (.getfield 44, 3) := by decide +kernel
theorem dX7_advance_6 : decode cX7_advance 6 = .ok (.iload_n 1, 1) := by decide +kernel
theorem dX7_advance_7 : decode cX7_advance 7 = .ok (.iaload, 1) := by decide +kernel
theorem dX7_advance_8 : decode cX7_advance 8 = .ok (.iconst 1, 1) := by decide +kernel
theorem dX7_advance_9 : decode cX7_advance 9 = .ok (.if_icmp .ne 8, 3) := by decide +kernel
theorem dX7_advance_12 : decode cX7_advance 12 = .ok (.bipush 9, 2) := by decide +kernel
theorem dX7_advance_14 : decode cX7_advance 14 = .ok (.goto 5, 3) := by decide +kernel
theorem dX7_advance_17 : decode cX7_advance 17 = .ok (.bipush 12, 2) := by decide +kernel
theorem dX7_advance_19 : decode cX7_advance 19 = .ok (.invokevirtual 127, 3) := by decide +kernel
theorem dX7_advance_22 : decode cX7_advance 22 = .ok (.istore_n 2, 1) := by decide +kernel
theorem dX7_advance_23 : decode cX7_advance 23 = .ok (.aload_n 0, 1) := by decide +kernel
theorem dX7_advance_24 : decode cX7_advance 24 = .ok (.getfield 38, 3) := by decide +kernel
theorem dX7_advance_27 : decode cX7_advance 27 = .ok (.iload_n 1, 1) := by decide +kernel
theorem dX7_advance_28 : decode cX7_advance 28 = .ok (.iaload, 1) := by decide +kernel
theorem dX7_advance_29 : decode cX7_advance 29 = .ok (.tableswitch 222 1 7 #[43, 62, 81, 94, 141, 183, 202], 43) := by decide +kernel
theorem dX7_advance_72 : decode cX7_advance 72 = .ok (.aload_n 0, 1) := by decide +kernel
theorem dX7_advance_73 : decode cX7_advance 73 = .ok (.getfield 41, 3) := by decide +kernel
theorem dX7_advance_76 : decode cX7_advance 76 = .ok (.iload_n 1, 1) := by decide +kernel
theorem dX7_advance_77 : decode cX7_advance 77 = .ok (.iaload, 1) := by decide +kernel
theorem dX7_advance_78 : decode cX7_advance 78 = .ok (.iconst 2, 1) := by decide +kernel
theorem dX7_advance_79 : decode cX7_advance 79 = .ok (.if_icmp .lt 172, 3) := by decide +kernel
theorem dX7_advance_82 : decode cX7_advance 82 = .ok (.aload_n 0, 1) := by decide +kernel
theorem dX7_advance_83 : decode cX7_advance 83 = .ok (.iload_n 1, 1) := by decide +kernel
theorem dX7_advance_84 : decode cX7_advance 84 = .ok (.iconst 2, 1) := by decide +kernel
theorem dX7_advance_85 : decode cX7_advance 85 = .ok (.invokevirtual 124, 3) := by decide +kernel
theorem dX7_advance_88 : decode cX7_advance 88 = .ok (.goto 163, 3) := by decide +kernel
theorem dX7_advance_91 : decode cX7_advance 91 = .ok (.aload_n 0, 1) := by decide +kernel
theorem dX7_advance_92 : decode cX7_advance 92 = .ok (.iload_n 1, 1) := by decide +kernel
theorem dX7_advance_93 : decode cX7_advance 93 = .ok (.bipush 6, 2) := by decide +kernel
theorem dX7_advance_95 : decode cX7_advance 95 = .ok (.invokevirtual 127, 3) := by decide +kernel
theorem dX7_advance_98 : decode cX7_advance 98 = .ok (.ifCond .eq 153, 3) := by decide +kernel
theorem dX7_advance_101 : decode cX7_advance 101 = .ok (.aload_n 0, 1) := by decide +kernel
theorem dX7_advance_102 : decode cX7_advance 102 = .ok (.iload_n 1, 1) := by decide +kernel
theorem dX7_advance_103 : decode cX7_advance 103 = .ok (.iconst 4, 1) := by decide +kernel
theorem dX7_advance_104 : decode cX7_advance 104 = .ok (.invokevirtual 124, 3) := by decide +kernel
theorem dX7_advance_107 : decode cX7_advance 107 = .ok (.goto 144, 3) := by decide +kernel
theorem dX7_advance_110 : decode cX7_advance 110 = .ok (.iload_n 2, 1) := by decide +kernel
theorem dX7_advance_111 : decode cX7_advance 111 = .ok (.ifCond .eq 140, 3) := by decide +kernel
theorem dX7_advance_114 : decode cX7_advance 114 = .ok (.aload_n 0, 1) := by decide +kernel
theorem dX7_advance_115 : decode cX7_advance 115 = .ok (.iload_n 1, 1) := by decide +kernel
theorem dX7_advance_116 : decode cX7_advance 116 = .ok (.iconst 4, 1) := by decide +kernel
theorem dX7_advance_117 : decode cX7_advance 117 = .ok (.invokevirtual 124, 3) := by decide +kernel
theorem dX7_advance_120 : decode cX7_advance 120 = .ok (.goto 131, 3) := by decide +kernel
theorem dX7_advance_123 : decode cX7_advance 123 = .ok (.aload_n 0, 1) := by decide +kernel
theorem dX7_advance_124 : decode cX7_advance 124 = .ok (.getfield 41, 3) := by decide +kernel
theorem dX7_advance_127 : decode cX7_advance 127 = .ok (.iload_n 1, 1) := by decide +kernel
theorem dX7_advance_128 : decode cX7_advance 128 = .ok (.iaload, 1) := by decide +kernel
theorem dX7_advance_129 : decode cX7_advance 129 = .ok (.iconst 1, 1) := by decide +kernel
theorem dX7_advance_130 : decode cX7_advance 130 = .ok (.if_icmp .lt 121, 3) := by decide +kernel
theorem dX7_advance_133 : decode cX7_advance 133 = .ok (.aload_n 0, 1) := by decide +kernel
theorem dX7_advance_134 : decode cX7_advance 134 = .ok (.iload_n 1, 1) := by decide +kernel
theorem dX7_advance_135 : decode cX7_advance 135 = .ok (.iload_n 2, 1) := by decide +kernel
theorem dX7_advance_136 : decode cX7_advance 136 = .ok (.ifCond .ne 27, 3) := by decide +kernel
theorem dX7_advance_139 : decode cX7_advance 139 = .ok (.aload_n 0, 1) := by decide +kernel
theorem dX7_advance_140 : decode cX7_advance 140 = .ok (.getfield 44, 3) := by decide +kernel
theorem dX7_advance_143 : decode cX7_advance 143 = .ok (.iload_n 1, 1) := by decide +kernel
theorem dX7_advance_144 : decode cX7_advance 144 = .ok (.iaload, 1) := by decide +kernel
theorem dX7_advance_145 : decode cX7_advance 145 = .ok (.iconst 1, 1) := by decide +kernel
theorem dX7_advance_146 : decode cX7_advance 146 = .ok (.if_icmp .eq 13, 3) := by decide +kernel
theorem dX7_advance_149 : decode cX7_advance 149 = .ok (.aload_n 0, 1) := by decide +kernel
theorem dX7_advance_150 : decode cX7_advance 150 = .ok (.iload_n 1, 1) := by decide +kernel
theorem dX7_advance_151 : decode cX7_advance 151 = .ok (.bipush 15, 2) := by decide +kernel
theorem dX7_advance_153 : decode cX7_advance 153 = .ok (.invokevirtual 131, 3) := by decide +kernel
theorem dX7_advance_156 : decode cX7_advance 156 = .ok (.ifCond .ne 7, 3) := by decide +kernel
theorem dX7_advance_159 : decode cX7_advance 159 = .ok (.iconst 3, 1) := by decide +kernel
theorem dX7_advance_160 : decode cX7_advance 160 = .ok (.goto 4, 3) := by decide +kernel
theorem dX7_advance_163 : decode cX7_advance 163 = .ok (.iconst 5, 1) := by decide +kernel
theorem dX7_advance_164 : decode cX7_advance 164 = .ok (.invokevirtual 124, 3) := by decide +kernel
theorem dX7_advance_167 : decode cX7_advance 167 = .ok (.goto 84, 3) := by decide +kernel
theorem dX7_advance_170 : decode cX7_advance 170 = .ok (.aload_n 0, 1) := by decide +kernel
theorem dX7_advance_171 : decode cX7_advance 171 = .ok (.getfield 41, 3) := by decide +kernel
theorem dX7_advance_174 : decode cX7_advance 174 = .ok (.iload_n 1, 1) := by decide +kernel
theorem dX7_advance_175 : decode cX7_advance 175 = .ok (.iaload, 1) := by decide +kernel
theorem dX7_advance_176 : decode cX7_advance 176 = .ok (.iconst 1, 1) := by decide +kernel
theorem dX7_advance_177 : decode cX7_advance 177 = .ok (.if_icmp .lt 74, 3) := by decide +kernel
theorem dX7_advance_180 : decode cX7_advance 180 = .ok (.aload_n 0, 1) := by decide +kernel
theorem dX7_advance_181 : decode cX7_advance 181 = .ok (.getfield 50, 3) := by decide +kernel
theorem dX7_advance_184 : decode cX7_advance 184 = .ok (.iload_n 1, 1) := by decide +kernel
theorem dX7_advance_185 : decode cX7_advance 185 = .ok (.baload, 1) := by decide +kernel
theorem dX7_advance_186 : decode cX7_advance 186 = .ok (.istore_n 3, 1) := by decide +kernel
theorem dX7_advance_187 : decode cX7_advance 187 = .ok (.aload_n 0, 1) := by decide +kernel
theorem dX7_advance_188 : decode cX7_advance 188 = .ok (.getfield 50, 3) := by decide +kernel
theorem dX7_advance_191 : decode cX7_advance 191 = .ok (.iload_n 1, 1) := by decide +kernel
theorem dX7_advance_192 : decode cX7_advance 192 = .ok (.iconst 0, 1) := by decide +kernel
theorem dX7_advance_193 : decode cX7_advance 193 = .ok (.bastore, 1) := by decide +kernel
theorem dX7_advance_194 : decode cX7_advance 194 = .ok (.aload_n 0, 1) := by decide +kernel
theorem dX7_advance_195 : decode cX7_advance 195 = .ok (.iload_n 1, 1) := by decide +kernel
theorem dX7_advance_196 : decode cX7_advance 196 = .ok (.iload_n 3, 1) := by decide +kernel
theorem dX7_advance_197 : decode cX7_advance 197 = .ok (.ifCond .eq 7, 3) := by decide +kernel
theorem dX7_advance_200 : decode cX7_advance 200 = .ok (.iconst 2, 1) := by decide +kernel
theorem dX7_advance_201 : decode cX7_advance 201 = .ok (.goto 5, 3) := by decide +kernel
theorem dX7_advance_204 : decode cX7_advance 204 = .ok (.bipush 6, 2) := by decide +kernel
theorem dX7_advance_206 : decode cX7_advance 206 = .ok (.invokevirtual 124, 3) := by decide +kernel
theorem dX7_advance_209 : decode cX7_advance 209 = .ok (.goto 42, 3) := by decide +kernel
theorem dX7_advance_212 : decode cX7_advance 212 = .ok (.aload_n 0, 1) := by decide +kernel
theorem dX7_advance_213 : decode cX7_advance 213 = .ok (.iload_n 1, 1) := by decide +kernel
theorem dX7_advance_214 : decode cX7_advance 214 = .ok (.iconst 3, 1) := by decide +kernel
theorem dX7_advance_215 : decode cX7_advance 215 = .ok (.invokevirtual 127, 3) := by decide +kernel
theorem dX7_advance_218 : decode cX7_advance 218 = .ok (.ifCond .eq 33, 3) := by decide +kernel
theorem dX7_advance_221 : decode cX7_advance 221 = .ok (.aload_n 0, 1) := by decide +kernel
theorem dX7_advance_222 : decode cX7_advance 222 = .ok (.iload_n 1, 1) := by decide +kernel
theorem dX7_advance_223 : decode cX7_advance 223 = .ok (.bipush 7, 2) := by decide +kernel
theorem dX7_advance_225 : decode cX7_advance 225 = .ok (.invokevirtual 124, 3) := by decide +kernel
theorem dX7_advance_228 : decode cX7_advance 228 = .ok (.goto 23, 3) := by decide +kernel
theorem dX7_advance_231 : decode cX7_advance 231 = .ok (.aload_n 0, 1) := by decide +kernel
theorem dX7_advance_232 : decode cX7_advance 232 = .ok (.getfield 41, 3) := by decide +kernel
theorem dX7_advance_235 : decode cX7_advance 235 = .ok (.iload_n 1, 1) := by decide +kernel
theorem dX7_advance_236 : decode cX7_advance 236 = .ok (.iaload, 1) := by decide +kernel
theorem dX7_advance_237 : decode cX7_advance 237 = .ok (.bipush 10, 2) := by decide +kernel
theorem dX7_advance_239 : decode cX7_advance 239 = .ok (.if_icmp .lt 12, 3) := by decide +kernel
theorem dX7_advance_242 : decode cX7_advance 242 = .ok (.aload_n 0, 1) := by decide +kernel
theorem dX7_advance_243 : decode cX7_advance 243 = .ok (.iload_n 1, 1) := by decide +kernel
theorem dX7_advance_244 : decode cX7_advance 244 = .ok (.iconst 0, 1) := by decide +kernel
theorem dX7_advance_245 : decode cX7_advance 245 = .ok (.invokevirtual 124, 3) := by decide +kernel
theorem dX7_advance_248 : decode cX7_advance 248 = .ok (.goto 3, 3) := by decide +kernel
theorem dX7_advance_251 : decode cX7_advance 251 = .ok (.return_, 1) := by decide +kernel
theorem dX7_watch_0 : decode cX7_watch 0 = .ok (.iconst 0, 1) := by decide +kernel
theorem dX7_watch_1 : decode cX7_watch 1 = .ok (.istore_n 2, 1) := by decide +kernel
theorem dX7_watch_2 : decode cX7_watch 2 = .ok (.iconst 0, 1) := by decide +kernel
theorem dX7_watch_3 : decode cX7_watch 3 = .ok (.istore_n 3, 1) := by decide +kernel
theorem dX7_watch_4 : decode cX7_watch 4 = .ok (.iload_n 3, 1) := by decide +kernel
theorem dX7_watch_5 : decode cX7_watch 5 = .ok (.bipush 18, 2) := by decide +kernel
theorem dX7_watch_7 : decode cX7_watch 7 = .ok (.if_icmp .ge 33, 3) := by decide +kernel
theorem dX7_watch_10 : decode cX7_watch 10 = .ok (.iload_n 2, 1) := by decide +kernel
theorem dX7_watch_11 : decode cX7_watch 11 = .ok (.ifCond .ne 17, 3) := by decide +kernel
theorem dX7_watch_14 : decode cX7_watch 14 = .ok (.aload_n 0, 1) := by decide +kernel
theorem dX7_watch_15 : decode cX7_watch 15 = .ok (.getfield 72, 3) := by decide +kernel
theorem dX7_watch_18 : decode cX7_watch 18 = .ok (.bipush 18, 2) := by decide +kernel
theorem dX7_watch_20 : decode cX7_watch 20 = .ok (.iload_n 1, 1) := by decide +kernel
theorem dX7_watch_21 : decode cX7_watch 21 = .ok (.imul, 1) := by decide +kernel
theorem dX7_watch_22 : decode cX7_watch 22 = .ok (.iload_n 3, 1) := by decide +kernel
theorem dX7_watch_23 : decode cX7_watch 23 = .ok (.iadd, 1) := by decide +kernel
theorem dX7_watch_24 : decode cX7_watch 24 = .ok (.baload, 1) := by decide +kernel
theorem dX7_watch_25 : decode cX7_watch 25 = .ok (.ifCond .eq 7, 3) := by decide +kernel
theorem dX7_watch_28 : decode cX7_watch 28 = .ok (.iconst 1, 1) := by decide +kernel
theorem dX7_watch_29 : decode cX7_watch 29 = .ok (.goto 4, 3) := by decide +kernel
theorem dX7_watch_32 : decode cX7_watch 32 = .ok (.iconst 0, 1) := by decide +kernel
theorem dX7_watch_33 : decode cX7_watch 33 = .ok (.istore_n 2, 1) := by decide +kernel
theorem dX7_watch_34 : decode cX7_watch 34 = .ok (.iinc 3 1, 3) := by decide +kernel
theorem dX7_watch_37 : decode cX7_watch 37 = .ok (.goto (-33), 3) := by decide +kernel
theorem dX7_watch_40 : decode cX7_watch 40 = .ok (.aload_n 0, 1) := by decide +kernel
theorem dX7_watch_41 : decode cX7_watch 41 = .ok (.getfield 66, 3) := by decide +kernel
theorem dX7_watch_44 : decode cX7_watch 44 = .ok (.bipush 18, 2) := by decide +kernel
theorem dX7_watch_46 : decode cX7_watch 46 = .ok (.iload_n 1, 1) := by decide +kernel
theorem dX7_watch_47 : decode cX7_watch 47 = .ok (.imul, 1) := by decide +kernel
theorem dX7_watch_48 : decode cX7_watch 48 = .ok (.iconst 1, 1) := by decide +kernel
theorem dX7_watch_49 : decode cX7_watch 49 = .ok (.iadd, 1) := by decide +kernel
theorem dX7_watch_50 : decode cX7_watch 50 = .ok (.iaload, 1) := by decide +kernel
theorem dX7_watch_51 : decode cX7_watch 51 = .ok (.iconst 1, 1) := by decide +kernel
theorem dX7_watch_52 : decode cX7_watch 52 = .ok (.if_icmp .ne 7, 3) := by decide +kernel
theorem dX7_watch_55 : decode cX7_watch 55 = .ok (.iconst 1, 1) := by decide +kernel
theorem dX7_watch_56 : decode cX7_watch 56 = .ok (.goto 4, 3) := by decide +kernel
theorem dX7_watch_59 : decode cX7_watch 59 = .ok (.iconst 0, 1) := by decide +kernel
theorem dX7_watch_60 : decode cX7_watch 60 = .ok (.istore_n 3, 1) := by decide +kernel
theorem dX7_watch_61 : decode cX7_watch 61 = .ok (.aload_n 0, 1) := by decide +kernel
theorem dX7_watch_62 : decode cX7_watch 62 = .ok (.getfield 66, 3) := by decide +kernel
theorem dX7_watch_65 : decode cX7_watch 65 = .ok (.bipush 18, 2) := by decide +kernel
theorem dX7_watch_67 : decode cX7_watch 67 = .ok (.iload_n 1, 1) := by decide +kernel
theorem dX7_watch_68 : decode cX7_watch 68 = .ok (.imul, 1) := by decide +kernel
theorem dX7_watch_69 : decode cX7_watch 69 = .ok (.iconst 2, 1) := by decide +kernel
theorem dX7_watch_70 : decode cX7_watch 70 = .ok (.iadd, 1) := by decide +kernel
theorem dX7_watch_71 : decode cX7_watch 71 = .ok (.iaload, 1) := by decide +kernel
theorem dX7_watch_72 : decode cX7_watch 72 = .ok (.iconst 1, 1) := by decide +kernel
theorem dX7_watch_73 : decode cX7_watch 73 = .ok (.if_icmp .ne 7, 3) := by decide +kernel
theorem dX7_watch_76 : decode cX7_watch 76 = .ok (.iconst 1, 1) := by decide +kernel
theorem dX7_watch_77 : decode cX7_watch 77 = .ok (.goto 4, 3) := by decide +kernel
theorem dX7_watch_80 : decode cX7_watch 80 = .ok (.iconst 0, 1) := by decide +kernel
theorem dX7_watch_81 : decode cX7_watch 81 = .ok (.istore 4, 2) := by decide +kernel
theorem dX7_watch_83 : decode cX7_watch 83 = .ok (.iconst 5, 1) := by decide +kernel
theorem dX7_watch_84 : decode cX7_watch 84 = .ok (.iload_n 1, 1) := by decide +kernel
theorem dX7_watch_85 : decode cX7_watch 85 = .ok (.imul, 1) := by decide +kernel
theorem dX7_watch_86 : decode cX7_watch 86 = .ok (.istore 5, 2) := by decide +kernel
theorem dX7_watch_88 : decode cX7_watch 88 = .ok (.iload_n 2, 1) := by decide +kernel
theorem dX7_watch_89 : decode cX7_watch 89 = .ok (.ifCond .eq 7, 3) := by decide +kernel
theorem dX7_watch_92 : decode cX7_watch 92 = .ok (.iconst 1, 1) := by decide +kernel
theorem dX7_watch_93 : decode cX7_watch 93 = .ok (.goto 256, 3) := by decide +kernel
theorem dX7_watch_96 : decode cX7_watch 96 = .ok (.aload_n 0, 1) := by decide +kernel
theorem dX7_watch_97 : decode cX7_watch 97 = .ok (.getfield 57, 3) := by decide +kernel
theorem dX7_watch_100 : decode cX7_watch 100 = .ok (.iload_n 1, 1) := by decide +kernel
theorem dX7_watch_101 : decode cX7_watch 101 = .ok (.iaload, 1) := by decide +kernel
theorem dX7_watch_102 : decode cX7_watch 102 = .ok (.bipush 10, 2) := by decide +kernel
theorem dX7_watch_104 : decode cX7_watch 104 = .ok (.if_icmp .ne 11, 3) := by decide +kernel
theorem dX7_watch_107 : decode cX7_watch 107 = .ok (.iload_n 3, 1) := by decide +kernel
theorem dX7_watch_108 : decode cX7_watch 108 = .ok (.ifCond .ne 7, 3) := by decide +kernel
theorem dX7_watch_111 : decode cX7_watch 111 = .ok (.iconst 2, 1) := by decide +kernel
theorem dX7_watch_112 : decode cX7_watch 112 = .ok (.goto 237, 3) := by decide +kernel
theorem dX7_watch_115 : decode cX7_watch 115 = .ok (.aload_n 0, 1) := by decide +kernel
theorem dX7_watch_116 : decode cX7_watch 116 = .ok (.getfield 57, 3) := by decide +kernel
theorem dX7_watch_119 : decode cX7_watch 119 = .ok (.iload_n 1, 1) := by decide +kernel
theorem dX7_watch_120 : decode cX7_watch 120 = .ok (.iaload, 1) := by decide +kernel
theorem dX7_watch_121 : decode cX7_watch 121 = .ok (.ifCond .lt 15, 3) := by decide +kernel
theorem dX7_watch_124 : decode cX7_watch 124 = .ok (.aload_n 0, 1) := by decide +kernel
theorem dX7_watch_125 : decode cX7_watch 125 = .ok (.getfield 57, 3) := by decide +kernel
theorem dX7_watch_128 : decode cX7_watch 128 = .ok (.iload_n 1, 1) := by decide +kernel
theorem dX7_watch_129 : decode cX7_watch 129 = .ok (.iaload, 1) := by decide +kernel
theorem dX7_watch_130 : decode cX7_watch 130 = .ok (.sipush 216, 3) := by decide +kernel
theorem dX7_watch_133 : decode cX7_watch 133 = .ok (.if_icmp .lt 11, 3) := by decide +kernel
theorem dX7_watch_136 : decode cX7_watch 136 = .ok (.iload_n 3, 1) := by decide +kernel
theorem dX7_watch_137 : decode cX7_watch 137 = .ok (.ifCond .eq 7, 3) := by decide +kernel
theorem dX7_watch_140 : decode cX7_watch 140 = .ok (.iconst 3, 1) := by decide +kernel
theorem dX7_watch_141 : decode cX7_watch 141 = .ok (.goto 208, 3) := by decide +kernel
theorem dX7_watch_144 : decode cX7_watch 144 = .ok (.aload_n 0, 1) := by decide +kernel
theorem dX7_watch_145 : decode cX7_watch 145 = .ok (.getfield 60, 3) := by decide +kernel
theorem dX7_watch_148 : decode cX7_watch 148 = .ok (.iload 5, 2) := by decide +kernel
theorem dX7_watch_150 : decode cX7_watch 150 = .ok (.iaload, 1) := by decide +kernel
theorem dX7_watch_151 : decode cX7_watch 151 = .ok (.bipush 30, 2) := by decide +kernel
theorem dX7_watch_153 : decode cX7_watch 153 = .ok (.if_icmp .lt 12, 3) := by decide +kernel
theorem dX7_watch_156 : decode cX7_watch 156 = .ok (.iload 4, 2) := by decide +kernel
theorem dX7_watch_158 : decode cX7_watch 158 = .ok (.ifCond .ne 7, 3) := by decide +kernel
theorem dX7_watch_161 : decode cX7_watch 161 = .ok (.iconst 4, 1) := by decide +kernel
theorem dX7_watch_162 : decode cX7_watch 162 = .ok (.goto 187, 3) := by decide +kernel
theorem dX7_watch_165 : decode cX7_watch 165 = .ok (.aload_n 0, 1) := by decide +kernel
theorem dX7_watch_166 : decode cX7_watch 166 = .ok (.getfield 63, 3) := by decide +kernel
theorem dX7_watch_169 : decode cX7_watch 169 = .ok (.iload_n 1, 1) := by decide +kernel
theorem dX7_watch_170 : decode cX7_watch 170 = .ok (.iaload, 1) := by decide +kernel
theorem dX7_watch_171 : decode cX7_watch 171 = .ok (.bipush 100, 2) := by decide +kernel
theorem dX7_watch_173 : decode cX7_watch 173 = .ok (.if_icmp .lt 12, 3) := by decide +kernel
theorem dX7_watch_176 : decode cX7_watch 176 = .ok (.iload 4, 2) := by decide +kernel
theorem dX7_watch_178 : decode cX7_watch 178 = .ok (.ifCond .eq 7, 3) := by decide +kernel
theorem dX7_watch_181 : decode cX7_watch 181 = .ok (.iconst 5, 1) := by decide +kernel
theorem dX7_watch_182 : decode cX7_watch 182 = .ok (.goto 167, 3) := by decide +kernel
theorem dX7_watch_185 : decode cX7_watch 185 = .ok (.aload_n 0, 1) := by decide +kernel
theorem dX7_watch_186 : decode cX7_watch 186 = .ok (.getfield 60, 3) := by decide +kernel
theorem dX7_watch_189 : decode cX7_watch 189 = .ok (.iload 5, 2) := by decide +kernel
theorem dX7_watch_191 : decode cX7_watch 191 = .ok (.iconst 1, 1) := by decide +kernel
theorem dX7_watch_192 : decode cX7_watch 192 = .ok (.iadd, 1) := by decide +kernel
theorem dX7_watch_193 : decode cX7_watch 193 = .ok (.iaload, 1) := by decide +kernel
theorem dX7_watch_194 : decode cX7_watch 194 = .ok (.bipush 70, 2) := by decide +kernel
theorem dX7_watch_196 : decode cX7_watch 196 = .ok (.if_icmp .lt 18, 3) := by decide +kernel
theorem dX7_watch_199 : decode cX7_watch 199 = .ok (.aload_n 0, 1) := by decide +kernel
theorem dX7_watch_200 : decode cX7_watch 200 = .ok (.iload_n 1, 1) := by decide +kernel
theorem dX7_watch_201 : decode cX7_watch 201 = .ok (.bipush 6, 2) := by decide +kernel
theorem dX7_watch_203 : decode cX7_watch 203 = .ok (.invokevirtual 127, 3) := by decide +kernel
theorem dX7_watch_206 : decode cX7_watch 206 = .ok (.ifCond .ne 8, 3) := by decide +kernel
theorem dX7_watch_209 : decode cX7_watch 209 = .ok (.bipush 6, 2) := by decide +kernel
theorem dX7_watch_211 : decode cX7_watch 211 = .ok (.goto 138, 3) := by decide +kernel
theorem dX7_watch_214 : decode cX7_watch 214 = .ok (.aload_n 0, 1) := by decide +kernel
theorem dX7_watch_215 : decode cX7_watch 215 = .ok (.getfield 60, 3) := by decide +kernel
theorem dX7_watch_218 : decode cX7_watch 218 = .ok (.iload 5, 2) := by decide +kernel
theorem dX7_watch_220 : decode cX7_watch 220 = .ok (.iconst 2, 1) := by decide +kernel
theorem dX7_watch_221 : decode cX7_watch 221 = .ok (.iadd, 1) := by decide +kernel
theorem dX7_watch_222 : decode cX7_watch 222 = .ok (.iaload, 1) := by decide +kernel
theorem dX7_watch_223 : decode cX7_watch 223 = .ok (.bipush 70, 2) := by decide +kernel
theorem dX7_watch_225 : decode cX7_watch 225 = .ok (.if_icmp .lt 17, 3) := by decide +kernel
theorem dX7_watch_228 : decode cX7_watch 228 = .ok (.aload_n 0, 1) := by decide +kernel
theorem dX7_watch_229 : decode cX7_watch 229 = .ok (.iload_n 1, 1) := by decide +kernel
theorem dX7_watch_230 : decode cX7_watch 230 = .ok (.iconst 3, 1) := by decide +kernel
theorem dX7_watch_231 : decode cX7_watch 231 = .ok (.invokevirtual 127, 3) := by decide +kernel
theorem dX7_watch_234 : decode cX7_watch 234 = .ok (.ifCond .ne 8, 3) := by decide +kernel
theorem dX7_watch_237 : decode cX7_watch 237 = .ok (.bipush 7, 2) := by decide +kernel
theorem dX7_watch_239 : decode cX7_watch 239 = .ok (.goto 110, 3) := by decide +kernel
theorem dX7_watch_242 : decode cX7_watch 242 = .ok (.aload_n 0, 1) := by decide +kernel
theorem dX7_watch_243 : decode cX7_watch 243 = .ok (.getfield 60, 3) := by decide +kernel
theorem dX7_watch_246 : decode cX7_watch 246 = .ok (.iload 5, 2) := by decide +kernel
theorem dX7_watch_248 : decode cX7_watch 248 = .ok (.iconst 3, 1) := by decide +kernel
theorem dX7_watch_249 : decode cX7_watch 249 = .ok (.iadd, 1) := by decide +kernel
theorem dX7_watch_250 : decode cX7_watch 250 = .ok (.iaload, 1) := by decide +kernel
theorem dX7_watch_251 : decode cX7_watch 251 = .ok (.bipush 70, 2) := by decide +kernel
theorem dX7_watch_253 : decode cX7_watch 253 = .ok (.if_icmp .lt 13, 3) := by decide +kernel
theorem dX7_watch_256 : decode cX7_watch 256 = .ok (.aload_n 0, 1) := by decide +kernel
theorem dX7_watch_257 : decode cX7_watch 257 = .ok (.iload_n 1, 1) := by decide +kernel
theorem dX7_watch_258 : decode cX7_watch 258 = .ok (.bipush 12, 2) := by decide +kernel
theorem dX7_watch_260 : decode cX7_watch 260 = .ok (.invokevirtual 131, 3) := by decide +kernel
theorem dX7_watch_263 : decode cX7_watch 263 = .ok (.ifCond .ne 27, 3) := by decide +kernel
theorem dX7_watch_266 : decode cX7_watch 266 = .ok (.aload_n 0, 1) := by decide +kernel
theorem dX7_watch_267 : decode cX7_watch 267 = .ok (.getfield 60, 3) := by decide +kernel
theorem dX7_watch_270 : decode cX7_watch 270 = .ok (.iload 5, 2) := by decide +kernel
theorem dX7_watch_272 : decode cX7_watch 272 = .ok (.iconst 4, 1) := by decide +kernel
theorem dX7_watch_273 : decode cX7_watch 273 = .ok (.iadd, 1) := by decide +kernel
theorem dX7_watch_274 : decode cX7_watch 274 = .ok (.iaload, 1) := by decide +kernel
theorem dX7_watch_275 : decode cX7_watch 275 = .ok (.bipush 70, 2) := by decide +kernel
theorem dX7_watch_277 : decode cX7_watch 277 = .ok (.if_icmp .lt 18, 3) := by decide +kernel
theorem dX7_watch_280 : decode cX7_watch 280 = .ok (.aload_n 0, 1) := by decide +kernel
theorem dX7_watch_281 : decode cX7_watch 281 = .ok (.iload_n 1, 1) := by decide +kernel
theorem dX7_watch_282 : decode cX7_watch 282 = .ok (.bipush 9, 2) := by decide +kernel
theorem dX7_watch_284 : decode cX7_watch 284 = .ok (.invokevirtual 131, 3) := by decide +kernel
theorem dX7_watch_287 : decode cX7_watch 287 = .ok (.ifCond .eq 8, 3) := by decide +kernel
theorem dX7_watch_290 : decode cX7_watch 290 = .ok (.bipush 8, 2) := by decide +kernel
theorem dX7_watch_292 : decode cX7_watch 292 = .ok (.goto 57, 3) := by decide +kernel
theorem dX7_watch_295 : decode cX7_watch 295 = .ok (.aload_n 0, 1) := by decide +kernel
theorem dX7_watch_296 : decode cX7_watch 296 = .ok (.getfield 60, 3) := by decide +kernel
theorem dX7_watch_299 : decode cX7_watch 299 = .ok (.iload 5, 2) := by decide +kernel
theorem dX7_watch_301 : decode cX7_watch 301 = .ok (.iconst 3, 1) := by decide +kernel
theorem dX7_watch_302 : decode cX7_watch 302 = .ok (.iadd, 1) := by decide +kernel
theorem dX7_watch_303 : decode cX7_watch 303 = .ok (.iaload, 1) := by decide +kernel
theorem dX7_watch_304 : decode cX7_watch 304 = .ok (.bipush 100, 2) := by decide +kernel
theorem dX7_watch_306 : decode cX7_watch 306 = .ok (.if_icmp .lt 13, 3) := by decide +kernel
theorem dX7_watch_309 : decode cX7_watch 309 = .ok (.aload_n 0, 1) := by decide +kernel
theorem dX7_watch_310 : decode cX7_watch 310 = .ok (.iload_n 1, 1) := by decide +kernel
theorem dX7_watch_311 : decode cX7_watch 311 = .ok (.bipush 9, 2) := by decide +kernel
theorem dX7_watch_313 : decode cX7_watch 313 = .ok (.invokevirtual 127, 3) := by decide +kernel
theorem dX7_watch_316 : decode cX7_watch 316 = .ok (.ifCond .eq 27, 3) := by decide +kernel
theorem dX7_watch_319 : decode cX7_watch 319 = .ok (.aload_n 0, 1) := by decide +kernel
theorem dX7_watch_320 : decode cX7_watch 320 = .ok (.getfield 60, 3) := by decide +kernel
theorem dX7_watch_323 : decode cX7_watch 323 = .ok (.iload 5, 2) := by decide +kernel
theorem dX7_watch_325 : decode cX7_watch 325 = .ok (.iconst 4, 1) := by decide +kernel
theorem dX7_watch_326 : decode cX7_watch 326 = .ok (.iadd, 1) := by decide +kernel
theorem dX7_watch_327 : decode cX7_watch 327 = .ok (.iaload, 1) := by decide +kernel
theorem dX7_watch_328 : decode cX7_watch 328 = .ok (.bipush 100, 2) := by decide +kernel
theorem dX7_watch_330 : decode cX7_watch 330 = .ok (.if_icmp .lt 18, 3) := by decide +kernel
theorem dX7_watch_333 : decode cX7_watch 333 = .ok (.aload_n 0, 1) := by decide +kernel
theorem dX7_watch_334 : decode cX7_watch 334 = .ok (.iload_n 1, 1) := by decide +kernel
theorem dX7_watch_335 : decode cX7_watch 335 = .ok (.bipush 12, 2) := by decide +kernel
theorem dX7_watch_337 : decode cX7_watch 337 = .ok (.invokevirtual 127, 3) := by decide +kernel
theorem dX7_watch_340 : decode cX7_watch 340 = .ok (.ifCond .ne 8, 3) := by decide +kernel
theorem dX7_watch_343 : decode cX7_watch 343 = .ok (.bipush 9, 2) := by decide +kernel
theorem dX7_watch_345 : decode cX7_watch 345 = .ok (.goto 4, 3) := by decide +kernel
theorem dX7_watch_348 : decode cX7_watch 348 = .ok (.iconst 0, 1) := by decide +kernel
theorem dX7_watch_349 : decode cX7_watch 349 = .ok (.ireturn, 1) := by decide +kernel
theorem dX7_act_0 : decode cX7_act 0 = .ok (.aload_n 0, 1) := by decide +kernel
theorem dX7_act_1 : decode cX7_act 1 = .ok (.getfield 54, 3) := by decide +kernel
theorem dX7_act_4 : decode cX7_act 4 = .ok (.iload_n 1, 1) := by decide +kernel
theorem dX7_act_5 : decode cX7_act 5 = .ok (.iaload, 1) := by decide +kernel
theorem dX7_act_6 : decode cX7_act 6 = .ok (.iconst 1, 1) := by decide +kernel
theorem dX7_act_7 : decode cX7_act 7 = .ok (.if_icmp .ne 4, 3) := by decide +kernel
theorem dX7_act_10 : decode cX7_act 10 = .ok (.return_, 1) := by decide +kernel
theorem dX7_act_11 : decode cX7_act 11 = .ok (.aload_n 0, 1) := by decide +kernel
theorem dX7_act_12 : decode cX7_act 12 = .ok (.getfield 66, 3) := by decide +kernel
theorem dX7_act_15 : decode cX7_act 15 = .ok (.bipush 18, 2) := by decide +kernel
theorem dX7_act_17 : decode cX7_act 17 = .ok (.iload_n 1, 1) := by decide +kernel
theorem dX7_act_18 : decode cX7_act 18 = .ok (.imul, 1) := by decide +kernel
theorem dX7_act_19 : decode cX7_act 19 = .ok (.iaload, 1) := by decide +kernel
theorem dX7_act_20 : decode cX7_act 20 = .ok (.istore_n 2, 1) := by decide +kernel
theorem dX7_act_21 : decode cX7_act 21 = .ok (.iconst 0, 1) := by decide +kernel
theorem dX7_act_22 : decode cX7_act 22 = .ok (.istore_n 3, 1) := by decide +kernel
theorem dX7_act_23 : decode cX7_act 23 = .ok (.iload_n 3, 1) := by decide +kernel
theorem dX7_act_24 : decode cX7_act 24 = .ok (.bipush 18, 2) := by decide +kernel
theorem dX7_act_26 : decode cX7_act 26 = .ok (.if_icmp .ge 15, 3) := by decide +kernel
theorem dX7_act_29 : decode cX7_act 29 = .ok (.aload_n 0, 1) := by decide +kernel
theorem dX7_act_30 : decode cX7_act 30 = .ok (.iload_n 1, 1) := by decide +kernel
theorem dX7_act_31 : decode cX7_act 31 = .ok (.iload_n 3, 1) := by decide +kernel
theorem dX7_act_32 : decode cX7_act 32 = .ok (.invokevirtual 134, 3) := by decide +kernel
theorem dX7_act_35 : decode cX7_act 35 = .ok (.iinc 3 1, 3) := by decide +kernel
theorem dX7_act_38 : decode cX7_act 38 = .ok (.goto (-15), 3) := by decide +kernel
theorem dX7_act_41 : decode cX7_act 41 = .ok (.aload_n 0, 1) := by decide +kernel
theorem dX7_act_42 : decode cX7_act 42 = .ok (.getfield 57, 3) := by decide +kernel
theorem dX7_act_45 : decode cX7_act 45 = .ok (.iload_n 1, 1) := by decide +kernel
theorem dX7_act_46 : decode cX7_act 46 = .ok (.aload_n 0, 1) := by decide +kernel
theorem dX7_act_47 : decode cX7_act 47 = .ok (.getfield 66, 3) := by decide +kernel
theorem dX7_act_50 : decode cX7_act 50 = .ok (.bipush 18, 2) := by decide +kernel
theorem dX7_act_52 : decode cX7_act 52 = .ok (.iload_n 1, 1) := by decide +kernel
theorem dX7_act_53 : decode cX7_act 53 = .ok (.imul, 1) := by decide +kernel
theorem dX7_act_54 : decode cX7_act 54 = .ok (.iaload, 1) := by decide +kernel
theorem dX7_act_55 : decode cX7_act 55 = .ok (.iload_n 2, 1) := by decide +kernel
theorem dX7_act_56 : decode cX7_act 56 = .ok (.if_icmp .eq 7, 3) := by decide +kernel
theorem dX7_act_59 : decode cX7_act 59 = .ok (.iconst 0, 1) := by decide +kernel
theorem dX7_act_60 : decode cX7_act 60 = .ok (.goto 42, 3) := by decide +kernel
theorem dX7_act_63 : decode cX7_act 63 = .ok (.aload_n 0, 1) := by decide +kernel
theorem dX7_act_64 : decode cX7_act 64 = .ok (.getfield 57, 3) := by decide +kernel
theorem dX7_act_67 : decode cX7_act 67 = .ok (.iload_n 1, 1) := by decide +kernel
theorem dX7_act_68 : decode cX7_act 68 = .ok (.iaload, 1) := by decide +kernel
theorem dX7_act_69 : decode cX7_act 69 = .ok (.ifCond .ge 7, 3) := by decide +kernel
theorem dX7_act_72 : decode cX7_act 72 = .ok (.iconst (-1), 1) := by decide +kernel
theorem dX7_act_73 : decode cX7_act 73 = .ok (.goto 29, 3) := by decide +kernel
theorem dX7_act_76 : decode cX7_act 76 = .ok (.aload_n 0, 1) := by decide +kernel
theorem dX7_act_77 : decode cX7_act 77 = .ok (.getfield 57, 3) := by decide +kernel
theorem dX7_act_80 : decode cX7_act 80 = .ok (.iload_n 1, 1) := by decide +kernel
theorem dX7_act_81 : decode cX7_act 81 = .ok (.iaload, 1) := by decide +kernel
theorem dX7_act_82 : decode cX7_act 82 = .ok (.sipush 1000, 3) := by decide +kernel
theorem dX7_act_85 : decode cX7_act 85 = .ok (.if_icmp .ge 14, 3) := by decide +kernel
theorem dX7_act_88 : decode cX7_act 88 = .ok (.aload_n 0, 1) := by decide +kernel
theorem dX7_act_89 : decode cX7_act 89 = .ok (.getfield 57, 3) := by decide +kernel
theorem dX7_act_92 : decode cX7_act 92 = .ok (.iload_n 1, 1) := by decide +kernel
theorem dX7_act_93 : decode cX7_act 93 = .ok (.iaload, 1) := by decide +kernel
theorem dX7_act_94 : decode cX7_act 94 = .ok (.iconst 1, 1) := by decide +kernel
theorem dX7_act_95 : decode cX7_act 95 = .ok (.iadd, 1) := by decide +kernel
theorem dX7_act_96 : decode cX7_act 96 = .ok (.goto 6, 3) := by decide +kernel
theorem dX7_act_99 : decode cX7_act 99 = .ok (.sipush 1000, 3) := by decide +kernel
theorem dX7_act_102 : decode cX7_act 102 = .ok (.iastore, 1) := by decide +kernel
theorem dX7_act_103 : decode cX7_act 103 = .ok (.aload_n 0, 1) := by decide +kernel
theorem dX7_act_104 : decode cX7_act 104 = .ok (.getfield 47, 3) := by decide +kernel
theorem dX7_act_107 : decode cX7_act 107 = .ok (.iload_n 1, 1) := by decide +kernel
theorem dX7_act_108 : decode cX7_act 108 = .ok (.iaload, 1) := by decide +kernel
theorem dX7_act_109 : decode cX7_act 109 = .ok (.ifCond .le 4, 3) := by decide +kernel
theorem dX7_act_112 : decode cX7_act 112 = .ok (.return_, 1) := by decide +kernel
theorem dX7_act_113 : decode cX7_act 113 = .ok (.aload_n 0, 1) := by decide +kernel
theorem dX7_act_114 : decode cX7_act 114 = .ok (.getfield 41, 3) := by decide +kernel
theorem dX7_act_117 : decode cX7_act 117 = .ok (.iload_n 1, 1) := by decide +kernel
theorem dX7_act_118 : decode cX7_act 118 = .ok (.aload_n 0, 1) := by decide +kernel
theorem dX7_act_119 : decode cX7_act 119 = .ok (.getfield 41, 3) := by decide +kernel
theorem dX7_act_122 : decode cX7_act 122 = .ok (.iload_n 1, 1) := by decide +kernel
theorem dX7_act_123 : decode cX7_act 123 = .ok (.iaload, 1) := by decide +kernel
theorem dX7_act_124 : decode cX7_act 124 = .ok (.bipush 99, 2) := by decide +kernel
theorem dX7_act_126 : decode cX7_act 126 = .ok (.if_icmp .ge 14, 3) := by decide +kernel
theorem dX7_act_129 : decode cX7_act 129 = .ok (.aload_n 0, 1) := by decide +kernel
theorem dX7_act_130 : decode cX7_act 130 = .ok (.getfield 41, 3) := by decide +kernel
theorem dX7_act_133 : decode cX7_act 133 = .ok (.iload_n 1, 1) := by decide +kernel
theorem dX7_act_134 : decode cX7_act 134 = .ok (.iaload, 1) := by decide +kernel
theorem dX7_act_135 : decode cX7_act 135 = .ok (.iconst 1, 1) := by decide +kernel
theorem dX7_act_136 : decode cX7_act 136 = .ok (.iadd, 1) := by decide +kernel
theorem dX7_act_137 : decode cX7_act 137 = .ok (.goto 5, 3) := by decide +kernel
theorem dX7_act_140 : decode cX7_act 140 = .ok (.bipush 99, 2) := by decide +kernel
theorem dX7_act_142 : decode cX7_act 142 = .ok (.iastore, 1) := by decide +kernel
theorem dX7_act_143 : decode cX7_act 143 = .ok (.aload_n 0, 1) := by decide +kernel
theorem dX7_act_144 : decode cX7_act 144 = .ok (.getfield 66, 3) := by decide +kernel
theorem dX7_act_147 : decode cX7_act 147 = .ok (.bipush 18, 2) := by decide +kernel
theorem dX7_act_149 : decode cX7_act 149 = .ok (.iload_n 1, 1) := by decide +kernel
theorem dX7_act_150 : decode cX7_act 150 = .ok (.imul, 1) := by decide +kernel
theorem dX7_act_151 : decode cX7_act 151 = .ok (.iaload, 1) := by decide +kernel
theorem dX7_act_152 : decode cX7_act 152 = .ok (.aload_n 0, 1) := by decide +kernel
theorem dX7_act_153 : decode cX7_act 153 = .ok (.getfield 44, 3) := by decide +kernel
theorem dX7_act_156 : decode cX7_act 156 = .ok (.iload_n 1, 1) := by decide +kernel
theorem dX7_act_157 : decode cX7_act 157 = .ok (.iaload, 1) := by decide +kernel
theorem dX7_act_158 : decode cX7_act 158 = .ok (.if_icmp .eq 11, 3) := by decide +kernel
theorem dX7_act_161 : decode cX7_act 161 = .ok (.aload_n 0, 1) := by decide +kernel
theorem dX7_act_162 : decode cX7_act 162 = .ok (.iload_n 1, 1) := by decide +kernel
theorem dX7_act_163 : decode cX7_act 163 = .ok (.invokevirtual 137, 3) := by decide +kernel
theorem dX7_act_166 : decode cX7_act 166 = .ok (.goto 8, 3) := by decide +kernel
theorem dX7_act_169 : decode cX7_act 169 = .ok (.aload_n 0, 1) := by decide +kernel
theorem dX7_act_170 : decode cX7_act 170 = .ok (.iload_n 1, 1) := by decide +kernel
theorem dX7_act_171 : decode cX7_act 171 = .ok (.invokevirtual 141, 3) := by decide +kernel
theorem dX7_act_174 : decode cX7_act 174 = .ok (.aload_n 0, 1) := by decide +kernel
theorem dX7_act_175 : decode cX7_act 175 = .ok (.iload_n 1, 1) := by decide +kernel
theorem dX7_act_176 : decode cX7_act 176 = .ok (.invokevirtual 111, 3) := by decide +kernel
theorem dX7_act_179 : decode cX7_act 179 = .ok (.istore_n 3, 1) := by decide +kernel
theorem dX7_act_180 : decode cX7_act 180 = .ok (.iconst 0, 1) := by decide +kernel
theorem dX7_act_181 : decode cX7_act 181 = .ok (.istore 4, 2) := by decide +kernel
theorem dX7_act_183 : decode cX7_act 183 = .ok (.iload 4, 2) := by decide +kernel
theorem dX7_act_185 : decode cX7_act 185 = .ok (.iconst 5, 1) := by decide +kernel
theorem dX7_act_186 : decode cX7_act 186 = .ok (.if_icmp .ge 47, 3) := by decide +kernel
theorem dX7_act_189 : decode cX7_act 189 = .ok (.aload_n 0, 1) := by decide +kernel
theorem dX7_act_190 : decode cX7_act 190 = .ok (.getfield 60, 3) := by decide +kernel
theorem dX7_act_193 : decode cX7_act 193 = .ok (.iconst 5, 1) := by decide +kernel
theorem dX7_act_194 : decode cX7_act 194 = .ok (.iload_n 1, 1) := by decide +kernel
theorem dX7_act_195 : decode cX7_act 195 = .ok (.imul, 1) := by decide +kernel
theorem dX7_act_196 : decode cX7_act 196 = .ok (.iload 4, 2) := by decide +kernel
theorem dX7_act_198 : decode cX7_act 198 = .ok (.iadd, 1) := by decide +kernel
theorem dX7_act_199 : decode cX7_act 199 = .ok (.iload_n 3, 1) := by decide +kernel
theorem dX7_act_200 : decode cX7_act 200 = .ok (.iload 4, 2) := by decide +kernel
theorem dX7_act_202 : decode cX7_act 202 = .ok (.ishr, 1) := by decide +kernel
theorem dX7_act_203 : decode cX7_act 203 = .ok (.iconst 1, 1) := by decide +kernel
theorem dX7_act_204 : decode cX7_act 204 = .ok (.iand, 1) := by decide +kernel
theorem dX7_act_205 : decode cX7_act 205 = .ok (.iconst 1, 1) := by decide +kernel
theorem dX7_act_206 : decode cX7_act 206 = .ok (.if_icmp .ne 19, 3) := by decide +kernel
theorem dX7_act_209 : decode cX7_act 209 = .ok (.aload_n 0, 1) := by decide +kernel
theorem dX7_act_210 : decode cX7_act 210 = .ok (.getfield 60, 3) := by decide +kernel
theorem dX7_act_213 : decode cX7_act 213 = .ok (.iconst 5, 1) := by decide +kernel
theorem dX7_act_214 : decode cX7_act 214 = .ok (.iload_n 1, 1) := by decide +kernel
theorem dX7_act_215 : decode cX7_act 215 = .ok (.imul, 1) := by decide +kernel
theorem dX7_act_216 : decode cX7_act 216 = .ok (.iload 4, 2) := by decide +kernel
theorem dX7_act_218 : decode cX7_act 218 = .ok (.iadd, 1) := by decide +kernel
theorem dX7_act_219 : decode cX7_act 219 = .ok (.iaload, 1) := by decide +kernel
theorem dX7_act_220 : decode cX7_act 220 = .ok (.iconst 1, 1) := by decide +kernel
theorem dX7_act_221 : decode cX7_act 221 = .ok (.iadd, 1) := by decide +kernel
theorem dX7_act_222 : decode cX7_act 222 = .ok (.goto 4, 3) := by decide +kernel
theorem dX7_act_225 : decode cX7_act 225 = .ok (.iconst 0, 1) := by decide +kernel
theorem dX7_act_226 : decode cX7_act 226 = .ok (.iastore, 1) := by decide +kernel
theorem dX7_act_227 : decode cX7_act 227 = .ok (.iinc 4 1, 3) := by decide +kernel
theorem dX7_act_230 : decode cX7_act 230 = .ok (.goto (-47), 3) := by decide +kernel
theorem dX7_act_233 : decode cX7_act 233 = .ok (.aload_n 0, 1) := by decide +kernel
theorem dX7_act_234 : decode cX7_act 234 = .ok (.getfield 63, 3) := by decide +kernel
theorem dX7_act_237 : decode cX7_act 237 = .ok (.iload_n 1, 1) := by decide +kernel
theorem dX7_act_238 : decode cX7_act 238 = .ok (.iload_n 3, 1) := by decide +kernel
theorem dX7_act_239 : decode cX7_act 239 = .ok (.iconst 1, 1) := by decide +kernel
theorem dX7_act_240 : decode cX7_act 240 = .ok (.iand, 1) := by decide +kernel
theorem dX7_act_241 : decode cX7_act 241 = .ok (.ifCond .ne 14, 3) := by decide +kernel
theorem dX7_act_244 : decode cX7_act 244 = .ok (.aload_n 0, 1) := by decide +kernel
theorem dX7_act_245 : decode cX7_act 245 = .ok (.getfield 63, 3) := by decide +kernel
theorem dX7_act_248 : decode cX7_act 248 = .ok (.iload_n 1, 1) := by decide +kernel
theorem dX7_act_249 : decode cX7_act 249 = .ok (.iaload, 1) := by decide +kernel
theorem dX7_act_250 : decode cX7_act 250 = .ok (.iconst 1, 1) := by decide +kernel
theorem dX7_act_251 : decode cX7_act 251 = .ok (.iadd, 1) := by decide +kernel
theorem dX7_act_252 : decode cX7_act 252 = .ok (.goto 4, 3) := by decide +kernel
theorem dX7_act_255 : decode cX7_act 255 = .ok (.iconst 0, 1) := by decide +kernel
theorem dX7_act_256 : decode cX7_act 256 = .ok (.iastore, 1) := by decide +kernel
theorem dX7_act_257 : decode cX7_act 257 = .ok (.aload_n 0, 1) := by decide +kernel
theorem dX7_act_258 : decode cX7_act 258 = .ok (.getfield 47, 3) := by decide +kernel
theorem dX7_act_261 : decode cX7_act 261 = .ok (.iload_n 1, 1) := by decide +kernel
theorem dX7_act_262 : decode cX7_act 262 = .ok (.aload_n 0, 1) := by decide +kernel
theorem dX7_act_263 : decode cX7_act 263 = .ok (.iload_n 1, 1) := by decide +kernel
theorem dX7_act_264 : decode cX7_act 264 = .ok (.invokevirtual 144, 3) := by decide +kernel
theorem dX7_act_267 : decode cX7_act 267 = .ok (.iastore, 1) := by decide +kernel
theorem dX7_act_268 : decode cX7_act 268 = .ok (.aload_n 0, 1) := by decide +kernel
theorem dX7_act_269 : decode cX7_act 269 = .ok (.getfield 47, 3) := by decide +kernel
theorem dX7_act_272 : decode cX7_act 272 = .ok (.iload_n 1, 1) := by decide +kernel
theorem dX7_act_273 : decode cX7_act 273 = .ok (.iaload, 1) := by decide +kernel
theorem dX7_act_274 : decode cX7_act 274 = .ok (.ifCond .le 17, 3) := by decide +kernel
theorem dX7_act_277 : decode cX7_act 277 = .ok (.aload_n 0, 1) := by decide +kernel
theorem dX7_act_278 : decode cX7_act 278 = .ok (.iload_n 1, 1) := by decide +kernel
theorem dX7_act_279 : decode cX7_act 279 = .ok (.bipush 10, 2) := by decide +kernel
theorem dX7_act_281 : decode cX7_act 281 = .ok (.aload_n 0, 1) := by decide +kernel
theorem dX7_act_282 : decode cX7_act 282 = .ok (.getfield 47, 3) := by decide +kernel
theorem dX7_act_285 : decode cX7_act 285 = .ok (.iload_n 1, 1) := by decide +kernel
theorem dX7_act_286 : decode cX7_act 286 = .ok (.iaload, 1) := by decide +kernel
theorem dX7_act_287 : decode cX7_act 287 = .ok (.iadd, 1) := by decide +kernel
theorem dX7_act_288 : decode cX7_act 288 = .ok (.invokevirtual 120, 3) := by decide +kernel
theorem dX7_act_291 : decode cX7_act 291 = .ok (.return_, 1) := by decide +kernel
theorem dX7_press_0 : decode cX7_press 0 = .ok (.iload_n 2, 1) := by decide +kernel
theorem dX7_press_1 : decode cX7_press 1 = .ok (.ifCond .eq 15, 3) := by decide +kernel
theorem dX7_press_4 : decode cX7_press 4 = .ok (.aload_n 0, 1) := by decide +kernel
theorem dX7_press_5 : decode cX7_press 5 = .ok (.getfield 19, 3) := by decide +kernel
theorem dX7_press_8 : decode cX7_press 8 = .ok (.iload_n 1, 1) := by decide +kernel
theorem dX7_press_9 : decode cX7_press 9 = .ok (.iaload, 1) := by decide +kernel
theorem dX7_press_10 : decode cX7_press 10 = .ok (.bipush 36, 2) := by decide +kernel
theorem dX7_press_12 : decode cX7_press 12 = .ok (.iadd, 1) := by decide +kernel
theorem dX7_press_13 : decode cX7_press 13 = .ok (.goto 12, 3) := by decide +kernel
theorem dX7_press_16 : decode cX7_press 16 = .ok (.aload_n 0, 1) := by decide +kernel
theorem dX7_press_17 : decode cX7_press 17 = .ok (.getfield 19, 3) := by decide +kernel
theorem dX7_press_20 : decode cX7_press 20 = .ok (.iload_n 1, 1) := by decide +kernel
theorem dX7_press_21 : decode cX7_press 21 = .ok (.iaload, 1) := by decide +kernel
theorem dX7_press_22 : decode cX7_press 22 = .ok (.bipush 10, 2) := by decide +kernel
theorem dX7_press_24 : decode cX7_press 24 = .ok (.isub, 1) := by decide +kernel
theorem dX7_press_25 : decode cX7_press 25 = .ok (.istore_n 3, 1) := by decide +kernel
theorem dX7_press_26 : decode cX7_press 26 = .ok (.aload_n 0, 1) := by decide +kernel
theorem dX7_press_27 : decode cX7_press 27 = .ok (.getfield 19, 3) := by decide +kernel
theorem dX7_press_30 : decode cX7_press 30 = .ok (.iload_n 1, 1) := by decide +kernel
theorem dX7_press_31 : decode cX7_press 31 = .ok (.iload_n 3, 1) := by decide +kernel
theorem dX7_press_32 : decode cX7_press 32 = .ok (.sipush 360, 3) := by decide +kernel
theorem dX7_press_35 : decode cX7_press 35 = .ok (.if_icmp .le 9, 3) := by decide +kernel
theorem dX7_press_38 : decode cX7_press 38 = .ok (.sipush 360, 3) := by decide +kernel
theorem dX7_press_41 : decode cX7_press 41 = .ok (.goto 12, 3) := by decide +kernel
theorem dX7_press_44 : decode cX7_press 44 = .ok (.iload_n 3, 1) := by decide +kernel
theorem dX7_press_45 : decode cX7_press 45 = .ok (.ifCond .ge 7, 3) := by decide +kernel
theorem dX7_press_48 : decode cX7_press 48 = .ok (.iconst 0, 1) := by decide +kernel
theorem dX7_press_49 : decode cX7_press 49 = .ok (.goto 4, 3) := by decide +kernel
theorem dX7_press_52 : decode cX7_press 52 = .ok (.iload_n 3, 1) := by decide +kernel
theorem dX7_press_53 : decode cX7_press 53 = .ok (.iastore, 1) := by decide +kernel
theorem dX7_press_54 : decode cX7_press 54 = .ok (.return_, 1) := by decide +kernel
theorem dX7_move_0 : decode cX7_move 0 = .ok (.aload_n 0, 1) := by decide +kernel
theorem dX7_move_1 : decode cX7_move 1 = .ok (.getfield 19, 3) := by decide +kernel
theorem dX7_move_4 : decode cX7_move 4 = .ok (.iload_n 2, 1) := by decide +kernel
theorem dX7_move_5 : decode cX7_move 5 = .ok (.iaload, 1) := by decide +kernel
theorem dX7_move_6 : decode cX7_move 6 = .ok (.sipush 360, 3) := by decide +kernel
theorem dX7_move_9 : decode cX7_move 9 = .ok (.if_icmp .ne 19, 3) := by decide +kernel
theorem dX7_move_12 : decode cX7_move 12 = .ok (.aload_n 0, 1) := by decide +kernel
theorem dX7_move_13 : decode cX7_move 13 = .ok (.getfield 19, 3) := by decide +kernel
theorem dX7_move_16 : decode cX7_move 16 = .ok (.iload_n 3, 1) := by decide +kernel
theorem dX7_move_17 : decode cX7_move 17 = .ok (.iaload, 1) := by decide +kernel
theorem dX7_move_18 : decode cX7_move 18 = .ok (.sipush 360, 3) := by decide +kernel
theorem dX7_move_21 : decode cX7_move 21 = .ok (.if_icmp .eq 7, 3) := by decide +kernel
theorem dX7_move_24 : decode cX7_move 24 = .ok (.iconst 1, 1) := by decide +kernel
theorem dX7_move_25 : decode cX7_move 25 = .ok (.goto 4, 3) := by decide +kernel
theorem dX7_move_28 : decode cX7_move 28 = .ok (.iconst 0, 1) := by decide +kernel
theorem dX7_move_29 : decode cX7_move 29 = .ok (.istore 4, 2) := by decide +kernel
theorem dX7_move_31 : decode cX7_move 31 = .ok (.aload_n 0, 1) := by decide +kernel
theorem dX7_move_32 : decode cX7_move 32 = .ok (.getfield 19, 3) := by decide +kernel
theorem dX7_move_35 : decode cX7_move 35 = .ok (.iload_n 3, 1) := by decide +kernel
theorem dX7_move_36 : decode cX7_move 36 = .ok (.iaload, 1) := by decide +kernel
theorem dX7_move_37 : decode cX7_move 37 = .ok (.sipush 360, 3) := by decide +kernel
theorem dX7_move_40 : decode cX7_move 40 = .ok (.if_icmp .ne 19, 3) := by decide +kernel
theorem dX7_move_43 : decode cX7_move 43 = .ok (.aload_n 0, 1) := by decide +kernel
theorem dX7_move_44 : decode cX7_move 44 = .ok (.getfield 19, 3) := by decide +kernel
theorem dX7_move_47 : decode cX7_move 47 = .ok (.iload_n 2, 1) := by decide +kernel
theorem dX7_move_48 : decode cX7_move 48 = .ok (.iaload, 1) := by decide +kernel
theorem dX7_move_49 : decode cX7_move 49 = .ok (.sipush 360, 3) := by decide +kernel
theorem dX7_move_52 : decode cX7_move 52 = .ok (.if_icmp .eq 7, 3) := by decide +kernel
theorem dX7_move_55 : decode cX7_move 55 = .ok (.iconst 1, 1) := by decide +kernel
theorem dX7_move_56 : decode cX7_move 56 = .ok (.goto 4, 3) := by decide +kernel
theorem dX7_move_59 : decode cX7_move 59 = .ok (.iconst 0, 1) := by decide +kernel
theorem dX7_move_60 : decode cX7_move 60 = .ok (.istore 5, 2) := by decide +kernel
theorem dX7_move_62 : decode cX7_move 62 = .ok (.aload_n 0, 1) := by decide +kernel
theorem dX7_move_63 : decode cX7_move 63 = .ok (.getfield 29, 3) := by decide +kernel
theorem dX7_move_66 : decode cX7_move 66 = .ok (.iload_n 1, 1) := by decide +kernel
theorem dX7_move_67 : decode cX7_move 67 = .ok (.iaload, 1) := by decide +kernel
theorem dX7_move_68 : decode cX7_move 68 = .ok (.iload 4, 2) := by decide +kernel
theorem dX7_move_70 : decode cX7_move 70 = .ok (.ifCond .eq 7, 3) := by decide +kernel
theorem dX7_move_73 : decode cX7_move 73 = .ok (.iconst 1, 1) := by decide +kernel
theorem dX7_move_74 : decode cX7_move 74 = .ok (.goto 4, 3) := by decide +kernel
theorem dX7_move_77 : decode cX7_move 77 = .ok (.iconst 0, 1) := by decide +kernel
theorem dX7_move_78 : decode cX7_move 78 = .ok (.iadd, 1) := by decide +kernel
theorem dX7_move_79 : decode cX7_move 79 = .ok (.iload 5, 2) := by decide +kernel
theorem dX7_move_81 : decode cX7_move 81 = .ok (.ifCond .eq 7, 3) := by decide +kernel
theorem dX7_move_84 : decode cX7_move 84 = .ok (.iconst 1, 1) := by decide +kernel
theorem dX7_move_85 : decode cX7_move 85 = .ok (.goto 4, 3) := by decide +kernel
theorem dX7_move_88 : decode cX7_move 88 = .ok (.iconst 0, 1) := by decide +kernel
theorem dX7_move_89 : decode cX7_move 89 = .ok (.isub, 1) := by decide +kernel
theorem dX7_move_90 : decode cX7_move 90 = .ok (.istore 6, 2) := by decide +kernel
theorem dX7_move_92 : decode cX7_move 92 = .ok (.aload_n 0, 1) := by decide +kernel
theorem dX7_move_93 : decode cX7_move 93 = .ok (.getfield 32, 3) := by decide +kernel
theorem dX7_move_96 : decode cX7_move 96 = .ok (.iload_n 1, 1) := by decide +kernel
theorem dX7_move_97 : decode cX7_move 97 = .ok (.iaload, 1) := by decide +kernel
theorem dX7_move_98 : decode cX7_move 98 = .ok (.ifCond .ne 75, 3) := by decide +kernel
theorem dX7_move_101 : decode cX7_move 101 = .ok (.iload 6, 2) := by decide +kernel
theorem dX7_move_103 : decode cX7_move 103 = .ok (.iconst 0, 1) := by decide +kernel
theorem dX7_move_104 : decode cX7_move 104 = .ok (.aload_n 0, 1) := by decide +kernel
theorem dX7_move_105 : decode cX7_move 105 = .ok (.getfield 26, 3) := by decide +kernel
theorem dX7_move_108 : decode cX7_move 108 = .ok (.iload_n 1, 1) := by decide +kernel
theorem dX7_move_109 : decode cX7_move 109 = .ok (.iaload, 1) := by decide +kernel
theorem dX7_move_110 : decode cX7_move 110 = .ok (.invokestatic 94, 3) := by decide +kernel
theorem dX7_move_113 : decode cX7_move 113 = .ok (.ifCond .eq 60, 3) := by decide +kernel
theorem dX7_move_116 : decode cX7_move 116 = .ok (.iload 6, 2) := by decide +kernel
theorem dX7_move_118 : decode cX7_move 118 = .ok (.aload_n 0, 1) := by decide +kernel
theorem dX7_move_119 : decode cX7_move 119 = .ok (.getfield 29, 3) := by decide +kernel
theorem dX7_move_122 : decode cX7_move 122 = .ok (.iload_n 1, 1) := by decide +kernel
theorem dX7_move_123 : decode cX7_move 123 = .ok (.iaload, 1) := by decide +kernel
theorem dX7_move_124 : decode cX7_move 124 = .ok (.if_icmp .eq 49, 3) := by decide +kernel
theorem dX7_move_127 : decode cX7_move 127 = .ok (.aload_n 0, 1) := by decide +kernel
theorem dX7_move_128 : decode cX7_move 128 = .ok (.getfield 29, 3) := by decide +kernel
theorem dX7_move_131 : decode cX7_move 131 = .ok (.iload_n 1, 1) := by decide +kernel
theorem dX7_move_132 : decode cX7_move 132 = .ok (.iload 6, 2) := by decide +kernel
theorem dX7_move_134 : decode cX7_move 134 = .ok (.iastore, 1) := by decide +kernel
theorem dX7_move_135 : decode cX7_move 135 = .ok (.aload_n 0, 1) := by decide +kernel
theorem dX7_move_136 : decode cX7_move 136 = .ok (.dup, 1) := by decide +kernel
theorem dX7_move_137 : decode cX7_move 137 = .ok (.getfield 147, 3) := by decide +kernel
theorem dX7_move_140 : decode cX7_move 140 = .ok (.iload_n 1, 1) := by decide +kernel
theorem dX7_move_141 : decode cX7_move 141 = .ok (.iconst 2, 1) := by decide +kernel
theorem dX7_move_142 : decode cX7_move 142 = .ok (.if_icmp .le 26, 3) := by decide +kernel
theorem dX7_move_145 : decode cX7_move 145 = .ok (.aload_n 0, 1) := by decide +kernel
theorem dX7_move_146 : decode cX7_move 146 = .ok (.getfield 29, 3) := by decide +kernel
theorem dX7_move_149 : decode cX7_move 149 = .ok (.iload_n 1, 1) := by decide +kernel
theorem dX7_move_150 : decode cX7_move 150 = .ok (.iconst 3, 1) := by decide +kernel
theorem dX7_move_151 : decode cX7_move 151 = .ok (.isub, 1) := by decide +kernel
theorem dX7_move_152 : decode cX7_move 152 = .ok (.iaload, 1) := by decide +kernel
theorem dX7_move_153 : decode cX7_move 153 = .ok (.aload_n 0, 1) := by decide +kernel
theorem dX7_move_154 : decode cX7_move 154 = .ok (.getfield 26, 3) := by decide +kernel
theorem dX7_move_157 : decode cX7_move 157 = .ok (.iload_n 1, 1) := by decide +kernel
theorem dX7_move_158 : decode cX7_move 158 = .ok (.iconst 3, 1) := by decide +kernel
theorem dX7_move_159 : decode cX7_move 159 = .ok (.isub, 1) := by decide +kernel
theorem dX7_move_160 : decode cX7_move 160 = .ok (.iaload, 1) := by decide +kernel
theorem dX7_move_161 : decode cX7_move 161 = .ok (.if_icmp .eq 7, 3) := by decide +kernel
theorem dX7_move_164 : decode cX7_move 164 = .ok (.iconst 1, 1) := by decide +kernel
theorem dX7_move_165 : decode cX7_move 165 = .ok (.goto 4, 3) := by decide +kernel
theorem dX7_move_168 : decode cX7_move 168 = .ok (.iconst 0, 1) := by decide +kernel
theorem dX7_move_169 : decode cX7_move 169 = .ok (.iadd, 1) := by decide +kernel
theorem dX7_move_170 : decode cX7_move 170 = .ok (.putfield 147, 3) := by decide +kernel
theorem dX7_move_173 : decode cX7_move 173 = .ok (.return_, 1) := by decide +kernel
theorem dX7_tick_0 : decode cX7_tick 0 = .ok (.aload_n 0, 1) := by decide +kernel
theorem dX7_tick_1 : decode cX7_tick 1 = .ok (.invokevirtual 150, 3) := by decide +kernel
theorem dX7_tick_4 : decode cX7_tick 4 = .ok (.istore_n 1, 1) := by decide +kernel
theorem dX7_tick_5 : decode cX7_tick 5 = .ok (.aload_n 0, 1) := by decide +kernel
theorem dX7_tick_6 : decode cX7_tick 6 = .ok (.aload_n 0, 1) := by decide +kernel
theorem dX7_tick_7 : decode cX7_tick 7 = .ok (.getfield 153, 3) := by decide +kernel
theorem dX7_tick_10 : decode cX7_tick 10 = .ok (.ifCond .ne 21, 3) := by decide +kernel
theorem dX7_tick_13 : decode cX7_tick 13 = .ok (.iload_n 1, 1) := by decide +kernel
theorem dX7_tick_14 : decode cX7_tick 14 = .ok (.bipush 6, 2) := by decide +kernel
theorem dX7_tick_16 : decode cX7_tick 16 = .ok (.iand, 1) := by decide +kernel
theorem dX7_tick_17 : decode cX7_tick 17 = .ok (.bipush 6, 2) := by decide +kernel
theorem dX7_tick_19 : decode cX7_tick 19 = .ok (.if_icmp .eq 12, 3) := by decide +kernel
theorem dX7_tick_22 : decode cX7_tick 22 = .ok (.iload_n 1, 1) := by decide +kernel
theorem dX7_tick_23 : decode cX7_tick 23 = .ok (.bipush 24, 2) := by decide +kernel
theorem dX7_tick_25 : decode cX7_tick 25 = .ok (.iand, 1) := by decide +kernel
theorem dX7_tick_26 : decode cX7_tick 26 = .ok (.bipush 24, 2) := by decide +kernel
theorem dX7_tick_28 : decode cX7_tick 28 = .ok (.if_icmp .ne 7, 3) := by decide +kernel
theorem dX7_tick_31 : decode cX7_tick 31 = .ok (.iconst 1, 1) := by decide +kernel
theorem dX7_tick_32 : decode cX7_tick 32 = .ok (.goto 4, 3) := by decide +kernel
theorem dX7_tick_35 : decode cX7_tick 35 = .ok (.iconst 0, 1) := by decide +kernel
theorem dX7_tick_36 : decode cX7_tick 36 = .ok (.putfield 153, 3) := by decide +kernel
theorem dX7_tick_39 : decode cX7_tick 39 = .ok (.aload_n 0, 1) := by decide +kernel
theorem dX7_tick_40 : decode cX7_tick 40 = .ok (.dup, 1) := by decide +kernel
theorem dX7_tick_41 : decode cX7_tick 41 = .ok (.getfield 117, 3) := by decide +kernel
theorem dX7_tick_44 : decode cX7_tick 44 = .ok (.iconst 1, 1) := by decide +kernel
theorem dX7_tick_45 : decode cX7_tick 45 = .ok (.iadd, 1) := by decide +kernel
theorem dX7_tick_46 : decode cX7_tick 46 = .ok (.putfield 117, 3) := by decide +kernel
theorem dX7_tick_49 : decode cX7_tick 49 = .ok (.aload_n 0, 1) := by decide +kernel
theorem dX7_tick_50 : decode cX7_tick 50 = .ok (.getfield 101, 3) := by decide +kernel
theorem dX7_tick_53 : decode cX7_tick 53 = .ok (.ifCond .ne 81, 3) := by decide +kernel
theorem dX7_tick_56 : decode cX7_tick 56 = .ok (.aload_n 0, 1) := by decide +kernel
theorem dX7_tick_57 : decode cX7_tick 57 = .ok (.getfield 98, 3) := by decide +kernel
theorem dX7_tick_60 : decode cX7_tick 60 = .ok (.ifCond .ne 28, 3) := by decide +kernel
theorem dX7_tick_63 : decode cX7_tick 63 = .ok (.aload_n 0, 1) := by decide +kernel
theorem dX7_tick_64 : decode cX7_tick 64 = .ok (.aload_n 0, 1) := by decide +kernel
theorem dX7_tick_65 : decode cX7_tick 65 = .ok (.getfield 104, 3) := by decide +kernel
theorem dX7_tick_68 : decode cX7_tick 68 = .ok (.iconst 2, 1) := by decide +kernel
theorem dX7_tick_69 : decode cX7_tick 69 = .ok (.if_icmp .ge 7, 3) := by decide +kernel
theorem dX7_tick_72 : decode cX7_tick 72 = .ok (.iconst 0, 1) := by decide +kernel
theorem dX7_tick_73 : decode cX7_tick 73 = .ok (.goto 9, 3) := by decide +kernel
theorem dX7_tick_76 : decode cX7_tick 76 = .ok (.aload_n 0, 1) := by decide +kernel
theorem dX7_tick_77 : decode cX7_tick 77 = .ok (.getfield 104, 3) := by decide +kernel
theorem dX7_tick_80 : decode cX7_tick 80 = .ok (.iconst 2, 1) := by decide +kernel
theorem dX7_tick_81 : decode cX7_tick 81 = .ok (.isub, 1) := by decide +kernel
theorem dX7_tick_82 : decode cX7_tick 82 = .ok (.putfield 104, 3) := by decide +kernel
theorem dX7_tick_85 : decode cX7_tick 85 = .ok (.goto 49, 3) := by decide +kernel
theorem dX7_tick_88 : decode cX7_tick 88 = .ok (.aload_n 0, 1) := by decide +kernel
theorem dX7_tick_89 : decode cX7_tick 89 = .ok (.getfield 104, 3) := by decide +kernel
theorem dX7_tick_92 : decode cX7_tick 92 = .ok (.bipush 24, 2) := by decide +kernel
theorem dX7_tick_94 : decode cX7_tick 94 = .ok (.if_icmp .ne 16, 3) := by decide +kernel
theorem dX7_tick_97 : decode cX7_tick 97 = .ok (.aload_n 0, 1) := by decide +kernel
theorem dX7_tick_98 : decode cX7_tick 98 = .ok (.dup, 1) := by decide +kernel
theorem dX7_tick_99 : decode cX7_tick 99 = .ok (.getfield 98, 3) := by decide +kernel
theorem dX7_tick_102 : decode cX7_tick 102 = .ok (.iconst 1, 1) := by decide +kernel
theorem dX7_tick_103 : decode cX7_tick 103 = .ok (.isub, 1) := by decide +kernel
theorem dX7_tick_104 : decode cX7_tick 104 = .ok (.putfield 98, 3) := by decide +kernel
theorem dX7_tick_107 : decode cX7_tick 107 = .ok (.goto 27, 3) := by decide +kernel
theorem dX7_tick_110 : decode cX7_tick 110 = .ok (.aload_n 0, 1) := by decide +kernel
theorem dX7_tick_111 : decode cX7_tick 111 = .ok (.aload_n 0, 1) := by decide +kernel
theorem dX7_tick_112 : decode cX7_tick 112 = .ok (.getfield 104, 3) := by decide +kernel
theorem dX7_tick_115 : decode cX7_tick 115 = .ok (.bipush 21, 2) := by decide +kernel
theorem dX7_tick_117 : decode cX7_tick 117 = .ok (.if_icmp .le 8, 3) := by decide +kernel
theorem dX7_tick_120 : decode cX7_tick 120 = .ok (.bipush 24, 2) := by decide +kernel
theorem dX7_tick_122 : decode cX7_tick 122 = .ok (.goto 9, 3) := by decide +kernel
theorem dX7_tick_125 : decode cX7_tick 125 = .ok (.aload_n 0, 1) := by decide +kernel
theorem dX7_tick_126 : decode cX7_tick 126 = .ok (.getfield 104, 3) := by decide +kernel
theorem dX7_tick_129 : decode cX7_tick 129 = .ok (.iconst 3, 1) := by decide +kernel
theorem dX7_tick_130 : decode cX7_tick 130 = .ok (.iadd, 1) := by decide +kernel
theorem dX7_tick_131 : decode cX7_tick 131 = .ok (.putfield 104, 3) := by decide +kernel
theorem dX7_tick_134 : decode cX7_tick 134 = .ok (.aload_n 0, 1) := by decide +kernel
theorem dX7_tick_135 : decode cX7_tick 135 = .ok (.getfield 19, 3) := by decide +kernel
theorem dX7_tick_138 : decode cX7_tick 138 = .ok (.iconst 0, 1) := by decide +kernel
theorem dX7_tick_139 : decode cX7_tick 139 = .ok (.iaload, 1) := by decide +kernel
theorem dX7_tick_140 : decode cX7_tick 140 = .ok (.sipush 360, 3) := by decide +kernel
theorem dX7_tick_143 : decode cX7_tick 143 = .ok (.if_icmp .ne 7, 3) := by decide +kernel
theorem dX7_tick_146 : decode cX7_tick 146 = .ok (.iconst 1, 1) := by decide +kernel
theorem dX7_tick_147 : decode cX7_tick 147 = .ok (.goto 4, 3) := by decide +kernel
theorem dX7_tick_150 : decode cX7_tick 150 = .ok (.iconst 0, 1) := by decide +kernel
theorem dX7_tick_151 : decode cX7_tick 151 = .ok (.istore_n 2, 1) := by decide +kernel
theorem dX7_tick_152 : decode cX7_tick 152 = .ok (.aload_n 0, 1) := by decide +kernel
theorem dX7_tick_153 : decode cX7_tick 153 = .ok (.iconst 0, 1) := by decide +kernel
theorem dX7_tick_154 : decode cX7_tick 154 = .ok (.aload_n 0, 1) := by decide +kernel
theorem dX7_tick_155 : decode cX7_tick 155 = .ok (.getfield 23, 3) := by decide +kernel
theorem dX7_tick_158 : decode cX7_tick 158 = .ok (.iconst 0, 1) := by decide +kernel
theorem dX7_tick_159 : decode cX7_tick 159 = .ok (.iaload, 1) := by decide +kernel
theorem dX7_tick_160 : decode cX7_tick 160 = .ok (.iconst 2, 1) := by decide +kernel
theorem dX7_tick_161 : decode cX7_tick 161 = .ok (.if_icmp .eq 28, 3) := by decide +kernel
theorem dX7_tick_164 : decode cX7_tick 164 = .ok (.aload_n 0, 1) := by decide +kernel
theorem dX7_tick_165 : decode cX7_tick 165 = .ok (.getfield 23, 3) := by decide +kernel
theorem dX7_tick_168 : decode cX7_tick 168 = .ok (.iconst 0, 1) := by decide +kernel
theorem dX7_tick_169 : decode cX7_tick 169 = .ok (.iaload, 1) := by decide +kernel
theorem dX7_tick_170 : decode cX7_tick 170 = .ok (.ifCond .ne 23, 3) := by decide +kernel
theorem dX7_tick_173 : decode cX7_tick 173 = .ok (.iload_n 1, 1) := by decide +kernel
theorem dX7_tick_174 : decode cX7_tick 174 = .ok (.iconst 1, 1) := by decide +kernel
theorem dX7_tick_175 : decode cX7_tick 175 = .ok (.iand, 1) := by decide +kernel
theorem dX7_tick_176 : decode cX7_tick 176 = .ok (.iconst 1, 1) := by decide +kernel
theorem dX7_tick_177 : decode cX7_tick 177 = .ok (.if_icmp .ne 16, 3) := by decide +kernel
theorem dX7_tick_180 : decode cX7_tick 180 = .ok (.aload_n 0, 1) := by decide +kernel
theorem dX7_tick_181 : decode cX7_tick 181 = .ok (.getfield 104, 3) := by decide +kernel
theorem dX7_tick_184 : decode cX7_tick 184 = .ok (.bipush 24, 2) := by decide +kernel
theorem dX7_tick_186 : decode cX7_tick 186 = .ok (.if_icmp .ne 7, 3) := by decide +kernel
theorem dX7_tick_189 : decode cX7_tick 189 = .ok (.iconst 1, 1) := by decide +kernel
theorem dX7_tick_190 : decode cX7_tick 190 = .ok (.goto 4, 3) := by decide +kernel
theorem dX7_tick_193 : decode cX7_tick 193 = .ok (.iconst 0, 1) := by decide +kernel
theorem dX7_tick_194 : decode cX7_tick 194 = .ok (.invokevirtual 157, 3) := by decide +kernel
theorem dX7_tick_197 : decode cX7_tick 197 = .ok (.iconst 1, 1) := by decide +kernel
theorem dX7_tick_198 : decode cX7_tick 198 = .ok (.istore_n 3, 1) := by decide +kernel
theorem dX7_tick_199 : decode cX7_tick 199 = .ok (.iload_n 3, 1) := by decide +kernel
theorem dX7_tick_200 : decode cX7_tick 200 = .ok (.iconst 5, 1) := by decide +kernel
theorem dX7_tick_201 : decode cX7_tick 201 = .ok (.if_icmp .ge 51, 3) := by decide +kernel
theorem dX7_tick_204 : decode cX7_tick 204 = .ok (.aload_n 0, 1) := by decide +kernel
theorem dX7_tick_205 : decode cX7_tick 205 = .ok (.iload_n 3, 1) := by decide +kernel
theorem dX7_tick_206 : decode cX7_tick 206 = .ok (.iload_n 2, 1) := by decide +kernel
theorem dX7_tick_207 : decode cX7_tick 207 = .ok (.ifCond .eq 35, 3) := by decide +kernel
theorem dX7_tick_210 : decode cX7_tick 210 = .ok (.aload_n 0, 1) := by decide +kernel
theorem dX7_tick_211 : decode cX7_tick 211 = .ok (.getfield 23, 3) := by decide +kernel
theorem dX7_tick_214 : decode cX7_tick 214 = .ok (.iload_n 3, 1) := by decide +kernel
theorem dX7_tick_215 : decode cX7_tick 215 = .ok (.iaload, 1) := by decide +kernel
theorem dX7_tick_216 : decode cX7_tick 216 = .ok (.iconst 2, 1) := by decide +kernel
theorem dX7_tick_217 : decode cX7_tick 217 = .ok (.if_icmp .eq 21, 3) := by decide +kernel
theorem dX7_tick_220 : decode cX7_tick 220 = .ok (.aload_n 0, 1) := by decide +kernel
theorem dX7_tick_221 : decode cX7_tick 221 = .ok (.getfield 23, 3) := by decide +kernel
theorem dX7_tick_224 : decode cX7_tick 224 = .ok (.iload_n 3, 1) := by decide +kernel
theorem dX7_tick_225 : decode cX7_tick 225 = .ok (.iaload, 1) := by decide +kernel
theorem dX7_tick_226 : decode cX7_tick 226 = .ok (.ifCond .ne 16, 3) := by decide +kernel
theorem dX7_tick_229 : decode cX7_tick 229 = .ok (.iload_n 1, 1) := by decide +kernel
theorem dX7_tick_230 : decode cX7_tick 230 = .ok (.iload_n 3, 1) := by decide +kernel
theorem dX7_tick_231 : decode cX7_tick 231 = .ok (.ishr, 1) := by decide +kernel
theorem dX7_tick_232 : decode cX7_tick 232 = .ok (.iconst 1, 1) := by decide +kernel
theorem dX7_tick_233 : decode cX7_tick 233 = .ok (.iand, 1) := by decide +kernel
theorem dX7_tick_234 : decode cX7_tick 234 = .ok (.iconst 1, 1) := by decide +kernel
theorem dX7_tick_235 : decode cX7_tick 235 = .ok (.if_icmp .ne 7, 3) := by decide +kernel
theorem dX7_tick_238 : decode cX7_tick 238 = .ok (.iconst 1, 1) := by decide +kernel
theorem dX7_tick_239 : decode cX7_tick 239 = .ok (.goto 4, 3) := by decide +kernel
theorem dX7_tick_242 : decode cX7_tick 242 = .ok (.iconst 0, 1) := by decide +kernel
theorem dX7_tick_243 : decode cX7_tick 243 = .ok (.invokevirtual 157, 3) := by decide +kernel
theorem dX7_tick_246 : decode cX7_tick 246 = .ok (.iinc 3 1, 3) := by decide +kernel
theorem dX7_tick_249 : decode cX7_tick 249 = .ok (.goto (-50), 3) := by decide +kernel
theorem dX7_tick_252 : decode cX7_tick 252 = .ok (.iconst 0, 1) := by decide +kernel
theorem dX7_tick_253 : decode cX7_tick 253 = .ok (.istore_n 3, 1) := by decide +kernel
theorem dX7_tick_254 : decode cX7_tick 254 = .ok (.iload_n 3, 1) := by decide +kernel
theorem dX7_tick_255 : decode cX7_tick 255 = .ok (.iconst 3, 1) := by decide +kernel
theorem dX7_tick_256 : decode cX7_tick 256 = .ok (.if_icmp .ge 16, 3) := by decide +kernel
theorem dX7_tick_259 : decode cX7_tick 259 = .ok (.aload_n 0, 1) := by decide +kernel
theorem dX7_tick_260 : decode cX7_tick 260 = .ok (.iload_n 3, 1) := by decide +kernel
theorem dX7_tick_261 : decode cX7_tick 261 = .ok (.iconst 1, 1) := by decide +kernel
theorem dX7_tick_262 : decode cX7_tick 262 = .ok (.iconst 2, 1) := by decide +kernel
theorem dX7_tick_263 : decode cX7_tick 263 = .ok (.invokevirtual 161, 3) := by decide +kernel
theorem dX7_tick_266 : decode cX7_tick 266 = .ok (.iinc 3 1, 3) := by decide +kernel
theorem dX7_tick_269 : decode cX7_tick 269 = .ok (.goto (-15), 3) := by decide +kernel
theorem dX7_tick_272 : decode cX7_tick 272 = .ok (.iconst 3, 1) := by decide +kernel
theorem dX7_tick_273 : decode cX7_tick 273 = .ok (.istore_n 3, 1) := by decide +kernel
theorem dX7_tick_274 : decode cX7_tick 274 = .ok (.iload_n 3, 1) := by decide +kernel
theorem dX7_tick_275 : decode cX7_tick 275 = .ok (.bipush 6, 2) := by decide +kernel
theorem dX7_tick_277 : decode cX7_tick 277 = .ok (.if_icmp .ge 16, 3) := by decide +kernel
theorem dX7_tick_280 : decode cX7_tick 280 = .ok (.aload_n 0, 1) := by decide +kernel
theorem dX7_tick_281 : decode cX7_tick 281 = .ok (.iload_n 3, 1) := by decide +kernel
theorem dX7_tick_282 : decode cX7_tick 282 = .ok (.iconst 3, 1) := by decide +kernel
theorem dX7_tick_283 : decode cX7_tick 283 = .ok (.iconst 4, 1) := by decide +kernel
theorem dX7_tick_284 : decode cX7_tick 284 = .ok (.invokevirtual 161, 3) := by decide +kernel
theorem dX7_tick_287 : decode cX7_tick 287 = .ok (.iinc 3 1, 3) := by decide +kernel
theorem dX7_tick_290 : decode cX7_tick 290 = .ok (.goto (-16), 3) := by decide +kernel
theorem dX7_tick_293 : decode cX7_tick 293 = .ok (.aload_n 0, 1) := by decide +kernel
theorem dX7_tick_294 : decode cX7_tick 294 = .ok (.invokevirtual 85, 3) := by decide +kernel
theorem dX7_tick_297 : decode cX7_tick 297 = .ok (.aload_n 0, 1) := by decide +kernel
theorem dX7_tick_298 : decode cX7_tick 298 = .ok (.iconst 0, 1) := by decide +kernel
theorem dX7_tick_299 : decode cX7_tick 299 = .ok (.invokevirtual 165, 3) := by decide +kernel
theorem dX7_tick_302 : decode cX7_tick 302 = .ok (.aload_n 0, 1) := by decide +kernel
theorem dX7_tick_303 : decode cX7_tick 303 = .ok (.iconst 1, 1) := by decide +kernel
theorem dX7_tick_304 : decode cX7_tick 304 = .ok (.invokevirtual 165, 3) := by decide +kernel
theorem dX7_tick_307 : decode cX7_tick 307 = .ok (.aload_n 0, 1) := by decide +kernel
theorem dX7_tick_308 : decode cX7_tick 308 = .ok (.iconst 0, 1) := by decide +kernel
theorem dX7_tick_309 : decode cX7_tick 309 = .ok (.putfield 16, 3) := by decide +kernel
theorem dX7_tick_312 : decode cX7_tick 312 = .ok (.iconst 0, 1) := by decide +kernel
theorem dX7_tick_313 : decode cX7_tick 313 = .ok (.istore_n 3, 1) := by decide +kernel
theorem dX7_tick_314 : decode cX7_tick 314 = .ok (.iload_n 3, 1) := by decide +kernel
theorem dX7_tick_315 : decode cX7_tick 315 = .ok (.iconst 2, 1) := by decide +kernel
theorem dX7_tick_316 : decode cX7_tick 316 = .ok (.if_icmp .ge 128, 3) := by decide +kernel
theorem dX7_tick_319 : decode cX7_tick 319 = .ok (.aload_n 0, 1) := by decide +kernel
theorem dX7_tick_320 : decode cX7_tick 320 = .ok (.getfield 54, 3) := by decide +kernel
theorem dX7_tick_323 : decode cX7_tick 323 = .ok (.iload_n 3, 1) := by decide +kernel
theorem dX7_tick_324 : decode cX7_tick 324 = .ok (.iaload, 1) := by decide +kernel
theorem dX7_tick_325 : decode cX7_tick 325 = .ok (.ifCond .ne 113, 3) := by decide +kernel
theorem dX7_tick_328 : decode cX7_tick 328 = .ok (.aload_n 0, 1) := by decide +kernel
theorem dX7_tick_329 : decode cX7_tick 329 = .ok (.dup, 1) := by decide +kernel
theorem dX7_tick_330 : decode cX7_tick 330 = .ok (.getfield 16, 3) := by decide +kernel
theorem dX7_tick_333 : decode cX7_tick 333 = .ok (.aload_n 0, 1) := by decide +kernel
theorem dX7_tick_334 : decode cX7_tick 334 = .ok (.iload_n 3, 1) := by decide +kernel
theorem dX7_tick_335 : decode cX7_tick 335 = .ok (.bipush 9, 2) := by decide +kernel
theorem dX7_tick_337 : decode cX7_tick 337 = .ok (.invokevirtual 127, 3) := by decide +kernel
theorem dX7_tick_340 : decode cX7_tick 340 = .ok (.ifCond .eq 7, 3) := by decide +kernel
theorem dX7_tick_343 : decode cX7_tick 343 = .ok (.iconst 1, 1) := by decide +kernel
theorem dX7_tick_344 : decode cX7_tick 344 = .ok (.goto 4, 3) := by decide +kernel
theorem dX7_tick_347 : decode cX7_tick 347 = .ok (.iconst 0, 1) := by decide +kernel
theorem dX7_tick_348 : decode cX7_tick 348 = .ok (.ior, 1) := by decide +kernel
theorem dX7_tick_349 : decode cX7_tick 349 = .ok (.putfield 16, 3) := by decide +kernel
theorem dX7_tick_352 : decode cX7_tick 352 = .ok (.iconst 0, 1) := by decide +kernel
theorem dX7_tick_353 : decode cX7_tick 353 = .ok (.istore 4, 2) := by decide +kernel
theorem dX7_tick_355 : decode cX7_tick 355 = .ok (.iload 4, 2) := by decide +kernel
theorem dX7_tick_357 : decode cX7_tick 357 = .ok (.iconst 3, 1) := by decide +kernel
theorem dX7_tick_358 : decode cX7_tick 358 = .ok (.if_icmp .ge 57, 3) := by decide +kernel
theorem dX7_tick_361 : decode cX7_tick 361 = .ok (.aload_n 0, 1) := by decide +kernel
theorem dX7_tick_362 : decode cX7_tick 362 = .ok (.dup, 1) := by decide +kernel
theorem dX7_tick_363 : decode cX7_tick 363 = .ok (.getfield 16, 3) := by decide +kernel
theorem dX7_tick_366 : decode cX7_tick 366 = .ok (.aload_n 0, 1) := by decide +kernel
theorem dX7_tick_367 : decode cX7_tick 367 = .ok (.getfield 66, 3) := by decide +kernel
theorem dX7_tick_370 : decode cX7_tick 370 = .ok (.bipush 18, 2) := by decide +kernel
theorem dX7_tick_372 : decode cX7_tick 372 = .ok (.iload_n 3, 1) := by decide +kernel
theorem dX7_tick_373 : decode cX7_tick 373 = .ok (.imul, 1) := by decide +kernel
theorem dX7_tick_374 : decode cX7_tick 374 = .ok (.bipush 9, 2) := by decide +kernel
theorem dX7_tick_376 : decode cX7_tick 376 = .ok (.iadd, 1) := by decide +kernel
theorem dX7_tick_377 : decode cX7_tick 377 = .ok (.iload 4, 2) := by decide +kernel
theorem dX7_tick_379 : decode cX7_tick 379 = .ok (.iadd, 1) := by decide +kernel
theorem dX7_tick_380 : decode cX7_tick 380 = .ok (.iaload, 1) := by decide +kernel
theorem dX7_tick_381 : decode cX7_tick 381 = .ok (.aload_n 0, 1) := by decide +kernel
theorem dX7_tick_382 : decode cX7_tick 382 = .ok (.getfield 66, 3) := by decide +kernel
theorem dX7_tick_385 : decode cX7_tick 385 = .ok (.bipush 18, 2) := by decide +kernel
theorem dX7_tick_387 : decode cX7_tick 387 = .ok (.iload_n 3, 1) := by decide +kernel
theorem dX7_tick_388 : decode cX7_tick 388 = .ok (.imul, 1) := by decide +kernel
theorem dX7_tick_389 : decode cX7_tick 389 = .ok (.bipush 12, 2) := by decide +kernel
theorem dX7_tick_391 : decode cX7_tick 391 = .ok (.iadd, 1) := by decide +kernel
theorem dX7_tick_392 : decode cX7_tick 392 = .ok (.iload 4, 2) := by decide +kernel
theorem dX7_tick_394 : decode cX7_tick 394 = .ok (.iadd, 1) := by decide +kernel
theorem dX7_tick_395 : decode cX7_tick 395 = .ok (.iaload, 1) := by decide +kernel
theorem dX7_tick_396 : decode cX7_tick 396 = .ok (.iadd, 1) := by decide +kernel
theorem dX7_tick_397 : decode cX7_tick 397 = .ok (.ifCond .ne 7, 3) := by decide +kernel
theorem dX7_tick_400 : decode cX7_tick 400 = .ok (.iconst 2, 1) := by decide +kernel
theorem dX7_tick_401 : decode cX7_tick 401 = .ok (.goto 4, 3) := by decide +kernel
theorem dX7_tick_404 : decode cX7_tick 404 = .ok (.iconst 0, 1) := by decide +kernel
theorem dX7_tick_405 : decode cX7_tick 405 = .ok (.ior, 1) := by decide +kernel
theorem dX7_tick_406 : decode cX7_tick 406 = .ok (.putfield 16, 3) := by decide +kernel
theorem dX7_tick_409 : decode cX7_tick 409 = .ok (.iinc 4 1, 3) := by decide +kernel
theorem dX7_tick_412 : decode cX7_tick 412 = .ok (.goto (-57), 3) := by decide +kernel
theorem dX7_tick_415 : decode cX7_tick 415 = .ok (.aload_n 0, 1) := by decide +kernel
theorem dX7_tick_416 : decode cX7_tick 416 = .ok (.dup, 1) := by decide +kernel
theorem dX7_tick_417 : decode cX7_tick 417 = .ok (.getfield 16, 3) := by decide +kernel
theorem dX7_tick_420 : decode cX7_tick 420 = .ok (.aload_n 0, 1) := by decide +kernel
theorem dX7_tick_421 : decode cX7_tick 421 = .ok (.getfield 47, 3) := by decide +kernel
theorem dX7_tick_424 : decode cX7_tick 424 = .ok (.iload_n 3, 1) := by decide +kernel
theorem dX7_tick_425 : decode cX7_tick 425 = .ok (.iaload, 1) := by decide +kernel
theorem dX7_tick_426 : decode cX7_tick 426 = .ok (.ifCond .le 7, 3) := by decide +kernel
theorem dX7_tick_429 : decode cX7_tick 429 = .ok (.iconst 4, 1) := by decide +kernel
theorem dX7_tick_430 : decode cX7_tick 430 = .ok (.goto 4, 3) := by decide +kernel
theorem dX7_tick_433 : decode cX7_tick 433 = .ok (.iconst 0, 1) := by decide +kernel
theorem dX7_tick_434 : decode cX7_tick 434 = .ok (.ior, 1) := by decide +kernel
theorem dX7_tick_435 : decode cX7_tick 435 = .ok (.putfield 16, 3) := by decide +kernel
theorem dX7_tick_438 : decode cX7_tick 438 = .ok (.iinc 3 1, 3) := by decide +kernel
theorem dX7_tick_441 : decode cX7_tick 441 = .ok (.goto (-127), 3) := by decide +kernel
theorem dX7_tick_444 : decode cX7_tick 444 = .ok (.return_, 1) := by decide +kernel
theorem dX7_run_0 : decode cX7_run 0 = .ok (.aload_n 0, 1) := by decide +kernel
theorem dX7_run_1 : decode cX7_run 1 = .ok (.iconst 0, 1) := by decide +kernel
theorem dX7_run_2 : decode cX7_run 2 = .ok (.putfield 91, 3) := by decide +kernel
theorem dX7_run_5 : decode cX7_run 5 = .ok (.iload_n 1, 1) := by decide +kernel
theorem dX7_run_6 : decode cX7_run 6 = .ok (.iconst 1, 1) := by decide +kernel
theorem dX7_run_7 : decode cX7_run 7 = .ok (.sipush 1000, 3) := by decide +kernel
theorem dX7_run_10 : decode cX7_run 10 = .ok (.invokestatic 94, 3) := by decide +kernel
theorem dX7_run_13 : decode cX7_run 13 = .ok (.ifCond .ne 6, 3) := by decide +kernel
theorem dX7_run_16 : decode cX7_run 16 = .ok (.bipush (-2), 2) := by decide +kernel
theorem dX7_run_18 : decode cX7_run 18 = .ok (.ireturn, 1) := by decide +kernel
theorem dX7_run_19 : decode cX7_run 19 = .ok (.iconst 0, 1) := by decide +kernel
theorem dX7_run_20 : decode cX7_run 20 = .ok (.istore_n 2, 1) := by decide +kernel
theorem dX7_run_21 : decode cX7_run 21 = .ok (.iload_n 2, 1) := by decide +kernel
theorem dX7_run_22 : decode cX7_run 22 = .ok (.iload_n 1, 1) := by decide +kernel
theorem dX7_run_23 : decode cX7_run 23 = .ok (.if_icmp .ge 13, 3) := by decide +kernel
theorem dX7_run_26 : decode cX7_run 26 = .ok (.aload_n 0, 1) := by decide +kernel
theorem dX7_run_27 : decode cX7_run 27 = .ok (.invokevirtual 168, 3) := by decide +kernel
theorem dX7_run_30 : decode cX7_run 30 = .ok (.iinc 2 1, 3) := by decide +kernel
theorem dX7_run_33 : decode cX7_run 33 = .ok (.goto (-12), 3) := by decide +kernel
theorem dX7_run_36 : decode cX7_run 36 = .ok (.aload_n 0, 1) := by decide +kernel
theorem dX7_run_37 : decode cX7_run 37 = .ok (.getfield 16, 3) := by decide +kernel
theorem dX7_run_40 : decode cX7_run 40 = .ok (.ireturn, 1) := by decide +kernel
theorem dX7_isBusy_0 : decode cX7_isBusy 0 = .ok (.aload_n 0, 1) := by decide +kernel
theorem dX7_isBusy_1 : decode cX7_isBusy 1 = .ok (.getfield 54, 3) := by decide +kernel
theorem dX7_isBusy_4 : decode cX7_isBusy 4 = .ok (.iload_n 1, 1) := by decide +kernel
theorem dX7_isBusy_5 : decode cX7_isBusy 5 = .ok (.iaload, 1) := by decide +kernel
theorem dX7_isBusy_6 : decode cX7_isBusy 6 = .ok (.ifCond .ne 43, 3) := by decide +kernel
theorem dX7_isBusy_9 : decode cX7_isBusy 9 = .ok (.aload_n 0, 1) := by decide +kernel
theorem dX7_isBusy_10 : decode cX7_isBusy 10 = .ok (.getfield 47, 3) := by decide +kernel
theorem dX7_isBusy_13 : decode cX7_isBusy 13 = .ok (.iload_n 1, 1) := by decide +kernel
theorem dX7_isBusy_14 : decode cX7_isBusy 14 = .ok (.iaload, 1) := by decide +kernel
theorem dX7_isBusy_15 : decode cX7_isBusy 15 = .ok (.ifCond .ne 34, 3) := by decide +kernel
theorem dX7_isBusy_18 : decode cX7_isBusy 18 = .ok (.aload_n 0, 1) := by decide +kernel
theorem dX7_isBusy_19 : decode cX7_isBusy 19 = .ok (.getfield 38, 3) := by decide +kernel
theorem dX7_isBusy_22 : decode cX7_isBusy 22 = .ok (.iload_n 1, 1) := by decide +kernel
theorem dX7_isBusy_23 : decode cX7_isBusy 23 = .ok (.iaload, 1) := by decide +kernel
theorem dX7_isBusy_24 : decode cX7_isBusy 24 = .ok (.ifCond .ne 21, 3) := by decide +kernel
theorem dX7_isBusy_27 : decode cX7_isBusy 27 = .ok (.aload_n 0, 1) := by decide +kernel
theorem dX7_isBusy_28 : decode cX7_isBusy 28 = .ok (.getfield 66, 3) := by decide +kernel
theorem dX7_isBusy_31 : decode cX7_isBusy 31 = .ok (.bipush 18, 2) := by decide +kernel
theorem dX7_isBusy_33 : decode cX7_isBusy 33 = .ok (.iload_n 1, 1) := by decide +kernel
theorem dX7_isBusy_34 : decode cX7_isBusy 34 = .ok (.imul, 1) := by decide +kernel
theorem dX7_isBusy_35 : decode cX7_isBusy 35 = .ok (.iaload, 1) := by decide +kernel
theorem dX7_isBusy_36 : decode cX7_isBusy 36 = .ok (.aload_n 0, 1) := by decide +kernel
theorem dX7_isBusy_37 : decode cX7_isBusy 37 = .ok (.getfield 44, 3) := by decide +kernel
theorem dX7_isBusy_40 : decode cX7_isBusy 40 = .ok (.iload_n 1, 1) := by decide +kernel
theorem dX7_isBusy_41 : decode cX7_isBusy 41 = .ok (.iaload, 1) := by decide +kernel
theorem dX7_isBusy_42 : decode cX7_isBusy 42 = .ok (.if_icmp .eq 7, 3) := by decide +kernel
theorem dX7_isBusy_45 : decode cX7_isBusy 45 = .ok (.iconst 1, 1) := by decide +kernel
theorem dX7_isBusy_46 : decode cX7_isBusy 46 = .ok (.goto 4, 3) := by decide +kernel
theorem dX7_isBusy_49 : decode cX7_isBusy 49 = .ok (.iconst 0, 1) := by decide +kernel
theorem dX7_isBusy_50 : decode cX7_isBusy 50 = .ok (.ireturn, 1) := by decide +kernel
theorem dX7_settle_0 : decode cX7_settle 0 = .ok (.aload_n 0, 1) := by decide +kernel
theorem dX7_settle_1 : decode cX7_settle 1 = .ok (.iconst 0, 1) := by decide +kernel
theorem dX7_settle_2 : decode cX7_settle 2 = .ok (.putfield 91, 3) := by decide +kernel
theorem dX7_settle_5 : decode cX7_settle 5 = .ok (.iload_n 1, 1) := by decide +kernel
theorem dX7_settle_6 : decode cX7_settle 6 = .ok (.iconst 1, 1) := by decide +kernel
theorem dX7_settle_7 : decode cX7_settle 7 = .ok (.sipush 1000, 3) := by decide +kernel
theorem dX7_settle_10 : decode cX7_settle 10 = .ok (.invokestatic 94, 3) := by decide +kernel
theorem dX7_settle_13 : decode cX7_settle 13 = .ok (.ifCond .ne 6, 3) := by decide +kernel
theorem dX7_settle_16 : decode cX7_settle 16 = .ok (.bipush (-2), 2) := by decide +kernel
theorem dX7_settle_18 : decode cX7_settle 18 = .ok (.ireturn, 1) := by decide +kernel
theorem dX7_settle_19 : decode cX7_settle 19 = .ok (.iconst 0, 1) := by decide +kernel
theorem dX7_settle_20 : decode cX7_settle 20 = .ok (.istore_n 2, 1) := by decide +kernel
theorem dX7_settle_21 : decode cX7_settle 21 = .ok (.iload_n 2, 1) := by decide +kernel
theorem dX7_settle_22 : decode cX7_settle 22 = .ok (.iload_n 1, 1) := by decide +kernel
theorem dX7_settle_23 : decode cX7_settle 23 = .ok (.if_icmp .ge 29, 3) := by decide +kernel
theorem dX7_settle_26 : decode cX7_settle 26 = .ok (.aload_n 0, 1) := by decide +kernel
theorem dX7_settle_27 : decode cX7_settle 27 = .ok (.iconst 0, 1) := by decide +kernel
theorem dX7_settle_28 : decode cX7_settle 28 = .ok (.invokevirtual 171, 3) := by decide +kernel
theorem dX7_settle_31 : decode cX7_settle 31 = .ok (.ifCond .ne 11, 3) := by decide +kernel
theorem dX7_settle_34 : decode cX7_settle 34 = .ok (.aload_n 0, 1) := by decide +kernel
theorem dX7_settle_35 : decode cX7_settle 35 = .ok (.iconst 1, 1) := by decide +kernel
theorem dX7_settle_36 : decode cX7_settle 36 = .ok (.invokevirtual 171, 3) := by decide +kernel
theorem dX7_settle_39 : decode cX7_settle 39 = .ok (.ifCond .eq 13, 3) := by decide +kernel
theorem dX7_settle_42 : decode cX7_settle 42 = .ok (.aload_n 0, 1) := by decide +kernel
theorem dX7_settle_43 : decode cX7_settle 43 = .ok (.invokevirtual 168, 3) := by decide +kernel
theorem dX7_settle_46 : decode cX7_settle 46 = .ok (.iinc 2 1, 3) := by decide +kernel
theorem dX7_settle_49 : decode cX7_settle 49 = .ok (.goto (-28), 3) := by decide +kernel
theorem dX7_settle_52 : decode cX7_settle 52 = .ok (.iload_n 2, 1) := by decide +kernel
theorem dX7_settle_53 : decode cX7_settle 53 = .ok (.ireturn, 1) := by decide +kernel
theorem dX7_plant_0 : decode cX7_plant 0 = .ok (.aload_n 0, 1) := by decide +kernel
theorem dX7_plant_1 : decode cX7_plant 1 = .ok (.iconst 0, 1) := by decide +kernel
theorem dX7_plant_2 : decode cX7_plant 2 = .ok (.putfield 91, 3) := by decide +kernel
theorem dX7_plant_5 : decode cX7_plant 5 = .ok (.iload_n 1, 1) := by decide +kernel
theorem dX7_plant_6 : decode cX7_plant 6 = .ok (.iconst 0, 1) := by decide +kernel
theorem dX7_plant_7 : decode cX7_plant 7 = .ok (.bipush 17, 2) := by decide +kernel
theorem dX7_plant_9 : decode cX7_plant 9 = .ok (.invokestatic 94, 3) := by decide +kernel
theorem dX7_plant_12 : decode cX7_plant 12 = .ok (.ifCond .ne 6, 3) := by decide +kernel
theorem dX7_plant_15 : decode cX7_plant 15 = .ok (.bipush (-2), 2) := by decide +kernel
theorem dX7_plant_17 : decode cX7_plant 17 = .ok (.ireturn, 1) := by decide +kernel
theorem dX7_plant_18 : decode cX7_plant 18 = .ok (.iload_n 1, 1) := by decide +kernel
theorem dX7_plant_19 : decode cX7_plant 19 = .ok (.bipush 11, 2) := by decide +kernel
theorem dX7_plant_21 : decode cX7_plant 21 = .ok (.if_icmp .ge 28, 3) := by decide +kernel
theorem dX7_plant_24 : decode cX7_plant 24 = .ok (.iload_n 1, 1) := by decide +kernel
theorem dX7_plant_25 : decode cX7_plant 25 = .ok (.bipush 6, 2) := by decide +kernel
theorem dX7_plant_27 : decode cX7_plant 27 = .ok (.if_icmp .ge 12, 3) := by decide +kernel
theorem dX7_plant_30 : decode cX7_plant 30 = .ok (.aload_n 0, 1) := by decide +kernel
theorem dX7_plant_31 : decode cX7_plant 31 = .ok (.getfield 29, 3) := by decide +kernel
theorem dX7_plant_34 : decode cX7_plant 34 = .ok (.iload_n 1, 1) := by decide +kernel
theorem dX7_plant_35 : decode cX7_plant 35 = .ok (.iaload, 1) := by decide +kernel
theorem dX7_plant_36 : decode cX7_plant 36 = .ok (.goto 12, 3) := by decide +kernel
theorem dX7_plant_39 : decode cX7_plant 39 = .ok (.aload_n 0, 1) := by decide +kernel
theorem dX7_plant_40 : decode cX7_plant 40 = .ok (.getfield 19, 3) := by decide +kernel
theorem dX7_plant_43 : decode cX7_plant 43 = .ok (.iload_n 1, 1) := by decide +kernel
theorem dX7_plant_44 : decode cX7_plant 44 = .ok (.bipush 6, 2) := by decide +kernel
theorem dX7_plant_46 : decode cX7_plant 46 = .ok (.isub, 1) := by decide +kernel
theorem dX7_plant_47 : decode cX7_plant 47 = .ok (.iaload, 1) := by decide +kernel
theorem dX7_plant_48 : decode cX7_plant 48 = .ok (.ireturn, 1) := by decide +kernel
theorem dX7_plant_49 : decode cX7_plant 49 = .ok (.iload_n 1, 1) := by decide +kernel
theorem dX7_plant_50 : decode cX7_plant 50 = .ok (.tableswitch 68 11 16 #[38, 43, 48, 53, 58, 63], 38) := by decide +kernel
theorem dX7_plant_88 : decode cX7_plant 88 = .ok (.aload_n 0, 1) := by decide +kernel
theorem dX7_plant_89 : decode cX7_plant 89 = .ok (.getfield 104, 3) := by decide +kernel
theorem dX7_plant_92 : decode cX7_plant 92 = .ok (.ireturn, 1) := by decide +kernel
theorem dX7_plant_93 : decode cX7_plant 93 = .ok (.aload_n 0, 1) := by decide +kernel
theorem dX7_plant_94 : decode cX7_plant 94 = .ok (.getfield 98, 3) := by decide +kernel
theorem dX7_plant_97 : decode cX7_plant 97 = .ok (.ireturn, 1) := by decide +kernel
theorem dX7_plant_98 : decode cX7_plant 98 = .ok (.aload_n 0, 1) := by decide +kernel
theorem dX7_plant_99 : decode cX7_plant 99 = .ok (.getfield 7, 3) := by decide +kernel
theorem dX7_plant_102 : decode cX7_plant 102 = .ok (.ireturn, 1) := by decide +kernel
theorem dX7_plant_103 : decode cX7_plant 103 = .ok (.aload_n 0, 1) := by decide +kernel
theorem dX7_plant_104 : decode cX7_plant 104 = .ok (.getfield 13, 3) := by decide +kernel
theorem dX7_plant_107 : decode cX7_plant 107 = .ok (.ireturn, 1) := by decide +kernel
theorem dX7_plant_108 : decode cX7_plant 108 = .ok (.aload_n 0, 1) := by decide +kernel
theorem dX7_plant_109 : decode cX7_plant 109 = .ok (.getfield 117, 3) := by decide +kernel
theorem dX7_plant_112 : decode cX7_plant 112 = .ok (.ireturn, 1) := by decide +kernel
theorem dX7_plant_113 : decode cX7_plant 113 = .ok (.aload_n 0, 1) := by decide +kernel
theorem dX7_plant_114 : decode cX7_plant 114 = .ok (.getfield 147, 3) := by decide +kernel
theorem dX7_plant_117 : decode cX7_plant 117 = .ok (.ireturn, 1) := by decide +kernel
theorem dX7_plant_118 : decode cX7_plant 118 = .ok (.aload_n 0, 1) := by decide +kernel
theorem dX7_plant_119 : decode cX7_plant 119 = .ok (.invokevirtual 150, 3) := by decide +kernel
theorem dX7_plant_122 : decode cX7_plant 122 = .ok (.ireturn, 1) := by decide +kernel
theorem dX7_about_0 : decode cX7_about 0 = .ok (.aload_n 0, 1) := by decide +kernel
theorem dX7_about_1 : decode cX7_about 1 = .ok (.iconst 0, 1) := by decide +kernel
theorem dX7_about_2 : decode cX7_about 2 = .ok (.putfield 91, 3) := by decide +kernel
theorem dX7_about_5 : decode cX7_about 5 = .ok (.iload_n 1, 1) := by decide +kernel
theorem dX7_about_6 : decode cX7_about 6 = .ok (.iconst 0, 1) := by decide +kernel
theorem dX7_about_7 : decode cX7_about 7 = .ok (.iconst 1, 1) := by decide +kernel
theorem dX7_about_8 : decode cX7_about 8 = .ok (.invokestatic 94, 3) := by decide +kernel
theorem dX7_about_11 : decode cX7_about 11 = .ok (.ifCond .eq 13, 3) := by decide +kernel
theorem dX7_about_14 : decode cX7_about 14 = .ok (.iload_n 2, 1) := by decide +kernel
theorem dX7_about_15 : decode cX7_about 15 = .ok (.iconst 0, 1) := by decide +kernel
theorem dX7_about_16 : decode cX7_about 16 = .ok (.bipush 6, 2) := by decide +kernel
theorem dX7_about_18 : decode cX7_about 18 = .ok (.invokestatic 94, 3) := by decide +kernel
theorem dX7_about_21 : decode cX7_about 21 = .ok (.ifCond .ne 6, 3) := by decide +kernel
theorem dX7_about_24 : decode cX7_about 24 = .ok (.bipush (-2), 2) := by decide +kernel
theorem dX7_about_26 : decode cX7_about 26 = .ok (.ireturn, 1) := by decide +kernel
theorem dX7_about_27 : decode cX7_about 27 = .ok (.iload_n 2, 1) := by decide +kernel
theorem dX7_about_28 : decode cX7_about 28 = .ok (.tableswitch 89 0 5 #[40, 47, 54, 61, 67, 74], 40) := by decide +kernel
theorem dX7_about_68 : decode cX7_about 68 = .ok (.aload_n 0, 1) := by decide +kernel
theorem dX7_about_69 : decode cX7_about 69 = .ok (.getfield 38, 3) := by decide +kernel
theorem dX7_about_72 : decode cX7_about 72 = .ok (.iload_n 1, 1) := by decide +kernel
theorem dX7_about_73 : decode cX7_about 73 = .ok (.iaload, 1) := by decide +kernel
theorem dX7_about_74 : decode cX7_about 74 = .ok (.ireturn, 1) := by decide +kernel
theorem dX7_about_75 : decode cX7_about 75 = .ok (.aload_n 0, 1) := by decide +kernel
theorem dX7_about_76 : decode cX7_about 76 = .ok (.getfield 41, 3) := by decide +kernel
theorem dX7_about_79 : decode cX7_about 79 = .ok (.iload_n 1, 1) := by decide +kernel
theorem dX7_about_80 : decode cX7_about 80 = .ok (.iaload, 1) := by decide +kernel
theorem dX7_about_81 : decode cX7_about 81 = .ok (.ireturn, 1) := by decide +kernel
theorem dX7_about_82 : decode cX7_about 82 = .ok (.aload_n 0, 1) := by decide +kernel
theorem dX7_about_83 : decode cX7_about 83 = .ok (.getfield 44, 3) := by decide +kernel
theorem dX7_about_86 : decode cX7_about 86 = .ok (.iload_n 1, 1) := by decide +kernel
theorem dX7_about_87 : decode cX7_about 87 = .ok (.iaload, 1) := by decide +kernel
theorem dX7_about_88 : decode cX7_about 88 = .ok (.ireturn, 1) := by decide +kernel
theorem dX7_about_89 : decode cX7_about 89 = .ok (.aload_n 0, 1) := by decide +kernel
theorem dX7_about_90 : decode cX7_about 90 = .ok (.iload_n 1, 1) := by decide +kernel
theorem dX7_about_91 : decode cX7_about 91 = .ok (.invokevirtual 111, 3) := by decide +kernel
theorem dX7_about_94 : decode cX7_about 94 = .ok (.ireturn, 1) := by decide +kernel
theorem dX7_about_95 : decode cX7_about 95 = .ok (.aload_n 0, 1) := by decide +kernel
theorem dX7_about_96 : decode cX7_about 96 = .ok (.getfield 47, 3) := by decide +kernel
theorem dX7_about_99 : decode cX7_about 99 = .ok (.iload_n 1, 1) := by decide +kernel
theorem dX7_about_100 : decode cX7_about 100 = .ok (.iaload, 1) := by decide +kernel
theorem dX7_about_101 : decode cX7_about 101 = .ok (.ireturn, 1) := by decide +kernel
theorem dX7_about_102 : decode cX7_about 102 = .ok (.aload_n 0, 1) := by decide +kernel
theorem dX7_about_103 : decode cX7_about 103 = .ok (.getfield 50, 3) := by decide +kernel
theorem dX7_about_106 : decode cX7_about 106 = .ok (.iload_n 1, 1) := by decide +kernel
theorem dX7_about_107 : decode cX7_about 107 = .ok (.baload, 1) := by decide +kernel
theorem dX7_about_108 : decode cX7_about 108 = .ok (.ifCond .eq 7, 3) := by decide +kernel
theorem dX7_about_111 : decode cX7_about 111 = .ok (.iconst 1, 1) := by decide +kernel
theorem dX7_about_112 : decode cX7_about 112 = .ok (.goto 4, 3) := by decide +kernel
theorem dX7_about_115 : decode cX7_about 115 = .ok (.iconst 0, 1) := by decide +kernel
theorem dX7_about_116 : decode cX7_about 116 = .ok (.ireturn, 1) := by decide +kernel
theorem dX7_about_117 : decode cX7_about 117 = .ok (.aload_n 0, 1) := by decide +kernel
theorem dX7_about_118 : decode cX7_about 118 = .ok (.getfield 54, 3) := by decide +kernel
theorem dX7_about_121 : decode cX7_about 121 = .ok (.iload_n 1, 1) := by decide +kernel
theorem dX7_about_122 : decode cX7_about 122 = .ok (.iaload, 1) := by decide +kernel
theorem dX7_about_123 : decode cX7_about 123 = .ok (.ireturn, 1) := by decide +kernel
theorem dX7_sees_0 : decode cX7_sees 0 = .ok (.aload_n 0, 1) := by decide +kernel
theorem dX7_sees_1 : decode cX7_sees 1 = .ok (.iconst 0, 1) := by decide +kernel
theorem dX7_sees_2 : decode cX7_sees 2 = .ok (.putfield 91, 3) := by decide +kernel
theorem dX7_sees_5 : decode cX7_sees 5 = .ok (.iload_n 1, 1) := by decide +kernel
theorem dX7_sees_6 : decode cX7_sees 6 = .ok (.iconst 0, 1) := by decide +kernel
theorem dX7_sees_7 : decode cX7_sees 7 = .ok (.iconst 1, 1) := by decide +kernel
theorem dX7_sees_8 : decode cX7_sees 8 = .ok (.invokestatic 94, 3) := by decide +kernel
theorem dX7_sees_11 : decode cX7_sees 11 = .ok (.ifCond .eq 22, 3) := by decide +kernel
theorem dX7_sees_14 : decode cX7_sees 14 = .ok (.iload_n 2, 1) := by decide +kernel
theorem dX7_sees_15 : decode cX7_sees 15 = .ok (.iconst 0, 1) := by decide +kernel
theorem dX7_sees_16 : decode cX7_sees 16 = .ok (.bipush 17, 2) := by decide +kernel
theorem dX7_sees_18 : decode cX7_sees 18 = .ok (.invokestatic 94, 3) := by decide +kernel
theorem dX7_sees_21 : decode cX7_sees 21 = .ok (.ifCond .eq 12, 3) := by decide +kernel
theorem dX7_sees_24 : decode cX7_sees 24 = .ok (.iload_n 3, 1) := by decide +kernel
theorem dX7_sees_25 : decode cX7_sees 25 = .ok (.iconst 0, 1) := by decide +kernel
theorem dX7_sees_26 : decode cX7_sees 26 = .ok (.iconst 1, 1) := by decide +kernel
theorem dX7_sees_27 : decode cX7_sees 27 = .ok (.invokestatic 94, 3) := by decide +kernel
theorem dX7_sees_30 : decode cX7_sees 30 = .ok (.ifCond .ne 6, 3) := by decide +kernel
theorem dX7_sees_33 : decode cX7_sees 33 = .ok (.bipush (-2), 2) := by decide +kernel
theorem dX7_sees_35 : decode cX7_sees 35 = .ok (.ireturn, 1) := by decide +kernel
theorem dX7_sees_36 : decode cX7_sees 36 = .ok (.iload_n 3, 1) := by decide +kernel
theorem dX7_sees_37 : decode cX7_sees 37 = .ok (.ifCond .ne 17, 3) := by decide +kernel
theorem dX7_sees_40 : decode cX7_sees 40 = .ok (.aload_n 0, 1) := by decide +kernel
theorem dX7_sees_41 : decode cX7_sees 41 = .ok (.getfield 66, 3) := by decide +kernel
theorem dX7_sees_44 : decode cX7_sees 44 = .ok (.bipush 18, 2) := by decide +kernel
theorem dX7_sees_46 : decode cX7_sees 46 = .ok (.iload_n 1, 1) := by decide +kernel
theorem dX7_sees_47 : decode cX7_sees 47 = .ok (.imul, 1) := by decide +kernel
theorem dX7_sees_48 : decode cX7_sees 48 = .ok (.iload_n 2, 1) := by decide +kernel
theorem dX7_sees_49 : decode cX7_sees 49 = .ok (.iadd, 1) := by decide +kernel
theorem dX7_sees_50 : decode cX7_sees 50 = .ok (.iaload, 1) := by decide +kernel
theorem dX7_sees_51 : decode cX7_sees 51 = .ok (.goto 14, 3) := by decide +kernel
theorem dX7_sees_54 : decode cX7_sees 54 = .ok (.aload_n 0, 1) := by decide +kernel
theorem dX7_sees_55 : decode cX7_sees 55 = .ok (.getfield 69, 3) := by decide +kernel
theorem dX7_sees_58 : decode cX7_sees 58 = .ok (.bipush 18, 2) := by decide +kernel
theorem dX7_sees_60 : decode cX7_sees 60 = .ok (.iload_n 1, 1) := by decide +kernel
theorem dX7_sees_61 : decode cX7_sees 61 = .ok (.imul, 1) := by decide +kernel
theorem dX7_sees_62 : decode cX7_sees 62 = .ok (.iload_n 2, 1) := by decide +kernel
theorem dX7_sees_63 : decode cX7_sees 63 = .ok (.iadd, 1) := by decide +kernel
theorem dX7_sees_64 : decode cX7_sees 64 = .ok (.iaload, 1) := by decide +kernel
theorem dX7_sees_65 : decode cX7_sees 65 = .ok (.ireturn, 1) := by decide +kernel
theorem dX7_tells_0 : decode cX7_tells 0 = .ok (.aload_n 0, 1) := by decide +kernel
theorem dX7_tells_1 : decode cX7_tells 1 = .ok (.iconst 0, 1) := by decide +kernel
theorem dX7_tells_2 : decode cX7_tells 2 = .ok (.putfield 91, 3) := by decide +kernel
theorem dX7_tells_5 : decode cX7_tells 5 = .ok (.iload_n 1, 1) := by decide +kernel
theorem dX7_tells_6 : decode cX7_tells 6 = .ok (.iconst 0, 1) := by decide +kernel
theorem dX7_tells_7 : decode cX7_tells 7 = .ok (.bipush 17, 2) := by decide +kernel
theorem dX7_tells_9 : decode cX7_tells 9 = .ok (.invokestatic 94, 3) := by decide +kernel
theorem dX7_tells_12 : decode cX7_tells 12 = .ok (.ifCond .eq 21, 3) := by decide +kernel
theorem dX7_tells_15 : decode cX7_tells 15 = .ok (.iload_n 2, 1) := by decide +kernel
theorem dX7_tells_16 : decode cX7_tells 16 = .ok (.iconst 0, 1) := by decide +kernel
theorem dX7_tells_17 : decode cX7_tells 17 = .ok (.iconst 2, 1) := by decide +kernel
theorem dX7_tells_18 : decode cX7_tells 18 = .ok (.invokestatic 94, 3) := by decide +kernel
theorem dX7_tells_21 : decode cX7_tells 21 = .ok (.ifCond .eq 12, 3) := by decide +kernel
theorem dX7_tells_24 : decode cX7_tells 24 = .ok (.aload_n 0, 1) := by decide +kernel
theorem dX7_tells_25 : decode cX7_tells 25 = .ok (.iload_n 1, 1) := by decide +kernel
theorem dX7_tells_26 : decode cX7_tells 26 = .ok (.iload_n 2, 1) := by decide +kernel
theorem dX7_tells_27 : decode cX7_tells 27 = .ok (.invokevirtual 107, 3) := by decide +kernel
theorem dX7_tells_30 : decode cX7_tells 30 = .ok (.goto 5, 3) := by decide +kernel
theorem dX7_tells_33 : decode cX7_tells 33 = .ok (.bipush (-2), 2) := by decide +kernel
theorem dX7_tells_35 : decode cX7_tells 35 = .ok (.ireturn, 1) := by decide +kernel
theorem dX7_lights_0 : decode cX7_lights 0 = .ok (.aload_n 0, 1) := by decide +kernel
theorem dX7_lights_1 : decode cX7_lights 1 = .ok (.iconst 0, 1) := by decide +kernel
theorem dX7_lights_2 : decode cX7_lights 2 = .ok (.putfield 91, 3) := by decide +kernel
theorem dX7_lights_5 : decode cX7_lights 5 = .ok (.aload_n 0, 1) := by decide +kernel
theorem dX7_lights_6 : decode cX7_lights 6 = .ok (.getfield 16, 3) := by decide +kernel
theorem dX7_lights_9 : decode cX7_lights 9 = .ok (.ireturn, 1) := by decide +kernel
theorem dX7_log_0 : decode cX7_log 0 = .ok (.aload_n 0, 1) := by decide +kernel
theorem dX7_log_1 : decode cX7_log 1 = .ok (.iconst 0, 1) := by decide +kernel
theorem dX7_log_2 : decode cX7_log 2 = .ok (.putfield 91, 3) := by decide +kernel
theorem dX7_log_5 : decode cX7_log 5 = .ok (.iload_n 2, 1) := by decide +kernel
theorem dX7_log_6 : decode cX7_log 6 = .ok (.iconst 0, 1) := by decide +kernel
theorem dX7_log_7 : decode cX7_log 7 = .ok (.iconst 2, 1) := by decide +kernel
theorem dX7_log_8 : decode cX7_log 8 = .ok (.invokestatic 94, 3) := by decide +kernel
theorem dX7_log_11 : decode cX7_log 11 = .ok (.ifCond .ne 6, 3) := by decide +kernel
theorem dX7_log_14 : decode cX7_log 14 = .ok (.bipush (-2), 2) := by decide +kernel
theorem dX7_log_16 : decode cX7_log 16 = .ok (.ireturn, 1) := by decide +kernel
theorem dX7_log_17 : decode cX7_log 17 = .ok (.iload_n 1, 1) := by decide +kernel
theorem dX7_log_18 : decode cX7_log 18 = .ok (.ifCond .lt 22, 3) := by decide +kernel
theorem dX7_log_21 : decode cX7_log 21 = .ok (.iload_n 1, 1) := by decide +kernel
theorem dX7_log_22 : decode cX7_log 22 = .ok (.aload_n 0, 1) := by decide +kernel
theorem dX7_log_23 : decode cX7_log 23 = .ok (.getfield 114, 3) := by decide +kernel
theorem dX7_log_26 : decode cX7_log 26 = .ok (.if_icmp .ge 14, 3) := by decide +kernel
theorem dX7_log_29 : decode cX7_log 29 = .ok (.iload_n 1, 1) := by decide +kernel
theorem dX7_log_30 : decode cX7_log 30 = .ok (.aload_n 0, 1) := by decide +kernel
theorem dX7_log_31 : decode cX7_log 31 = .ok (.getfield 114, 3) := by decide +kernel
theorem dX7_log_34 : decode cX7_log 34 = .ok (.bipush 64, 2) := by decide +kernel
theorem dX7_log_36 : decode cX7_log 36 = .ok (.isub, 1) := by decide +kernel
theorem dX7_log_37 : decode cX7_log 37 = .ok (.if_icmp .ge 7, 3) := by decide +kernel
theorem dX7_log_40 : decode cX7_log 40 = .ok (.iconst (-1), 1) := by decide +kernel
theorem dX7_log_41 : decode cX7_log 41 = .ok (.goto 16, 3) := by decide +kernel
theorem dX7_log_44 : decode cX7_log 44 = .ok (.aload_n 0, 1) := by decide +kernel
theorem dX7_log_45 : decode cX7_log 45 = .ok (.getfield 78, 3) := by decide +kernel
theorem dX7_log_48 : decode cX7_log 48 = .ok (.iconst 3, 1) := by decide +kernel
theorem dX7_log_49 : decode cX7_log 49 = .ok (.iload_n 1, 1) := by decide +kernel
theorem dX7_log_50 : decode cX7_log 50 = .ok (.bipush 64, 2) := by decide +kernel
theorem dX7_log_52 : decode cX7_log 52 = .ok (.irem, 1) := by decide +kernel
theorem dX7_log_53 : decode cX7_log 53 = .ok (.imul, 1) := by decide +kernel
theorem dX7_log_54 : decode cX7_log 54 = .ok (.iload_n 2, 1) := by decide +kernel
theorem dX7_log_55 : decode cX7_log 55 = .ok (.iadd, 1) := by decide +kernel
theorem dX7_log_56 : decode cX7_log 56 = .ok (.iaload, 1) := by decide +kernel
theorem dX7_log_57 : decode cX7_log 57 = .ok (.ireturn, 1) := by decide +kernel
theorem dX7_logged_0 : decode cX7_logged 0 = .ok (.aload_n 0, 1) := by decide +kernel
theorem dX7_logged_1 : decode cX7_logged 1 = .ok (.iconst 0, 1) := by decide +kernel
theorem dX7_logged_2 : decode cX7_logged 2 = .ok (.putfield 91, 3) := by decide +kernel
theorem dX7_logged_5 : decode cX7_logged 5 = .ok (.aload_n 0, 1) := by decide +kernel
theorem dX7_logged_6 : decode cX7_logged 6 = .ok (.getfield 114, 3) := by decide +kernel
theorem dX7_logged_9 : decode cX7_logged 9 = .ok (.ireturn, 1) := by decide +kernel
theorem dX7_bound_0 : decode cX7_bound 0 = .ok (.aload_n 0, 1) := by decide +kernel
theorem dX7_bound_1 : decode cX7_bound 1 = .ok (.iconst 0, 1) := by decide +kernel
theorem dX7_bound_2 : decode cX7_bound 2 = .ok (.putfield 91, 3) := by decide +kernel
theorem dX7_bound_5 : decode cX7_bound 5 = .ok (.aload_n 0, 1) := by decide +kernel
theorem dX7_bound_6 : decode cX7_bound 6 = .ok (.getfield 26, 3) := by decide +kernel
theorem dX7_bound_9 : decode cX7_bound 9 = .ok (.iconst 0, 1) := by decide +kernel
theorem dX7_bound_10 : decode cX7_bound 10 = .ok (.iaload, 1) := by decide +kernel
theorem dX7_bound_11 : decode cX7_bound 11 = .ok (.aload_n 0, 1) := by decide +kernel
theorem dX7_bound_12 : decode cX7_bound 12 = .ok (.getfield 26, 3) := by decide +kernel
theorem dX7_bound_15 : decode cX7_bound 15 = .ok (.iconst 1, 1) := by decide +kernel
theorem dX7_bound_16 : decode cX7_bound 16 = .ok (.iaload, 1) := by decide +kernel
theorem dX7_bound_17 : decode cX7_bound 17 = .ok (.if_icmp .le 12, 3) := by decide +kernel
theorem dX7_bound_20 : decode cX7_bound 20 = .ok (.aload_n 0, 1) := by decide +kernel
theorem dX7_bound_21 : decode cX7_bound 21 = .ok (.getfield 26, 3) := by decide +kernel
theorem dX7_bound_24 : decode cX7_bound 24 = .ok (.iconst 0, 1) := by decide +kernel
theorem dX7_bound_25 : decode cX7_bound 25 = .ok (.iaload, 1) := by decide +kernel
theorem dX7_bound_26 : decode cX7_bound 26 = .ok (.goto 9, 3) := by decide +kernel
theorem dX7_bound_29 : decode cX7_bound 29 = .ok (.aload_n 0, 1) := by decide +kernel
theorem dX7_bound_30 : decode cX7_bound 30 = .ok (.getfield 26, 3) := by decide +kernel
theorem dX7_bound_33 : decode cX7_bound 33 = .ok (.iconst 1, 1) := by decide +kernel
theorem dX7_bound_34 : decode cX7_bound 34 = .ok (.iaload, 1) := by decide +kernel
theorem dX7_bound_35 : decode cX7_bound 35 = .ok (.istore_n 1, 1) := by decide +kernel
theorem dX7_bound_36 : decode cX7_bound 36 = .ok (.bipush 80, 2) := by decide +kernel
theorem dX7_bound_38 : decode cX7_bound 38 = .ok (.iconst 2, 1) := by decide +kernel
theorem dX7_bound_39 : decode cX7_bound 39 = .ok (.iload_n 1, 1) := by decide +kernel
theorem dX7_bound_40 : decode cX7_bound 40 = .ok (.imul, 1) := by decide +kernel
theorem dX7_bound_41 : decode cX7_bound 41 = .ok (.iadd, 1) := by decide +kernel
theorem dX7_bound_42 : decode cX7_bound 42 = .ok (.aload_n 0, 1) := by decide +kernel
theorem dX7_bound_43 : decode cX7_bound 43 = .ok (.getfield 26, 3) := by decide +kernel
theorem dX7_bound_46 : decode cX7_bound 46 = .ok (.iconst 3, 1) := by decide +kernel
theorem dX7_bound_47 : decode cX7_bound 47 = .ok (.iaload, 1) := by decide +kernel
theorem dX7_bound_48 : decode cX7_bound 48 = .ok (.aload_n 0, 1) := by decide +kernel
theorem dX7_bound_49 : decode cX7_bound 49 = .ok (.getfield 26, 3) := by decide +kernel
theorem dX7_bound_52 : decode cX7_bound 52 = .ok (.iconst 4, 1) := by decide +kernel
theorem dX7_bound_53 : decode cX7_bound 53 = .ok (.iaload, 1) := by decide +kernel
theorem dX7_bound_54 : decode cX7_bound 54 = .ok (.if_icmp .le 12, 3) := by decide +kernel
theorem dX7_bound_57 : decode cX7_bound 57 = .ok (.aload_n 0, 1) := by decide +kernel
theorem dX7_bound_58 : decode cX7_bound 58 = .ok (.getfield 26, 3) := by decide +kernel
theorem dX7_bound_61 : decode cX7_bound 61 = .ok (.iconst 3, 1) := by decide +kernel
theorem dX7_bound_62 : decode cX7_bound 62 = .ok (.iaload, 1) := by decide +kernel
theorem dX7_bound_63 : decode cX7_bound 63 = .ok (.goto 9, 3) := by decide +kernel
theorem dX7_bound_66 : decode cX7_bound 66 = .ok (.aload_n 0, 1) := by decide +kernel
theorem dX7_bound_67 : decode cX7_bound 67 = .ok (.getfield 26, 3) := by decide +kernel
theorem dX7_bound_70 : decode cX7_bound 70 = .ok (.iconst 4, 1) := by decide +kernel
theorem dX7_bound_71 : decode cX7_bound 71 = .ok (.iaload, 1) := by decide +kernel
theorem dX7_bound_72 : decode cX7_bound 72 = .ok (.iadd, 1) := by decide +kernel
theorem dX7_bound_73 : decode cX7_bound 73 = .ok (.ireturn, 1) := by decide +kernel
theorem dX7_safe_0 : decode cX7_safe 0 = .ok (.aload_n 0, 1) := by decide +kernel
theorem dX7_safe_1 : decode cX7_safe 1 = .ok (.iconst 0, 1) := by decide +kernel
theorem dX7_safe_2 : decode cX7_safe 2 = .ok (.putfield 91, 3) := by decide +kernel
theorem dX7_safe_5 : decode cX7_safe 5 = .ok (.aload_n 0, 1) := by decide +kernel
theorem dX7_safe_6 : decode cX7_safe 6 = .ok (.getfield 147, 3) := by decide +kernel
theorem dX7_safe_9 : decode cX7_safe 9 = .ok (.ifCond .ne 14, 3) := by decide +kernel
theorem dX7_safe_12 : decode cX7_safe 12 = .ok (.aload_n 0, 1) := by decide +kernel
theorem dX7_safe_13 : decode cX7_safe 13 = .ok (.getfield 153, 3) := by decide +kernel
theorem dX7_safe_16 : decode cX7_safe 16 = .ok (.ifCond .ne 7, 3) := by decide +kernel
theorem dX7_safe_19 : decode cX7_safe 19 = .ok (.iconst 1, 1) := by decide +kernel
theorem dX7_safe_20 : decode cX7_safe 20 = .ok (.goto 4, 3) := by decide +kernel
theorem dX7_safe_23 : decode cX7_safe 23 = .ok (.iconst 0, 1) := by decide +kernel
theorem dX7_safe_24 : decode cX7_safe 24 = .ok (.ireturn, 1) := by decide +kernel

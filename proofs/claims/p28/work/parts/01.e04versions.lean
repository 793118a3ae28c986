set_option maxRecDepth 20000 in
theorem ggL_versions_X5_head : GoodIn wsL_versions wsX5_head := goodIn_r _ [251, 8, 252, 228, 229, 162, 230, 177, 253, 224, 225, 226, 176, 227, 254, 255, 256, 257, 258, 259, 260, 268, 269, 270, 271, 272, 273] rfl (by decide +kernel)
set_option maxRecDepth 20000 in
theorem gL_versions_X5_head : GoodIn wsL_versions (wsV RL 26 RX5 yX5_head wsX5_head) := goodIn_app (goodIn_of _ (by decide +kernel)) ggL_versions_X5_head
theorem dL_versions_0 : decode cL_versions 0 = .ok (.aload_n 0, 1) := by decide +kernel
theorem dL_versions_1 : decode cL_versions 1 = .ok (.iconst 0, 1) := by decide +kernel
theorem dL_versions_2 : decode cL_versions 2 = .ok (.invokevirtual 13, 3) := by decide +kernel
theorem dL_versions_5 : decode cL_versions 5 = .ok (.istore_n 1, 1) := by decide +kernel
theorem dL_versions_6 : decode cL_versions 6 = .ok (.iconst 0, 1) := by decide +kernel
theorem dL_versions_7 : decode cL_versions 7 = .ok (.istore_n 2, 1) := by decide +kernel
theorem dL_versions_8 : decode cL_versions 8 = .ok (.iconst 0, 1) := by decide +kernel
theorem dL_versions_9 : decode cL_versions 9 = .ok (.istore_n 3, 1) := by decide +kernel
theorem dL_versions_10 : decode cL_versions 10 = .ok (.iconst 0, 1) := by decide +kernel
theorem dL_versions_11 : decode cL_versions 11 = .ok (.istore 4, 2) := by decide +kernel
theorem dL_versions_13 : decode cL_versions 13 = .ok (.iconst 0, 1) := by decide +kernel
theorem dL_versions_14 : decode cL_versions 14 = .ok (.istore 5, 2) := by decide +kernel
theorem dL_versions_16 : decode cL_versions 16 = .ok (.iconst 0, 1) := by decide +kernel
theorem dL_versions_17 : decode cL_versions 17 = .ok (.istore 6, 2) := by decide +kernel
theorem dL_versions_19 : decode cL_versions 19 = .ok (.iconst 0, 1) := by decide +kernel
theorem dL_versions_20 : decode cL_versions 20 = .ok (.istore 7, 2) := by decide +kernel
theorem dL_versions_22 : decode cL_versions 22 = .ok (.iconst 0, 1) := by decide +kernel
theorem dL_versions_23 : decode cL_versions 23 = .ok (.istore 8, 2) := by decide +kernel
theorem dL_versions_25 : decode cL_versions 25 = .ok (.iload 8, 2) := by decide +kernel
theorem dL_versions_27 : decode cL_versions 27 = .ok (.iload_n 1, 1) := by decide +kernel
theorem dL_versions_28 : decode cL_versions 28 = .ok (.if_icmp .ge 691, 3) := by decide +kernel
theorem dL_versions_31 : decode cL_versions 31 = .ok (.aload_n 0, 1) := by decide +kernel
theorem dL_versions_32 : decode cL_versions 32 = .ok (.iload 8, 2) := by decide +kernel
theorem dL_versions_34 : decode cL_versions 34 = .ok (.iconst 0, 1) := by decide +kernel
theorem dL_versions_35 : decode cL_versions 35 = .ok (.invokevirtual 19, 3) := by decide +kernel
theorem dL_versions_38 : decode cL_versions 38 = .ok (.istore 9, 2) := by decide +kernel
theorem dL_versions_40 : decode cL_versions 40 = .ok (.aload_n 0, 1) := by decide +kernel
theorem dL_versions_41 : decode cL_versions 41 = .ok (.iload 8, 2) := by decide +kernel
theorem dL_versions_43 : decode cL_versions 43 = .ok (.iconst 3, 1) := by decide +kernel
theorem dL_versions_44 : decode cL_versions 44 = .ok (.invokevirtual 19, 3) := by decide +kernel
theorem dL_versions_47 : decode cL_versions 47 = .ok (.istore 10, 2) := by decide +kernel
theorem dL_versions_49 : decode cL_versions 49 = .ok (.aload_n 0, 1) := by decide +kernel
theorem dL_versions_50 : decode cL_versions 50 = .ok (.iload 8, 2) := by decide +kernel
theorem dL_versions_52 : decode cL_versions 52 = .ok (.iconst 4, 1) := by decide +kernel
theorem dL_versions_53 : decode cL_versions 53 = .ok (.invokevirtual 19, 3) := by decide +kernel
theorem dL_versions_56 : decode cL_versions 56 = .ok (.istore 11, 2) := by decide +kernel
theorem dL_versions_58 : decode cL_versions 58 = .ok (.iconst 0, 1) := by decide +kernel
theorem dL_versions_59 : decode cL_versions 59 = .ok (.istore 12, 2) := by decide +kernel
theorem dL_versions_61 : decode cL_versions 61 = .ok (.iconst 0, 1) := by decide +kernel
theorem dL_versions_62 : decode cL_versions 62 = .ok (.istore 13, 2) := by decide +kernel
theorem dL_versions_64 : decode cL_versions 64 = .ok (.iload 13, 2) := by decide +kernel
theorem dL_versions_66 : decode cL_versions 66 = .ok (.iload_n 1, 1) := by decide +kernel
theorem dL_versions_67 : decode cL_versions 67 = .ok (.if_icmp .ge 31, 3) := by decide +kernel
theorem dL_versions_70 : decode cL_versions 70 = .ok (.iload 12, 2) := by decide +kernel
theorem dL_versions_72 : decode cL_versions 72 = .ok (.aload_n 0, 1) := by decide +kernel
theorem dL_versions_73 : decode cL_versions 73 = .ok (.iload 13, 2) := by decide +kernel
theorem dL_versions_75 : decode cL_versions 75 = .ok (.iconst 3, 1) := by decide +kernel
theorem dL_versions_76 : decode cL_versions 76 = .ok (.invokevirtual 19, 3) := by decide +kernel
theorem dL_versions_79 : decode cL_versions 79 = .ok (.iload 8, 2) := by decide +kernel
theorem dL_versions_81 : decode cL_versions 81 = .ok (.if_icmp .ne 7, 3) := by decide +kernel
theorem dL_versions_84 : decode cL_versions 84 = .ok (.iconst 1, 1) := by decide +kernel
theorem dL_versions_85 : decode cL_versions 85 = .ok (.goto 4, 3) := by decide +kernel
theorem dL_versions_88 : decode cL_versions 88 = .ok (.iconst 0, 1) := by decide +kernel
theorem dL_versions_89 : decode cL_versions 89 = .ok (.iadd, 1) := by decide +kernel
theorem dL_versions_90 : decode cL_versions 90 = .ok (.istore 12, 2) := by decide +kernel
theorem dL_versions_92 : decode cL_versions 92 = .ok (.iinc 13 1, 3) := by decide +kernel
theorem dL_versions_95 : decode cL_versions 95 = .ok (.goto (-31), 3) := by decide +kernel
theorem dL_versions_98 : decode cL_versions 98 = .ok (.aload_n 0, 1) := by decide +kernel
theorem dL_versions_99 : decode cL_versions 99 = .ok (.iload 8, 2) := by decide +kernel
theorem dL_versions_101 : decode cL_versions 101 = .ok (.bipush 6, 2) := by decide +kernel
theorem dL_versions_103 : decode cL_versions 103 = .ok (.invokevirtual 19, 3) := by decide +kernel
theorem dL_versions_106 : decode cL_versions 106 = .ok (.iload 12, 2) := by decide +kernel
theorem dL_versions_108 : decode cL_versions 108 = .ok (.if_icmp .ne 57, 3) := by decide +kernel
theorem dL_versions_111 : decode cL_versions 111 = .ok (.aload_n 0, 1) := by decide +kernel
theorem dL_versions_112 : decode cL_versions 112 = .ok (.iload 8, 2) := by decide +kernel
theorem dL_versions_114 : decode cL_versions 114 = .ok (.iconst 1, 1) := by decide +kernel
theorem dL_versions_115 : decode cL_versions 115 = .ok (.invokevirtual 19, 3) := by decide +kernel
theorem dL_versions_118 : decode cL_versions 118 = .ok (.iload 8, 2) := by decide +kernel
theorem dL_versions_120 : decode cL_versions 120 = .ok (.if_icmp .ge 45, 3) := by decide +kernel
theorem dL_versions_123 : decode cL_versions 123 = .ok (.aload_n 0, 1) := by decide +kernel
theorem dL_versions_124 : decode cL_versions 124 = .ok (.iload 8, 2) := by decide +kernel
theorem dL_versions_126 : decode cL_versions 126 = .ok (.iconst 2, 1) := by decide +kernel
theorem dL_versions_127 : decode cL_versions 127 = .ok (.invokevirtual 19, 3) := by decide +kernel
theorem dL_versions_130 : decode cL_versions 130 = .ok (.iload 8, 2) := by decide +kernel
theorem dL_versions_132 : decode cL_versions 132 = .ok (.if_icmp .ge 33, 3) := by decide +kernel
theorem dL_versions_135 : decode cL_versions 135 = .ok (.aload_n 0, 1) := by decide +kernel
theorem dL_versions_136 : decode cL_versions 136 = .ok (.iload 8, 2) := by decide +kernel
theorem dL_versions_138 : decode cL_versions 138 = .ok (.iconst 1, 1) := by decide +kernel
theorem dL_versions_139 : decode cL_versions 139 = .ok (.invokevirtual 19, 3) := by decide +kernel
theorem dL_versions_142 : decode cL_versions 142 = .ok (.bipush (-5), 2) := by decide +kernel
theorem dL_versions_144 : decode cL_versions 144 = .ok (.if_icmp .ne 7, 3) := by decide +kernel
theorem dL_versions_147 : decode cL_versions 147 = .ok (.iconst 1, 1) := by decide +kernel
theorem dL_versions_148 : decode cL_versions 148 = .ok (.goto 4, 3) := by decide +kernel
theorem dL_versions_151 : decode cL_versions 151 = .ok (.iconst 0, 1) := by decide +kernel
theorem dL_versions_152 : decode cL_versions 152 = .ok (.iload 8, 2) := by decide +kernel
theorem dL_versions_154 : decode cL_versions 154 = .ok (.ifCond .ne 7, 3) := by decide +kernel
theorem dL_versions_157 : decode cL_versions 157 = .ok (.iconst 1, 1) := by decide +kernel
theorem dL_versions_158 : decode cL_versions 158 = .ok (.goto 4, 3) := by decide +kernel
theorem dL_versions_161 : decode cL_versions 161 = .ok (.iconst 0, 1) := by decide +kernel
theorem dL_versions_162 : decode cL_versions 162 = .ok (.if_icmp .eq 5, 3) := by decide +kernel
theorem dL_versions_165 : decode cL_versions 165 = .ok (.iconst 0, 1) := by decide +kernel
theorem dL_versions_166 : decode cL_versions 166 = .ok (.ireturn, 1) := by decide +kernel
theorem dL_versions_167 : decode cL_versions 167 = .ok (.iload 9, 2) := by decide +kernel
theorem dL_versions_169 : decode cL_versions 169 = .ok (.iconst 2, 1) := by decide +kernel
theorem dL_versions_170 : decode cL_versions 170 = .ok (.if_icmp .ne 77, 3) := by decide +kernel
theorem dL_versions_173 : decode cL_versions 173 = .ok (.iload 10, 2) := by decide +kernel
theorem dL_versions_175 : decode cL_versions 175 = .ok (.bipush (-5), 2) := by decide +kernel
theorem dL_versions_177 : decode cL_versions 177 = .ok (.if_icmp .ne 68, 3) := by decide +kernel
theorem dL_versions_180 : decode cL_versions 180 = .ok (.iload 11, 2) := by decide +kernel
theorem dL_versions_182 : decode cL_versions 182 = .ok (.bipush (-5), 2) := by decide +kernel
theorem dL_versions_184 : decode cL_versions 184 = .ok (.if_icmp .ne 61, 3) := by decide +kernel
theorem dL_versions_187 : decode cL_versions 187 = .ok (.aload_n 0, 1) := by decide +kernel
theorem dL_versions_188 : decode cL_versions 188 = .ok (.iload 8, 2) := by decide +kernel
theorem dL_versions_190 : decode cL_versions 190 = .ok (.iconst 5, 1) := by decide +kernel
theorem dL_versions_191 : decode cL_versions 191 = .ok (.invokevirtual 19, 3) := by decide +kernel
theorem dL_versions_194 : decode cL_versions 194 = .ok (.ifCond .ne 51, 3) := by decide +kernel
theorem dL_versions_197 : decode cL_versions 197 = .ok (.iload 12, 2) := by decide +kernel
theorem dL_versions_199 : decode cL_versions 199 = .ok (.ifCond .gt 46, 3) := by decide +kernel
theorem dL_versions_202 : decode cL_versions 202 = .ok (.aload_n 0, 1) := by decide +kernel
theorem dL_versions_203 : decode cL_versions 203 = .ok (.iload 8, 2) := by decide +kernel
theorem dL_versions_205 : decode cL_versions 205 = .ok (.iconst 0, 1) := by decide +kernel
theorem dL_versions_206 : decode cL_versions 206 = .ok (.invokevirtual 29, 3) := by decide +kernel
theorem dL_versions_209 : decode cL_versions 209 = .ok (.iconst (-1), 1) := by decide +kernel
theorem dL_versions_210 : decode cL_versions 210 = .ok (.if_icmp .ne 35, 3) := by decide +kernel
theorem dL_versions_213 : decode cL_versions 213 = .ok (.aload_n 0, 1) := by decide +kernel
theorem dL_versions_214 : decode cL_versions 214 = .ok (.iload 8, 2) := by decide +kernel
theorem dL_versions_216 : decode cL_versions 216 = .ok (.iconst 0, 1) := by decide +kernel
theorem dL_versions_217 : decode cL_versions 217 = .ok (.invokevirtual 32, 3) := by decide +kernel
theorem dL_versions_220 : decode cL_versions 220 = .ok (.iconst (-1), 1) := by decide +kernel
theorem dL_versions_221 : decode cL_versions 221 = .ok (.if_icmp .ne 24, 3) := by decide +kernel
theorem dL_versions_224 : decode cL_versions 224 = .ok (.aload_n 0, 1) := by decide +kernel
theorem dL_versions_225 : decode cL_versions 225 = .ok (.iload 8, 2) := by decide +kernel
theorem dL_versions_227 : decode cL_versions 227 = .ok (.iconst 0, 1) := by decide +kernel
theorem dL_versions_228 : decode cL_versions 228 = .ok (.invokevirtual 23, 3) := by decide +kernel
theorem dL_versions_231 : decode cL_versions 231 = .ok (.iconst (-1), 1) := by decide +kernel
theorem dL_versions_232 : decode cL_versions 232 = .ok (.if_icmp .ne 13, 3) := by decide +kernel
theorem dL_versions_235 : decode cL_versions 235 = .ok (.aload_n 0, 1) := by decide +kernel
theorem dL_versions_236 : decode cL_versions 236 = .ok (.iload 8, 2) := by decide +kernel
theorem dL_versions_238 : decode cL_versions 238 = .ok (.invokevirtual 35, 3) := by decide +kernel
theorem dL_versions_241 : decode cL_versions 241 = .ok (.iconst (-1), 1) := by decide +kernel
theorem dL_versions_242 : decode cL_versions 242 = .ok (.if_icmp .eq 471, 3) := by decide +kernel
theorem dL_versions_245 : decode cL_versions 245 = .ok (.iconst 0, 1) := by decide +kernel
theorem dL_versions_246 : decode cL_versions 246 = .ok (.ireturn, 1) := by decide +kernel
theorem dL_versions_247 : decode cL_versions 247 = .ok (.iload_n 2, 1) := by decide +kernel
theorem dL_versions_248 : decode cL_versions 248 = .ok (.iload 9, 2) := by decide +kernel
theorem dL_versions_250 : decode cL_versions 250 = .ok (.ifCond .ne 7, 3) := by decide +kernel
theorem dL_versions_253 : decode cL_versions 253 = .ok (.iconst 1, 1) := by decide +kernel
theorem dL_versions_254 : decode cL_versions 254 = .ok (.goto 4, 3) := by decide +kernel
theorem dL_versions_257 : decode cL_versions 257 = .ok (.iconst 0, 1) := by decide +kernel
theorem dL_versions_258 : decode cL_versions 258 = .ok (.iadd, 1) := by decide +kernel
theorem dL_versions_259 : decode cL_versions 259 = .ok (.istore_n 2, 1) := by decide +kernel
theorem dL_versions_260 : decode cL_versions 260 = .ok (.iload_n 3, 1) := by decide +kernel
theorem dL_versions_261 : decode cL_versions 261 = .ok (.iload 9, 2) := by decide +kernel
theorem dL_versions_263 : decode cL_versions 263 = .ok (.iconst 1, 1) := by decide +kernel
theorem dL_versions_264 : decode cL_versions 264 = .ok (.if_icmp .ne 7, 3) := by decide +kernel
theorem dL_versions_267 : decode cL_versions 267 = .ok (.iconst 1, 1) := by decide +kernel
theorem dL_versions_268 : decode cL_versions 268 = .ok (.goto 4, 3) := by decide +kernel
theorem dL_versions_271 : decode cL_versions 271 = .ok (.iconst 0, 1) := by decide +kernel
theorem dL_versions_272 : decode cL_versions 272 = .ok (.iadd, 1) := by decide +kernel
theorem dL_versions_273 : decode cL_versions 273 = .ok (.istore_n 3, 1) := by decide +kernel
theorem dL_versions_274 : decode cL_versions 274 = .ok (.iload 4, 2) := by decide +kernel
theorem dL_versions_276 : decode cL_versions 276 = .ok (.aload_n 0, 1) := by decide +kernel
theorem dL_versions_277 : decode cL_versions 277 = .ok (.iload 8, 2) := by decide +kernel
theorem dL_versions_279 : decode cL_versions 279 = .ok (.iconst 5, 1) := by decide +kernel
theorem dL_versions_280 : decode cL_versions 280 = .ok (.invokevirtual 19, 3) := by decide +kernel
theorem dL_versions_283 : decode cL_versions 283 = .ok (.iadd, 1) := by decide +kernel
theorem dL_versions_284 : decode cL_versions 284 = .ok (.istore 4, 2) := by decide +kernel
theorem dL_versions_286 : decode cL_versions 286 = .ok (.iload 5, 2) := by decide +kernel
theorem dL_versions_288 : decode cL_versions 288 = .ok (.iload 10, 2) := by decide +kernel
theorem dL_versions_290 : decode cL_versions 290 = .ok (.bipush (-5), 2) := by decide +kernel
theorem dL_versions_292 : decode cL_versions 292 = .ok (.if_icmp .ne 7, 3) := by decide +kernel
theorem dL_versions_295 : decode cL_versions 295 = .ok (.iconst 1, 1) := by decide +kernel
theorem dL_versions_296 : decode cL_versions 296 = .ok (.goto 4, 3) := by decide +kernel
theorem dL_versions_299 : decode cL_versions 299 = .ok (.iconst 0, 1) := by decide +kernel
theorem dL_versions_300 : decode cL_versions 300 = .ok (.iadd, 1) := by decide +kernel
theorem dL_versions_301 : decode cL_versions 301 = .ok (.istore 5, 2) := by decide +kernel
theorem dL_versions_303 : decode cL_versions 303 = .ok (.iload 11, 2) := by decide +kernel
theorem dL_versions_305 : decode cL_versions 305 = .ok (.iload 6, 2) := by decide +kernel
theorem dL_versions_307 : decode cL_versions 307 = .ok (.if_icmp .le 8, 3) := by decide +kernel
theorem dL_versions_310 : decode cL_versions 310 = .ok (.iload 11, 2) := by decide +kernel
theorem dL_versions_312 : decode cL_versions 312 = .ok (.goto 5, 3) := by decide +kernel
theorem dL_versions_315 : decode cL_versions 315 = .ok (.iload 6, 2) := by decide +kernel
theorem dL_versions_317 : decode cL_versions 317 = .ok (.istore 6, 2) := by decide +kernel
theorem dL_versions_319 : decode cL_versions 319 = .ok (.iload 8, 2) := by decide +kernel
theorem dL_versions_321 : decode cL_versions 321 = .ok (.istore 13, 2) := by decide +kernel
theorem dL_versions_323 : decode cL_versions 323 = .ok (.iconst 0, 1) := by decide +kernel
theorem dL_versions_324 : decode cL_versions 324 = .ok (.istore 14, 2) := by decide +kernel
theorem dL_versions_326 : decode cL_versions 326 = .ok (.iconst 0, 1) := by decide +kernel
theorem dL_versions_327 : decode cL_versions 327 = .ok (.istore 15, 2) := by decide +kernel
theorem dL_versions_329 : decode cL_versions 329 = .ok (.bipush (-5), 2) := by decide +kernel
theorem dL_versions_331 : decode cL_versions 331 = .ok (.istore 16, 2) := by decide +kernel
theorem dL_versions_333 : decode cL_versions 333 = .ok (.iconst 0, 1) := by decide +kernel
theorem dL_versions_334 : decode cL_versions 334 = .ok (.istore 17, 2) := by decide +kernel
theorem dL_versions_336 : decode cL_versions 336 = .ok (.iload 13, 2) := by decide +kernel
theorem dL_versions_338 : decode cL_versions 338 = .ok (.bipush (-5), 2) := by decide +kernel
theorem dL_versions_340 : decode cL_versions 340 = .ok (.if_icmp .eq 94, 3) := by decide +kernel
theorem dL_versions_343 : decode cL_versions 343 = .ok (.iload 14, 2) := by decide +kernel
theorem dL_versions_345 : decode cL_versions 345 = .ok (.bipush 20, 2) := by decide +kernel
theorem dL_versions_347 : decode cL_versions 347 = .ok (.if_icmp .ge 87, 3) := by decide +kernel
theorem dL_versions_350 : decode cL_versions 350 = .ok (.aload_n 0, 1) := by decide +kernel
theorem dL_versions_351 : decode cL_versions 351 = .ok (.iload 8, 2) := by decide +kernel
theorem dL_versions_353 : decode cL_versions 353 = .ok (.iload 14, 2) := by decide +kernel
theorem dL_versions_355 : decode cL_versions 355 = .ok (.invokevirtual 29, 3) := by decide +kernel
theorem dL_versions_358 : decode cL_versions 358 = .ok (.iload 13, 2) := by decide +kernel
theorem dL_versions_360 : decode cL_versions 360 = .ok (.if_icmp .ne 14, 3) := by decide +kernel
theorem dL_versions_363 : decode cL_versions 363 = .ok (.aload_n 0, 1) := by decide +kernel
theorem dL_versions_364 : decode cL_versions 364 = .ok (.iload 13, 2) := by decide +kernel
theorem dL_versions_366 : decode cL_versions 366 = .ok (.iconst 0, 1) := by decide +kernel
theorem dL_versions_367 : decode cL_versions 367 = .ok (.invokevirtual 19, 3) := by decide +kernel
theorem dL_versions_370 : decode cL_versions 370 = .ok (.iconst 2, 1) := by decide +kernel
theorem dL_versions_371 : decode cL_versions 371 = .ok (.if_icmp .ne 5, 3) := by decide +kernel
theorem dL_versions_374 : decode cL_versions 374 = .ok (.iconst 0, 1) := by decide +kernel
theorem dL_versions_375 : decode cL_versions 375 = .ok (.ireturn, 1) := by decide +kernel
theorem dL_versions_376 : decode cL_versions 376 = .ok (.aload_n 0, 1) := by decide +kernel
theorem dL_versions_377 : decode cL_versions 377 = .ok (.iload 13, 2) := by decide +kernel
theorem dL_versions_379 : decode cL_versions 379 = .ok (.bipush 7, 2) := by decide +kernel
theorem dL_versions_381 : decode cL_versions 381 = .ok (.invokevirtual 19, 3) := by decide +kernel
theorem dL_versions_384 : decode cL_versions 384 = .ok (.iconst 1, 1) := by decide +kernel
theorem dL_versions_385 : decode cL_versions 385 = .ok (.if_icmp .ne 34, 3) := by decide +kernel
theorem dL_versions_388 : decode cL_versions 388 = .ok (.iinc 15 1, 3) := by decide +kernel
theorem dL_versions_391 : decode cL_versions 391 = .ok (.iload 16, 2) := by decide +kernel
theorem dL_versions_393 : decode cL_versions 393 = .ok (.ifCond .ge 8, 3) := by decide +kernel
theorem dL_versions_396 : decode cL_versions 396 = .ok (.iload 14, 2) := by decide +kernel
theorem dL_versions_398 : decode cL_versions 398 = .ok (.goto 5, 3) := by decide +kernel
theorem dL_versions_401 : decode cL_versions 401 = .ok (.iload 17, 2) := by decide +kernel
theorem dL_versions_403 : decode cL_versions 403 = .ok (.istore 17, 2) := by decide +kernel
theorem dL_versions_405 : decode cL_versions 405 = .ok (.iload 16, 2) := by decide +kernel
theorem dL_versions_407 : decode cL_versions 407 = .ok (.ifCond .ge 8, 3) := by decide +kernel
theorem dL_versions_410 : decode cL_versions 410 = .ok (.iload 13, 2) := by decide +kernel
theorem dL_versions_412 : decode cL_versions 412 = .ok (.goto 5, 3) := by decide +kernel
theorem dL_versions_415 : decode cL_versions 415 = .ok (.iload 16, 2) := by decide +kernel
theorem dL_versions_417 : decode cL_versions 417 = .ok (.istore 16, 2) := by decide +kernel
theorem dL_versions_419 : decode cL_versions 419 = .ok (.aload_n 0, 1) := by decide +kernel
theorem dL_versions_420 : decode cL_versions 420 = .ok (.iload 13, 2) := by decide +kernel
theorem dL_versions_422 : decode cL_versions 422 = .ok (.iconst 3, 1) := by decide +kernel
theorem dL_versions_423 : decode cL_versions 423 = .ok (.invokevirtual 19, 3) := by decide +kernel
theorem dL_versions_426 : decode cL_versions 426 = .ok (.istore 13, 2) := by decide +kernel
theorem dL_versions_428 : decode cL_versions 428 = .ok (.iinc 14 1, 3) := by decide +kernel
theorem dL_versions_431 : decode cL_versions 431 = .ok (.goto (-95), 3) := by decide +kernel
theorem dL_versions_434 : decode cL_versions 434 = .ok (.iload 16, 2) := by decide +kernel
theorem dL_versions_436 : decode cL_versions 436 = .ok (.ifCond .lt 7, 3) := by decide +kernel
theorem dL_versions_439 : decode cL_versions 439 = .ok (.iconst 1, 1) := by decide +kernel
theorem dL_versions_440 : decode cL_versions 440 = .ok (.goto 4, 3) := by decide +kernel
theorem dL_versions_443 : decode cL_versions 443 = .ok (.iconst 0, 1) := by decide +kernel
theorem dL_versions_444 : decode cL_versions 444 = .ok (.istore 18, 2) := by decide +kernel
theorem dL_versions_446 : decode cL_versions 446 = .ok (.iload 7, 2) := by decide +kernel
theorem dL_versions_448 : decode cL_versions 448 = .ok (.iload 18, 2) := by decide +kernel
theorem dL_versions_450 : decode cL_versions 450 = .ok (.ifCond .eq 7, 3) := by decide +kernel
theorem dL_versions_453 : decode cL_versions 453 = .ok (.iconst 1, 1) := by decide +kernel
theorem dL_versions_454 : decode cL_versions 454 = .ok (.goto 4, 3) := by decide +kernel
theorem dL_versions_457 : decode cL_versions 457 = .ok (.iconst 0, 1) := by decide +kernel
theorem dL_versions_458 : decode cL_versions 458 = .ok (.iadd, 1) := by decide +kernel
theorem dL_versions_459 : decode cL_versions 459 = .ok (.istore 7, 2) := by decide +kernel
theorem dL_versions_461 : decode cL_versions 461 = .ok (.iload 11, 2) := by decide +kernel
theorem dL_versions_463 : decode cL_versions 463 = .ok (.iload 14, 2) := by decide +kernel
theorem dL_versions_465 : decode cL_versions 465 = .ok (.iconst 1, 1) := by decide +kernel
theorem dL_versions_466 : decode cL_versions 466 = .ok (.isub, 1) := by decide +kernel
theorem dL_versions_467 : decode cL_versions 467 = .ok (.if_icmp .ne 82, 3) := by decide +kernel
theorem dL_versions_470 : decode cL_versions 470 = .ok (.iload 11, 2) := by decide +kernel
theorem dL_versions_472 : decode cL_versions 472 = .ok (.aload_n 0, 1) := by decide +kernel
theorem dL_versions_473 : decode cL_versions 473 = .ok (.iconst 5, 1) := by decide +kernel
theorem dL_versions_474 : decode cL_versions 474 = .ok (.invokevirtual 13, 3) := by decide +kernel
theorem dL_versions_477 : decode cL_versions 477 = .ok (.if_icmp .gt 72, 3) := by decide +kernel
theorem dL_versions_480 : decode cL_versions 480 = .ok (.aload_n 0, 1) := by decide +kernel
theorem dL_versions_481 : decode cL_versions 481 = .ok (.iload 8, 2) := by decide +kernel
theorem dL_versions_483 : decode cL_versions 483 = .ok (.iload 14, 2) := by decide +kernel
theorem dL_versions_485 : decode cL_versions 485 = .ok (.invokevirtual 29, 3) := by decide +kernel
theorem dL_versions_488 : decode cL_versions 488 = .ok (.bipush (-5), 2) := by decide +kernel
theorem dL_versions_490 : decode cL_versions 490 = .ok (.if_icmp .ne 59, 3) := by decide +kernel
theorem dL_versions_493 : decode cL_versions 493 = .ok (.aload_n 0, 1) := by decide +kernel
theorem dL_versions_494 : decode cL_versions 494 = .ok (.iload 8, 2) := by decide +kernel
theorem dL_versions_496 : decode cL_versions 496 = .ok (.iconst 0, 1) := by decide +kernel
theorem dL_versions_497 : decode cL_versions 497 = .ok (.invokevirtual 32, 3) := by decide +kernel
theorem dL_versions_500 : decode cL_versions 500 = .ok (.iload 16, 2) := by decide +kernel
theorem dL_versions_502 : decode cL_versions 502 = .ok (.if_icmp .ne 47, 3) := by decide +kernel
theorem dL_versions_505 : decode cL_versions 505 = .ok (.aload_n 0, 1) := by decide +kernel
theorem dL_versions_506 : decode cL_versions 506 = .ok (.iload 8, 2) := by decide +kernel
theorem dL_versions_508 : decode cL_versions 508 = .ok (.iconst 1, 1) := by decide +kernel
theorem dL_versions_509 : decode cL_versions 509 = .ok (.invokevirtual 32, 3) := by decide +kernel
theorem dL_versions_512 : decode cL_versions 512 = .ok (.iload 18, 2) := by decide +kernel
theorem dL_versions_514 : decode cL_versions 514 = .ok (.ifCond .eq 8, 3) := by decide +kernel
theorem dL_versions_517 : decode cL_versions 517 = .ok (.iload 17, 2) := by decide +kernel
theorem dL_versions_519 : decode cL_versions 519 = .ok (.goto 5, 3) := by decide +kernel
theorem dL_versions_522 : decode cL_versions 522 = .ok (.bipush (-5), 2) := by decide +kernel
theorem dL_versions_524 : decode cL_versions 524 = .ok (.if_icmp .ne 25, 3) := by decide +kernel
theorem dL_versions_527 : decode cL_versions 527 = .ok (.aload_n 0, 1) := by decide +kernel
theorem dL_versions_528 : decode cL_versions 528 = .ok (.iload 8, 2) := by decide +kernel
theorem dL_versions_530 : decode cL_versions 530 = .ok (.iconst 2, 1) := by decide +kernel
theorem dL_versions_531 : decode cL_versions 531 = .ok (.invokevirtual 32, 3) := by decide +kernel
theorem dL_versions_534 : decode cL_versions 534 = .ok (.iload 18, 2) := by decide +kernel
theorem dL_versions_536 : decode cL_versions 536 = .ok (.ifCond .eq 8, 3) := by decide +kernel
theorem dL_versions_539 : decode cL_versions 539 = .ok (.iload 15, 2) := by decide +kernel
theorem dL_versions_541 : decode cL_versions 541 = .ok (.goto 5, 3) := by decide +kernel
theorem dL_versions_544 : decode cL_versions 544 = .ok (.bipush (-5), 2) := by decide +kernel
theorem dL_versions_546 : decode cL_versions 546 = .ok (.if_icmp .eq 5, 3) := by decide +kernel
theorem dL_versions_549 : decode cL_versions 549 = .ok (.iconst 0, 1) := by decide +kernel
theorem dL_versions_550 : decode cL_versions 550 = .ok (.ireturn, 1) := by decide +kernel
theorem dL_versions_551 : decode cL_versions 551 = .ok (.iload 10, 2) := by decide +kernel
theorem dL_versions_553 : decode cL_versions 553 = .ok (.bipush (-5), 2) := by decide +kernel
theorem dL_versions_555 : decode cL_versions 555 = .ok (.if_icmp .ne 18, 3) := by decide +kernel
theorem dL_versions_558 : decode cL_versions 558 = .ok (.aload_n 0, 1) := by decide +kernel
theorem dL_versions_559 : decode cL_versions 559 = .ok (.iload 8, 2) := by decide +kernel
theorem dL_versions_561 : decode cL_versions 561 = .ok (.iconst 5, 1) := by decide +kernel
theorem dL_versions_562 : decode cL_versions 562 = .ok (.invokevirtual 19, 3) := by decide +kernel
theorem dL_versions_565 : decode cL_versions 565 = .ok (.bipush 12, 2) := by decide +kernel
theorem dL_versions_567 : decode cL_versions 567 = .ok (.if_icmp .eq 60, 3) := by decide +kernel
theorem dL_versions_570 : decode cL_versions 570 = .ok (.goto 55, 3) := by decide +kernel
theorem dL_versions_573 : decode cL_versions 573 = .ok (.aload_n 0, 1) := by decide +kernel
theorem dL_versions_574 : decode cL_versions 574 = .ok (.iload 8, 2) := by decide +kernel
theorem dL_versions_576 : decode cL_versions 576 = .ok (.iconst 5, 1) := by decide +kernel

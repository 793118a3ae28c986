set_option maxRecDepth 20000 in
theorem ggL_stores_X5_setLimit : GoodIn wsL_stores wsX5_setLimit := goodIn_r _ [239, 6, 8, 10, 13, 61, 62, 63, 20, 64, 22, 65, 66, 67, 68, 40, 41, 42, 43, 27, 28, 29, 30, 31, 69, 70, 71, 72, 44, 45, 46, 47, 48, 138, 139, 140, 141, 142, 143, 144, 145, 146, 147, 148, 149, 150, 151, 152, 153, 154, 155, 156, 157, 158, 159, 160, 161, 162, 163, 164, 165, 166, 167, 168, 105, 110, 89, 53, 169, 170, 171, 172, 173, 174, 175, 176, 177, 178, 179, 180, 181, 270, 271, 272, 273, 274, 275, 276, 284, 285, 286, 287, 288, 289, 277, 278, 279, 280, 281, 282, 283, 290, 291, 292] rfl (by decide +kernel)
set_option maxRecDepth 20000 in
theorem gL_stores_X5_setLimit : GoodIn wsL_stores (wsV RL 79 RX5 yX5_setLimit wsX5_setLimit) := goodIn_app (goodIn_of _ (by decide +kernel)) ggL_stores_X5_setLimit
set_option maxRecDepth 20000 in
theorem ggL_stores_X5_optimize : GoodIn wsL_stores wsX5_optimize := goodIn_r _ [243, 6, 244, 8, 10, 13, 245, 73, 74, 75, 20, 76, 22, 40, 41, 42, 43, 27, 28, 29, 30, 31, 77, 78, 79, 80, 81, 82, 83, 84, 85, 86, 87, 88, 89, 44, 45, 46, 47, 48, 246, 247, 248, 249, 250, 251, 252, 253, 254, 255, 256, 257, 258, 259, 50, 51, 52, 53, 260, 55, 56, 261, 262, 263, 264, 265, 138, 139, 140, 141, 142, 143, 144, 145, 146, 147, 148, 149, 150, 67, 151, 152, 153, 154, 155, 156, 157, 158, 159, 160, 161, 162, 163, 164, 165, 166, 167, 168, 105, 110, 169, 170, 171, 172, 173, 174, 175, 176, 177, 178, 179, 180, 181, 32, 33, 34, 35, 36, 37, 38, 39, 49, 54, 266, 267, 268, 269, 186, 187, 188, 189, 190, 191, 192, 193, 194, 116, 117, 118, 270, 271, 272, 273, 274, 275, 276, 284, 285, 286, 287, 288, 289, 297, 298, 277, 278, 279, 280, 281, 282, 283, 290, 291, 292] rfl (by decide +kernel)
set_option maxRecDepth 20000 in
theorem gL_stores_X5_optimize : GoodIn wsL_stores (wsV RL 82 RX5 yX5_optimize wsX5_optimize) := goodIn_app (goodIn_of _ (by decide +kernel)) ggL_stores_X5_optimize
theorem dL_stores_0 : decode cL_stores 0 = .ok (.iload_n 2, 1) := by decide +kernel
theorem dL_stores_1 : decode cL_stores 1 = .ok (.aload_n 0, 1) := by decide +kernel
theorem dL_stores_2 : decode cL_stores 2 = .ok (.iconst 0, 1) := by decide +kernel
theorem dL_stores_3 : decode cL_stores 3 = .ok (.invokevirtual 13, 3) := by decide +kernel
theorem dL_stores_6 : decode cL_stores 6 = .ok (.invokestatic 51, 3) := by decide +kernel
theorem dL_stores_9 : decode cL_stores 9 = .ok (.istore 4, 2) := by decide +kernel
theorem dL_stores_11 : decode cL_stores 11 = .ok (.iload_n 3, 1) := by decide +kernel
theorem dL_stores_12 : decode cL_stores 12 = .ok (.aload_n 0, 1) := by decide +kernel
theorem dL_stores_13 : decode cL_stores 13 = .ok (.iconst 0, 1) := by decide +kernel
theorem dL_stores_14 : decode cL_stores 14 = .ok (.invokevirtual 13, 3) := by decide +kernel
theorem dL_stores_17 : decode cL_stores 17 = .ok (.invokestatic 51, 3) := by decide +kernel
theorem dL_stores_20 : decode cL_stores 20 = .ok (.istore 5, 2) := by decide +kernel
theorem dL_stores_22 : decode cL_stores 22 = .ok (.aload_n 0, 1) := by decide +kernel
theorem dL_stores_23 : decode cL_stores 23 = .ok (.iload 4, 2) := by decide +kernel
theorem dL_stores_25 : decode cL_stores 25 = .ok (.iconst 0, 1) := by decide +kernel
theorem dL_stores_26 : decode cL_stores 26 = .ok (.invokevirtual 19, 3) := by decide +kernel
theorem dL_stores_29 : decode cL_stores 29 = .ok (.iconst 2, 1) := by decide +kernel
theorem dL_stores_30 : decode cL_stores 30 = .ok (.if_icmp .ge 7, 3) := by decide +kernel
theorem dL_stores_33 : decode cL_stores 33 = .ok (.iconst 1, 1) := by decide +kernel
theorem dL_stores_34 : decode cL_stores 34 = .ok (.goto 4, 3) := by decide +kernel
theorem dL_stores_37 : decode cL_stores 37 = .ok (.iconst 0, 1) := by decide +kernel
theorem dL_stores_38 : decode cL_stores 38 = .ok (.istore 6, 2) := by decide +kernel
theorem dL_stores_40 : decode cL_stores 40 = .ok (.aload_n 0, 1) := by decide +kernel
theorem dL_stores_41 : decode cL_stores 41 = .ok (.iload 4, 2) := by decide +kernel
theorem dL_stores_43 : decode cL_stores 43 = .ok (.iconst 0, 1) := by decide +kernel
theorem dL_stores_44 : decode cL_stores 44 = .ok (.invokevirtual 32, 3) := by decide +kernel
theorem dL_stores_47 : decode cL_stores 47 = .ok (.ifCond .lt 7, 3) := by decide +kernel
theorem dL_stores_50 : decode cL_stores 50 = .ok (.iconst 1, 1) := by decide +kernel
theorem dL_stores_51 : decode cL_stores 51 = .ok (.goto 4, 3) := by decide +kernel
theorem dL_stores_54 : decode cL_stores 54 = .ok (.iconst 0, 1) := by decide +kernel
theorem dL_stores_55 : decode cL_stores 55 = .ok (.istore 7, 2) := by decide +kernel
theorem dL_stores_57 : decode cL_stores 57 = .ok (.aload_n 0, 1) := by decide +kernel
theorem dL_stores_58 : decode cL_stores 58 = .ok (.bipush 6, 2) := by decide +kernel
theorem dL_stores_60 : decode cL_stores 60 = .ok (.invokevirtual 13, 3) := by decide +kernel
theorem dL_stores_63 : decode cL_stores 63 = .ok (.istore 8, 2) := by decide +kernel
theorem dL_stores_65 : decode cL_stores 65 = .ok (.aload_n 0, 1) := by decide +kernel
theorem dL_stores_66 : decode cL_stores 66 = .ok (.iload 4, 2) := by decide +kernel
theorem dL_stores_68 : decode cL_stores 68 = .ok (.iconst 3, 1) := by decide +kernel
theorem dL_stores_69 : decode cL_stores 69 = .ok (.invokevirtual 19, 3) := by decide +kernel
theorem dL_stores_72 : decode cL_stores 72 = .ok (.istore 9, 2) := by decide +kernel
theorem dL_stores_74 : decode cL_stores 74 = .ok (.iload_n 1, 1) := by decide +kernel
theorem dL_stores_75 : decode cL_stores 75 = .ok (.bipush 7, 2) := by decide +kernel
theorem dL_stores_77 : decode cL_stores 77 = .ok (.if_icmp .ne 118, 3) := by decide +kernel
theorem dL_stores_80 : decode cL_stores 80 = .ok (.aload_n 0, 1) := by decide +kernel
theorem dL_stores_81 : decode cL_stores 81 = .ok (.iload 4, 2) := by decide +kernel
theorem dL_stores_83 : decode cL_stores 83 = .ok (.invokevirtual 35, 3) := by decide +kernel
theorem dL_stores_86 : decode cL_stores 86 = .ok (.istore 10, 2) := by decide +kernel
theorem dL_stores_88 : decode cL_stores 88 = .ok (.iload 6, 2) := by decide +kernel
theorem dL_stores_90 : decode cL_stores 90 = .ok (.ifCond .ne 17, 3) := by decide +kernel
theorem dL_stores_93 : decode cL_stores 93 = .ok (.iload 10, 2) := by decide +kernel
theorem dL_stores_95 : decode cL_stores 95 = .ok (.iconst (-1), 1) := by decide +kernel
theorem dL_stores_96 : decode cL_stores 96 = .ok (.if_icmp .ne 7, 3) := by decide +kernel
theorem dL_stores_99 : decode cL_stores 99 = .ok (.iconst 1, 1) := by decide +kernel
theorem dL_stores_100 : decode cL_stores 100 = .ok (.goto 94, 3) := by decide +kernel
theorem dL_stores_103 : decode cL_stores 103 = .ok (.iconst 0, 1) := by decide +kernel
theorem dL_stores_104 : decode cL_stores 104 = .ok (.goto 90, 3) := by decide +kernel
theorem dL_stores_107 : decode cL_stores 107 = .ok (.iload 7, 2) := by decide +kernel
theorem dL_stores_109 : decode cL_stores 109 = .ok (.ifCond .eq 18, 3) := by decide +kernel
theorem dL_stores_112 : decode cL_stores 112 = .ok (.iload 10, 2) := by decide +kernel
theorem dL_stores_114 : decode cL_stores 114 = .ok (.bipush (-6), 2) := by decide +kernel
theorem dL_stores_116 : decode cL_stores 116 = .ok (.if_icmp .ne 7, 3) := by decide +kernel
theorem dL_stores_119 : decode cL_stores 119 = .ok (.iconst 1, 1) := by decide +kernel
theorem dL_stores_120 : decode cL_stores 120 = .ok (.goto 74, 3) := by decide +kernel
theorem dL_stores_123 : decode cL_stores 123 = .ok (.iconst 0, 1) := by decide +kernel
theorem dL_stores_124 : decode cL_stores 124 = .ok (.goto 70, 3) := by decide +kernel
theorem dL_stores_127 : decode cL_stores 127 = .ok (.iload 9, 2) := by decide +kernel
theorem dL_stores_129 : decode cL_stores 129 = .ok (.bipush (-5), 2) := by decide +kernel
theorem dL_stores_131 : decode cL_stores 131 = .ok (.if_icmp .ne 18, 3) := by decide +kernel
theorem dL_stores_134 : decode cL_stores 134 = .ok (.iload 10, 2) := by decide +kernel
theorem dL_stores_136 : decode cL_stores 136 = .ok (.bipush (-5), 2) := by decide +kernel
theorem dL_stores_138 : decode cL_stores 138 = .ok (.if_icmp .ne 7, 3) := by decide +kernel
theorem dL_stores_141 : decode cL_stores 141 = .ok (.iconst 1, 1) := by decide +kernel
theorem dL_stores_142 : decode cL_stores 142 = .ok (.goto 52, 3) := by decide +kernel
theorem dL_stores_145 : decode cL_stores 145 = .ok (.iconst 0, 1) := by decide +kernel
theorem dL_stores_146 : decode cL_stores 146 = .ok (.goto 48, 3) := by decide +kernel
theorem dL_stores_149 : decode cL_stores 149 = .ok (.iload 10, 2) := by decide +kernel
theorem dL_stores_151 : decode cL_stores 151 = .ok (.sipush 1000, 3) := by decide +kernel
theorem dL_stores_154 : decode cL_stores 154 = .ok (.iload 8, 2) := by decide +kernel
theorem dL_stores_156 : decode cL_stores 156 = .ok (.iadd, 1) := by decide +kernel
theorem dL_stores_157 : decode cL_stores 157 = .ok (.aload_n 0, 1) := by decide +kernel
theorem dL_stores_158 : decode cL_stores 158 = .ok (.bipush 6, 2) := by decide +kernel
theorem dL_stores_160 : decode cL_stores 160 = .ok (.invokevirtual 13, 3) := by decide +kernel
theorem dL_stores_163 : decode cL_stores 163 = .ok (.isub, 1) := by decide +kernel
theorem dL_stores_164 : decode cL_stores 164 = .ok (.if_icmp .ne 29, 3) := by decide +kernel
theorem dL_stores_167 : decode cL_stores 167 = .ok (.aload_n 0, 1) := by decide +kernel
theorem dL_stores_168 : decode cL_stores 168 = .ok (.iload 4, 2) := by decide +kernel
theorem dL_stores_170 : decode cL_stores 170 = .ok (.iconst 3, 1) := by decide +kernel
theorem dL_stores_171 : decode cL_stores 171 = .ok (.invokevirtual 19, 3) := by decide +kernel
theorem dL_stores_174 : decode cL_stores 174 = .ok (.bipush (-5), 2) := by decide +kernel
theorem dL_stores_176 : decode cL_stores 176 = .ok (.if_icmp .ne 17, 3) := by decide +kernel
theorem dL_stores_179 : decode cL_stores 179 = .ok (.aload_n 0, 1) := by decide +kernel
theorem dL_stores_180 : decode cL_stores 180 = .ok (.iload 4, 2) := by decide +kernel
theorem dL_stores_182 : decode cL_stores 182 = .ok (.iconst 4, 1) := by decide +kernel
theorem dL_stores_183 : decode cL_stores 183 = .ok (.invokevirtual 19, 3) := by decide +kernel
theorem dL_stores_186 : decode cL_stores 186 = .ok (.ifCond .ne 7, 3) := by decide +kernel
theorem dL_stores_189 : decode cL_stores 189 = .ok (.iconst 1, 1) := by decide +kernel
theorem dL_stores_190 : decode cL_stores 190 = .ok (.goto 4, 3) := by decide +kernel
theorem dL_stores_193 : decode cL_stores 193 = .ok (.iconst 0, 1) := by decide +kernel
theorem dL_stores_194 : decode cL_stores 194 = .ok (.ireturn, 1) := by decide +kernel
theorem dL_stores_195 : decode cL_stores 195 = .ok (.iload_n 1, 1) := by decide +kernel
theorem dL_stores_196 : decode cL_stores 196 = .ok (.bipush 8, 2) := by decide +kernel
theorem dL_stores_198 : decode cL_stores 198 = .ok (.if_icmp .ne 313, 3) := by decide +kernel
theorem dL_stores_201 : decode cL_stores 201 = .ok (.aload_n 0, 1) := by decide +kernel
theorem dL_stores_202 : decode cL_stores 202 = .ok (.iload 5, 2) := by decide +kernel
theorem dL_stores_204 : decode cL_stores 204 = .ok (.iconst 0, 1) := by decide +kernel
theorem dL_stores_205 : decode cL_stores 205 = .ok (.invokevirtual 19, 3) := by decide +kernel
theorem dL_stores_208 : decode cL_stores 208 = .ok (.iconst 2, 1) := by decide +kernel
theorem dL_stores_209 : decode cL_stores 209 = .ok (.if_icmp .ge 7, 3) := by decide +kernel
theorem dL_stores_212 : decode cL_stores 212 = .ok (.iconst 1, 1) := by decide +kernel
theorem dL_stores_213 : decode cL_stores 213 = .ok (.goto 4, 3) := by decide +kernel
theorem dL_stores_216 : decode cL_stores 216 = .ok (.iconst 0, 1) := by decide +kernel
theorem dL_stores_217 : decode cL_stores 217 = .ok (.istore 10, 2) := by decide +kernel
theorem dL_stores_219 : decode cL_stores 219 = .ok (.aload_n 0, 1) := by decide +kernel
theorem dL_stores_220 : decode cL_stores 220 = .ok (.iload 5, 2) := by decide +kernel
theorem dL_stores_222 : decode cL_stores 222 = .ok (.iconst 0, 1) := by decide +kernel
theorem dL_stores_223 : decode cL_stores 223 = .ok (.invokevirtual 32, 3) := by decide +kernel
theorem dL_stores_226 : decode cL_stores 226 = .ok (.ifCond .lt 7, 3) := by decide +kernel
theorem dL_stores_229 : decode cL_stores 229 = .ok (.iconst 1, 1) := by decide +kernel
theorem dL_stores_230 : decode cL_stores 230 = .ok (.goto 4, 3) := by decide +kernel
theorem dL_stores_233 : decode cL_stores 233 = .ok (.iconst 0, 1) := by decide +kernel
theorem dL_stores_234 : decode cL_stores 234 = .ok (.istore 11, 2) := by decide +kernel
theorem dL_stores_236 : decode cL_stores 236 = .ok (.iconst 0, 1) := by decide +kernel
theorem dL_stores_237 : decode cL_stores 237 = .ok (.istore 12, 2) := by decide +kernel
theorem dL_stores_239 : decode cL_stores 239 = .ok (.iconst 0, 1) := by decide +kernel
theorem dL_stores_240 : decode cL_stores 240 = .ok (.istore 13, 2) := by decide +kernel
theorem dL_stores_242 : decode cL_stores 242 = .ok (.iload 13, 2) := by decide +kernel
theorem dL_stores_244 : decode cL_stores 244 = .ok (.bipush 9, 2) := by decide +kernel
theorem dL_stores_246 : decode cL_stores 246 = .ok (.if_icmp .ge 37, 3) := by decide +kernel
theorem dL_stores_249 : decode cL_stores 249 = .ok (.iload 10, 2) := by decide +kernel
theorem dL_stores_251 : decode cL_stores 251 = .ok (.ifCond .eq 32, 3) := by decide +kernel
theorem dL_stores_254 : decode cL_stores 254 = .ok (.iload 12, 2) := by decide +kernel
theorem dL_stores_256 : decode cL_stores 256 = .ok (.aload_n 0, 1) := by decide +kernel
theorem dL_stores_257 : decode cL_stores 257 = .ok (.iload 5, 2) := by decide +kernel
theorem dL_stores_259 : decode cL_stores 259 = .ok (.iload 13, 2) := by decide +kernel
theorem dL_stores_261 : decode cL_stores 261 = .ok (.invokevirtual 29, 3) := by decide +kernel
theorem dL_stores_264 : decode cL_stores 264 = .ok (.iload 4, 2) := by decide +kernel
theorem dL_stores_266 : decode cL_stores 266 = .ok (.if_icmp .ne 7, 3) := by decide +kernel
theorem dL_stores_269 : decode cL_stores 269 = .ok (.iconst 1, 1) := by decide +kernel
theorem dL_stores_270 : decode cL_stores 270 = .ok (.goto 4, 3) := by decide +kernel
theorem dL_stores_273 : decode cL_stores 273 = .ok (.iconst 0, 1) := by decide +kernel
theorem dL_stores_274 : decode cL_stores 274 = .ok (.ior, 1) := by decide +kernel
theorem dL_stores_275 : decode cL_stores 275 = .ok (.istore 12, 2) := by decide +kernel
theorem dL_stores_277 : decode cL_stores 277 = .ok (.iinc 13 1, 3) := by decide +kernel
theorem dL_stores_280 : decode cL_stores 280 = .ok (.goto (-38), 3) := by decide +kernel
theorem dL_stores_283 : decode cL_stores 283 = .ok (.aload_n 0, 1) := by decide +kernel
theorem dL_stores_284 : decode cL_stores 284 = .ok (.iload 4, 2) := by decide +kernel
theorem dL_stores_286 : decode cL_stores 286 = .ok (.invokevirtual 73, 3) := by decide +kernel
theorem dL_stores_289 : decode cL_stores 289 = .ok (.istore 13, 2) := by decide +kernel
theorem dL_stores_291 : decode cL_stores 291 = .ok (.aload_n 0, 1) := by decide +kernel
theorem dL_stores_292 : decode cL_stores 292 = .ok (.iload 4, 2) := by decide +kernel
theorem dL_stores_294 : decode cL_stores 294 = .ok (.iload 5, 2) := by decide +kernel
theorem dL_stores_296 : decode cL_stores 296 = .ok (.invokevirtual 76, 3) := by decide +kernel
theorem dL_stores_299 : decode cL_stores 299 = .ok (.istore 14, 2) := by decide +kernel
theorem dL_stores_301 : decode cL_stores 301 = .ok (.iload 6, 2) := by decide +kernel
theorem dL_stores_303 : decode cL_stores 303 = .ok (.ifCond .eq 8, 3) := by decide +kernel
theorem dL_stores_306 : decode cL_stores 306 = .ok (.iload 10, 2) := by decide +kernel
theorem dL_stores_308 : decode cL_stores 308 = .ok (.ifCond .ne 15, 3) := by decide +kernel
theorem dL_stores_311 : decode cL_stores 311 = .ok (.iload 14, 2) := by decide +kernel
theorem dL_stores_313 : decode cL_stores 313 = .ok (.iconst (-1), 1) := by decide +kernel
theorem dL_stores_314 : decode cL_stores 314 = .ok (.if_icmp .ne 7, 3) := by decide +kernel
theorem dL_stores_317 : decode cL_stores 317 = .ok (.iconst 1, 1) := by decide +kernel
theorem dL_stores_318 : decode cL_stores 318 = .ok (.goto 4, 3) := by decide +kernel
theorem dL_stores_321 : decode cL_stores 321 = .ok (.iconst 0, 1) := by decide +kernel
theorem dL_stores_322 : decode cL_stores 322 = .ok (.ireturn, 1) := by decide +kernel
theorem dL_stores_323 : decode cL_stores 323 = .ok (.iload 4, 2) := by decide +kernel
theorem dL_stores_325 : decode cL_stores 325 = .ok (.iload 5, 2) := by decide +kernel
theorem dL_stores_327 : decode cL_stores 327 = .ok (.if_icmp .eq 18, 3) := by decide +kernel
theorem dL_stores_330 : decode cL_stores 330 = .ok (.iload 7, 2) := by decide +kernel
theorem dL_stores_332 : decode cL_stores 332 = .ok (.ifCond .ne 13, 3) := by decide +kernel
theorem dL_stores_335 : decode cL_stores 335 = .ok (.iload 11, 2) := by decide +kernel
theorem dL_stores_337 : decode cL_stores 337 = .ok (.ifCond .ne 8, 3) := by decide +kernel
theorem dL_stores_340 : decode cL_stores 340 = .ok (.iload 12, 2) := by decide +kernel
theorem dL_stores_342 : decode cL_stores 342 = .ok (.ifCond .eq 43, 3) := by decide +kernel
theorem dL_stores_345 : decode cL_stores 345 = .ok (.iload 14, 2) := by decide +kernel
theorem dL_stores_347 : decode cL_stores 347 = .ok (.iload 4, 2) := by decide +kernel
theorem dL_stores_349 : decode cL_stores 349 = .ok (.iload 5, 2) := by decide +kernel
theorem dL_stores_351 : decode cL_stores 351 = .ok (.if_icmp .ne 8, 3) := by decide +kernel
theorem dL_stores_354 : decode cL_stores 354 = .ok (.bipush (-2), 2) := by decide +kernel
theorem dL_stores_356 : decode cL_stores 356 = .ok (.goto 20, 3) := by decide +kernel
theorem dL_stores_359 : decode cL_stores 359 = .ok (.iload 7, 2) := by decide +kernel
theorem dL_stores_361 : decode cL_stores 361 = .ok (.ifCond .ne 8, 3) := by decide +kernel
theorem dL_stores_364 : decode cL_stores 364 = .ok (.iload 11, 2) := by decide +kernel
theorem dL_stores_366 : decode cL_stores 366 = .ok (.ifCond .eq 8, 3) := by decide +kernel
theorem dL_stores_369 : decode cL_stores 369 = .ok (.bipush (-6), 2) := by decide +kernel
theorem dL_stores_371 : decode cL_stores 371 = .ok (.goto 5, 3) := by decide +kernel
theorem dL_stores_374 : decode cL_stores 374 = .ok (.bipush (-4), 2) := by decide +kernel
theorem dL_stores_376 : decode cL_stores 376 = .ok (.if_icmp .ne 7, 3) := by decide +kernel
theorem dL_stores_379 : decode cL_stores 379 = .ok (.iconst 1, 1) := by decide +kernel
theorem dL_stores_380 : decode cL_stores 380 = .ok (.goto 4, 3) := by decide +kernel
theorem dL_stores_383 : decode cL_stores 383 = .ok (.iconst 0, 1) := by decide +kernel
theorem dL_stores_384 : decode cL_stores 384 = .ok (.ireturn, 1) := by decide +kernel
theorem dL_stores_385 : decode cL_stores 385 = .ok (.iload 9, 2) := by decide +kernel
theorem dL_stores_387 : decode cL_stores 387 = .ok (.iload 5, 2) := by decide +kernel
theorem dL_stores_389 : decode cL_stores 389 = .ok (.if_icmp .ne 18, 3) := by decide +kernel
theorem dL_stores_392 : decode cL_stores 392 = .ok (.iload 14, 2) := by decide +kernel
theorem dL_stores_394 : decode cL_stores 394 = .ok (.bipush (-5), 2) := by decide +kernel
theorem dL_stores_396 : decode cL_stores 396 = .ok (.if_icmp .ne 7, 3) := by decide +kernel
theorem dL_stores_399 : decode cL_stores 399 = .ok (.iconst 1, 1) := by decide +kernel
theorem dL_stores_400 : decode cL_stores 400 = .ok (.goto 110, 3) := by decide +kernel
theorem dL_stores_403 : decode cL_stores 403 = .ok (.iconst 0, 1) := by decide +kernel
theorem dL_stores_404 : decode cL_stores 404 = .ok (.goto 106, 3) := by decide +kernel
theorem dL_stores_407 : decode cL_stores 407 = .ok (.iload 14, 2) := by decide +kernel
theorem dL_stores_409 : decode cL_stores 409 = .ok (.bipush (-7), 2) := by decide +kernel
theorem dL_stores_411 : decode cL_stores 411 = .ok (.if_icmp .ne 30, 3) := by decide +kernel
theorem dL_stores_414 : decode cL_stores 414 = .ok (.iload 13, 2) := by decide +kernel
theorem dL_stores_416 : decode cL_stores 416 = .ok (.iload 5, 2) := by decide +kernel
theorem dL_stores_418 : decode cL_stores 418 = .ok (.if_icmp .eq 19, 3) := by decide +kernel
theorem dL_stores_421 : decode cL_stores 421 = .ok (.aload_n 0, 1) := by decide +kernel
theorem dL_stores_422 : decode cL_stores 422 = .ok (.iload 4, 2) := by decide +kernel
theorem dL_stores_424 : decode cL_stores 424 = .ok (.iconst 3, 1) := by decide +kernel
theorem dL_stores_425 : decode cL_stores 425 = .ok (.invokevirtual 19, 3) := by decide +kernel
theorem dL_stores_428 : decode cL_stores 428 = .ok (.iload 9, 2) := by decide +kernel
theorem dL_stores_430 : decode cL_stores 430 = .ok (.if_icmp .ne 7, 3) := by decide +kernel
theorem dL_stores_433 : decode cL_stores 433 = .ok (.iconst 1, 1) := by decide +kernel
theorem dL_stores_434 : decode cL_stores 434 = .ok (.goto 76, 3) := by decide +kernel
theorem dL_stores_437 : decode cL_stores 437 = .ok (.iconst 0, 1) := by decide +kernel
theorem dL_stores_438 : decode cL_stores 438 = .ok (.goto 72, 3) := by decide +kernel
theorem dL_stores_441 : decode cL_stores 441 = .ok (.iload 14, 2) := by decide +kernel
theorem dL_stores_443 : decode cL_stores 443 = .ok (.iconst 1, 1) := by decide +kernel
theorem dL_stores_444 : decode cL_stores 444 = .ok (.iconst 2, 1) := by decide +kernel
theorem dL_stores_445 : decode cL_stores 445 = .ok (.aload_n 0, 1) := by decide +kernel
theorem dL_stores_446 : decode cL_stores 446 = .ok (.iload 4, 2) := by decide +kernel
theorem dL_stores_448 : decode cL_stores 448 = .ok (.iload 5, 2) := by decide +kernel
theorem dL_stores_450 : decode cL_stores 450 = .ok (.invokevirtual 38, 3) := by decide +kernel
theorem dL_stores_453 : decode cL_stores 453 = .ok (.imul, 1) := by decide +kernel
theorem dL_stores_454 : decode cL_stores 454 = .ok (.iadd, 1) := by decide +kernel
theorem dL_stores_455 : decode cL_stores 455 = .ok (.if_icmp .ne 54, 3) := by decide +kernel
theorem dL_stores_458 : decode cL_stores 458 = .ok (.aload_n 0, 1) := by decide +kernel
theorem dL_stores_459 : decode cL_stores 459 = .ok (.iload 4, 2) := by decide +kernel
theorem dL_stores_461 : decode cL_stores 461 = .ok (.iconst 3, 1) := by decide +kernel
theorem dL_stores_462 : decode cL_stores 462 = .ok (.invokevirtual 19, 3) := by decide +kernel
theorem dL_stores_465 : decode cL_stores 465 = .ok (.iload 5, 2) := by decide +kernel
theorem dL_stores_467 : decode cL_stores 467 = .ok (.if_icmp .ne 42, 3) := by decide +kernel
theorem dL_stores_470 : decode cL_stores 470 = .ok (.iload 13, 2) := by decide +kernel
theorem dL_stores_472 : decode cL_stores 472 = .ok (.ifCond .lt 33, 3) := by decide +kernel
theorem dL_stores_475 : decode cL_stores 475 = .ok (.aload_n 0, 1) := by decide +kernel
theorem dL_stores_476 : decode cL_stores 476 = .ok (.iload 13, 2) := by decide +kernel
theorem dL_stores_478 : decode cL_stores 478 = .ok (.iconst 0, 1) := by decide +kernel
theorem dL_stores_479 : decode cL_stores 479 = .ok (.invokevirtual 19, 3) := by decide +kernel
theorem dL_stores_482 : decode cL_stores 482 = .ok (.iconst 2, 1) := by decide +kernel
theorem dL_stores_483 : decode cL_stores 483 = .ok (.if_icmp .eq 22, 3) := by decide +kernel
theorem dL_stores_486 : decode cL_stores 486 = .ok (.aload_n 0, 1) := by decide +kernel
theorem dL_stores_487 : decode cL_stores 487 = .ok (.iload 4, 2) := by decide +kernel
theorem dL_stores_489 : decode cL_stores 489 = .ok (.iload 13, 2) := by decide +kernel
theorem dL_stores_491 : decode cL_stores 491 = .ok (.invokevirtual 38, 3) := by decide +kernel
theorem dL_stores_494 : decode cL_stores 494 = .ok (.aload_n 0, 1) := by decide +kernel
theorem dL_stores_495 : decode cL_stores 495 = .ok (.iload 4, 2) := by decide +kernel
theorem dL_stores_497 : decode cL_stores 497 = .ok (.iload 5, 2) := by decide +kernel
theorem dL_stores_499 : decode cL_stores 499 = .ok (.invokevirtual 38, 3) := by decide +kernel
theorem dL_stores_502 : decode cL_stores 502 = .ok (.if_icmp .gt 7, 3) := by decide +kernel
theorem dL_stores_505 : decode cL_stores 505 = .ok (.iconst 1, 1) := by decide +kernel
theorem dL_stores_506 : decode cL_stores 506 = .ok (.goto 4, 3) := by decide +kernel
theorem dL_stores_509 : decode cL_stores 509 = .ok (.iconst 0, 1) := by decide +kernel
theorem dL_stores_510 : decode cL_stores 510 = .ok (.ireturn, 1) := by decide +kernel
theorem dL_stores_511 : decode cL_stores 511 = .ok (.iload_n 1, 1) := by decide +kernel
theorem dL_stores_512 : decode cL_stores 512 = .ok (.bipush 9, 2) := by decide +kernel
theorem dL_stores_514 : decode cL_stores 514 = .ok (.if_icmp .ne 121, 3) := by decide +kernel
theorem dL_stores_517 : decode cL_stores 517 = .ok (.aload_n 0, 1) := by decide +kernel
theorem dL_stores_518 : decode cL_stores 518 = .ok (.bipush 8, 2) := by decide +kernel
theorem dL_stores_520 : decode cL_stores 520 = .ok (.invokevirtual 13, 3) := by decide +kernel
theorem dL_stores_523 : decode cL_stores 523 = .ok (.istore 10, 2) := by decide +kernel
theorem dL_stores_525 : decode cL_stores 525 = .ok (.aload_n 0, 1) := by decide +kernel
theorem dL_stores_526 : decode cL_stores 526 = .ok (.iconst 5, 1) := by decide +kernel
theorem dL_stores_527 : decode cL_stores 527 = .ok (.invokevirtual 13, 3) := by decide +kernel
theorem dL_stores_530 : decode cL_stores 530 = .ok (.istore 11, 2) := by decide +kernel
theorem dL_stores_532 : decode cL_stores 532 = .ok (.iload_n 3, 1) := by decide +kernel
theorem dL_stores_533 : decode cL_stores 533 = .ok (.bipush 10, 2) := by decide +kernel
theorem dL_stores_535 : decode cL_stores 535 = .ok (.invokestatic 51, 3) := by decide +kernel
theorem dL_stores_538 : decode cL_stores 538 = .ok (.istore 12, 2) := by decide +kernel
theorem dL_stores_540 : decode cL_stores 540 = .ok (.iload 12, 2) := by decide +kernel
theorem dL_stores_542 : decode cL_stores 542 = .ok (.iconst 1, 1) := by decide +kernel
theorem dL_stores_543 : decode cL_stores 543 = .ok (.if_icmp .lt 10, 3) := by decide +kernel
theorem dL_stores_546 : decode cL_stores 546 = .ok (.iload 12, 2) := by decide +kernel
theorem dL_stores_548 : decode cL_stores 548 = .ok (.bipush 8, 2) := by decide +kernel
theorem dL_stores_550 : decode cL_stores 550 = .ok (.if_icmp .le 7, 3) := by decide +kernel
theorem dL_stores_553 : decode cL_stores 553 = .ok (.iconst 1, 1) := by decide +kernel
theorem dL_stores_554 : decode cL_stores 554 = .ok (.goto 4, 3) := by decide +kernel
theorem dL_stores_557 : decode cL_stores 557 = .ok (.iconst 0, 1) := by decide +kernel
theorem dL_stores_558 : decode cL_stores 558 = .ok (.istore 13, 2) := by decide +kernel
theorem dL_stores_560 : decode cL_stores 560 = .ok (.aload_n 0, 1) := by decide +kernel
theorem dL_stores_561 : decode cL_stores 561 = .ok (.iload 12, 2) := by decide +kernel
theorem dL_stores_563 : decode cL_stores 563 = .ok (.invokevirtual 79, 3) := by decide +kernel
theorem dL_stores_566 : decode cL_stores 566 = .ok (.istore 14, 2) := by decide +kernel
theorem dL_stores_568 : decode cL_stores 568 = .ok (.iload 14, 2) := by decide +kernel
theorem dL_stores_570 : decode cL_stores 570 = .ok (.iload 13, 2) := by decide +kernel
theorem dL_stores_572 : decode cL_stores 572 = .ok (.ifCond .eq 8, 3) := by decide +kernel
theorem dL_stores_575 : decode cL_stores 575 = .ok (.bipush (-2), 2) := by decide +kernel
theorem dL_stores_577 : decode cL_stores 577 = .ok (.goto 29, 3) := by decide +kernel
theorem dL_stores_580 : decode cL_stores 580 = .ok (.iload 10, 2) := by decide +kernel
theorem dL_stores_582 : decode cL_stores 582 = .ok (.iload 12, 2) := by decide +kernel
theorem dL_stores_584 : decode cL_stores 584 = .ok (.if_icmp .le 8, 3) := by decide +kernel
theorem dL_stores_587 : decode cL_stores 587 = .ok (.bipush (-7), 2) := by decide +kernel
theorem dL_stores_589 : decode cL_stores 589 = .ok (.goto 17, 3) := by decide +kernel
theorem dL_stores_592 : decode cL_stores 592 = .ok (.iload 11, 2) := by decide +kernel
theorem dL_stores_594 : decode cL_stores 594 = .ok (.iload 12, 2) := by decide +kernel
theorem dL_stores_596 : decode cL_stores 596 = .ok (.if_icmp .ne 8, 3) := by decide +kernel
theorem dL_stores_599 : decode cL_stores 599 = .ok (.bipush (-5), 2) := by decide +kernel
theorem dL_stores_601 : decode cL_stores 601 = .ok (.goto 5, 3) := by decide +kernel
theorem dL_stores_604 : decode cL_stores 604 = .ok (.iload 11, 2) := by decide +kernel
theorem dL_stores_606 : decode cL_stores 606 = .ok (.if_icmp .ne 27, 3) := by decide +kernel

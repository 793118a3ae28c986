theorem dL_spoils_0 : decode cL_spoils 0 = .ok (.iload_n 2, 1) := by decide +kernel
theorem dL_spoils_1 : decode cL_spoils 1 = .ok (.aload_n 0, 1) := by decide +kernel
theorem dL_spoils_2 : decode cL_spoils 2 = .ok (.iconst 0, 1) := by decide +kernel
theorem dL_spoils_3 : decode cL_spoils 3 = .ok (.invokevirtual 13, 3) := by decide +kernel
theorem dL_spoils_6 : decode cL_spoils 6 = .ok (.invokestatic 51, 3) := by decide +kernel
theorem dL_spoils_9 : decode cL_spoils 9 = .ok (.istore 4, 2) := by decide +kernel
theorem dL_spoils_11 : decode cL_spoils 11 = .ok (.aload_n 0, 1) := by decide +kernel
theorem dL_spoils_12 : decode cL_spoils 12 = .ok (.iload 4, 2) := by decide +kernel
theorem dL_spoils_14 : decode cL_spoils 14 = .ok (.iconst 0, 1) := by decide +kernel
theorem dL_spoils_15 : decode cL_spoils 15 = .ok (.invokevirtual 19, 3) := by decide +kernel
theorem dL_spoils_18 : decode cL_spoils 18 = .ok (.iconst 2, 1) := by decide +kernel
theorem dL_spoils_19 : decode cL_spoils 19 = .ok (.if_icmp .ge 7, 3) := by decide +kernel
theorem dL_spoils_22 : decode cL_spoils 22 = .ok (.iconst 1, 1) := by decide +kernel
theorem dL_spoils_23 : decode cL_spoils 23 = .ok (.goto 4, 3) := by decide +kernel
theorem dL_spoils_26 : decode cL_spoils 26 = .ok (.iconst 0, 1) := by decide +kernel
theorem dL_spoils_27 : decode cL_spoils 27 = .ok (.istore 5, 2) := by decide +kernel
theorem dL_spoils_29 : decode cL_spoils 29 = .ok (.aload_n 0, 1) := by decide +kernel
theorem dL_spoils_30 : decode cL_spoils 30 = .ok (.iload 4, 2) := by decide +kernel
theorem dL_spoils_32 : decode cL_spoils 32 = .ok (.bipush 7, 2) := by decide +kernel
theorem dL_spoils_34 : decode cL_spoils 34 = .ok (.invokevirtual 19, 3) := by decide +kernel
theorem dL_spoils_37 : decode cL_spoils 37 = .ok (.iconst 1, 1) := by decide +kernel
theorem dL_spoils_38 : decode cL_spoils 38 = .ok (.if_icmp .ne 7, 3) := by decide +kernel
theorem dL_spoils_41 : decode cL_spoils 41 = .ok (.iconst 1, 1) := by decide +kernel
theorem dL_spoils_42 : decode cL_spoils 42 = .ok (.goto 4, 3) := by decide +kernel
theorem dL_spoils_45 : decode cL_spoils 45 = .ok (.iconst 0, 1) := by decide +kernel
theorem dL_spoils_46 : decode cL_spoils 46 = .ok (.istore 6, 2) := by decide +kernel
theorem dL_spoils_48 : decode cL_spoils 48 = .ok (.aload_n 0, 1) := by decide +kernel
theorem dL_spoils_49 : decode cL_spoils 49 = .ok (.bipush 9, 2) := by decide +kernel
theorem dL_spoils_51 : decode cL_spoils 51 = .ok (.invokevirtual 13, 3) := by decide +kernel
theorem dL_spoils_54 : decode cL_spoils 54 = .ok (.istore 7, 2) := by decide +kernel
theorem dL_spoils_56 : decode cL_spoils 56 = .ok (.iload_n 1, 1) := by decide +kernel
theorem dL_spoils_57 : decode cL_spoils 57 = .ok (.bipush 11, 2) := by decide +kernel
theorem dL_spoils_59 : decode cL_spoils 59 = .ok (.if_icmp .ne 98, 3) := by decide +kernel
theorem dL_spoils_62 : decode cL_spoils 62 = .ok (.aload_n 0, 1) := by decide +kernel
theorem dL_spoils_63 : decode cL_spoils 63 = .ok (.iload 4, 2) := by decide +kernel
theorem dL_spoils_65 : decode cL_spoils 65 = .ok (.invokevirtual 85, 3) := by decide +kernel
theorem dL_spoils_68 : decode cL_spoils 68 = .ok (.istore 8, 2) := by decide +kernel
theorem dL_spoils_70 : decode cL_spoils 70 = .ok (.iload 5, 2) := by decide +kernel
theorem dL_spoils_72 : decode cL_spoils 72 = .ok (.ifCond .ne 17, 3) := by decide +kernel
theorem dL_spoils_75 : decode cL_spoils 75 = .ok (.iload 8, 2) := by decide +kernel
theorem dL_spoils_77 : decode cL_spoils 77 = .ok (.iconst (-1), 1) := by decide +kernel
theorem dL_spoils_78 : decode cL_spoils 78 = .ok (.if_icmp .ne 7, 3) := by decide +kernel
theorem dL_spoils_81 : decode cL_spoils 81 = .ok (.iconst 1, 1) := by decide +kernel
theorem dL_spoils_82 : decode cL_spoils 82 = .ok (.goto 74, 3) := by decide +kernel
theorem dL_spoils_85 : decode cL_spoils 85 = .ok (.iconst 0, 1) := by decide +kernel
theorem dL_spoils_86 : decode cL_spoils 86 = .ok (.goto 70, 3) := by decide +kernel
theorem dL_spoils_89 : decode cL_spoils 89 = .ok (.iload 6, 2) := by decide +kernel
theorem dL_spoils_91 : decode cL_spoils 91 = .ok (.ifCond .eq 18, 3) := by decide +kernel
theorem dL_spoils_94 : decode cL_spoils 94 = .ok (.iload 8, 2) := by decide +kernel
theorem dL_spoils_96 : decode cL_spoils 96 = .ok (.bipush (-5), 2) := by decide +kernel
theorem dL_spoils_98 : decode cL_spoils 98 = .ok (.if_icmp .ne 7, 3) := by decide +kernel
theorem dL_spoils_101 : decode cL_spoils 101 = .ok (.iconst 1, 1) := by decide +kernel
theorem dL_spoils_102 : decode cL_spoils 102 = .ok (.goto 54, 3) := by decide +kernel
theorem dL_spoils_105 : decode cL_spoils 105 = .ok (.iconst 0, 1) := by decide +kernel
theorem dL_spoils_106 : decode cL_spoils 106 = .ok (.goto 50, 3) := by decide +kernel
theorem dL_spoils_109 : decode cL_spoils 109 = .ok (.iload 8, 2) := by decide +kernel
theorem dL_spoils_111 : decode cL_spoils 111 = .ok (.aload_n 0, 1) := by decide +kernel
theorem dL_spoils_112 : decode cL_spoils 112 = .ok (.bipush 9, 2) := by decide +kernel
theorem dL_spoils_114 : decode cL_spoils 114 = .ok (.invokevirtual 13, 3) := by decide +kernel
theorem dL_spoils_117 : decode cL_spoils 117 = .ok (.if_icmp .ne 38, 3) := by decide +kernel
theorem dL_spoils_120 : decode cL_spoils 120 = .ok (.iload 8, 2) := by decide +kernel
theorem dL_spoils_122 : decode cL_spoils 122 = .ok (.iload 7, 2) := by decide +kernel
theorem dL_spoils_124 : decode cL_spoils 124 = .ok (.iconst 1, 1) := by decide +kernel
theorem dL_spoils_125 : decode cL_spoils 125 = .ok (.isub, 1) := by decide +kernel
theorem dL_spoils_126 : decode cL_spoils 126 = .ok (.if_icmp .le 29, 3) := by decide +kernel
theorem dL_spoils_129 : decode cL_spoils 129 = .ok (.aload_n 0, 1) := by decide +kernel
theorem dL_spoils_130 : decode cL_spoils 130 = .ok (.iload 4, 2) := by decide +kernel
theorem dL_spoils_132 : decode cL_spoils 132 = .ok (.iconst 0, 1) := by decide +kernel
theorem dL_spoils_133 : decode cL_spoils 133 = .ok (.invokevirtual 32, 3) := by decide +kernel
theorem dL_spoils_136 : decode cL_spoils 136 = .ok (.iload 4, 2) := by decide +kernel
theorem dL_spoils_138 : decode cL_spoils 138 = .ok (.if_icmp .ne 17, 3) := by decide +kernel
theorem dL_spoils_141 : decode cL_spoils 141 = .ok (.aload_n 0, 1) := by decide +kernel
theorem dL_spoils_142 : decode cL_spoils 142 = .ok (.iload 4, 2) := by decide +kernel
theorem dL_spoils_144 : decode cL_spoils 144 = .ok (.iconst 1, 1) := by decide +kernel
theorem dL_spoils_145 : decode cL_spoils 145 = .ok (.invokevirtual 32, 3) := by decide +kernel
theorem dL_spoils_148 : decode cL_spoils 148 = .ok (.ifCond .ne 7, 3) := by decide +kernel
theorem dL_spoils_151 : decode cL_spoils 151 = .ok (.iconst 1, 1) := by decide +kernel
theorem dL_spoils_152 : decode cL_spoils 152 = .ok (.goto 4, 3) := by decide +kernel
theorem dL_spoils_155 : decode cL_spoils 155 = .ok (.iconst 0, 1) := by decide +kernel
theorem dL_spoils_156 : decode cL_spoils 156 = .ok (.ireturn, 1) := by decide +kernel
theorem dL_spoils_157 : decode cL_spoils 157 = .ok (.iload_n 1, 1) := by decide +kernel
theorem dL_spoils_158 : decode cL_spoils 158 = .ok (.bipush 12, 2) := by decide +kernel
theorem dL_spoils_160 : decode cL_spoils 160 = .ok (.if_icmp .ne 168, 3) := by decide +kernel
theorem dL_spoils_163 : decode cL_spoils 163 = .ok (.aload_n 0, 1) := by decide +kernel
theorem dL_spoils_164 : decode cL_spoils 164 = .ok (.iload 4, 2) := by decide +kernel
theorem dL_spoils_166 : decode cL_spoils 166 = .ok (.iconst 0, 1) := by decide +kernel
theorem dL_spoils_167 : decode cL_spoils 167 = .ok (.invokevirtual 19, 3) := by decide +kernel
theorem dL_spoils_170 : decode cL_spoils 170 = .ok (.ifCond .ne 7, 3) := by decide +kernel
theorem dL_spoils_173 : decode cL_spoils 173 = .ok (.iconst 1, 1) := by decide +kernel
theorem dL_spoils_174 : decode cL_spoils 174 = .ok (.goto 4, 3) := by decide +kernel
theorem dL_spoils_177 : decode cL_spoils 177 = .ok (.iconst 0, 1) := by decide +kernel
theorem dL_spoils_178 : decode cL_spoils 178 = .ok (.istore 8, 2) := by decide +kernel
theorem dL_spoils_180 : decode cL_spoils 180 = .ok (.aload_n 0, 1) := by decide +kernel
theorem dL_spoils_181 : decode cL_spoils 181 = .ok (.iconst 4, 1) := by decide +kernel
theorem dL_spoils_182 : decode cL_spoils 182 = .ok (.invokevirtual 13, 3) := by decide +kernel
theorem dL_spoils_185 : decode cL_spoils 185 = .ok (.istore 9, 2) := by decide +kernel
theorem dL_spoils_187 : decode cL_spoils 187 = .ok (.iload_n 3, 1) := by decide +kernel
theorem dL_spoils_188 : decode cL_spoils 188 = .ok (.iconst 1, 1) := by decide +kernel
theorem dL_spoils_189 : decode cL_spoils 189 = .ok (.iand, 1) := by decide +kernel
theorem dL_spoils_190 : decode cL_spoils 190 = .ok (.ifCond .ne 60, 3) := by decide +kernel
theorem dL_spoils_193 : decode cL_spoils 193 = .ok (.aload_n 0, 1) := by decide +kernel
theorem dL_spoils_194 : decode cL_spoils 194 = .ok (.iload 4, 2) := by decide +kernel
theorem dL_spoils_196 : decode cL_spoils 196 = .ok (.invokevirtual 44, 3) := by decide +kernel
theorem dL_spoils_199 : decode cL_spoils 199 = .ok (.istore 10, 2) := by decide +kernel
theorem dL_spoils_201 : decode cL_spoils 201 = .ok (.iload 10, 2) := by decide +kernel
theorem dL_spoils_203 : decode cL_spoils 203 = .ok (.iload 8, 2) := by decide +kernel
theorem dL_spoils_205 : decode cL_spoils 205 = .ok (.ifCond .ne 7, 3) := by decide +kernel
theorem dL_spoils_208 : decode cL_spoils 208 = .ok (.iconst (-1), 1) := by decide +kernel
theorem dL_spoils_209 : decode cL_spoils 209 = .ok (.goto 16, 3) := by decide +kernel
theorem dL_spoils_212 : decode cL_spoils 212 = .ok (.iload 9, 2) := by decide +kernel
theorem dL_spoils_214 : decode cL_spoils 214 = .ok (.iconst 4, 1) := by decide +kernel
theorem dL_spoils_215 : decode cL_spoils 215 = .ok (.if_icmp .ne 8, 3) := by decide +kernel
theorem dL_spoils_218 : decode cL_spoils 218 = .ok (.bipush (-3), 2) := by decide +kernel
theorem dL_spoils_220 : decode cL_spoils 220 = .ok (.goto 5, 3) := by decide +kernel
theorem dL_spoils_223 : decode cL_spoils 223 = .ok (.iload 9, 2) := by decide +kernel
theorem dL_spoils_225 : decode cL_spoils 225 = .ok (.if_icmp .ne 23, 3) := by decide +kernel
theorem dL_spoils_228 : decode cL_spoils 228 = .ok (.iload 10, 2) := by decide +kernel
theorem dL_spoils_230 : decode cL_spoils 230 = .ok (.ifCond .lt 14, 3) := by decide +kernel
theorem dL_spoils_233 : decode cL_spoils 233 = .ok (.aload_n 0, 1) := by decide +kernel
theorem dL_spoils_234 : decode cL_spoils 234 = .ok (.iload 9, 2) := by decide +kernel
theorem dL_spoils_236 : decode cL_spoils 236 = .ok (.invokevirtual 26, 3) := by decide +kernel
theorem dL_spoils_239 : decode cL_spoils 239 = .ok (.iload 4, 2) := by decide +kernel
theorem dL_spoils_241 : decode cL_spoils 241 = .ok (.if_icmp .ne 7, 3) := by decide +kernel
theorem dL_spoils_244 : decode cL_spoils 244 = .ok (.iconst 1, 1) := by decide +kernel
theorem dL_spoils_245 : decode cL_spoils 245 = .ok (.goto 4, 3) := by decide +kernel
theorem dL_spoils_248 : decode cL_spoils 248 = .ok (.iconst 0, 1) := by decide +kernel
theorem dL_spoils_249 : decode cL_spoils 249 = .ok (.ireturn, 1) := by decide +kernel
theorem dL_spoils_250 : decode cL_spoils 250 = .ok (.iload_n 3, 1) := by decide +kernel
theorem dL_spoils_251 : decode cL_spoils 251 = .ok (.iconst 1, 1) := by decide +kernel
theorem dL_spoils_252 : decode cL_spoils 252 = .ok (.ishr, 1) := by decide +kernel
theorem dL_spoils_253 : decode cL_spoils 253 = .ok (.iload 9, 2) := by decide +kernel
theorem dL_spoils_255 : decode cL_spoils 255 = .ok (.invokestatic 51, 3) := by decide +kernel
theorem dL_spoils_258 : decode cL_spoils 258 = .ok (.istore 10, 2) := by decide +kernel
theorem dL_spoils_260 : decode cL_spoils 260 = .ok (.aload_n 0, 1) := by decide +kernel
theorem dL_spoils_261 : decode cL_spoils 261 = .ok (.iload 10, 2) := by decide +kernel
theorem dL_spoils_263 : decode cL_spoils 263 = .ok (.invokevirtual 26, 3) := by decide +kernel
theorem dL_spoils_266 : decode cL_spoils 266 = .ok (.istore 11, 2) := by decide +kernel
theorem dL_spoils_268 : decode cL_spoils 268 = .ok (.aload_n 0, 1) := by decide +kernel
theorem dL_spoils_269 : decode cL_spoils 269 = .ok (.iload 10, 2) := by decide +kernel
theorem dL_spoils_271 : decode cL_spoils 271 = .ok (.iload 4, 2) := by decide +kernel
theorem dL_spoils_273 : decode cL_spoils 273 = .ok (.invokevirtual 88, 3) := by decide +kernel
theorem dL_spoils_276 : decode cL_spoils 276 = .ok (.istore 12, 2) := by decide +kernel
theorem dL_spoils_278 : decode cL_spoils 278 = .ok (.iload 12, 2) := by decide +kernel
theorem dL_spoils_280 : decode cL_spoils 280 = .ok (.iload 8, 2) := by decide +kernel
theorem dL_spoils_282 : decode cL_spoils 282 = .ok (.ifCond .ne 7, 3) := by decide +kernel
theorem dL_spoils_285 : decode cL_spoils 285 = .ok (.iconst (-1), 1) := by decide +kernel
theorem dL_spoils_286 : decode cL_spoils 286 = .ok (.goto 17, 3) := by decide +kernel
theorem dL_spoils_289 : decode cL_spoils 289 = .ok (.iload 11, 2) := by decide +kernel
theorem dL_spoils_291 : decode cL_spoils 291 = .ok (.iload 4, 2) := by decide +kernel
theorem dL_spoils_293 : decode cL_spoils 293 = .ok (.if_icmp .ne 8, 3) := by decide +kernel
theorem dL_spoils_296 : decode cL_spoils 296 = .ok (.bipush (-5), 2) := by decide +kernel
theorem dL_spoils_298 : decode cL_spoils 298 = .ok (.goto 5, 3) := by decide +kernel
theorem dL_spoils_301 : decode cL_spoils 301 = .ok (.iload 11, 2) := by decide +kernel
theorem dL_spoils_303 : decode cL_spoils 303 = .ok (.if_icmp .ne 23, 3) := by decide +kernel
theorem dL_spoils_306 : decode cL_spoils 306 = .ok (.iload 12, 2) := by decide +kernel
theorem dL_spoils_308 : decode cL_spoils 308 = .ok (.ifCond .lt 14, 3) := by decide +kernel
theorem dL_spoils_311 : decode cL_spoils 311 = .ok (.aload_n 0, 1) := by decide +kernel
theorem dL_spoils_312 : decode cL_spoils 312 = .ok (.iload 10, 2) := by decide +kernel
theorem dL_spoils_314 : decode cL_spoils 314 = .ok (.invokevirtual 26, 3) := by decide +kernel
theorem dL_spoils_317 : decode cL_spoils 317 = .ok (.iload 4, 2) := by decide +kernel
theorem dL_spoils_319 : decode cL_spoils 319 = .ok (.if_icmp .ne 7, 3) := by decide +kernel
theorem dL_spoils_322 : decode cL_spoils 322 = .ok (.iconst 1, 1) := by decide +kernel
theorem dL_spoils_323 : decode cL_spoils 323 = .ok (.goto 4, 3) := by decide +kernel
theorem dL_spoils_326 : decode cL_spoils 326 = .ok (.iconst 0, 1) := by decide +kernel
theorem dL_spoils_327 : decode cL_spoils 327 = .ok (.ireturn, 1) := by decide +kernel
theorem dL_spoils_328 : decode cL_spoils 328 = .ok (.aload_n 0, 1) := by decide +kernel
theorem dL_spoils_329 : decode cL_spoils 329 = .ok (.iload 4, 2) := by decide +kernel
theorem dL_spoils_331 : decode cL_spoils 331 = .ok (.iconst 0, 1) := by decide +kernel
theorem dL_spoils_332 : decode cL_spoils 332 = .ok (.invokevirtual 19, 3) := by decide +kernel
theorem dL_spoils_335 : decode cL_spoils 335 = .ok (.ifCond .ne 7, 3) := by decide +kernel
theorem dL_spoils_338 : decode cL_spoils 338 = .ok (.iconst 1, 1) := by decide +kernel
theorem dL_spoils_339 : decode cL_spoils 339 = .ok (.goto 4, 3) := by decide +kernel
theorem dL_spoils_342 : decode cL_spoils 342 = .ok (.iconst 0, 1) := by decide +kernel
theorem dL_spoils_343 : decode cL_spoils 343 = .ok (.istore 8, 2) := by decide +kernel
theorem dL_spoils_345 : decode cL_spoils 345 = .ok (.iconst 0, 1) := by decide +kernel
theorem dL_spoils_346 : decode cL_spoils 346 = .ok (.istore 9, 2) := by decide +kernel
theorem dL_spoils_348 : decode cL_spoils 348 = .ok (.iconst 0, 1) := by decide +kernel
theorem dL_spoils_349 : decode cL_spoils 349 = .ok (.istore 10, 2) := by decide +kernel
theorem dL_spoils_351 : decode cL_spoils 351 = .ok (.iload 10, 2) := by decide +kernel
theorem dL_spoils_353 : decode cL_spoils 353 = .ok (.aload_n 0, 1) := by decide +kernel
theorem dL_spoils_354 : decode cL_spoils 354 = .ok (.iconst 4, 1) := by decide +kernel
theorem dL_spoils_355 : decode cL_spoils 355 = .ok (.invokevirtual 13, 3) := by decide +kernel
theorem dL_spoils_358 : decode cL_spoils 358 = .ok (.if_icmp .ge 30, 3) := by decide +kernel
theorem dL_spoils_361 : decode cL_spoils 361 = .ok (.iload 9, 2) := by decide +kernel
theorem dL_spoils_363 : decode cL_spoils 363 = .ok (.aload_n 0, 1) := by decide +kernel
theorem dL_spoils_364 : decode cL_spoils 364 = .ok (.iload 10, 2) := by decide +kernel
theorem dL_spoils_366 : decode cL_spoils 366 = .ok (.invokevirtual 26, 3) := by decide +kernel
theorem dL_spoils_369 : decode cL_spoils 369 = .ok (.iload 4, 2) := by decide +kernel
theorem dL_spoils_371 : decode cL_spoils 371 = .ok (.if_icmp .ne 7, 3) := by decide +kernel
theorem dL_spoils_374 : decode cL_spoils 374 = .ok (.iconst 1, 1) := by decide +kernel
theorem dL_spoils_375 : decode cL_spoils 375 = .ok (.goto 4, 3) := by decide +kernel
theorem dL_spoils_378 : decode cL_spoils 378 = .ok (.iconst 0, 1) := by decide +kernel
theorem dL_spoils_379 : decode cL_spoils 379 = .ok (.ior, 1) := by decide +kernel
theorem dL_spoils_380 : decode cL_spoils 380 = .ok (.istore 9, 2) := by decide +kernel
theorem dL_spoils_382 : decode cL_spoils 382 = .ok (.iinc 10 1, 3) := by decide +kernel
theorem dL_spoils_385 : decode cL_spoils 385 = .ok (.goto (-34), 3) := by decide +kernel
theorem dL_spoils_388 : decode cL_spoils 388 = .ok (.aload_n 0, 1) := by decide +kernel
theorem dL_spoils_389 : decode cL_spoils 389 = .ok (.iload 4, 2) := by decide +kernel
theorem dL_spoils_391 : decode cL_spoils 391 = .ok (.bipush 6, 2) := by decide +kernel
theorem dL_spoils_393 : decode cL_spoils 393 = .ok (.invokevirtual 19, 3) := by decide +kernel
theorem dL_spoils_396 : decode cL_spoils 396 = .ok (.istore 10, 2) := by decide +kernel
theorem dL_spoils_398 : decode cL_spoils 398 = .ok (.aload_n 0, 1) := by decide +kernel
theorem dL_spoils_399 : decode cL_spoils 399 = .ok (.iconst 3, 1) := by decide +kernel
theorem dL_spoils_400 : decode cL_spoils 400 = .ok (.invokevirtual 13, 3) := by decide +kernel
theorem dL_spoils_403 : decode cL_spoils 403 = .ok (.istore 11, 2) := by decide +kernel
theorem dL_spoils_405 : decode cL_spoils 405 = .ok (.aload_n 0, 1) := by decide +kernel
theorem dL_spoils_406 : decode cL_spoils 406 = .ok (.iload 4, 2) := by decide +kernel
theorem dL_spoils_408 : decode cL_spoils 408 = .ok (.invokevirtual 41, 3) := by decide +kernel
theorem dL_spoils_411 : decode cL_spoils 411 = .ok (.istore 12, 2) := by decide +kernel
theorem dL_spoils_413 : decode cL_spoils 413 = .ok (.iload 8, 2) := by decide +kernel
theorem dL_spoils_415 : decode cL_spoils 415 = .ok (.ifCond .ne 17, 3) := by decide +kernel
theorem dL_spoils_418 : decode cL_spoils 418 = .ok (.iload 12, 2) := by decide +kernel
theorem dL_spoils_420 : decode cL_spoils 420 = .ok (.iconst (-1), 1) := by decide +kernel
theorem dL_spoils_421 : decode cL_spoils 421 = .ok (.if_icmp .ne 7, 3) := by decide +kernel
theorem dL_spoils_424 : decode cL_spoils 424 = .ok (.iconst 1, 1) := by decide +kernel
theorem dL_spoils_425 : decode cL_spoils 425 = .ok (.goto 90, 3) := by decide +kernel
theorem dL_spoils_428 : decode cL_spoils 428 = .ok (.iconst 0, 1) := by decide +kernel
theorem dL_spoils_429 : decode cL_spoils 429 = .ok (.goto 86, 3) := by decide +kernel
theorem dL_spoils_432 : decode cL_spoils 432 = .ok (.iload 9, 2) := by decide +kernel
theorem dL_spoils_434 : decode cL_spoils 434 = .ok (.ifCond .eq 18, 3) := by decide +kernel
theorem dL_spoils_437 : decode cL_spoils 437 = .ok (.iload 12, 2) := by decide +kernel
theorem dL_spoils_439 : decode cL_spoils 439 = .ok (.bipush (-4), 2) := by decide +kernel
theorem dL_spoils_441 : decode cL_spoils 441 = .ok (.if_icmp .ne 7, 3) := by decide +kernel
theorem dL_spoils_444 : decode cL_spoils 444 = .ok (.iconst 1, 1) := by decide +kernel
theorem dL_spoils_445 : decode cL_spoils 445 = .ok (.goto 70, 3) := by decide +kernel
theorem dL_spoils_448 : decode cL_spoils 448 = .ok (.iconst 0, 1) := by decide +kernel
theorem dL_spoils_449 : decode cL_spoils 449 = .ok (.goto 66, 3) := by decide +kernel
theorem dL_spoils_452 : decode cL_spoils 452 = .ok (.iload 10, 2) := by decide +kernel
theorem dL_spoils_454 : decode cL_spoils 454 = .ok (.ifCond .le 27, 3) := by decide +kernel
theorem dL_spoils_457 : decode cL_spoils 457 = .ok (.iload 12, 2) := by decide +kernel
theorem dL_spoils_459 : decode cL_spoils 459 = .ok (.ifCond .ne 18, 3) := by decide +kernel
theorem dL_spoils_462 : decode cL_spoils 462 = .ok (.aload_n 0, 1) := by decide +kernel
theorem dL_spoils_463 : decode cL_spoils 463 = .ok (.iload 4, 2) := by decide +kernel
theorem dL_spoils_465 : decode cL_spoils 465 = .ok (.iconst 0, 1) := by decide +kernel
theorem dL_spoils_466 : decode cL_spoils 466 = .ok (.invokevirtual 19, 3) := by decide +kernel
theorem dL_spoils_469 : decode cL_spoils 469 = .ok (.iconst 1, 1) := by decide +kernel
theorem dL_spoils_470 : decode cL_spoils 470 = .ok (.if_icmp .ne 7, 3) := by decide +kernel
theorem dL_spoils_473 : decode cL_spoils 473 = .ok (.iconst 1, 1) := by decide +kernel
theorem dL_spoils_474 : decode cL_spoils 474 = .ok (.goto 41, 3) := by decide +kernel
theorem dL_spoils_477 : decode cL_spoils 477 = .ok (.iconst 0, 1) := by decide +kernel
theorem dL_spoils_478 : decode cL_spoils 478 = .ok (.goto 37, 3) := by decide +kernel
theorem dL_spoils_481 : decode cL_spoils 481 = .ok (.iload 12, 2) := by decide +kernel
theorem dL_spoils_483 : decode cL_spoils 483 = .ok (.aload_n 0, 1) := by decide +kernel
theorem dL_spoils_484 : decode cL_spoils 484 = .ok (.iconst 3, 1) := by decide +kernel
theorem dL_spoils_485 : decode cL_spoils 485 = .ok (.invokevirtual 13, 3) := by decide +kernel
theorem dL_spoils_488 : decode cL_spoils 488 = .ok (.iload 11, 2) := by decide +kernel
theorem dL_spoils_490 : decode cL_spoils 490 = .ok (.isub, 1) := by decide +kernel
theorem dL_spoils_491 : decode cL_spoils 491 = .ok (.if_icmp .ne 23, 3) := by decide +kernel
theorem dL_spoils_494 : decode cL_spoils 494 = .ok (.iload 12, 2) := by decide +kernel
theorem dL_spoils_496 : decode cL_spoils 496 = .ok (.ifCond .le 18, 3) := by decide +kernel
theorem dL_spoils_499 : decode cL_spoils 499 = .ok (.aload_n 0, 1) := by decide +kernel
theorem dL_spoils_500 : decode cL_spoils 500 = .ok (.iload 4, 2) := by decide +kernel
theorem dL_spoils_502 : decode cL_spoils 502 = .ok (.iconst 0, 1) := by decide +kernel
theorem dL_spoils_503 : decode cL_spoils 503 = .ok (.invokevirtual 19, 3) := by decide +kernel
theorem dL_spoils_506 : decode cL_spoils 506 = .ok (.iconst 2, 1) := by decide +kernel
theorem dL_spoils_507 : decode cL_spoils 507 = .ok (.if_icmp .ne 7, 3) := by decide +kernel
theorem dL_spoils_510 : decode cL_spoils 510 = .ok (.iconst 1, 1) := by decide +kernel
theorem dL_spoils_511 : decode cL_spoils 511 = .ok (.goto 4, 3) := by decide +kernel
theorem dL_spoils_514 : decode cL_spoils 514 = .ok (.iconst 0, 1) := by decide +kernel
theorem dL_spoils_515 : decode cL_spoils 515 = .ok (.ireturn, 1) := by decide +kernel

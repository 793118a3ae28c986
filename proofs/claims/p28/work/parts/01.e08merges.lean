set_option maxRecDepth 20000 in
theorem ggL_merges_X5_count : GoodIn wsL_merges wsX5_count := goodIn_r _ [5, 6, 7, 8, 9, 10, 11, 12, 13, 14, 15, 16, 17, 18, 19, 20, 21, 22, 23, 24, 25, 26, 27, 28, 29, 30, 31, 32, 33, 34, 35, 36, 37, 38, 39, 40, 41, 42, 43, 44, 45, 46, 47, 48, 49, 50, 51, 52, 53, 54, 55, 56, 57, 58, 59, 60, 61, 62, 63, 64, 65, 66, 67, 68, 69, 70, 71, 72, 73, 74, 75, 76, 77, 78, 79, 80, 81, 82, 83, 84, 85, 86, 87, 88, 89, 254, 255, 256, 257, 258, 259, 260, 261, 262, 263, 264, 265, 266, 267, 268, 269, 270, 271, 272, 273, 274, 275, 276, 277, 278, 279, 280] rfl (by decide +kernel)
set_option maxRecDepth 20000 in
theorem gL_merges_X5_count : GoodIn wsL_merges (wsV RL 13 RX5 yX5_count wsX5_count) := goodIn_app (goodIn_of _ (by decide +kernel)) ggL_merges_X5_count
set_option maxRecDepth 20000 in
theorem ggL_merges_L_low : GoodIn wsL_merges wsL_low := goodIn_r _ [93, 94] rfl (by decide +kernel)
set_option maxRecDepth 20000 in
theorem gL_merges_L_low : GoodIn wsL_merges (va_wsS RL 51 yL_low wsL_low) := goodIn_app (goodIn_of _ (by decide +kernel)) ggL_merges_L_low
set_option maxRecDepth 20000 in
theorem ggL_merges_X5_head : GoodIn wsL_merges wsX5_head := goodIn_r _ [98, 8, 99, 100, 101, 102, 103, 104, 105, 106, 107, 108, 109, 110, 254, 255, 256, 257, 258, 259, 260, 268, 269, 270, 271, 272, 273] rfl (by decide +kernel)
set_option maxRecDepth 20000 in
theorem gL_merges_X5_head : GoodIn wsL_merges (wsV RL 26 RX5 yX5_head wsX5_head) := goodIn_app (goodIn_of _ (by decide +kernel)) ggL_merges_X5_head
set_option maxRecDepth 20000 in
theorem ggL_merges_X5_common : GoodIn wsL_merges wsX5_common := goodIn_r _ [114, 8, 6, 99, 100, 101, 102, 103, 104, 105, 106, 107, 108, 109, 110, 115, 116, 117, 20, 118, 22, 119, 120, 121, 122, 123, 124, 125, 126, 127, 128, 129, 130, 28, 29, 30, 31, 131, 132, 133, 134, 135, 40, 41, 42, 43, 27, 77, 78, 79, 80, 81, 82, 83, 84, 85, 86, 87, 88, 89, 44, 45, 46, 47, 48, 254, 255, 256, 257, 258, 259, 260, 268, 269, 270, 271, 272, 273, 261, 262, 263, 264, 265, 266, 267] rfl (by decide +kernel)
set_option maxRecDepth 20000 in
theorem gL_merges_X5_common : GoodIn wsL_merges (wsV RL 67 RX5 yX5_common wsX5_common) := goodIn_app (goodIn_of _ (by decide +kernel)) ggL_merges_X5_common
set_option maxRecDepth 20000 in
theorem ggL_merges_X5_why : GoodIn wsL_merges wsX5_why := goodIn_r _ [139, 6, 140, 41, 42, 20, 43, 27, 28, 29, 30, 31, 22, 141, 82, 83, 84, 85, 86, 87, 88, 89, 44, 45, 46, 47, 48, 142, 143, 144, 145, 146, 147, 148, 149, 254, 255, 256, 257, 258, 259, 260, 261, 262, 263, 264, 265, 266, 267] rfl (by decide +kernel)
set_option maxRecDepth 20000 in
theorem gL_merges_X5_why : GoodIn wsL_merges (wsV RL 32 RX5 yX5_why wsX5_why) := goodIn_app (goodIn_of _ (by decide +kernel)) ggL_merges_X5_why
set_option maxRecDepth 20000 in
theorem ggL_merges_X5_merge : GoodIn wsL_merges wsX5_merge := goodIn_r _ [153, 8, 6, 7, 13, 154, 11, 12, 99, 100, 101, 102, 103, 104, 105, 106, 107, 108, 109, 110, 155, 78, 79, 20, 80, 81, 82, 83, 84, 85, 86, 87, 88, 89, 28, 29, 30, 31, 22, 44, 45, 46, 47, 48, 115, 116, 117, 118, 119, 120, 121, 122, 123, 124, 125, 126, 127, 128, 129, 130, 131, 132, 133, 134, 135, 40, 41, 42, 43, 27, 77, 156, 157, 158, 159, 160, 161, 162, 163, 164, 165, 166, 167, 168, 169, 170, 171, 67, 172, 173, 174, 175, 176, 177, 178, 179, 180, 181, 182, 183, 184, 185, 186, 187, 53, 188, 189, 190, 191, 192, 193, 194, 195, 196, 197, 198, 199, 200, 201, 202, 203, 204, 205, 206, 207, 208, 209, 210, 211, 4, 212, 10, 213, 214, 215, 216, 217, 218, 219, 220, 69, 70, 71, 72, 221, 222, 223, 224, 54, 55, 56, 225, 226, 227, 228, 254, 255, 256, 257, 258, 259, 260, 261, 262, 263, 264, 265, 266, 267, 268, 269, 270, 271, 272, 273, 274, 275, 276] rfl (by decide +kernel)
set_option maxRecDepth 20000 in
theorem gL_merges_X5_merge : GoodIn wsL_merges (wsV RL 70 RX5 yX5_merge wsX5_merge) := goodIn_app (goodIn_of _ (by decide +kernel)) ggL_merges_X5_merge
set_option maxRecDepth 20000 in
theorem ggL_merges_X5_version : GoodIn wsL_merges wsX5_version := goodIn_r _ [232, 6, 233, 29, 30, 20, 31, 22, 234, 24, 25, 26, 27, 28, 235, 127, 128, 129, 130, 236, 132, 133, 134, 135, 237, 45, 46, 47, 48, 140, 41, 42, 43, 238, 70, 71, 72, 44, 239, 37, 38, 39, 40, 49, 50, 51, 52, 53, 54, 55, 56, 240, 241, 242, 243, 244, 86, 87, 88, 89, 254, 255, 256, 257, 258, 259, 260, 261, 262, 263, 264, 265, 266, 267] rfl (by decide +kernel)
set_option maxRecDepth 20000 in
theorem gL_merges_X5_version : GoodIn wsL_merges (wsV RL 19 RX5 yX5_version wsX5_version) := goodIn_app (goodIn_of _ (by decide +kernel)) ggL_merges_X5_version
set_option maxRecDepth 20000 in
theorem ggL_merges_X5_read : GoodIn wsL_merges wsX5_read := goodIn_r _ [248, 6, 249, 250, 251, 20, 252, 27, 28, 29, 30, 31, 22, 155, 78, 79, 80, 81, 82, 83, 84, 85, 86, 87, 88, 89, 44, 45, 46, 47, 48, 253, 206, 207, 208, 53, 254, 255, 256, 257, 258, 259, 260, 261, 262, 263, 264, 265, 266, 267] rfl (by decide +kernel)
set_option maxRecDepth 20000 in
theorem gL_merges_X5_read : GoodIn wsL_merges (wsV RL 23 RX5 yX5_read wsX5_read) := goodIn_app (goodIn_of _ (by decide +kernel)) ggL_merges_X5_read
theorem dL_merges_0 : decode cL_merges 0 = .ok (.iload_n 1, 1) := by decide +kernel
theorem dL_merges_1 : decode cL_merges 1 = .ok (.aload_n 0, 1) := by decide +kernel
theorem dL_merges_2 : decode cL_merges 2 = .ok (.iconst 4, 1) := by decide +kernel
theorem dL_merges_3 : decode cL_merges 3 = .ok (.invokevirtual 13, 3) := by decide +kernel
theorem dL_merges_6 : decode cL_merges 6 = .ok (.invokestatic 51, 3) := by decide +kernel
theorem dL_merges_9 : decode cL_merges 9 = .ok (.istore_n 3, 1) := by decide +kernel
theorem dL_merges_10 : decode cL_merges 10 = .ok (.iload_n 2, 1) := by decide +kernel
theorem dL_merges_11 : decode cL_merges 11 = .ok (.aload_n 0, 1) := by decide +kernel
theorem dL_merges_12 : decode cL_merges 12 = .ok (.iconst 4, 1) := by decide +kernel
theorem dL_merges_13 : decode cL_merges 13 = .ok (.invokevirtual 13, 3) := by decide +kernel
theorem dL_merges_16 : decode cL_merges 16 = .ok (.invokestatic 51, 3) := by decide +kernel
theorem dL_merges_19 : decode cL_merges 19 = .ok (.istore 4, 2) := by decide +kernel
theorem dL_merges_21 : decode cL_merges 21 = .ok (.aload_n 0, 1) := by decide +kernel
theorem dL_merges_22 : decode cL_merges 22 = .ok (.iconst 0, 1) := by decide +kernel
theorem dL_merges_23 : decode cL_merges 23 = .ok (.invokevirtual 13, 3) := by decide +kernel
theorem dL_merges_26 : decode cL_merges 26 = .ok (.istore 5, 2) := by decide +kernel
theorem dL_merges_28 : decode cL_merges 28 = .ok (.aload_n 0, 1) := by decide +kernel
theorem dL_merges_29 : decode cL_merges 29 = .ok (.iload_n 3, 1) := by decide +kernel
theorem dL_merges_30 : decode cL_merges 30 = .ok (.invokevirtual 26, 3) := by decide +kernel
theorem dL_merges_33 : decode cL_merges 33 = .ok (.istore 6, 2) := by decide +kernel
theorem dL_merges_35 : decode cL_merges 35 = .ok (.aload_n 0, 1) := by decide +kernel
theorem dL_merges_36 : decode cL_merges 36 = .ok (.iload 4, 2) := by decide +kernel
theorem dL_merges_38 : decode cL_merges 38 = .ok (.invokevirtual 26, 3) := by decide +kernel
theorem dL_merges_41 : decode cL_merges 41 = .ok (.istore 7, 2) := by decide +kernel
theorem dL_merges_43 : decode cL_merges 43 = .ok (.aload_n 0, 1) := by decide +kernel
theorem dL_merges_44 : decode cL_merges 44 = .ok (.iload_n 3, 1) := by decide +kernel
theorem dL_merges_45 : decode cL_merges 45 = .ok (.iload 4, 2) := by decide +kernel
theorem dL_merges_47 : decode cL_merges 47 = .ok (.invokevirtual 67, 3) := by decide +kernel
theorem dL_merges_50 : decode cL_merges 50 = .ok (.istore 8, 2) := by decide +kernel
theorem dL_merges_52 : decode cL_merges 52 = .ok (.aload_n 0, 1) := by decide +kernel
theorem dL_merges_53 : decode cL_merges 53 = .ok (.iload 6, 2) := by decide +kernel
theorem dL_merges_55 : decode cL_merges 55 = .ok (.iconst 0, 1) := by decide +kernel
theorem dL_merges_56 : decode cL_merges 56 = .ok (.invokevirtual 32, 3) := by decide +kernel
theorem dL_merges_59 : decode cL_merges 59 = .ok (.ifCond .ge 13, 3) := by decide +kernel
theorem dL_merges_62 : decode cL_merges 62 = .ok (.aload_n 0, 1) := by decide +kernel
theorem dL_merges_63 : decode cL_merges 63 = .ok (.iload 7, 2) := by decide +kernel
theorem dL_merges_65 : decode cL_merges 65 = .ok (.iconst 0, 1) := by decide +kernel
theorem dL_merges_66 : decode cL_merges 66 = .ok (.invokevirtual 32, 3) := by decide +kernel
theorem dL_merges_69 : decode cL_merges 69 = .ok (.ifCond .lt 7, 3) := by decide +kernel
theorem dL_merges_72 : decode cL_merges 72 = .ok (.iconst 1, 1) := by decide +kernel
theorem dL_merges_73 : decode cL_merges 73 = .ok (.goto 4, 3) := by decide +kernel
theorem dL_merges_76 : decode cL_merges 76 = .ok (.iconst 0, 1) := by decide +kernel
theorem dL_merges_77 : decode cL_merges 77 = .ok (.istore 9, 2) := by decide +kernel
theorem dL_merges_79 : decode cL_merges 79 = .ok (.aload_n 0, 1) := by decide +kernel
theorem dL_merges_80 : decode cL_merges 80 = .ok (.bipush 11, 2) := by decide +kernel
theorem dL_merges_82 : decode cL_merges 82 = .ok (.invokevirtual 13, 3) := by decide +kernel
theorem dL_merges_85 : decode cL_merges 85 = .ok (.istore 10, 2) := by decide +kernel
theorem dL_merges_87 : decode cL_merges 87 = .ok (.aload_n 0, 1) := by decide +kernel
theorem dL_merges_88 : decode cL_merges 88 = .ok (.bipush 10, 2) := by decide +kernel
theorem dL_merges_90 : decode cL_merges 90 = .ok (.invokevirtual 13, 3) := by decide +kernel
theorem dL_merges_93 : decode cL_merges 93 = .ok (.istore 11, 2) := by decide +kernel
theorem dL_merges_95 : decode cL_merges 95 = .ok (.aload_n 0, 1) := by decide +kernel
theorem dL_merges_96 : decode cL_merges 96 = .ok (.iload_n 3, 1) := by decide +kernel
theorem dL_merges_97 : decode cL_merges 97 = .ok (.iload 4, 2) := by decide +kernel
theorem dL_merges_99 : decode cL_merges 99 = .ok (.invokevirtual 70, 3) := by decide +kernel
theorem dL_merges_102 : decode cL_merges 102 = .ok (.istore 12, 2) := by decide +kernel
theorem dL_merges_104 : decode cL_merges 104 = .ok (.iload_n 3, 1) := by decide +kernel
theorem dL_merges_105 : decode cL_merges 105 = .ok (.iload 4, 2) := by decide +kernel
theorem dL_merges_107 : decode cL_merges 107 = .ok (.if_icmp .eq 22, 3) := by decide +kernel
theorem dL_merges_110 : decode cL_merges 110 = .ok (.iload 9, 2) := by decide +kernel
theorem dL_merges_112 : decode cL_merges 112 = .ok (.ifCond .ne 17, 3) := by decide +kernel
theorem dL_merges_115 : decode cL_merges 115 = .ok (.iload 8, 2) := by decide +kernel
theorem dL_merges_117 : decode cL_merges 117 = .ok (.bipush (-5), 2) := by decide +kernel
theorem dL_merges_119 : decode cL_merges 119 = .ok (.if_icmp .eq 10, 3) := by decide +kernel
theorem dL_merges_122 : decode cL_merges 122 = .ok (.iload 5, 2) := by decide +kernel
theorem dL_merges_124 : decode cL_merges 124 = .ok (.bipush 40, 2) := by decide +kernel
theorem dL_merges_126 : decode cL_merges 126 = .ok (.if_icmp .ne 49, 3) := by decide +kernel
theorem dL_merges_129 : decode cL_merges 129 = .ok (.iload 12, 2) := by decide +kernel
theorem dL_merges_131 : decode cL_merges 131 = .ok (.iload_n 3, 1) := by decide +kernel
theorem dL_merges_132 : decode cL_merges 132 = .ok (.iload 4, 2) := by decide +kernel
theorem dL_merges_134 : decode cL_merges 134 = .ok (.if_icmp .ne 8, 3) := by decide +kernel
theorem dL_merges_137 : decode cL_merges 137 = .ok (.bipush (-2), 2) := by decide +kernel
theorem dL_merges_139 : decode cL_merges 139 = .ok (.goto 27, 3) := by decide +kernel
theorem dL_merges_142 : decode cL_merges 142 = .ok (.iload 9, 2) := by decide +kernel
theorem dL_merges_144 : decode cL_merges 144 = .ok (.ifCond .eq 8, 3) := by decide +kernel
theorem dL_merges_147 : decode cL_merges 147 = .ok (.bipush (-6), 2) := by decide +kernel
theorem dL_merges_149 : decode cL_merges 149 = .ok (.goto 17, 3) := by decide +kernel
theorem dL_merges_152 : decode cL_merges 152 = .ok (.iload 8, 2) := by decide +kernel
theorem dL_merges_154 : decode cL_merges 154 = .ok (.bipush (-5), 2) := by decide +kernel
theorem dL_merges_156 : decode cL_merges 156 = .ok (.if_icmp .ne 8, 3) := by decide +kernel
theorem dL_merges_159 : decode cL_merges 159 = .ok (.bipush (-4), 2) := by decide +kernel
theorem dL_merges_161 : decode cL_merges 161 = .ok (.goto 5, 3) := by decide +kernel
theorem dL_merges_164 : decode cL_merges 164 = .ok (.bipush (-3), 2) := by decide +kernel
theorem dL_merges_166 : decode cL_merges 166 = .ok (.if_icmp .ne 7, 3) := by decide +kernel
theorem dL_merges_169 : decode cL_merges 169 = .ok (.iconst 1, 1) := by decide +kernel
theorem dL_merges_170 : decode cL_merges 170 = .ok (.goto 4, 3) := by decide +kernel
theorem dL_merges_173 : decode cL_merges 173 = .ok (.iconst 0, 1) := by decide +kernel
theorem dL_merges_174 : decode cL_merges 174 = .ok (.ireturn, 1) := by decide +kernel
theorem dL_merges_175 : decode cL_merges 175 = .ok (.iload 12, 2) := by decide +kernel
theorem dL_merges_177 : decode cL_merges 177 = .ok (.bipush (-5), 2) := by decide +kernel
theorem dL_merges_179 : decode cL_merges 179 = .ok (.if_icmp .ne 26, 3) := by decide +kernel
theorem dL_merges_182 : decode cL_merges 182 = .ok (.iload 8, 2) := by decide +kernel
theorem dL_merges_184 : decode cL_merges 184 = .ok (.iload 7, 2) := by decide +kernel
theorem dL_merges_186 : decode cL_merges 186 = .ok (.if_icmp .ne 17, 3) := by decide +kernel
theorem dL_merges_189 : decode cL_merges 189 = .ok (.aload_n 0, 1) := by decide +kernel
theorem dL_merges_190 : decode cL_merges 190 = .ok (.iconst 0, 1) := by decide +kernel
theorem dL_merges_191 : decode cL_merges 191 = .ok (.invokevirtual 13, 3) := by decide +kernel
theorem dL_merges_194 : decode cL_merges 194 = .ok (.iload 5, 2) := by decide +kernel
theorem dL_merges_196 : decode cL_merges 196 = .ok (.if_icmp .ne 7, 3) := by decide +kernel
theorem dL_merges_199 : decode cL_merges 199 = .ok (.iconst 1, 1) := by decide +kernel
theorem dL_merges_200 : decode cL_merges 200 = .ok (.goto 4, 3) := by decide +kernel
theorem dL_merges_203 : decode cL_merges 203 = .ok (.iconst 0, 1) := by decide +kernel
theorem dL_merges_204 : decode cL_merges 204 = .ok (.ireturn, 1) := by decide +kernel
theorem dL_merges_205 : decode cL_merges 205 = .ok (.iconst 0, 1) := by decide +kernel
theorem dL_merges_206 : decode cL_merges 206 = .ok (.istore 13, 2) := by decide +kernel
theorem dL_merges_208 : decode cL_merges 208 = .ok (.iconst 0, 1) := by decide +kernel
theorem dL_merges_209 : decode cL_merges 209 = .ok (.istore 14, 2) := by decide +kernel
theorem dL_merges_211 : decode cL_merges 211 = .ok (.iload 14, 2) := by decide +kernel
theorem dL_merges_213 : decode cL_merges 213 = .ok (.bipush 12, 2) := by decide +kernel
theorem dL_merges_215 : decode cL_merges 215 = .ok (.if_icmp .ge 107, 3) := by decide +kernel
theorem dL_merges_218 : decode cL_merges 218 = .ok (.aload_n 0, 1) := by decide +kernel
theorem dL_merges_219 : decode cL_merges 219 = .ok (.iload 8, 2) := by decide +kernel
theorem dL_merges_221 : decode cL_merges 221 = .ok (.iconst 0, 1) := by decide +kernel
theorem dL_merges_222 : decode cL_merges 222 = .ok (.invokevirtual 19, 3) := by decide +kernel
theorem dL_merges_225 : decode cL_merges 225 = .ok (.ifCond .ne 97, 3) := by decide +kernel
theorem dL_merges_228 : decode cL_merges 228 = .ok (.aload_n 0, 1) := by decide +kernel
theorem dL_merges_229 : decode cL_merges 229 = .ok (.iload 6, 2) := by decide +kernel
theorem dL_merges_231 : decode cL_merges 231 = .ok (.iload 14, 2) := by decide +kernel
theorem dL_merges_233 : decode cL_merges 233 = .ok (.invokevirtual 23, 3) := by decide +kernel
theorem dL_merges_236 : decode cL_merges 236 = .ok (.istore 15, 2) := by decide +kernel
theorem dL_merges_238 : decode cL_merges 238 = .ok (.aload_n 0, 1) := by decide +kernel
theorem dL_merges_239 : decode cL_merges 239 = .ok (.iload 7, 2) := by decide +kernel
theorem dL_merges_241 : decode cL_merges 241 = .ok (.iload 14, 2) := by decide +kernel
theorem dL_merges_243 : decode cL_merges 243 = .ok (.invokevirtual 23, 3) := by decide +kernel
theorem dL_merges_246 : decode cL_merges 246 = .ok (.istore 16, 2) := by decide +kernel
theorem dL_merges_248 : decode cL_merges 248 = .ok (.aload_n 0, 1) := by decide +kernel
theorem dL_merges_249 : decode cL_merges 249 = .ok (.iload 8, 2) := by decide +kernel
theorem dL_merges_251 : decode cL_merges 251 = .ok (.iload 14, 2) := by decide +kernel
theorem dL_merges_253 : decode cL_merges 253 = .ok (.invokevirtual 23, 3) := by decide +kernel
theorem dL_merges_256 : decode cL_merges 256 = .ok (.istore 17, 2) := by decide +kernel
theorem dL_merges_258 : decode cL_merges 258 = .ok (.iload 13, 2) := by decide +kernel
theorem dL_merges_260 : decode cL_merges 260 = .ok (.iload 15, 2) := by decide +kernel
theorem dL_merges_262 : decode cL_merges 262 = .ok (.iload 16, 2) := by decide +kernel
theorem dL_merges_264 : decode cL_merges 264 = .ok (.if_icmp .eq 21, 3) := by decide +kernel
theorem dL_merges_267 : decode cL_merges 267 = .ok (.iload 15, 2) := by decide +kernel
theorem dL_merges_269 : decode cL_merges 269 = .ok (.iload 17, 2) := by decide +kernel
theorem dL_merges_271 : decode cL_merges 271 = .ok (.if_icmp .eq 14, 3) := by decide +kernel
theorem dL_merges_274 : decode cL_merges 274 = .ok (.iload 16, 2) := by decide +kernel
theorem dL_merges_276 : decode cL_merges 276 = .ok (.iload 17, 2) := by decide +kernel
theorem dL_merges_278 : decode cL_merges 278 = .ok (.if_icmp .eq 7, 3) := by decide +kernel
theorem dL_merges_281 : decode cL_merges 281 = .ok (.iconst 1, 1) := by decide +kernel
theorem dL_merges_282 : decode cL_merges 282 = .ok (.goto 4, 3) := by decide +kernel
theorem dL_merges_285 : decode cL_merges 285 = .ok (.iconst 0, 1) := by decide +kernel
theorem dL_merges_286 : decode cL_merges 286 = .ok (.iadd, 1) := by decide +kernel
theorem dL_merges_287 : decode cL_merges 287 = .ok (.istore 13, 2) := by decide +kernel
theorem dL_merges_289 : decode cL_merges 289 = .ok (.aload_n 0, 1) := by decide +kernel
theorem dL_merges_290 : decode cL_merges 290 = .ok (.iload 5, 2) := by decide +kernel
theorem dL_merges_292 : decode cL_merges 292 = .ok (.iload 14, 2) := by decide +kernel
theorem dL_merges_294 : decode cL_merges 294 = .ok (.invokevirtual 23, 3) := by decide +kernel
theorem dL_merges_297 : decode cL_merges 297 = .ok (.iload 15, 2) := by decide +kernel
theorem dL_merges_299 : decode cL_merges 299 = .ok (.iload 17, 2) := by decide +kernel
theorem dL_merges_301 : decode cL_merges 301 = .ok (.if_icmp .ne 8, 3) := by decide +kernel
theorem dL_merges_304 : decode cL_merges 304 = .ok (.iload 16, 2) := by decide +kernel
theorem dL_merges_306 : decode cL_merges 306 = .ok (.goto 5, 3) := by decide +kernel
theorem dL_merges_309 : decode cL_merges 309 = .ok (.iload 15, 2) := by decide +kernel
theorem dL_merges_311 : decode cL_merges 311 = .ok (.if_icmp .eq 5, 3) := by decide +kernel
theorem dL_merges_314 : decode cL_merges 314 = .ok (.iconst 0, 1) := by decide +kernel
theorem dL_merges_315 : decode cL_merges 315 = .ok (.ireturn, 1) := by decide +kernel
theorem dL_merges_316 : decode cL_merges 316 = .ok (.iinc 14 1, 3) := by decide +kernel
theorem dL_merges_319 : decode cL_merges 319 = .ok (.goto (-108), 3) := by decide +kernel
theorem dL_merges_322 : decode cL_merges 322 = .ok (.iload 8, 2) := by decide +kernel
theorem dL_merges_324 : decode cL_merges 324 = .ok (.iload 7, 2) := by decide +kernel
theorem dL_merges_326 : decode cL_merges 326 = .ok (.if_icmp .ge 85, 3) := by decide +kernel
theorem dL_merges_329 : decode cL_merges 329 = .ok (.aload_n 0, 1) := by decide +kernel
theorem dL_merges_330 : decode cL_merges 330 = .ok (.iload_n 3, 1) := by decide +kernel
theorem dL_merges_331 : decode cL_merges 331 = .ok (.invokevirtual 26, 3) := by decide +kernel
theorem dL_merges_334 : decode cL_merges 334 = .ok (.iload 5, 2) := by decide +kernel
theorem dL_merges_336 : decode cL_merges 336 = .ok (.if_icmp .ne 75, 3) := by decide +kernel
theorem dL_merges_339 : decode cL_merges 339 = .ok (.aload_n 0, 1) := by decide +kernel
theorem dL_merges_340 : decode cL_merges 340 = .ok (.iload 5, 2) := by decide +kernel
theorem dL_merges_342 : decode cL_merges 342 = .ok (.iconst 1, 1) := by decide +kernel
theorem dL_merges_343 : decode cL_merges 343 = .ok (.invokevirtual 19, 3) := by decide +kernel
theorem dL_merges_346 : decode cL_merges 346 = .ok (.iload 6, 2) := by decide +kernel
theorem dL_merges_348 : decode cL_merges 348 = .ok (.if_icmp .ne 63, 3) := by decide +kernel
theorem dL_merges_351 : decode cL_merges 351 = .ok (.aload_n 0, 1) := by decide +kernel
theorem dL_merges_352 : decode cL_merges 352 = .ok (.iload 5, 2) := by decide +kernel
theorem dL_merges_354 : decode cL_merges 354 = .ok (.iconst 2, 1) := by decide +kernel
theorem dL_merges_355 : decode cL_merges 355 = .ok (.invokevirtual 19, 3) := by decide +kernel
theorem dL_merges_358 : decode cL_merges 358 = .ok (.iload 7, 2) := by decide +kernel
theorem dL_merges_360 : decode cL_merges 360 = .ok (.if_icmp .ne 51, 3) := by decide +kernel
theorem dL_merges_363 : decode cL_merges 363 = .ok (.aload_n 0, 1) := by decide +kernel
theorem dL_merges_364 : decode cL_merges 364 = .ok (.iload 8, 2) := by decide +kernel
theorem dL_merges_366 : decode cL_merges 366 = .ok (.iconst 0, 1) := by decide +kernel
theorem dL_merges_367 : decode cL_merges 367 = .ok (.invokevirtual 19, 3) := by decide +kernel
theorem dL_merges_370 : decode cL_merges 370 = .ok (.ifCond .gt 10, 3) := by decide +kernel
theorem dL_merges_373 : decode cL_merges 373 = .ok (.iload 12, 2) := by decide +kernel
theorem dL_merges_375 : decode cL_merges 375 = .ok (.iload 13, 2) := by decide +kernel
theorem dL_merges_377 : decode cL_merges 377 = .ok (.if_icmp .ne 34, 3) := by decide +kernel
theorem dL_merges_380 : decode cL_merges 380 = .ok (.aload_n 0, 1) := by decide +kernel
theorem dL_merges_381 : decode cL_merges 381 = .ok (.bipush 11, 2) := by decide +kernel
theorem dL_merges_383 : decode cL_merges 383 = .ok (.invokevirtual 13, 3) := by decide +kernel
theorem dL_merges_386 : decode cL_merges 386 = .ok (.iload 10, 2) := by decide +kernel
theorem dL_merges_388 : decode cL_merges 388 = .ok (.iload 12, 2) := by decide +kernel
theorem dL_merges_390 : decode cL_merges 390 = .ok (.iadd, 1) := by decide +kernel
theorem dL_merges_391 : decode cL_merges 391 = .ok (.if_icmp .ne 20, 3) := by decide +kernel
theorem dL_merges_394 : decode cL_merges 394 = .ok (.aload_n 0, 1) := by decide +kernel
theorem dL_merges_395 : decode cL_merges 395 = .ok (.bipush 10, 2) := by decide +kernel
theorem dL_merges_397 : decode cL_merges 397 = .ok (.invokevirtual 13, 3) := by decide +kernel
theorem dL_merges_400 : decode cL_merges 400 = .ok (.iload 11, 2) := by decide +kernel
theorem dL_merges_402 : decode cL_merges 402 = .ok (.iconst 1, 1) := by decide +kernel
theorem dL_merges_403 : decode cL_merges 403 = .ok (.iadd, 1) := by decide +kernel
theorem dL_merges_404 : decode cL_merges 404 = .ok (.if_icmp .ne 7, 3) := by decide +kernel
theorem dL_merges_407 : decode cL_merges 407 = .ok (.iconst 1, 1) := by decide +kernel
theorem dL_merges_408 : decode cL_merges 408 = .ok (.goto 4, 3) := by decide +kernel
theorem dL_merges_411 : decode cL_merges 411 = .ok (.iconst 0, 1) := by decide +kernel
theorem dL_merges_412 : decode cL_merges 412 = .ok (.ireturn, 1) := by decide +kernel

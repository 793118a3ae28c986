set_option maxRecDepth 20000 in
theorem ggL_commits_X5_count : GoodIn wsL_commits wsX5_count := goodIn_r _ [5, 6, 7, 8, 9, 10, 11, 12, 13, 14, 15, 16, 17, 18, 19, 20, 21, 22, 23, 24, 25, 26, 27, 28, 29, 30, 31, 32, 33, 34, 35, 36, 37, 38, 39, 40, 41, 42, 43, 44, 45, 46, 47, 48, 49, 50, 51, 52, 53, 54, 55, 56, 57, 58, 59, 60, 61, 62, 63, 64, 65, 66, 67, 68, 69, 70, 71, 72, 73, 74, 75, 76, 77, 78, 79, 80, 81, 82, 83, 84, 85, 86, 87, 88, 89, 279, 280, 281, 282, 283, 284, 285, 286, 287, 288, 289, 290, 291, 292, 293, 294, 295, 296, 297, 298, 299, 300, 301, 302, 303, 304, 305] rfl (by decide +kernel)
set_option maxRecDepth 20000 in
theorem gL_commits_X5_count : GoodIn wsL_commits (wsV RL 13 RX5 yX5_count wsX5_count) := goodIn_app (goodIn_of _ (by decide +kernel)) ggL_commits_X5_count
set_option maxRecDepth 20000 in
theorem ggL_commits_L_low : GoodIn wsL_commits wsL_low := goodIn_r _ [93, 94] rfl (by decide +kernel)
set_option maxRecDepth 20000 in
theorem gL_commits_L_low : GoodIn wsL_commits (va_wsS RL 51 yL_low wsL_low) := goodIn_app (goodIn_of _ (by decide +kernel)) ggL_commits_L_low
set_option maxRecDepth 20000 in
theorem ggL_commits_X5_head : GoodIn wsL_commits wsX5_head := goodIn_r _ [98, 8, 99, 100, 101, 102, 103, 104, 105, 106, 107, 108, 109, 110, 279, 280, 281, 282, 283, 284, 285, 293, 294, 295, 296, 297, 298] rfl (by decide +kernel)
set_option maxRecDepth 20000 in
theorem gL_commits_X5_head : GoodIn wsL_commits (wsV RL 26 RX5 yX5_head wsX5_head) := goodIn_app (goodIn_of _ (by decide +kernel)) ggL_commits_X5_head
set_option maxRecDepth 20000 in
theorem ggL_commits_X5_why : GoodIn wsL_commits wsX5_why := goodIn_r _ [114, 6, 115, 41, 42, 20, 43, 27, 28, 29, 30, 31, 22, 116, 82, 83, 84, 85, 86, 87, 88, 89, 44, 45, 46, 47, 48, 117, 118, 119, 120, 121, 122, 123, 124, 279, 280, 281, 282, 283, 284, 285, 286, 287, 288, 289, 290, 291, 292] rfl (by decide +kernel)
set_option maxRecDepth 20000 in
theorem gL_commits_X5_why : GoodIn wsL_commits (wsV RL 32 RX5 yX5_why wsX5_why) := goodIn_app (goodIn_of _ (by decide +kernel)) ggL_commits_X5_why
set_option maxRecDepth 20000 in
theorem ggL_commits_L_edits : GoodIn wsL_commits wsL_edits := goodIn_r _ [127, 128, 129, 130, 4, 131, 15, 132, 133, 134, 135, 136, 137, 90, 91, 92, 93, 94, 138, 139, 140, 141, 16, 142, 143, 144, 145, 146, 279, 280, 281, 282, 283, 284, 285, 302, 303, 304, 305] rfl (by decide +kernel)
set_option maxRecDepth 20000 in
theorem gL_commits_L_edits : GoodIn wsL_commits (va_wsS RL 60 yL_edits wsL_edits) := goodIn_app (goodIn_of _ (by decide +kernel)) ggL_commits_L_edits
set_option maxRecDepth 20000 in
theorem ggL_commits_X5_commit : GoodIn wsL_commits wsX5_commit := goodIn_r _ [150, 8, 15, 6, 7, 151, 13, 99, 100, 101, 102, 103, 104, 152, 153, 154, 135, 155, 156, 157, 137, 158, 159, 160, 161, 162, 163, 164, 165, 166, 167, 168, 169, 170, 171, 172, 173, 146, 174, 175, 176, 177, 105, 106, 107, 108, 109, 110, 178, 78, 79, 20, 80, 81, 82, 83, 84, 85, 86, 87, 88, 89, 28, 29, 30, 31, 22, 44, 45, 46, 47, 48, 179, 180, 181, 182, 183, 184, 185, 186, 53, 187, 188, 189, 190, 191, 192, 193, 194, 195, 196, 197, 198, 199, 200, 201, 202, 203, 67, 204, 205, 206, 207, 208, 209, 210, 211, 212, 213, 214, 215, 216, 217, 218, 219, 27, 220, 221, 222, 223, 224, 225, 226, 227, 228, 229, 230, 231, 232, 233, 234, 235, 236, 237, 4, 238, 10, 239, 240, 241, 242, 40, 41, 42, 43, 243, 244, 245, 246, 69, 70, 71, 72, 247, 54, 55, 56, 248, 249, 250, 251, 279, 280, 281, 282, 283, 284, 285, 286, 287, 288, 289, 290, 291, 292, 293, 294, 295, 296, 297, 298, 302, 303, 304, 305, 299, 300, 301] rfl (by decide +kernel)
set_option maxRecDepth 20000 in
theorem gL_commits_X5_commit : GoodIn wsL_commits (wsV RL 64 RX5 yX5_commit wsX5_commit) := goodIn_app (goodIn_of _ (by decide +kernel)) ggL_commits_X5_commit
set_option maxRecDepth 20000 in
theorem ggL_commits_X5_differ : GoodIn wsL_commits wsX5_differ := goodIn_r _ [255, 6, 115, 41, 42, 20, 43, 27, 28, 29, 30, 31, 22, 178, 78, 79, 80, 81, 82, 83, 84, 85, 86, 87, 88, 89, 44, 45, 46, 47, 48, 256, 50, 51, 52, 53, 279, 280, 281, 282, 283, 284, 285, 286, 287, 288, 289, 290, 291, 292] rfl (by decide +kernel)
set_option maxRecDepth 20000 in
theorem gL_commits_X5_differ : GoodIn wsL_commits (wsV RL 38 RX5 yX5_differ wsX5_differ) := goodIn_app (goodIn_of _ (by decide +kernel)) ggL_commits_X5_differ
set_option maxRecDepth 20000 in
theorem ggL_commits_X5_version : GoodIn wsL_commits wsX5_version := goodIn_r _ [260, 6, 261, 29, 30, 20, 31, 22, 262, 24, 25, 26, 27, 28, 263, 264, 265, 266, 220, 267, 268, 269, 270, 221, 271, 45, 46, 47, 48, 115, 41, 42, 43, 272, 70, 71, 72, 44, 273, 37, 38, 39, 40, 49, 50, 51, 52, 53, 54, 55, 56, 274, 275, 276, 277, 278, 86, 87, 88, 89, 279, 280, 281, 282, 283, 284, 285, 286, 287, 288, 289, 290, 291, 292] rfl (by decide +kernel)
set_option maxRecDepth 20000 in
theorem gL_commits_X5_version : GoodIn wsL_commits (wsV RL 19 RX5 yX5_version wsX5_version) := goodIn_app (goodIn_of _ (by decide +kernel)) ggL_commits_X5_version
theorem dL_commits_0 : decode cL_commits 0 = .ok (.iload_n 1, 1) := by decide +kernel
theorem dL_commits_1 : decode cL_commits 1 = .ok (.bipush 20, 2) := by decide +kernel
theorem dL_commits_3 : decode cL_commits 3 = .ok (.ishr, 1) := by decide +kernel
theorem dL_commits_4 : decode cL_commits 4 = .ok (.aload_n 0, 1) := by decide +kernel
theorem dL_commits_5 : decode cL_commits 5 = .ok (.iconst 4, 1) := by decide +kernel
theorem dL_commits_6 : decode cL_commits 6 = .ok (.invokevirtual 13, 3) := by decide +kernel
theorem dL_commits_9 : decode cL_commits 9 = .ok (.invokestatic 51, 3) := by decide +kernel
theorem dL_commits_12 : decode cL_commits 12 = .ok (.istore_n 3, 1) := by decide +kernel
theorem dL_commits_13 : decode cL_commits 13 = .ok (.aload_n 0, 1) := by decide +kernel
theorem dL_commits_14 : decode cL_commits 14 = .ok (.iconst 0, 1) := by decide +kernel
theorem dL_commits_15 : decode cL_commits 15 = .ok (.invokevirtual 13, 3) := by decide +kernel
theorem dL_commits_18 : decode cL_commits 18 = .ok (.istore 4, 2) := by decide +kernel
theorem dL_commits_20 : decode cL_commits 20 = .ok (.aload_n 0, 1) := by decide +kernel
theorem dL_commits_21 : decode cL_commits 21 = .ok (.iload_n 3, 1) := by decide +kernel
theorem dL_commits_22 : decode cL_commits 22 = .ok (.invokevirtual 26, 3) := by decide +kernel
theorem dL_commits_25 : decode cL_commits 25 = .ok (.istore 5, 2) := by decide +kernel
theorem dL_commits_27 : decode cL_commits 27 = .ok (.aload_n 0, 1) := by decide +kernel
theorem dL_commits_28 : decode cL_commits 28 = .ok (.iload 5, 2) := by decide +kernel
theorem dL_commits_30 : decode cL_commits 30 = .ok (.iconst 0, 1) := by decide +kernel
theorem dL_commits_31 : decode cL_commits 31 = .ok (.invokevirtual 32, 3) := by decide +kernel
theorem dL_commits_34 : decode cL_commits 34 = .ok (.ifCond .lt 7, 3) := by decide +kernel
theorem dL_commits_37 : decode cL_commits 37 = .ok (.iconst 1, 1) := by decide +kernel
theorem dL_commits_38 : decode cL_commits 38 = .ok (.goto 4, 3) := by decide +kernel
theorem dL_commits_41 : decode cL_commits 41 = .ok (.iconst 0, 1) := by decide +kernel
theorem dL_commits_42 : decode cL_commits 42 = .ok (.istore 6, 2) := by decide +kernel
theorem dL_commits_44 : decode cL_commits 44 = .ok (.aload_n 0, 1) := by decide +kernel
theorem dL_commits_45 : decode cL_commits 45 = .ok (.iload_n 1, 1) := by decide +kernel
theorem dL_commits_46 : decode cL_commits 46 = .ok (.iload_n 2, 1) := by decide +kernel
theorem dL_commits_47 : decode cL_commits 47 = .ok (.invokestatic 60, 3) := by decide +kernel
theorem dL_commits_50 : decode cL_commits 50 = .ok (.aload_n 0, 1) := by decide +kernel
theorem dL_commits_51 : decode cL_commits 51 = .ok (.iload_n 3, 1) := by decide +kernel
theorem dL_commits_52 : decode cL_commits 52 = .ok (.invokevirtual 64, 3) := by decide +kernel
theorem dL_commits_55 : decode cL_commits 55 = .ok (.istore 7, 2) := by decide +kernel
theorem dL_commits_57 : decode cL_commits 57 = .ok (.iload 6, 2) := by decide +kernel
theorem dL_commits_59 : decode cL_commits 59 = .ok (.ifCond .ne 10, 3) := by decide +kernel
theorem dL_commits_62 : decode cL_commits 62 = .ok (.iload 4, 2) := by decide +kernel
theorem dL_commits_64 : decode cL_commits 64 = .ok (.bipush 40, 2) := by decide +kernel
theorem dL_commits_66 : decode cL_commits 66 = .ok (.if_icmp .ne 26, 3) := by decide +kernel
theorem dL_commits_69 : decode cL_commits 69 = .ok (.iload 7, 2) := by decide +kernel
theorem dL_commits_71 : decode cL_commits 71 = .ok (.iload 6, 2) := by decide +kernel
theorem dL_commits_73 : decode cL_commits 73 = .ok (.ifCond .eq 8, 3) := by decide +kernel
theorem dL_commits_76 : decode cL_commits 76 = .ok (.bipush (-6), 2) := by decide +kernel
theorem dL_commits_78 : decode cL_commits 78 = .ok (.goto 5, 3) := by decide +kernel
theorem dL_commits_81 : decode cL_commits 81 = .ok (.bipush (-3), 2) := by decide +kernel
theorem dL_commits_83 : decode cL_commits 83 = .ok (.if_icmp .ne 7, 3) := by decide +kernel
theorem dL_commits_86 : decode cL_commits 86 = .ok (.iconst 1, 1) := by decide +kernel
theorem dL_commits_87 : decode cL_commits 87 = .ok (.goto 4, 3) := by decide +kernel
theorem dL_commits_90 : decode cL_commits 90 = .ok (.iconst 0, 1) := by decide +kernel
theorem dL_commits_91 : decode cL_commits 91 = .ok (.ireturn, 1) := by decide +kernel
theorem dL_commits_92 : decode cL_commits 92 = .ok (.iload 7, 2) := by decide +kernel
theorem dL_commits_94 : decode cL_commits 94 = .ok (.bipush (-5), 2) := by decide +kernel
theorem dL_commits_96 : decode cL_commits 96 = .ok (.if_icmp .ne 29, 3) := by decide +kernel
theorem dL_commits_99 : decode cL_commits 99 = .ok (.aload_n 0, 1) := by decide +kernel
theorem dL_commits_100 : decode cL_commits 100 = .ok (.iconst 0, 1) := by decide +kernel
theorem dL_commits_101 : decode cL_commits 101 = .ok (.invokevirtual 13, 3) := by decide +kernel
theorem dL_commits_104 : decode cL_commits 104 = .ok (.iload 4, 2) := by decide +kernel
theorem dL_commits_106 : decode cL_commits 106 = .ok (.if_icmp .ne 17, 3) := by decide +kernel
theorem dL_commits_109 : decode cL_commits 109 = .ok (.aload_n 0, 1) := by decide +kernel
theorem dL_commits_110 : decode cL_commits 110 = .ok (.iload_n 3, 1) := by decide +kernel
theorem dL_commits_111 : decode cL_commits 111 = .ok (.invokevirtual 26, 3) := by decide +kernel
theorem dL_commits_114 : decode cL_commits 114 = .ok (.iload 5, 2) := by decide +kernel
theorem dL_commits_116 : decode cL_commits 116 = .ok (.if_icmp .ne 7, 3) := by decide +kernel
theorem dL_commits_119 : decode cL_commits 119 = .ok (.iconst 1, 1) := by decide +kernel
theorem dL_commits_120 : decode cL_commits 120 = .ok (.goto 4, 3) := by decide +kernel
theorem dL_commits_123 : decode cL_commits 123 = .ok (.iconst 0, 1) := by decide +kernel
theorem dL_commits_124 : decode cL_commits 124 = .ok (.ireturn, 1) := by decide +kernel
theorem dL_commits_125 : decode cL_commits 125 = .ok (.aload_n 0, 1) := by decide +kernel
theorem dL_commits_126 : decode cL_commits 126 = .ok (.iload 4, 2) := by decide +kernel
theorem dL_commits_128 : decode cL_commits 128 = .ok (.iload 5, 2) := by decide +kernel
theorem dL_commits_130 : decode cL_commits 130 = .ok (.invokevirtual 38, 3) := by decide +kernel
theorem dL_commits_133 : decode cL_commits 133 = .ok (.istore 8, 2) := by decide +kernel
theorem dL_commits_135 : decode cL_commits 135 = .ok (.aload_n 0, 1) := by decide +kernel
theorem dL_commits_136 : decode cL_commits 136 = .ok (.iload 5, 2) := by decide +kernel
theorem dL_commits_138 : decode cL_commits 138 = .ok (.iconst 4, 1) := by decide +kernel
theorem dL_commits_139 : decode cL_commits 139 = .ok (.invokevirtual 19, 3) := by decide +kernel
theorem dL_commits_142 : decode cL_commits 142 = .ok (.aload_n 0, 1) := by decide +kernel
theorem dL_commits_143 : decode cL_commits 143 = .ok (.iconst 5, 1) := by decide +kernel
theorem dL_commits_144 : decode cL_commits 144 = .ok (.invokevirtual 13, 3) := by decide +kernel
theorem dL_commits_147 : decode cL_commits 147 = .ok (.if_icmp .ge 9, 3) := by decide +kernel
theorem dL_commits_150 : decode cL_commits 150 = .ok (.iload 8, 2) := by decide +kernel
theorem dL_commits_152 : decode cL_commits 152 = .ok (.iconst 5, 1) := by decide +kernel
theorem dL_commits_153 : decode cL_commits 153 = .ok (.if_icmp .le 7, 3) := by decide +kernel
theorem dL_commits_156 : decode cL_commits 156 = .ok (.iconst 1, 1) := by decide +kernel
theorem dL_commits_157 : decode cL_commits 157 = .ok (.goto 4, 3) := by decide +kernel
theorem dL_commits_160 : decode cL_commits 160 = .ok (.iconst 0, 1) := by decide +kernel
theorem dL_commits_161 : decode cL_commits 161 = .ok (.istore 9, 2) := by decide +kernel
theorem dL_commits_163 : decode cL_commits 163 = .ok (.iload 7, 2) := by decide +kernel
theorem dL_commits_165 : decode cL_commits 165 = .ok (.iload 4, 2) := by decide +kernel
theorem dL_commits_167 : decode cL_commits 167 = .ok (.if_icmp .ne 74, 3) := by decide +kernel
theorem dL_commits_170 : decode cL_commits 170 = .ok (.aload_n 0, 1) := by decide +kernel
theorem dL_commits_171 : decode cL_commits 171 = .ok (.iload_n 3, 1) := by decide +kernel
theorem dL_commits_172 : decode cL_commits 172 = .ok (.invokevirtual 26, 3) := by decide +kernel
theorem dL_commits_175 : decode cL_commits 175 = .ok (.iload 4, 2) := by decide +kernel
theorem dL_commits_177 : decode cL_commits 177 = .ok (.if_icmp .ne 64, 3) := by decide +kernel
theorem dL_commits_180 : decode cL_commits 180 = .ok (.aload_n 0, 1) := by decide +kernel
theorem dL_commits_181 : decode cL_commits 181 = .ok (.iload 4, 2) := by decide +kernel
theorem dL_commits_183 : decode cL_commits 183 = .ok (.iconst 1, 1) := by decide +kernel
theorem dL_commits_184 : decode cL_commits 184 = .ok (.invokevirtual 19, 3) := by decide +kernel
theorem dL_commits_187 : decode cL_commits 187 = .ok (.iload 5, 2) := by decide +kernel
theorem dL_commits_189 : decode cL_commits 189 = .ok (.if_icmp .ne 52, 3) := by decide +kernel
theorem dL_commits_192 : decode cL_commits 192 = .ok (.aload_n 0, 1) := by decide +kernel
theorem dL_commits_193 : decode cL_commits 193 = .ok (.iload 4, 2) := by decide +kernel
theorem dL_commits_195 : decode cL_commits 195 = .ok (.iconst 2, 1) := by decide +kernel
theorem dL_commits_196 : decode cL_commits 196 = .ok (.invokevirtual 19, 3) := by decide +kernel
theorem dL_commits_199 : decode cL_commits 199 = .ok (.bipush (-5), 2) := by decide +kernel
theorem dL_commits_201 : decode cL_commits 201 = .ok (.if_icmp .ne 40, 3) := by decide +kernel
theorem dL_commits_204 : decode cL_commits 204 = .ok (.iload 8, 2) := by decide +kernel
theorem dL_commits_206 : decode cL_commits 206 = .ok (.ifCond .le 35, 3) := by decide +kernel
theorem dL_commits_209 : decode cL_commits 209 = .ok (.iload 8, 2) := by decide +kernel
theorem dL_commits_211 : decode cL_commits 211 = .ok (.iconst 4, 1) := by decide +kernel
theorem dL_commits_212 : decode cL_commits 212 = .ok (.if_icmp .gt 29, 3) := by decide +kernel
theorem dL_commits_215 : decode cL_commits 215 = .ok (.aload_n 0, 1) := by decide +kernel
theorem dL_commits_216 : decode cL_commits 216 = .ok (.iload 4, 2) := by decide +kernel
theorem dL_commits_218 : decode cL_commits 218 = .ok (.iconst 3, 1) := by decide +kernel
theorem dL_commits_219 : decode cL_commits 219 = .ok (.invokevirtual 19, 3) := by decide +kernel
theorem dL_commits_222 : decode cL_commits 222 = .ok (.iload 9, 2) := by decide +kernel
theorem dL_commits_224 : decode cL_commits 224 = .ok (.ifCond .eq 8, 3) := by decide +kernel
theorem dL_commits_227 : decode cL_commits 227 = .ok (.bipush (-5), 2) := by decide +kernel
theorem dL_commits_229 : decode cL_commits 229 = .ok (.goto 5, 3) := by decide +kernel
theorem dL_commits_232 : decode cL_commits 232 = .ok (.iload 5, 2) := by decide +kernel
theorem dL_commits_234 : decode cL_commits 234 = .ok (.if_icmp .ne 7, 3) := by decide +kernel
theorem dL_commits_237 : decode cL_commits 237 = .ok (.iconst 1, 1) := by decide +kernel
theorem dL_commits_238 : decode cL_commits 238 = .ok (.goto 4, 3) := by decide +kernel
theorem dL_commits_241 : decode cL_commits 241 = .ok (.iconst 0, 1) := by decide +kernel
theorem dL_commits_242 : decode cL_commits 242 = .ok (.ireturn, 1) := by decide +kernel

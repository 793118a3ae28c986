set_option maxRecDepth 20000 in
theorem ggL_digest_X5_count : GoodIn wsL_digest wsX5_count := goodIn_r _ [7, 8, 9, 10, 11, 12, 13, 14, 15, 16, 17, 18, 19, 20, 21, 22, 23, 24, 25, 26, 27, 28, 29, 30, 31, 32, 33, 34, 35, 36, 37, 38, 39, 40, 41, 42, 43, 44, 45, 46, 47, 48, 49, 50, 51, 52, 53, 54, 55, 56, 57, 58, 59, 60, 61, 62, 63, 64, 65, 66, 67, 68, 69, 70, 71, 72, 73, 74, 75, 76, 77, 78, 79, 80, 81, 82, 83, 84, 85, 86, 87, 88, 89, 90, 91, 146, 147, 148, 149, 150, 151, 152, 153, 154, 155, 156, 157, 158, 159, 160, 161, 162, 163, 164, 165, 166, 167, 168, 169, 170, 171, 172] rfl (by decide +kernel)
set_option maxRecDepth 20000 in
theorem gL_digest_X5_count : GoodIn wsL_digest (wsV RL 13 RX5 yX5_count wsX5_count) := goodIn_app (goodIn_of _ (by decide +kernel)) ggL_digest_X5_count
set_option maxRecDepth 20000 in
theorem ggL_digest_X5_version : GoodIn wsL_digest wsX5_version := goodIn_r _ [95, 8, 96, 31, 32, 22, 33, 24, 97, 26, 27, 28, 29, 30, 98, 99, 100, 101, 102, 103, 104, 105, 106, 107, 108, 47, 48, 49, 50, 109, 43, 44, 45, 110, 72, 73, 74, 46, 111, 39, 40, 41, 42, 51, 52, 53, 54, 55, 56, 57, 58, 112, 113, 114, 115, 116, 88, 89, 90, 91, 146, 147, 148, 149, 150, 151, 152, 153, 154, 155, 156, 157, 158, 159] rfl (by decide +kernel)
set_option maxRecDepth 20000 in
theorem gL_digest_X5_version : GoodIn wsL_digest (wsV RL 19 RX5 yX5_version wsX5_version) := goodIn_app (goodIn_of _ (by decide +kernel)) ggL_digest_X5_version
set_option maxRecDepth 20000 in
theorem ggL_digest_X5_read : GoodIn wsL_digest wsX5_read := goodIn_r _ [120, 8, 121, 122, 123, 22, 124, 29, 30, 31, 32, 33, 24, 125, 80, 81, 82, 83, 84, 85, 86, 87, 88, 89, 90, 91, 46, 47, 48, 49, 50, 126, 127, 128, 129, 55, 146, 147, 148, 149, 150, 151, 152, 153, 154, 155, 156, 157, 158, 159] rfl (by decide +kernel)
set_option maxRecDepth 20000 in
theorem gL_digest_X5_read : GoodIn wsL_digest (wsV RL 23 RX5 yX5_read wsX5_read) := goodIn_app (goodIn_of _ (by decide +kernel)) ggL_digest_X5_read
set_option maxRecDepth 20000 in
theorem ggL_digest_X5_head : GoodIn wsL_digest wsX5_head := goodIn_r _ [133, 10, 134, 135, 136, 137, 138, 139, 140, 141, 142, 143, 144, 145, 146, 147, 148, 149, 150, 151, 152, 160, 161, 162, 163, 164, 165] rfl (by decide +kernel)
set_option maxRecDepth 20000 in
theorem gL_digest_X5_head : GoodIn wsL_digest (wsV RL 26 RX5 yX5_head wsX5_head) := goodIn_app (goodIn_of _ (by decide +kernel)) ggL_digest_X5_head
theorem dL_digest_0 : decode cL_digest 0 = .ok (.ldc2_w 9, 3) := by decide +kernel
theorem dL_digest_3 : decode cL_digest 3 = .ok (.lstore_n 1, 1) := by decide +kernel
theorem dL_digest_4 : decode cL_digest 4 = .ok (.iconst 0, 1) := by decide +kernel
theorem dL_digest_5 : decode cL_digest 5 = .ok (.istore_n 3, 1) := by decide +kernel
theorem dL_digest_6 : decode cL_digest 6 = .ok (.iload_n 3, 1) := by decide +kernel
theorem dL_digest_7 : decode cL_digest 7 = .ok (.bipush 12, 2) := by decide +kernel
theorem dL_digest_9 : decode cL_digest 9 = .ok (.if_icmp .ge 22, 3) := by decide +kernel
theorem dL_digest_12 : decode cL_digest 12 = .ok (.ldc2_w 11, 3) := by decide +kernel
theorem dL_digest_15 : decode cL_digest 15 = .ok (.lload_n 1, 1) := by decide +kernel
theorem dL_digest_16 : decode cL_digest 16 = .ok (.lmul, 1) := by decide +kernel
theorem dL_digest_17 : decode cL_digest 17 = .ok (.aload_n 0, 1) := by decide +kernel
theorem dL_digest_18 : decode cL_digest 18 = .ok (.iload_n 3, 1) := by decide +kernel
theorem dL_digest_19 : decode cL_digest 19 = .ok (.invokevirtual 13, 3) := by decide +kernel
theorem dL_digest_22 : decode cL_digest 22 = .ok (.i2l, 1) := by decide +kernel
theorem dL_digest_23 : decode cL_digest 23 = .ok (.ladd, 1) := by decide +kernel
theorem dL_digest_24 : decode cL_digest 24 = .ok (.lstore_n 1, 1) := by decide +kernel
theorem dL_digest_25 : decode cL_digest 25 = .ok (.iinc 3 1, 3) := by decide +kernel
theorem dL_digest_28 : decode cL_digest 28 = .ok (.goto (-22), 3) := by decide +kernel
theorem dL_digest_31 : decode cL_digest 31 = .ok (.iconst 0, 1) := by decide +kernel
theorem dL_digest_32 : decode cL_digest 32 = .ok (.istore_n 3, 1) := by decide +kernel
theorem dL_digest_33 : decode cL_digest 33 = .ok (.iload_n 3, 1) := by decide +kernel
theorem dL_digest_34 : decode cL_digest 34 = .ok (.aload_n 0, 1) := by decide +kernel
theorem dL_digest_35 : decode cL_digest 35 = .ok (.iconst 0, 1) := by decide +kernel
theorem dL_digest_36 : decode cL_digest 36 = .ok (.invokevirtual 13, 3) := by decide +kernel
theorem dL_digest_39 : decode cL_digest 39 = .ok (.if_icmp .ge 71, 3) := by decide +kernel
theorem dL_digest_42 : decode cL_digest 42 = .ok (.iconst 0, 1) := by decide +kernel
theorem dL_digest_43 : decode cL_digest 43 = .ok (.istore 4, 2) := by decide +kernel
theorem dL_digest_45 : decode cL_digest 45 = .ok (.iload 4, 2) := by decide +kernel
theorem dL_digest_47 : decode cL_digest 47 = .ok (.bipush 8, 2) := by decide +kernel
theorem dL_digest_49 : decode cL_digest 49 = .ok (.if_icmp .ge 24, 3) := by decide +kernel
theorem dL_digest_52 : decode cL_digest 52 = .ok (.ldc2_w 11, 3) := by decide +kernel
theorem dL_digest_55 : decode cL_digest 55 = .ok (.lload_n 1, 1) := by decide +kernel
theorem dL_digest_56 : decode cL_digest 56 = .ok (.lmul, 1) := by decide +kernel
theorem dL_digest_57 : decode cL_digest 57 = .ok (.aload_n 0, 1) := by decide +kernel
theorem dL_digest_58 : decode cL_digest 58 = .ok (.iload_n 3, 1) := by decide +kernel
theorem dL_digest_59 : decode cL_digest 59 = .ok (.iload 4, 2) := by decide +kernel
theorem dL_digest_61 : decode cL_digest 61 = .ok (.invokevirtual 19, 3) := by decide +kernel
theorem dL_digest_64 : decode cL_digest 64 = .ok (.i2l, 1) := by decide +kernel
theorem dL_digest_65 : decode cL_digest 65 = .ok (.ladd, 1) := by decide +kernel
theorem dL_digest_66 : decode cL_digest 66 = .ok (.lstore_n 1, 1) := by decide +kernel
theorem dL_digest_67 : decode cL_digest 67 = .ok (.iinc 4 1, 3) := by decide +kernel
theorem dL_digest_70 : decode cL_digest 70 = .ok (.goto (-25), 3) := by decide +kernel
theorem dL_digest_73 : decode cL_digest 73 = .ok (.iconst 0, 1) := by decide +kernel
theorem dL_digest_74 : decode cL_digest 74 = .ok (.istore 4, 2) := by decide +kernel
theorem dL_digest_76 : decode cL_digest 76 = .ok (.iload 4, 2) := by decide +kernel
theorem dL_digest_78 : decode cL_digest 78 = .ok (.bipush 12, 2) := by decide +kernel
theorem dL_digest_80 : decode cL_digest 80 = .ok (.if_icmp .ge 24, 3) := by decide +kernel
theorem dL_digest_83 : decode cL_digest 83 = .ok (.ldc2_w 11, 3) := by decide +kernel
theorem dL_digest_86 : decode cL_digest 86 = .ok (.lload_n 1, 1) := by decide +kernel
theorem dL_digest_87 : decode cL_digest 87 = .ok (.lmul, 1) := by decide +kernel
theorem dL_digest_88 : decode cL_digest 88 = .ok (.aload_n 0, 1) := by decide +kernel
theorem dL_digest_89 : decode cL_digest 89 = .ok (.iload_n 3, 1) := by decide +kernel
theorem dL_digest_90 : decode cL_digest 90 = .ok (.iload 4, 2) := by decide +kernel
theorem dL_digest_92 : decode cL_digest 92 = .ok (.invokevirtual 23, 3) := by decide +kernel
theorem dL_digest_95 : decode cL_digest 95 = .ok (.i2l, 1) := by decide +kernel
theorem dL_digest_96 : decode cL_digest 96 = .ok (.ladd, 1) := by decide +kernel
theorem dL_digest_97 : decode cL_digest 97 = .ok (.lstore_n 1, 1) := by decide +kernel
theorem dL_digest_98 : decode cL_digest 98 = .ok (.iinc 4 1, 3) := by decide +kernel
theorem dL_digest_101 : decode cL_digest 101 = .ok (.goto (-25), 3) := by decide +kernel
theorem dL_digest_104 : decode cL_digest 104 = .ok (.iinc 3 1, 3) := by decide +kernel
theorem dL_digest_107 : decode cL_digest 107 = .ok (.goto (-74), 3) := by decide +kernel
theorem dL_digest_110 : decode cL_digest 110 = .ok (.iconst 0, 1) := by decide +kernel
theorem dL_digest_111 : decode cL_digest 111 = .ok (.istore_n 3, 1) := by decide +kernel
theorem dL_digest_112 : decode cL_digest 112 = .ok (.iload_n 3, 1) := by decide +kernel
theorem dL_digest_113 : decode cL_digest 113 = .ok (.aload_n 0, 1) := by decide +kernel
theorem dL_digest_114 : decode cL_digest 114 = .ok (.iconst 4, 1) := by decide +kernel
theorem dL_digest_115 : decode cL_digest 115 = .ok (.invokevirtual 13, 3) := by decide +kernel
theorem dL_digest_118 : decode cL_digest 118 = .ok (.if_icmp .ge 22, 3) := by decide +kernel
theorem dL_digest_121 : decode cL_digest 121 = .ok (.ldc2_w 11, 3) := by decide +kernel
theorem dL_digest_124 : decode cL_digest 124 = .ok (.lload_n 1, 1) := by decide +kernel
theorem dL_digest_125 : decode cL_digest 125 = .ok (.lmul, 1) := by decide +kernel
theorem dL_digest_126 : decode cL_digest 126 = .ok (.aload_n 0, 1) := by decide +kernel
theorem dL_digest_127 : decode cL_digest 127 = .ok (.iload_n 3, 1) := by decide +kernel
theorem dL_digest_128 : decode cL_digest 128 = .ok (.invokevirtual 26, 3) := by decide +kernel
theorem dL_digest_131 : decode cL_digest 131 = .ok (.i2l, 1) := by decide +kernel
theorem dL_digest_132 : decode cL_digest 132 = .ok (.ladd, 1) := by decide +kernel
theorem dL_digest_133 : decode cL_digest 133 = .ok (.lstore_n 1, 1) := by decide +kernel
theorem dL_digest_134 : decode cL_digest 134 = .ok (.iinc 3 1, 3) := by decide +kernel
theorem dL_digest_137 : decode cL_digest 137 = .ok (.goto (-25), 3) := by decide +kernel
theorem dL_digest_140 : decode cL_digest 140 = .ok (.lload_n 1, 1) := by decide +kernel
theorem dL_digest_141 : decode cL_digest 141 = .ok (.lreturn, 1) := by decide +kernel

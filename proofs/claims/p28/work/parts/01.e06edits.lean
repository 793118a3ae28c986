set_option maxRecDepth 20000 in
theorem ggL_edits_X5_clearText : GoodIn wsL_edits wsX5_clearText := goodIn_r _ [5, 6, 7, 8, 9, 10, 11, 12, 28, 29, 30, 31, 32, 33, 34, 35, 36, 37, 38] rfl (by decide +kernel)
set_option maxRecDepth 20000 in
theorem gL_edits_X5_clearText : GoodIn wsL_edits (wsV RL 47 RX5 yX5_clearText wsX5_clearText) := goodIn_app (goodIn_of _ (by decide +kernel)) ggL_edits_X5_clearText
set_option maxRecDepth 20000 in
theorem ggL_edits_L_low : GoodIn wsL_edits wsL_low := goodIn_r _ [16, 17] rfl (by decide +kernel)
set_option maxRecDepth 20000 in
theorem gL_edits_L_low : GoodIn wsL_edits (va_wsS RL 51 yL_low wsL_low) := goodIn_app (goodIn_of _ (by decide +kernel)) ggL_edits_L_low
set_option maxRecDepth 20000 in
theorem ggL_edits_X5_type : GoodIn wsL_edits wsX5_type := goodIn_r _ [21, 6, 22, 23, 24, 25, 10, 26, 12, 27, 28, 29, 30, 31, 32, 33, 34, 35, 36, 37, 38] rfl (by decide +kernel)
set_option maxRecDepth 20000 in
theorem gL_edits_X5_type : GoodIn wsL_edits (wsV RL 56 RX5 yX5_type wsX5_type) := goodIn_app (goodIn_of _ (by decide +kernel)) ggL_edits_X5_type
theorem dL_edits_0 : decode cL_edits 0 = .ok (.aload_n 0, 1) := by decide +kernel
theorem dL_edits_1 : decode cL_edits 1 = .ok (.invokevirtual 47, 3) := by decide +kernel
theorem dL_edits_4 : decode cL_edits 4 = .ok (.pop, 1) := by decide +kernel
theorem dL_edits_5 : decode cL_edits 5 = .ok (.iconst 1, 1) := by decide +kernel
theorem dL_edits_6 : decode cL_edits 6 = .ok (.iload_n 1, 1) := by decide +kernel
theorem dL_edits_7 : decode cL_edits 7 = .ok (.iconst 4, 1) := by decide +kernel
theorem dL_edits_8 : decode cL_edits 8 = .ok (.invokestatic 51, 3) := by decide +kernel
theorem dL_edits_11 : decode cL_edits 11 = .ok (.iadd, 1) := by decide +kernel
theorem dL_edits_12 : decode cL_edits 12 = .ok (.istore_n 3, 1) := by decide +kernel
theorem dL_edits_13 : decode cL_edits 13 = .ok (.iconst 0, 1) := by decide +kernel
theorem dL_edits_14 : decode cL_edits 14 = .ok (.istore 4, 2) := by decide +kernel
theorem dL_edits_16 : decode cL_edits 16 = .ok (.iload 4, 2) := by decide +kernel
theorem dL_edits_18 : decode cL_edits 18 = .ok (.iload_n 3, 1) := by decide +kernel
theorem dL_edits_19 : decode cL_edits 19 = .ok (.if_icmp .ge 88, 3) := by decide +kernel
theorem dL_edits_22 : decode cL_edits 22 = .ok (.iload 4, 2) := by decide +kernel
theorem dL_edits_24 : decode cL_edits 24 = .ok (.ifCond .le 10, 3) := by decide +kernel
theorem dL_edits_27 : decode cL_edits 27 = .ok (.aload_n 0, 1) := by decide +kernel
theorem dL_edits_28 : decode cL_edits 28 = .ok (.bipush 44, 2) := by decide +kernel
theorem dL_edits_30 : decode cL_edits 30 = .ok (.invokevirtual 56, 3) := by decide +kernel
theorem dL_edits_33 : decode cL_edits 33 = .ok (.pop, 1) := by decide +kernel
theorem dL_edits_34 : decode cL_edits 34 = .ok (.iload_n 2, 1) := by decide +kernel
theorem dL_edits_35 : decode cL_edits 35 = .ok (.iconst 4, 1) := by decide +kernel
theorem dL_edits_36 : decode cL_edits 36 = .ok (.iload 4, 2) := by decide +kernel
theorem dL_edits_38 : decode cL_edits 38 = .ok (.imul, 1) := by decide +kernel
theorem dL_edits_39 : decode cL_edits 39 = .ok (.ishr, 1) := by decide +kernel
theorem dL_edits_40 : decode cL_edits 40 = .ok (.bipush 12, 2) := by decide +kernel
theorem dL_edits_42 : decode cL_edits 42 = .ok (.invokestatic 51, 3) := by decide +kernel
theorem dL_edits_45 : decode cL_edits 45 = .ok (.istore 5, 2) := by decide +kernel
theorem dL_edits_47 : decode cL_edits 47 = .ok (.iload 5, 2) := by decide +kernel
theorem dL_edits_49 : decode cL_edits 49 = .ok (.bipush 9, 2) := by decide +kernel
theorem dL_edits_51 : decode cL_edits 51 = .ok (.if_icmp .le 10, 3) := by decide +kernel
theorem dL_edits_54 : decode cL_edits 54 = .ok (.aload_n 0, 1) := by decide +kernel
theorem dL_edits_55 : decode cL_edits 55 = .ok (.bipush 49, 2) := by decide +kernel
theorem dL_edits_57 : decode cL_edits 57 = .ok (.invokevirtual 56, 3) := by decide +kernel
theorem dL_edits_60 : decode cL_edits 60 = .ok (.pop, 1) := by decide +kernel
theorem dL_edits_61 : decode cL_edits 61 = .ok (.aload_n 0, 1) := by decide +kernel
theorem dL_edits_62 : decode cL_edits 62 = .ok (.bipush 48, 2) := by decide +kernel
theorem dL_edits_64 : decode cL_edits 64 = .ok (.iload 5, 2) := by decide +kernel
theorem dL_edits_66 : decode cL_edits 66 = .ok (.bipush 10, 2) := by decide +kernel
theorem dL_edits_68 : decode cL_edits 68 = .ok (.irem, 1) := by decide +kernel
theorem dL_edits_69 : decode cL_edits 69 = .ok (.iadd, 1) := by decide +kernel
theorem dL_edits_70 : decode cL_edits 70 = .ok (.i2c, 1) := by decide +kernel
theorem dL_edits_71 : decode cL_edits 71 = .ok (.invokevirtual 56, 3) := by decide +kernel
theorem dL_edits_74 : decode cL_edits 74 = .ok (.pop, 1) := by decide +kernel
theorem dL_edits_75 : decode cL_edits 75 = .ok (.aload_n 0, 1) := by decide +kernel
theorem dL_edits_76 : decode cL_edits 76 = .ok (.bipush 61, 2) := by decide +kernel
theorem dL_edits_78 : decode cL_edits 78 = .ok (.invokevirtual 56, 3) := by decide +kernel
theorem dL_edits_81 : decode cL_edits 81 = .ok (.pop, 1) := by decide +kernel
theorem dL_edits_82 : decode cL_edits 82 = .ok (.aload_n 0, 1) := by decide +kernel
theorem dL_edits_83 : decode cL_edits 83 = .ok (.bipush 48, 2) := by decide +kernel
theorem dL_edits_85 : decode cL_edits 85 = .ok (.iload_n 1, 1) := by decide +kernel
theorem dL_edits_86 : decode cL_edits 86 = .ok (.iconst 3, 1) := by decide +kernel
theorem dL_edits_87 : decode cL_edits 87 = .ok (.iload 4, 2) := by decide +kernel
theorem dL_edits_89 : decode cL_edits 89 = .ok (.imul, 1) := by decide +kernel
theorem dL_edits_90 : decode cL_edits 90 = .ok (.iconst 2, 1) := by decide +kernel
theorem dL_edits_91 : decode cL_edits 91 = .ok (.iadd, 1) := by decide +kernel
theorem dL_edits_92 : decode cL_edits 92 = .ok (.ishr, 1) := by decide +kernel
theorem dL_edits_93 : decode cL_edits 93 = .ok (.iconst 3, 1) := by decide +kernel
theorem dL_edits_94 : decode cL_edits 94 = .ok (.iand, 1) := by decide +kernel
theorem dL_edits_95 : decode cL_edits 95 = .ok (.iadd, 1) := by decide +kernel
theorem dL_edits_96 : decode cL_edits 96 = .ok (.i2c, 1) := by decide +kernel
theorem dL_edits_97 : decode cL_edits 97 = .ok (.invokevirtual 56, 3) := by decide +kernel
theorem dL_edits_100 : decode cL_edits 100 = .ok (.pop, 1) := by decide +kernel
theorem dL_edits_101 : decode cL_edits 101 = .ok (.iinc 4 1, 3) := by decide +kernel
theorem dL_edits_104 : decode cL_edits 104 = .ok (.goto (-88), 3) := by decide +kernel
theorem dL_edits_107 : decode cL_edits 107 = .ok (.return_, 1) := by decide +kernel

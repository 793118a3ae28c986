theorem dX6_init_0 : decode cX6_init 0 = .ok (.aload_n 0, 1) := by decide +kernel
theorem dX6_init_1 : decode cX6_init 1 = .ok (.invokespecial 1, 3) := by decide +kernel
theorem dX6_init_4 : decode cX6_init 4 = .ok (.aload_n 0, 1) := by decide +kernel
theorem dX6_init_5 : decode cX6_init 5 = .ok (.sipush 689, 3) := by decide +kernel
theorem dX6_init_8 : decode cX6_init 8 = .ok (.newarray .int, 2) := by decide +kernel
theorem dX6_init_10 : decode cX6_init 10 = .ok (.putfield 7, 3) := by decide +kernel
theorem dX6_init_13 : decode cX6_init 13 = .ok (.aload_n 0, 1) := by decide +kernel
theorem dX6_init_14 : decode cX6_init 14 = .ok (.sipush 2756, 3) := by decide +kernel
theorem dX6_init_17 : decode cX6_init 17 = .ok (.newarray .int, 2) := by decide +kernel
theorem dX6_init_19 : decode cX6_init 19 = .ok (.putfield 13, 3) := by decide +kernel
theorem dX6_init_22 : decode cX6_init 22 = .ok (.aload_n 0, 1) := by decide +kernel
theorem dX6_init_23 : decode cX6_init 23 = .ok (.sipush 689, 3) := by decide +kernel
theorem dX6_init_26 : decode cX6_init 26 = .ok (.newarray .int, 2) := by decide +kernel
theorem dX6_init_28 : decode cX6_init 28 = .ok (.putfield 16, 3) := by decide +kernel
theorem dX6_init_31 : decode cX6_init 31 = .ok (.aload_n 0, 1) := by decide +kernel
theorem dX6_init_32 : decode cX6_init 32 = .ok (.bipush 60, 2) := by decide +kernel
theorem dX6_init_34 : decode cX6_init 34 = .ok (.newarray .char, 2) := by decide +kernel
theorem dX6_init_36 : decode cX6_init 36 = .ok (.putfield 19, 3) := by decide +kernel
theorem dX6_init_39 : decode cX6_init 39 = .ok (.aload_n 0, 1) := by decide +kernel
theorem dX6_init_40 : decode cX6_init 40 = .ok (.bipush 12, 2) := by decide +kernel
theorem dX6_init_42 : decode cX6_init 42 = .ok (.newarray .int, 2) := by decide +kernel
theorem dX6_init_44 : decode cX6_init 44 = .ok (.putfield 23, 3) := by decide +kernel
theorem dX6_init_47 : decode cX6_init 47 = .ok (.aload_n 0, 1) := by decide +kernel
theorem dX6_init_48 : decode cX6_init 48 = .ok (.bipush 40, 2) := by decide +kernel
theorem dX6_init_50 : decode cX6_init 50 = .ok (.newarray .boolean, 2) := by decide +kernel
theorem dX6_init_52 : decode cX6_init 52 = .ok (.putfield 26, 3) := by decide +kernel
theorem dX6_init_55 : decode cX6_init 55 = .ok (.aload_n 0, 1) := by decide +kernel
theorem dX6_init_56 : decode cX6_init 56 = .ok (.bipush 40, 2) := by decide +kernel
theorem dX6_init_58 : decode cX6_init 58 = .ok (.newarray .boolean, 2) := by decide +kernel
theorem dX6_init_60 : decode cX6_init 60 = .ok (.putfield 30, 3) := by decide +kernel
theorem dX6_init_63 : decode cX6_init 63 = .ok (.aload_n 0, 1) := by decide +kernel
theorem dX6_init_64 : decode cX6_init 64 = .ok (.bipush 40, 2) := by decide +kernel
theorem dX6_init_66 : decode cX6_init 66 = .ok (.newarray .int, 2) := by decide +kernel
theorem dX6_init_68 : decode cX6_init 68 = .ok (.putfield 33, 3) := by decide +kernel
theorem dX6_init_71 : decode cX6_init 71 = .ok (.aload_n 0, 1) := by decide +kernel
theorem dX6_init_72 : decode cX6_init 72 = .ok (.bipush 40, 2) := by decide +kernel
theorem dX6_init_74 : decode cX6_init 74 = .ok (.newarray .int, 2) := by decide +kernel
theorem dX6_init_76 : decode cX6_init 76 = .ok (.putfield 36, 3) := by decide +kernel
theorem dX6_init_79 : decode cX6_init 79 = .ok (.aload_n 0, 1) := by decide +kernel
theorem dX6_init_80 : decode cX6_init 80 = .ok (.getfield 7, 3) := by decide +kernel
theorem dX6_init_83 : decode cX6_init 83 = .ok (.sipush 686, 3) := by decide +kernel
theorem dX6_init_86 : decode cX6_init 86 = .ok (.iconst 4, 1) := by decide +kernel
theorem dX6_init_87 : decode cX6_init 87 = .ok (.iastore, 1) := by decide +kernel
theorem dX6_init_88 : decode cX6_init 88 = .ok (.aload_n 0, 1) := by decide +kernel
theorem dX6_init_89 : decode cX6_init 89 = .ok (.getfield 7, 3) := by decide +kernel
theorem dX6_init_92 : decode cX6_init 92 = .ok (.sipush 684, 3) := by decide +kernel
theorem dX6_init_95 : decode cX6_init 95 = .ok (.iconst 1, 1) := by decide +kernel
theorem dX6_init_96 : decode cX6_init 96 = .ok (.iastore, 1) := by decide +kernel
theorem dX6_init_97 : decode cX6_init 97 = .ok (.aload_n 0, 1) := by decide +kernel
theorem dX6_init_98 : decode cX6_init 98 = .ok (.getfield 7, 3) := by decide +kernel
theorem dX6_init_101 : decode cX6_init 101 = .ok (.sipush 685, 3) := by decide +kernel
theorem dX6_init_104 : decode cX6_init 104 = .ok (.iconst 1, 1) := by decide +kernel
theorem dX6_init_105 : decode cX6_init 105 = .ok (.iastore, 1) := by decide +kernel
theorem dX6_init_106 : decode cX6_init 106 = .ok (.aload_n 0, 1) := by decide +kernel
theorem dX6_init_107 : decode cX6_init 107 = .ok (.getfield 7, 3) := by decide +kernel
theorem dX6_init_110 : decode cX6_init 110 = .ok (.iconst 1, 1) := by decide +kernel
theorem dX6_init_111 : decode cX6_init 111 = .ok (.bipush (-5), 2) := by decide +kernel
theorem dX6_init_113 : decode cX6_init 113 = .ok (.iastore, 1) := by decide +kernel
theorem dX6_init_114 : decode cX6_init 114 = .ok (.aload_n 0, 1) := by decide +kernel
theorem dX6_init_115 : decode cX6_init 115 = .ok (.getfield 7, 3) := by decide +kernel
theorem dX6_init_118 : decode cX6_init 118 = .ok (.iconst 2, 1) := by decide +kernel
theorem dX6_init_119 : decode cX6_init 119 = .ok (.bipush (-5), 2) := by decide +kernel
theorem dX6_init_121 : decode cX6_init 121 = .ok (.iastore, 1) := by decide +kernel
theorem dX6_init_122 : decode cX6_init 122 = .ok (.aload_n 0, 1) := by decide +kernel
theorem dX6_init_123 : decode cX6_init 123 = .ok (.getfield 7, 3) := by decide +kernel
theorem dX6_init_126 : decode cX6_init 126 = .ok (.iconst 3, 1) := by decide +kernel
theorem dX6_init_127 : decode cX6_init 127 = .ok (.bipush (-5), 2) := by decide +kernel
theorem dX6_init_129 : decode cX6_init 129 = .ok (.iastore, 1) := by decide +kernel
theorem dX6_init_130 : decode cX6_init 130 = .ok (.return_, 1) := by decide +kernel
theorem dX6_in_0 : decode cX6_in 0 = .ok (.iload_n 0, 1) := by decide +kernel
theorem dX6_in_1 : decode cX6_in 1 = .ok (.iload_n 1, 1) := by decide +kernel
theorem dX6_in_2 : decode cX6_in 2 = .ok (.if_icmp .lt 12, 3) := by decide +kernel
theorem dX6_in_5 : decode cX6_in 5 = .ok (.iload_n 0, 1) := by decide +kernel
theorem dX6_in_6 : decode cX6_in 6 = .ok (.iload_n 2, 1) := by decide +kernel
theorem dX6_in_7 : decode cX6_in 7 = .ok (.if_icmp .gt 7, 3) := by decide +kernel
theorem dX6_in_10 : decode cX6_in 10 = .ok (.iconst 1, 1) := by decide +kernel
theorem dX6_in_11 : decode cX6_in 11 = .ok (.goto 4, 3) := by decide +kernel
theorem dX6_in_14 : decode cX6_in 14 = .ok (.iconst 0, 1) := by decide +kernel
theorem dX6_in_15 : decode cX6_in 15 = .ok (.ireturn, 1) := by decide +kernel
theorem dX6_of_0 : decode cX6_of 0 = .ok (.aload_n 0, 1) := by decide +kernel
theorem dX6_of_1 : decode cX6_of 1 = .ok (.getfield 7, 3) := by decide +kernel
theorem dX6_of_4 : decode cX6_of 4 = .ok (.iconst 5, 1) := by decide +kernel
theorem dX6_of_5 : decode cX6_of 5 = .ok (.iload_n 1, 1) := by decide +kernel
theorem dX6_of_6 : decode cX6_of 6 = .ok (.imul, 1) := by decide +kernel
theorem dX6_of_7 : decode cX6_of 7 = .ok (.iload_n 2, 1) := by decide +kernel
theorem dX6_of_8 : decode cX6_of 8 = .ok (.iadd, 1) := by decide +kernel
theorem dX6_of_9 : decode cX6_of 9 = .ok (.iaload, 1) := by decide +kernel
theorem dX6_of_10 : decode cX6_of 10 = .ok (.ireturn, 1) := by decide +kernel
theorem dX6_puts_0 : decode cX6_puts 0 = .ok (.aload_n 0, 1) := by decide +kernel
theorem dX6_puts_1 : decode cX6_puts 1 = .ok (.getfield 7, 3) := by decide +kernel
theorem dX6_puts_4 : decode cX6_puts 4 = .ok (.iconst 5, 1) := by decide +kernel
theorem dX6_puts_5 : decode cX6_puts 5 = .ok (.iload_n 1, 1) := by decide +kernel
theorem dX6_puts_6 : decode cX6_puts 6 = .ok (.imul, 1) := by decide +kernel
theorem dX6_puts_7 : decode cX6_puts 7 = .ok (.iload_n 2, 1) := by decide +kernel
theorem dX6_puts_8 : decode cX6_puts 8 = .ok (.iadd, 1) := by decide +kernel
theorem dX6_puts_9 : decode cX6_puts 9 = .ok (.iload_n 3, 1) := by decide +kernel
theorem dX6_puts_10 : decode cX6_puts 10 = .ok (.iastore, 1) := by decide +kernel
theorem dX6_puts_11 : decode cX6_puts 11 = .ok (.return_, 1) := by decide +kernel
theorem dX6_field_0 : decode cX6_field 0 = .ok (.aload_n 0, 1) := by decide +kernel
theorem dX6_field_1 : decode cX6_field 1 = .ok (.getfield 7, 3) := by decide +kernel
theorem dX6_field_4 : decode cX6_field 4 = .ok (.sipush 200, 3) := by decide +kernel
theorem dX6_field_7 : decode cX6_field 7 = .ok (.bipush 12, 2) := by decide +kernel
theorem dX6_field_9 : decode cX6_field 9 = .ok (.iload_n 1, 1) := by decide +kernel
theorem dX6_field_10 : decode cX6_field 10 = .ok (.imul, 1) := by decide +kernel
theorem dX6_field_11 : decode cX6_field 11 = .ok (.iadd, 1) := by decide +kernel
theorem dX6_field_12 : decode cX6_field 12 = .ok (.iload_n 2, 1) := by decide +kernel
theorem dX6_field_13 : decode cX6_field 13 = .ok (.iadd, 1) := by decide +kernel
theorem dX6_field_14 : decode cX6_field 14 = .ok (.iaload, 1) := by decide +kernel
theorem dX6_field_15 : decode cX6_field 15 = .ok (.ireturn, 1) := by decide +kernel
set_option maxRecDepth 20000 in
theorem ggX6_isThere_X6_in : GoodIn wsX6_isThere wsX6_in := goodIn_r _ [5] (by decide +kernel) (by decide +kernel)
set_option maxRecDepth 20000 in
theorem gX6_isThere_X6_in : GoodIn wsX6_isThere (va_wsS RX6 39 yX6_in wsX6_in) := goodIn_app (goodIn_of _ (by decide +kernel)) ggX6_isThere_X6_in
set_option maxRecDepth 20000 in
theorem ggX6_isThere_X6_of : GoodIn wsX6_isThere wsX6_of := goodIn_r _ [9, 1, 10, 11, 12, 13, 14, 15, 16, 17, 18, 19, 20, 21, 22] (by decide +kernel) (by decide +kernel)
set_option maxRecDepth 20000 in
theorem gX6_isThere_X6_of : GoodIn wsX6_isThere (wsV RX6 43 RX6 yX6_of wsX6_of) := goodIn_app (goodIn_of _ (by decide +kernel)) ggX6_isThere_X6_of
theorem dX6_isThere_0 : decode cX6_isThere 0 = .ok (.iload_n 1, 1) := by decide +kernel
theorem dX6_isThere_1 : decode cX6_isThere 1 = .ok (.iconst 0, 1) := by decide +kernel
theorem dX6_isThere_2 : decode cX6_isThere 2 = .ok (.aload_n 0, 1) := by decide +kernel
theorem dX6_isThere_3 : decode cX6_isThere 3 = .ok (.getfield 7, 3) := by decide +kernel
theorem dX6_isThere_6 : decode cX6_isThere 6 = .ok (.sipush 685, 3) := by decide +kernel
theorem dX6_isThere_9 : decode cX6_isThere 9 = .ok (.iaload, 1) := by decide +kernel
theorem dX6_isThere_10 : decode cX6_isThere 10 = .ok (.iconst 1, 1) := by decide +kernel
theorem dX6_isThere_11 : decode cX6_isThere 11 = .ok (.isub, 1) := by decide +kernel
theorem dX6_isThere_12 : decode cX6_isThere 12 = .ok (.invokestatic 39, 3) := by decide +kernel
theorem dX6_isThere_15 : decode cX6_isThere 15 = .ok (.ifCond .eq 17, 3) := by decide +kernel
theorem dX6_isThere_18 : decode cX6_isThere 18 = .ok (.aload_n 0, 1) := by decide +kernel
theorem dX6_isThere_19 : decode cX6_isThere 19 = .ok (.iload_n 1, 1) := by decide +kernel
theorem dX6_isThere_20 : decode cX6_isThere 20 = .ok (.iconst 0, 1) := by decide +kernel
theorem dX6_isThere_21 : decode cX6_isThere 21 = .ok (.invokevirtual 43, 3) := by decide +kernel
theorem dX6_isThere_24 : decode cX6_isThere 24 = .ok (.iconst 2, 1) := by decide +kernel
theorem dX6_isThere_25 : decode cX6_isThere 25 = .ok (.if_icmp .eq 7, 3) := by decide +kernel
theorem dX6_isThere_28 : decode cX6_isThere 28 = .ok (.iconst 1, 1) := by decide +kernel
theorem dX6_isThere_29 : decode cX6_isThere 29 = .ok (.goto 4, 3) := by decide +kernel
theorem dX6_isThere_32 : decode cX6_isThere 32 = .ok (.iconst 0, 1) := by decide +kernel
theorem dX6_isThere_33 : decode cX6_isThere 33 = .ok (.ireturn, 1) := by decide +kernel
set_option maxRecDepth 20000 in
theorem ggX6_noVersion_X6_isThere : GoodIn wsX6_noVersion wsX6_isThere := goodIn_r _ [5, 6, 7, 8, 4, 9, 10, 11, 12, 13, 14, 15, 16, 17, 18, 19, 20, 21, 22, 23, 24, 25, 26] (by decide +kernel) (by decide +kernel)
set_option maxRecDepth 20000 in
theorem gX6_noVersion_X6_isThere : GoodIn wsX6_noVersion (wsV RX6 47 RX6 yX6_isThere wsX6_isThere) := goodIn_app (goodIn_of _ (by decide +kernel)) ggX6_noVersion_X6_isThere
theorem dX6_noVersion_0 : decode cX6_noVersion 0 = .ok (.aload_n 0, 1) := by decide +kernel
theorem dX6_noVersion_1 : decode cX6_noVersion 1 = .ok (.iload_n 1, 1) := by decide +kernel
theorem dX6_noVersion_2 : decode cX6_noVersion 2 = .ok (.invokevirtual 47, 3) := by decide +kernel
theorem dX6_noVersion_5 : decode cX6_noVersion 5 = .ok (.ifCond .ne 7, 3) := by decide +kernel
theorem dX6_noVersion_8 : decode cX6_noVersion 8 = .ok (.iconst 1, 1) := by decide +kernel
theorem dX6_noVersion_9 : decode cX6_noVersion 9 = .ok (.goto 4, 3) := by decide +kernel
theorem dX6_noVersion_12 : decode cX6_noVersion 12 = .ok (.iconst 0, 1) := by decide +kernel
theorem dX6_noVersion_13 : decode cX6_noVersion 13 = .ok (.ireturn, 1) := by decide +kernel
set_option maxRecDepth 20000 in
theorem ggX6_isKept_X6_isThere : GoodIn wsX6_isKept wsX6_isThere := goodIn_r _ [5, 6, 7, 8, 4, 9, 10, 11, 12, 13, 14, 15, 16, 17, 18, 19, 20, 21, 22, 23, 24, 25, 26] (by decide +kernel) (by decide +kernel)
set_option maxRecDepth 20000 in
theorem gX6_isKept_X6_isThere : GoodIn wsX6_isKept (wsV RX6 47 RX6 yX6_isThere wsX6_isThere) := goodIn_app (goodIn_of _ (by decide +kernel)) ggX6_isKept_X6_isThere
set_option maxRecDepth 20000 in
theorem ggX6_isKept_X6_of : GoodIn wsX6_isKept wsX6_of := goodIn_r _ [13, 6, 14, 15, 16, 17, 18, 19, 20, 21, 22, 23, 24, 25, 26] (by decide +kernel) (by decide +kernel)
set_option maxRecDepth 20000 in
theorem gX6_isKept_X6_of : GoodIn wsX6_isKept (wsV RX6 43 RX6 yX6_of wsX6_of) := goodIn_app (goodIn_of _ (by decide +kernel)) ggX6_isKept_X6_of
theorem dX6_isKept_0 : decode cX6_isKept 0 = .ok (.aload_n 0, 1) := by decide +kernel
theorem dX6_isKept_1 : decode cX6_isKept 1 = .ok (.iload_n 1, 1) := by decide +kernel
theorem dX6_isKept_2 : decode cX6_isKept 2 = .ok (.invokevirtual 47, 3) := by decide +kernel
theorem dX6_isKept_5 : decode cX6_isKept 5 = .ok (.ifCond .eq 16, 3) := by decide +kernel
theorem dX6_isKept_8 : decode cX6_isKept 8 = .ok (.aload_n 0, 1) := by decide +kernel
theorem dX6_isKept_9 : decode cX6_isKept 9 = .ok (.iload_n 1, 1) := by decide +kernel
theorem dX6_isKept_10 : decode cX6_isKept 10 = .ok (.iconst 0, 1) := by decide +kernel
theorem dX6_isKept_11 : decode cX6_isKept 11 = .ok (.invokevirtual 43, 3) := by decide +kernel
theorem dX6_isKept_14 : decode cX6_isKept 14 = .ok (.ifCond .ne 7, 3) := by decide +kernel
theorem dX6_isKept_17 : decode cX6_isKept 17 = .ok (.iconst 1, 1) := by decide +kernel
theorem dX6_isKept_18 : decode cX6_isKept 18 = .ok (.goto 4, 3) := by decide +kernel
theorem dX6_isKept_21 : decode cX6_isKept 21 = .ok (.iconst 0, 1) := by decide +kernel
theorem dX6_isKept_22 : decode cX6_isKept 22 = .ok (.ireturn, 1) := by decide +kernel
set_option maxRecDepth 20000 in
theorem ggX6_noHead_X6_in : GoodIn wsX6_noHead wsX6_in := goodIn_r _ [5] (by decide +kernel) (by decide +kernel)
set_option maxRecDepth 20000 in
theorem gX6_noHead_X6_in : GoodIn wsX6_noHead (va_wsS RX6 39 yX6_in wsX6_in) := goodIn_app (goodIn_of _ (by decide +kernel)) ggX6_noHead_X6_in
theorem dX6_noHead_0 : decode cX6_noHead 0 = .ok (.iload_n 1, 1) := by decide +kernel
theorem dX6_noHead_1 : decode cX6_noHead 1 = .ok (.iconst 0, 1) := by decide +kernel
theorem dX6_noHead_2 : decode cX6_noHead 2 = .ok (.aload_n 0, 1) := by decide +kernel
theorem dX6_noHead_3 : decode cX6_noHead 3 = .ok (.getfield 7, 3) := by decide +kernel
theorem dX6_noHead_6 : decode cX6_noHead 6 = .ok (.sipush 684, 3) := by decide +kernel
theorem dX6_noHead_9 : decode cX6_noHead 9 = .ok (.iaload, 1) := by decide +kernel
theorem dX6_noHead_10 : decode cX6_noHead 10 = .ok (.iconst 1, 1) := by decide +kernel
theorem dX6_noHead_11 : decode cX6_noHead 11 = .ok (.isub, 1) := by decide +kernel
theorem dX6_noHead_12 : decode cX6_noHead 12 = .ok (.invokestatic 39, 3) := by decide +kernel
theorem dX6_noHead_15 : decode cX6_noHead 15 = .ok (.ifCond .ne 7, 3) := by decide +kernel
theorem dX6_noHead_18 : decode cX6_noHead 18 = .ok (.iconst 1, 1) := by decide +kernel
theorem dX6_noHead_19 : decode cX6_noHead 19 = .ok (.goto 4, 3) := by decide +kernel
theorem dX6_noHead_22 : decode cX6_noHead 22 = .ok (.iconst 0, 1) := by decide +kernel
theorem dX6_noHead_23 : decode cX6_noHead 23 = .ok (.ireturn, 1) := by decide +kernel
theorem dX6_at_0 : decode cX6_at 0 = .ok (.aload_n 0, 1) := by decide +kernel
theorem dX6_at_1 : decode cX6_at 1 = .ok (.getfield 7, 3) := by decide +kernel
theorem dX6_at_4 : decode cX6_at 4 = .ok (.sipush 680, 3) := by decide +kernel
theorem dX6_at_7 : decode cX6_at 7 = .ok (.iload_n 1, 1) := by decide +kernel
theorem dX6_at_8 : decode cX6_at 8 = .ok (.iadd, 1) := by decide +kernel
theorem dX6_at_9 : decode cX6_at 9 = .ok (.iaload, 1) := by decide +kernel
theorem dX6_at_10 : decode cX6_at 10 = .ok (.ireturn, 1) := by decide +kernel
theorem dX6_record_0 : decode cX6_record 0 = .ok (.aload_n 0, 1) := by decide +kernel
theorem dX6_record_1 : decode cX6_record 1 = .ok (.getfield 51, 3) := by decide +kernel
theorem dX6_record_4 : decode cX6_record 4 = .ok (.iconst 4, 1) := by decide +kernel
theorem dX6_record_5 : decode cX6_record 5 = .ok (.if_icmp .ne 44, 3) := by decide +kernel
theorem dX6_record_8 : decode cX6_record 8 = .ok (.iconst 0, 1) := by decide +kernel
theorem dX6_record_9 : decode cX6_record 9 = .ok (.istore_n 1, 1) := by decide +kernel
theorem dX6_record_10 : decode cX6_record 10 = .ok (.iload_n 1, 1) := by decide +kernel
theorem dX6_record_11 : decode cX6_record 11 = .ok (.sipush 2067, 3) := by decide +kernel
theorem dX6_record_14 : decode cX6_record 14 = .ok (.if_icmp .ge 25, 3) := by decide +kernel
theorem dX6_record_17 : decode cX6_record 17 = .ok (.aload_n 0, 1) := by decide +kernel
theorem dX6_record_18 : decode cX6_record 18 = .ok (.getfield 13, 3) := by decide +kernel
theorem dX6_record_21 : decode cX6_record 21 = .ok (.iload_n 1, 1) := by decide +kernel
theorem dX6_record_22 : decode cX6_record 22 = .ok (.aload_n 0, 1) := by decide +kernel
theorem dX6_record_23 : decode cX6_record 23 = .ok (.getfield 13, 3) := by decide +kernel
theorem dX6_record_26 : decode cX6_record 26 = .ok (.iload_n 1, 1) := by decide +kernel
theorem dX6_record_27 : decode cX6_record 27 = .ok (.sipush 689, 3) := by decide +kernel
theorem dX6_record_30 : decode cX6_record 30 = .ok (.iadd, 1) := by decide +kernel
theorem dX6_record_31 : decode cX6_record 31 = .ok (.iaload, 1) := by decide +kernel
theorem dX6_record_32 : decode cX6_record 32 = .ok (.iastore, 1) := by decide +kernel
theorem dX6_record_33 : decode cX6_record 33 = .ok (.iinc 1 1, 3) := by decide +kernel
theorem dX6_record_36 : decode cX6_record 36 = .ok (.goto (-26), 3) := by decide +kernel
theorem dX6_record_39 : decode cX6_record 39 = .ok (.aload_n 0, 1) := by decide +kernel
theorem dX6_record_40 : decode cX6_record 40 = .ok (.dup, 1) := by decide +kernel
theorem dX6_record_41 : decode cX6_record 41 = .ok (.getfield 51, 3) := by decide +kernel
theorem dX6_record_44 : decode cX6_record 44 = .ok (.iconst 1, 1) := by decide +kernel
theorem dX6_record_45 : decode cX6_record 45 = .ok (.isub, 1) := by decide +kernel
theorem dX6_record_46 : decode cX6_record 46 = .ok (.putfield 51, 3) := by decide +kernel
theorem dX6_record_49 : decode cX6_record 49 = .ok (.iconst 0, 1) := by decide +kernel
theorem dX6_record_50 : decode cX6_record 50 = .ok (.istore_n 1, 1) := by decide +kernel
theorem dX6_record_51 : decode cX6_record 51 = .ok (.iload_n 1, 1) := by decide +kernel
theorem dX6_record_52 : decode cX6_record 52 = .ok (.sipush 689, 3) := by decide +kernel
theorem dX6_record_55 : decode cX6_record 55 = .ok (.if_icmp .ge 30, 3) := by decide +kernel
theorem dX6_record_58 : decode cX6_record 58 = .ok (.aload_n 0, 1) := by decide +kernel
theorem dX6_record_59 : decode cX6_record 59 = .ok (.getfield 13, 3) := by decide +kernel
theorem dX6_record_62 : decode cX6_record 62 = .ok (.sipush 689, 3) := by decide +kernel
theorem dX6_record_65 : decode cX6_record 65 = .ok (.aload_n 0, 1) := by decide +kernel
theorem dX6_record_66 : decode cX6_record 66 = .ok (.getfield 51, 3) := by decide +kernel
theorem dX6_record_69 : decode cX6_record 69 = .ok (.imul, 1) := by decide +kernel
theorem dX6_record_70 : decode cX6_record 70 = .ok (.iload_n 1, 1) := by decide +kernel
theorem dX6_record_71 : decode cX6_record 71 = .ok (.iadd, 1) := by decide +kernel
theorem dX6_record_72 : decode cX6_record 72 = .ok (.aload_n 0, 1) := by decide +kernel
theorem dX6_record_73 : decode cX6_record 73 = .ok (.getfield 7, 3) := by decide +kernel
theorem dX6_record_76 : decode cX6_record 76 = .ok (.iload_n 1, 1) := by decide +kernel
theorem dX6_record_77 : decode cX6_record 77 = .ok (.iaload, 1) := by decide +kernel
theorem dX6_record_78 : decode cX6_record 78 = .ok (.iastore, 1) := by decide +kernel
theorem dX6_record_79 : decode cX6_record 79 = .ok (.iinc 1 1, 3) := by decide +kernel
theorem dX6_record_82 : decode cX6_record 82 = .ok (.goto (-31), 3) := by decide +kernel
theorem dX6_record_85 : decode cX6_record 85 = .ok (.aload_n 0, 1) := by decide +kernel
theorem dX6_record_86 : decode cX6_record 86 = .ok (.dup, 1) := by decide +kernel
theorem dX6_record_87 : decode cX6_record 87 = .ok (.getfield 51, 3) := by decide +kernel
theorem dX6_record_90 : decode cX6_record 90 = .ok (.iconst 1, 1) := by decide +kernel
theorem dX6_record_91 : decode cX6_record 91 = .ok (.iadd, 1) := by decide +kernel
theorem dX6_record_92 : decode cX6_record 92 = .ok (.putfield 51, 3) := by decide +kernel
theorem dX6_record_95 : decode cX6_record 95 = .ok (.return_, 1) := by decide +kernel
set_option maxRecDepth 20000 in
theorem ggX6_apart_X6_field : GoodIn wsX6_apart wsX6_field := goodIn_r _ [5, 6, 7, 8, 9, 10, 11, 12, 13, 14, 15, 16, 17, 18, 19] (by decide +kernel) (by decide +kernel)
set_option maxRecDepth 20000 in
theorem gX6_apart_X6_field : GoodIn wsX6_apart (wsV RX6 55 RX6 yX6_field wsX6_field) := goodIn_app (goodIn_of _ (by decide +kernel)) ggX6_apart_X6_field
theorem dX6_apart_0 : decode cX6_apart 0 = .ok (.iconst 0, 1) := by decide +kernel
theorem dX6_apart_1 : decode cX6_apart 1 = .ok (.istore_n 3, 1) := by decide +kernel
theorem dX6_apart_2 : decode cX6_apart 2 = .ok (.iconst 0, 1) := by decide +kernel
theorem dX6_apart_3 : decode cX6_apart 3 = .ok (.istore 4, 2) := by decide +kernel
theorem dX6_apart_5 : decode cX6_apart 5 = .ok (.iload 4, 2) := by decide +kernel
theorem dX6_apart_7 : decode cX6_apart 7 = .ok (.bipush 12, 2) := by decide +kernel
theorem dX6_apart_9 : decode cX6_apart 9 = .ok (.if_icmp .ge 34, 3) := by decide +kernel
theorem dX6_apart_12 : decode cX6_apart 12 = .ok (.iload_n 3, 1) := by decide +kernel
theorem dX6_apart_13 : decode cX6_apart 13 = .ok (.aload_n 0, 1) := by decide +kernel
theorem dX6_apart_14 : decode cX6_apart 14 = .ok (.iload_n 1, 1) := by decide +kernel
theorem dX6_apart_15 : decode cX6_apart 15 = .ok (.iload 4, 2) := by decide +kernel
theorem dX6_apart_17 : decode cX6_apart 17 = .ok (.invokevirtual 55, 3) := by decide +kernel
theorem dX6_apart_20 : decode cX6_apart 20 = .ok (.aload_n 0, 1) := by decide +kernel
theorem dX6_apart_21 : decode cX6_apart 21 = .ok (.iload_n 2, 1) := by decide +kernel
theorem dX6_apart_22 : decode cX6_apart 22 = .ok (.iload 4, 2) := by decide +kernel
theorem dX6_apart_24 : decode cX6_apart 24 = .ok (.invokevirtual 55, 3) := by decide +kernel
theorem dX6_apart_27 : decode cX6_apart 27 = .ok (.if_icmp .ne 7, 3) := by decide +kernel
theorem dX6_apart_30 : decode cX6_apart 30 = .ok (.iconst 0, 1) := by decide +kernel
theorem dX6_apart_31 : decode cX6_apart 31 = .ok (.goto 4, 3) := by decide +kernel
theorem dX6_apart_34 : decode cX6_apart 34 = .ok (.iconst 1, 1) := by decide +kernel
theorem dX6_apart_35 : decode cX6_apart 35 = .ok (.iadd, 1) := by decide +kernel
theorem dX6_apart_36 : decode cX6_apart 36 = .ok (.istore_n 3, 1) := by decide +kernel
theorem dX6_apart_37 : decode cX6_apart 37 = .ok (.iinc 4 1, 3) := by decide +kernel
theorem dX6_apart_40 : decode cX6_apart 40 = .ok (.goto (-35), 3) := by decide +kernel
theorem dX6_apart_43 : decode cX6_apart 43 = .ok (.iload_n 3, 1) := by decide +kernel
theorem dX6_apart_44 : decode cX6_apart 44 = .ok (.ireturn, 1) := by decide +kernel
set_option maxRecDepth 20000 in
theorem ggX6_cost_X6_of : GoodIn wsX6_cost wsX6_of := goodIn_r _ [5, 6, 15, 16, 17, 18, 19, 20, 21, 22, 23, 24, 25, 26, 27] (by decide +kernel) (by decide +kernel)
set_option maxRecDepth 20000 in
theorem gX6_cost_X6_of : GoodIn wsX6_cost (wsV RX6 43 RX6 yX6_of wsX6_of) := goodIn_app (goodIn_of _ (by decide +kernel)) ggX6_cost_X6_of
set_option maxRecDepth 20000 in
theorem ggX6_cost_X6_apart : GoodIn wsX6_cost wsX6_apart := goodIn_r _ [10, 11, 12, 13, 4, 14, 6, 15, 16, 17, 18, 19, 20, 21, 22, 23, 24, 25, 26, 27] (by decide +kernel) (by decide +kernel)
set_option maxRecDepth 20000 in
theorem gX6_cost_X6_apart : GoodIn wsX6_cost (wsV RX6 58 RX6 yX6_apart wsX6_apart) := goodIn_app (goodIn_of _ (by decide +kernel)) ggX6_cost_X6_apart
theorem dX6_cost_0 : decode cX6_cost 0 = .ok (.aload_n 0, 1) := by decide +kernel
theorem dX6_cost_1 : decode cX6_cost 1 = .ok (.iload_n 1, 1) := by decide +kernel
theorem dX6_cost_2 : decode cX6_cost 2 = .ok (.iconst 3, 1) := by decide +kernel
theorem dX6_cost_3 : decode cX6_cost 3 = .ok (.invokevirtual 43, 3) := by decide +kernel
theorem dX6_cost_6 : decode cX6_cost 6 = .ok (.istore_n 2, 1) := by decide +kernel
theorem dX6_cost_7 : decode cX6_cost 7 = .ok (.iload_n 2, 1) := by decide +kernel
theorem dX6_cost_8 : decode cX6_cost 8 = .ok (.bipush (-5), 2) := by decide +kernel
theorem dX6_cost_10 : decode cX6_cost 10 = .ok (.if_icmp .ne 8, 3) := by decide +kernel
theorem dX6_cost_13 : decode cX6_cost 13 = .ok (.bipush 12, 2) := by decide +kernel
theorem dX6_cost_15 : decode cX6_cost 15 = .ok (.goto 13, 3) := by decide +kernel
theorem dX6_cost_18 : decode cX6_cost 18 = .ok (.iconst 1, 1) := by decide +kernel
theorem dX6_cost_19 : decode cX6_cost 19 = .ok (.iconst 2, 1) := by decide +kernel
theorem dX6_cost_20 : decode cX6_cost 20 = .ok (.aload_n 0, 1) := by decide +kernel
theorem dX6_cost_21 : decode cX6_cost 21 = .ok (.iload_n 1, 1) := by decide +kernel
theorem dX6_cost_22 : decode cX6_cost 22 = .ok (.iload_n 2, 1) := by decide +kernel
theorem dX6_cost_23 : decode cX6_cost 23 = .ok (.invokevirtual 58, 3) := by decide +kernel
theorem dX6_cost_26 : decode cX6_cost 26 = .ok (.imul, 1) := by decide +kernel
theorem dX6_cost_27 : decode cX6_cost 27 = .ok (.iadd, 1) := by decide +kernel
theorem dX6_cost_28 : decode cX6_cost 28 = .ok (.ireturn, 1) := by decide +kernel
set_option maxRecDepth 20000 in
theorem ggX6_steps_X6_of : GoodIn wsX6_steps wsX6_of := goodIn_r _ [5, 6, 7, 8, 9, 10, 11, 12, 13, 14, 15, 16, 17, 18, 19] (by decide +kernel) (by decide +kernel)
set_option maxRecDepth 20000 in
theorem gX6_steps_X6_of : GoodIn wsX6_steps (wsV RX6 43 RX6 yX6_of wsX6_of) := goodIn_app (goodIn_of _ (by decide +kernel)) ggX6_steps_X6_of
theorem dX6_steps_0 : decode cX6_steps 0 = .ok (.iconst 0, 1) := by decide +kernel
theorem dX6_steps_1 : decode cX6_steps 1 = .ok (.istore_n 2, 1) := by decide +kernel
theorem dX6_steps_2 : decode cX6_steps 2 = .ok (.aload_n 0, 1) := by decide +kernel
theorem dX6_steps_3 : decode cX6_steps 3 = .ok (.iload_n 1, 1) := by decide +kernel
theorem dX6_steps_4 : decode cX6_steps 4 = .ok (.iconst 3, 1) := by decide +kernel
theorem dX6_steps_5 : decode cX6_steps 5 = .ok (.invokevirtual 43, 3) := by decide +kernel
theorem dX6_steps_8 : decode cX6_steps 8 = .ok (.istore_n 3, 1) := by decide +kernel
theorem dX6_steps_9 : decode cX6_steps 9 = .ok (.iload_n 3, 1) := by decide +kernel
theorem dX6_steps_10 : decode cX6_steps 10 = .ok (.bipush (-5), 2) := by decide +kernel
theorem dX6_steps_12 : decode cX6_steps 12 = .ok (.if_icmp .eq 16, 3) := by decide +kernel
theorem dX6_steps_15 : decode cX6_steps 15 = .ok (.iinc 2 1, 3) := by decide +kernel
theorem dX6_steps_18 : decode cX6_steps 18 = .ok (.aload_n 0, 1) := by decide +kernel
theorem dX6_steps_19 : decode cX6_steps 19 = .ok (.iload_n 3, 1) := by decide +kernel
theorem dX6_steps_20 : decode cX6_steps 20 = .ok (.iconst 3, 1) := by decide +kernel
theorem dX6_steps_21 : decode cX6_steps 21 = .ok (.invokevirtual 43, 3) := by decide +kernel
theorem dX6_steps_24 : decode cX6_steps 24 = .ok (.istore_n 3, 1) := by decide +kernel
theorem dX6_steps_25 : decode cX6_steps 25 = .ok (.goto (-16), 3) := by decide +kernel
theorem dX6_steps_28 : decode cX6_steps 28 = .ok (.iload_n 2, 1) := by decide +kernel
theorem dX6_steps_29 : decode cX6_steps 29 = .ok (.ireturn, 1) := by decide +kernel
set_option maxRecDepth 20000 in
theorem ggX6_allCosts_X6_isThere : GoodIn wsX6_allCosts wsX6_isThere := goodIn_r _ [6, 1, 7, 8, 5, 9, 10, 11, 12, 13, 26, 27, 28, 29, 30, 31, 32, 33, 34, 35, 36, 37, 38] (by decide +kernel) (by decide +kernel)
set_option maxRecDepth 20000 in
theorem gX6_allCosts_X6_isThere : GoodIn wsX6_allCosts (wsV RX6 47 RX6 yX6_isThere wsX6_isThere) := goodIn_app (goodIn_of _ (by decide +kernel)) ggX6_allCosts_X6_isThere
set_option maxRecDepth 20000 in
theorem ggX6_allCosts_X6_cost : GoodIn wsX6_allCosts wsX6_cost := goodIn_r _ [17, 10, 11, 12, 5, 13, 1, 18, 19, 20, 21, 22, 23, 24, 25, 26, 27, 28, 29, 30, 31, 32, 33, 34, 35, 36, 37, 38] (by decide +kernel) (by decide +kernel)
set_option maxRecDepth 20000 in
theorem gX6_allCosts_X6_cost : GoodIn wsX6_allCosts (wsV RX6 61 RX6 yX6_cost wsX6_cost) := goodIn_app (goodIn_of _ (by decide +kernel)) ggX6_allCosts_X6_cost
theorem dX6_allCosts_0 : decode cX6_allCosts 0 = .ok (.iconst 0, 1) := by decide +kernel
theorem dX6_allCosts_1 : decode cX6_allCosts 1 = .ok (.istore_n 1, 1) := by decide +kernel
theorem dX6_allCosts_2 : decode cX6_allCosts 2 = .ok (.iconst 0, 1) := by decide +kernel
theorem dX6_allCosts_3 : decode cX6_allCosts 3 = .ok (.istore_n 2, 1) := by decide +kernel
theorem dX6_allCosts_4 : decode cX6_allCosts 4 = .ok (.iload_n 2, 1) := by decide +kernel
theorem dX6_allCosts_5 : decode cX6_allCosts 5 = .ok (.aload_n 0, 1) := by decide +kernel
theorem dX6_allCosts_6 : decode cX6_allCosts 6 = .ok (.getfield 7, 3) := by decide +kernel
theorem dX6_allCosts_9 : decode cX6_allCosts 9 = .ok (.sipush 685, 3) := by decide +kernel
theorem dX6_allCosts_12 : decode cX6_allCosts 12 = .ok (.iaload, 1) := by decide +kernel
theorem dX6_allCosts_13 : decode cX6_allCosts 13 = .ok (.if_icmp .ge 29, 3) := by decide +kernel
theorem dX6_allCosts_16 : decode cX6_allCosts 16 = .ok (.iload_n 1, 1) := by decide +kernel
theorem dX6_allCosts_17 : decode cX6_allCosts 17 = .ok (.aload_n 0, 1) := by decide +kernel
theorem dX6_allCosts_18 : decode cX6_allCosts 18 = .ok (.iload_n 2, 1) := by decide +kernel
theorem dX6_allCosts_19 : decode cX6_allCosts 19 = .ok (.invokevirtual 47, 3) := by decide +kernel
theorem dX6_allCosts_22 : decode cX6_allCosts 22 = .ok (.ifCond .eq 11, 3) := by decide +kernel
theorem dX6_allCosts_25 : decode cX6_allCosts 25 = .ok (.aload_n 0, 1) := by decide +kernel
theorem dX6_allCosts_26 : decode cX6_allCosts 26 = .ok (.iload_n 2, 1) := by decide +kernel
theorem dX6_allCosts_27 : decode cX6_allCosts 27 = .ok (.invokevirtual 61, 3) := by decide +kernel
theorem dX6_allCosts_30 : decode cX6_allCosts 30 = .ok (.goto 4, 3) := by decide +kernel
theorem dX6_allCosts_33 : decode cX6_allCosts 33 = .ok (.iconst 0, 1) := by decide +kernel
theorem dX6_allCosts_34 : decode cX6_allCosts 34 = .ok (.iadd, 1) := by decide +kernel
theorem dX6_allCosts_35 : decode cX6_allCosts 35 = .ok (.istore_n 1, 1) := by decide +kernel
theorem dX6_allCosts_36 : decode cX6_allCosts 36 = .ok (.iinc 2 1, 3) := by decide +kernel
theorem dX6_allCosts_39 : decode cX6_allCosts 39 = .ok (.goto (-35), 3) := by decide +kernel
theorem dX6_allCosts_42 : decode cX6_allCosts 42 = .ok (.iload_n 1, 1) := by decide +kernel
theorem dX6_allCosts_43 : decode cX6_allCosts 43 = .ok (.ireturn, 1) := by decide +kernel
set_option maxRecDepth 20000 in
theorem ggX6_mostSteps_X6_isThere : GoodIn wsX6_mostSteps wsX6_isThere := goodIn_r _ [6, 1, 7, 8, 5, 9, 10, 11, 12, 13, 18, 19, 20, 21, 22, 23, 24, 25, 26, 27, 28, 29, 30] (by decide +kernel) (by decide +kernel)
set_option maxRecDepth 20000 in
theorem gX6_mostSteps_X6_isThere : GoodIn wsX6_mostSteps (wsV RX6 47 RX6 yX6_isThere wsX6_isThere) := goodIn_app (goodIn_of _ (by decide +kernel)) ggX6_mostSteps_X6_isThere
set_option maxRecDepth 20000 in
theorem ggX6_mostSteps_X6_steps : GoodIn wsX6_mostSteps wsX6_steps := goodIn_r _ [17, 10, 11, 12, 5, 13, 1, 18, 19, 20, 21, 22, 23, 24, 25, 26, 27, 28, 29, 30] (by decide +kernel) (by decide +kernel)
set_option maxRecDepth 20000 in
theorem gX6_mostSteps_X6_steps : GoodIn wsX6_mostSteps (wsV RX6 65 RX6 yX6_steps wsX6_steps) := goodIn_app (goodIn_of _ (by decide +kernel)) ggX6_mostSteps_X6_steps
theorem dX6_mostSteps_0 : decode cX6_mostSteps 0 = .ok (.iconst 0, 1) := by decide +kernel
theorem dX6_mostSteps_1 : decode cX6_mostSteps 1 = .ok (.istore_n 1, 1) := by decide +kernel
theorem dX6_mostSteps_2 : decode cX6_mostSteps 2 = .ok (.iconst 0, 1) := by decide +kernel
theorem dX6_mostSteps_3 : decode cX6_mostSteps 3 = .ok (.istore_n 2, 1) := by decide +kernel
theorem dX6_mostSteps_4 : decode cX6_mostSteps 4 = .ok (.iload_n 2, 1) := by decide +kernel
theorem dX6_mostSteps_5 : decode cX6_mostSteps 5 = .ok (.aload_n 0, 1) := by decide +kernel
theorem dX6_mostSteps_6 : decode cX6_mostSteps 6 = .ok (.getfield 7, 3) := by decide +kernel
theorem dX6_mostSteps_9 : decode cX6_mostSteps 9 = .ok (.sipush 685, 3) := by decide +kernel
theorem dX6_mostSteps_12 : decode cX6_mostSteps 12 = .ok (.iaload, 1) := by decide +kernel
theorem dX6_mostSteps_13 : decode cX6_mostSteps 13 = .ok (.if_icmp .ge 38, 3) := by decide +kernel
theorem dX6_mostSteps_16 : decode cX6_mostSteps 16 = .ok (.aload_n 0, 1) := by decide +kernel
theorem dX6_mostSteps_17 : decode cX6_mostSteps 17 = .ok (.iload_n 2, 1) := by decide +kernel
theorem dX6_mostSteps_18 : decode cX6_mostSteps 18 = .ok (.invokevirtual 47, 3) := by decide +kernel
theorem dX6_mostSteps_21 : decode cX6_mostSteps 21 = .ok (.ifCond .eq 11, 3) := by decide +kernel
theorem dX6_mostSteps_24 : decode cX6_mostSteps 24 = .ok (.aload_n 0, 1) := by decide +kernel
theorem dX6_mostSteps_25 : decode cX6_mostSteps 25 = .ok (.iload_n 2, 1) := by decide +kernel
theorem dX6_mostSteps_26 : decode cX6_mostSteps 26 = .ok (.invokevirtual 65, 3) := by decide +kernel
theorem dX6_mostSteps_29 : decode cX6_mostSteps 29 = .ok (.goto 4, 3) := by decide +kernel
theorem dX6_mostSteps_32 : decode cX6_mostSteps 32 = .ok (.iconst 0, 1) := by decide +kernel
theorem dX6_mostSteps_33 : decode cX6_mostSteps 33 = .ok (.istore_n 3, 1) := by decide +kernel
theorem dX6_mostSteps_34 : decode cX6_mostSteps 34 = .ok (.iload_n 3, 1) := by decide +kernel
theorem dX6_mostSteps_35 : decode cX6_mostSteps 35 = .ok (.iload_n 1, 1) := by decide +kernel
theorem dX6_mostSteps_36 : decode cX6_mostSteps 36 = .ok (.if_icmp .le 7, 3) := by decide +kernel
theorem dX6_mostSteps_39 : decode cX6_mostSteps 39 = .ok (.iload_n 3, 1) := by decide +kernel
theorem dX6_mostSteps_40 : decode cX6_mostSteps 40 = .ok (.goto 4, 3) := by decide +kernel
theorem dX6_mostSteps_43 : decode cX6_mostSteps 43 = .ok (.iload_n 1, 1) := by decide +kernel
theorem dX6_mostSteps_44 : decode cX6_mostSteps 44 = .ok (.istore_n 1, 1) := by decide +kernel
theorem dX6_mostSteps_45 : decode cX6_mostSteps 45 = .ok (.iinc 2 1, 3) := by decide +kernel
theorem dX6_mostSteps_48 : decode cX6_mostSteps 48 = .ok (.goto (-44), 3) := by decide +kernel
theorem dX6_mostSteps_51 : decode cX6_mostSteps 51 = .ok (.iload_n 1, 1) := by decide +kernel
theorem dX6_mostSteps_52 : decode cX6_mostSteps 52 = .ok (.ireturn, 1) := by decide +kernel
set_option maxRecDepth 20000 in
theorem ggX6_followers_X6_isThere : GoodIn wsX6_followers wsX6_isThere := goodIn_r _ [6, 1, 7, 8, 5, 9, 10, 11, 12, 13, 14, 15, 16, 17, 18, 19, 20, 21, 22, 23, 24, 25, 26] (by decide +kernel) (by decide +kernel)
set_option maxRecDepth 20000 in
theorem gX6_followers_X6_isThere : GoodIn wsX6_followers (wsV RX6 47 RX6 yX6_isThere wsX6_isThere) := goodIn_app (goodIn_of _ (by decide +kernel)) ggX6_followers_X6_isThere
set_option maxRecDepth 20000 in
theorem ggX6_followers_X6_of : GoodIn wsX6_followers wsX6_of := goodIn_r _ [13, 1, 14, 15, 16, 17, 18, 19, 20, 21, 22, 23, 24, 25, 26] (by decide +kernel) (by decide +kernel)
set_option maxRecDepth 20000 in
theorem gX6_followers_X6_of : GoodIn wsX6_followers (wsV RX6 43 RX6 yX6_of wsX6_of) := goodIn_app (goodIn_of _ (by decide +kernel)) ggX6_followers_X6_of
theorem dX6_followers_0 : decode cX6_followers 0 = .ok (.iconst 0, 1) := by decide +kernel
theorem dX6_followers_1 : decode cX6_followers 1 = .ok (.istore_n 2, 1) := by decide +kernel
theorem dX6_followers_2 : decode cX6_followers 2 = .ok (.iconst 0, 1) := by decide +kernel
theorem dX6_followers_3 : decode cX6_followers 3 = .ok (.istore_n 3, 1) := by decide +kernel
theorem dX6_followers_4 : decode cX6_followers 4 = .ok (.iload_n 3, 1) := by decide +kernel
theorem dX6_followers_5 : decode cX6_followers 5 = .ok (.aload_n 0, 1) := by decide +kernel
theorem dX6_followers_6 : decode cX6_followers 6 = .ok (.getfield 7, 3) := by decide +kernel
theorem dX6_followers_9 : decode cX6_followers 9 = .ok (.sipush 685, 3) := by decide +kernel
theorem dX6_followers_12 : decode cX6_followers 12 = .ok (.iaload, 1) := by decide +kernel
theorem dX6_followers_13 : decode cX6_followers 13 = .ok (.if_icmp .ge 35, 3) := by decide +kernel
theorem dX6_followers_16 : decode cX6_followers 16 = .ok (.iload_n 2, 1) := by decide +kernel
theorem dX6_followers_17 : decode cX6_followers 17 = .ok (.aload_n 0, 1) := by decide +kernel
theorem dX6_followers_18 : decode cX6_followers 18 = .ok (.iload_n 3, 1) := by decide +kernel
theorem dX6_followers_19 : decode cX6_followers 19 = .ok (.invokevirtual 47, 3) := by decide +kernel
theorem dX6_followers_22 : decode cX6_followers 22 = .ok (.ifCond .eq 17, 3) := by decide +kernel
theorem dX6_followers_25 : decode cX6_followers 25 = .ok (.aload_n 0, 1) := by decide +kernel
theorem dX6_followers_26 : decode cX6_followers 26 = .ok (.iload_n 3, 1) := by decide +kernel
theorem dX6_followers_27 : decode cX6_followers 27 = .ok (.iconst 3, 1) := by decide +kernel
theorem dX6_followers_28 : decode cX6_followers 28 = .ok (.invokevirtual 43, 3) := by decide +kernel
theorem dX6_followers_31 : decode cX6_followers 31 = .ok (.iload_n 1, 1) := by decide +kernel
theorem dX6_followers_32 : decode cX6_followers 32 = .ok (.if_icmp .ne 7, 3) := by decide +kernel
theorem dX6_followers_35 : decode cX6_followers 35 = .ok (.iconst 1, 1) := by decide +kernel
theorem dX6_followers_36 : decode cX6_followers 36 = .ok (.goto 4, 3) := by decide +kernel
theorem dX6_followers_39 : decode cX6_followers 39 = .ok (.iconst 0, 1) := by decide +kernel
theorem dX6_followers_40 : decode cX6_followers 40 = .ok (.iadd, 1) := by decide +kernel
theorem dX6_followers_41 : decode cX6_followers 41 = .ok (.istore_n 2, 1) := by decide +kernel
theorem dX6_followers_42 : decode cX6_followers 42 = .ok (.iinc 3 1, 3) := by decide +kernel
theorem dX6_followers_45 : decode cX6_followers 45 = .ok (.goto (-41), 3) := by decide +kernel
theorem dX6_followers_48 : decode cX6_followers 48 = .ok (.iload_n 2, 1) := by decide +kernel
theorem dX6_followers_49 : decode cX6_followers 49 = .ok (.ireturn, 1) := by decide +kernel
set_option maxRecDepth 20000 in
theorem ggX6_blame_X6_of : GoodIn wsX6_blame wsX6_of := goodIn_r _ [5, 6, 7, 8, 9, 10, 11, 12, 13, 14, 15, 16, 17, 18, 19] (by decide +kernel) (by decide +kernel)
set_option maxRecDepth 20000 in
theorem gX6_blame_X6_of : GoodIn wsX6_blame (wsV RX6 43 RX6 yX6_of wsX6_of) := goodIn_app (goodIn_of _ (by decide +kernel)) ggX6_blame_X6_of
theorem dX6_blame_0 : decode cX6_blame 0 = .ok (.iload_n 1, 1) := by decide +kernel
theorem dX6_blame_1 : decode cX6_blame 1 = .ok (.istore_n 2, 1) := by decide +kernel
theorem dX6_blame_2 : decode cX6_blame 2 = .ok (.iload_n 2, 1) := by decide +kernel
theorem dX6_blame_3 : decode cX6_blame 3 = .ok (.bipush (-5), 2) := by decide +kernel
theorem dX6_blame_5 : decode cX6_blame 5 = .ok (.if_icmp .eq 22, 3) := by decide +kernel
theorem dX6_blame_8 : decode cX6_blame 8 = .ok (.aload_n 0, 1) := by decide +kernel
theorem dX6_blame_9 : decode cX6_blame 9 = .ok (.iload_n 2, 1) := by decide +kernel
theorem dX6_blame_10 : decode cX6_blame 10 = .ok (.iconst 4, 1) := by decide +kernel
theorem dX6_blame_11 : decode cX6_blame 11 = .ok (.invokevirtual 43, 3) := by decide +kernel
theorem dX6_blame_14 : decode cX6_blame 14 = .ok (.ifCond .ne 13, 3) := by decide +kernel
theorem dX6_blame_17 : decode cX6_blame 17 = .ok (.aload_n 0, 1) := by decide +kernel
theorem dX6_blame_18 : decode cX6_blame 18 = .ok (.iload_n 2, 1) := by decide +kernel
theorem dX6_blame_19 : decode cX6_blame 19 = .ok (.iconst 3, 1) := by decide +kernel
theorem dX6_blame_20 : decode cX6_blame 20 = .ok (.invokevirtual 43, 3) := by decide +kernel
theorem dX6_blame_23 : decode cX6_blame 23 = .ok (.istore_n 2, 1) := by decide +kernel
theorem dX6_blame_24 : decode cX6_blame 24 = .ok (.goto (-22), 3) := by decide +kernel
theorem dX6_blame_27 : decode cX6_blame 27 = .ok (.iload_n 2, 1) := by decide +kernel
theorem dX6_blame_28 : decode cX6_blame 28 = .ok (.ireturn, 1) := by decide +kernel
set_option maxRecDepth 20000 in
theorem ggX6_isBarred_X6_blame : GoodIn wsX6_isBarred wsX6_blame := goodIn_r _ [5, 6, 7, 8, 4, 9, 10, 11, 12, 13, 14, 15, 16, 17, 18, 19, 20, 21, 22, 23] (by decide +kernel) (by decide +kernel)
set_option maxRecDepth 20000 in
theorem gX6_isBarred_X6_blame : GoodIn wsX6_isBarred (wsV RX6 68 RX6 yX6_blame wsX6_blame) := goodIn_app (goodIn_of _ (by decide +kernel)) ggX6_isBarred_X6_blame
theorem dX6_isBarred_0 : decode cX6_isBarred 0 = .ok (.aload_n 0, 1) := by decide +kernel
theorem dX6_isBarred_1 : decode cX6_isBarred 1 = .ok (.iload_n 1, 1) := by decide +kernel
theorem dX6_isBarred_2 : decode cX6_isBarred 2 = .ok (.invokevirtual 68, 3) := by decide +kernel
theorem dX6_isBarred_5 : decode cX6_isBarred 5 = .ok (.bipush (-5), 2) := by decide +kernel
theorem dX6_isBarred_7 : decode cX6_isBarred 7 = .ok (.if_icmp .eq 7, 3) := by decide +kernel
theorem dX6_isBarred_10 : decode cX6_isBarred 10 = .ok (.iconst 1, 1) := by decide +kernel
theorem dX6_isBarred_11 : decode cX6_isBarred 11 = .ok (.goto 4, 3) := by decide +kernel
theorem dX6_isBarred_14 : decode cX6_isBarred 14 = .ok (.iconst 0, 1) := by decide +kernel
theorem dX6_isBarred_15 : decode cX6_isBarred 15 = .ok (.ireturn, 1) := by decide +kernel
set_option maxRecDepth 20000 in
theorem ggX6_barred_X6_isThere : GoodIn wsX6_barred wsX6_isThere := goodIn_r _ [6, 1, 7, 8, 5, 9, 10, 11, 12, 13, 22, 23, 24, 25, 26, 27, 28, 29, 30, 31, 32, 33, 34] (by decide +kernel) (by decide +kernel)
set_option maxRecDepth 20000 in
theorem gX6_barred_X6_isThere : GoodIn wsX6_barred (wsV RX6 47 RX6 yX6_isThere wsX6_isThere) := goodIn_app (goodIn_of _ (by decide +kernel)) ggX6_barred_X6_isThere
set_option maxRecDepth 20000 in
theorem ggX6_barred_X6_isBarred : GoodIn wsX6_barred wsX6_isBarred := goodIn_r _ [17, 18, 19, 20, 5, 21, 10, 11, 12, 13, 1, 22, 23, 24, 25, 26, 27, 28, 29, 30, 31, 32, 33, 34] (by decide +kernel) (by decide +kernel)
set_option maxRecDepth 20000 in
theorem gX6_barred_X6_isBarred : GoodIn wsX6_barred (wsV RX6 71 RX6 yX6_isBarred wsX6_isBarred) := goodIn_app (goodIn_of _ (by decide +kernel)) ggX6_barred_X6_isBarred
theorem dX6_barred_0 : decode cX6_barred 0 = .ok (.iconst 0, 1) := by decide +kernel
theorem dX6_barred_1 : decode cX6_barred 1 = .ok (.istore_n 1, 1) := by decide +kernel
theorem dX6_barred_2 : decode cX6_barred 2 = .ok (.iconst 0, 1) := by decide +kernel
theorem dX6_barred_3 : decode cX6_barred 3 = .ok (.istore_n 2, 1) := by decide +kernel
theorem dX6_barred_4 : decode cX6_barred 4 = .ok (.iload_n 2, 1) := by decide +kernel
theorem dX6_barred_5 : decode cX6_barred 5 = .ok (.aload_n 0, 1) := by decide +kernel
theorem dX6_barred_6 : decode cX6_barred 6 = .ok (.getfield 7, 3) := by decide +kernel
theorem dX6_barred_9 : decode cX6_barred 9 = .ok (.sipush 685, 3) := by decide +kernel
theorem dX6_barred_12 : decode cX6_barred 12 = .ok (.iaload, 1) := by decide +kernel
theorem dX6_barred_13 : decode cX6_barred 13 = .ok (.if_icmp .ge 33, 3) := by decide +kernel
theorem dX6_barred_16 : decode cX6_barred 16 = .ok (.iload_n 1, 1) := by decide +kernel
theorem dX6_barred_17 : decode cX6_barred 17 = .ok (.aload_n 0, 1) := by decide +kernel
theorem dX6_barred_18 : decode cX6_barred 18 = .ok (.iload_n 2, 1) := by decide +kernel
theorem dX6_barred_19 : decode cX6_barred 19 = .ok (.invokevirtual 47, 3) := by decide +kernel
theorem dX6_barred_22 : decode cX6_barred 22 = .ok (.ifCond .eq 15, 3) := by decide +kernel
theorem dX6_barred_25 : decode cX6_barred 25 = .ok (.aload_n 0, 1) := by decide +kernel
theorem dX6_barred_26 : decode cX6_barred 26 = .ok (.iload_n 2, 1) := by decide +kernel
theorem dX6_barred_27 : decode cX6_barred 27 = .ok (.invokevirtual 71, 3) := by decide +kernel
theorem dX6_barred_30 : decode cX6_barred 30 = .ok (.ifCond .eq 7, 3) := by decide +kernel
theorem dX6_barred_33 : decode cX6_barred 33 = .ok (.iconst 1, 1) := by decide +kernel
theorem dX6_barred_34 : decode cX6_barred 34 = .ok (.goto 4, 3) := by decide +kernel
theorem dX6_barred_37 : decode cX6_barred 37 = .ok (.iconst 0, 1) := by decide +kernel
theorem dX6_barred_38 : decode cX6_barred 38 = .ok (.iadd, 1) := by decide +kernel
theorem dX6_barred_39 : decode cX6_barred 39 = .ok (.istore_n 1, 1) := by decide +kernel
theorem dX6_barred_40 : decode cX6_barred 40 = .ok (.iinc 2 1, 3) := by decide +kernel
theorem dX6_barred_43 : decode cX6_barred 43 = .ok (.goto (-39), 3) := by decide +kernel
theorem dX6_barred_46 : decode cX6_barred 46 = .ok (.iload_n 1, 1) := by decide +kernel
theorem dX6_barred_47 : decode cX6_barred 47 = .ok (.ireturn, 1) := by decide +kernel
set_option maxRecDepth 20000 in
theorem ggX6_isOnWay_X6_of : GoodIn wsX6_isOnWay wsX6_of := goodIn_r _ [5, 6, 7, 8, 9, 10, 11, 12, 13, 14, 15, 16, 17, 18, 19] (by decide +kernel) (by decide +kernel)
set_option maxRecDepth 20000 in
theorem gX6_isOnWay_X6_of : GoodIn wsX6_isOnWay (wsV RX6 43 RX6 yX6_of wsX6_of) := goodIn_app (goodIn_of _ (by decide +kernel)) ggX6_isOnWay_X6_of
theorem dX6_isOnWay_0 : decode cX6_isOnWay 0 = .ok (.iload_n 2, 1) := by decide +kernel
theorem dX6_isOnWay_1 : decode cX6_isOnWay 1 = .ok (.istore_n 3, 1) := by decide +kernel
theorem dX6_isOnWay_2 : decode cX6_isOnWay 2 = .ok (.iload_n 3, 1) := by decide +kernel
theorem dX6_isOnWay_3 : decode cX6_isOnWay 3 = .ok (.bipush (-5), 2) := by decide +kernel
theorem dX6_isOnWay_5 : decode cX6_isOnWay 5 = .ok (.if_icmp .eq 18, 3) := by decide +kernel
theorem dX6_isOnWay_8 : decode cX6_isOnWay 8 = .ok (.iload_n 3, 1) := by decide +kernel
theorem dX6_isOnWay_9 : decode cX6_isOnWay 9 = .ok (.iload_n 1, 1) := by decide +kernel
theorem dX6_isOnWay_10 : decode cX6_isOnWay 10 = .ok (.if_icmp .eq 13, 3) := by decide +kernel
theorem dX6_isOnWay_13 : decode cX6_isOnWay 13 = .ok (.aload_n 0, 1) := by decide +kernel
theorem dX6_isOnWay_14 : decode cX6_isOnWay 14 = .ok (.iload_n 3, 1) := by decide +kernel
theorem dX6_isOnWay_15 : decode cX6_isOnWay 15 = .ok (.iconst 3, 1) := by decide +kernel
theorem dX6_isOnWay_16 : decode cX6_isOnWay 16 = .ok (.invokevirtual 43, 3) := by decide +kernel
theorem dX6_isOnWay_19 : decode cX6_isOnWay 19 = .ok (.istore_n 3, 1) := by decide +kernel
theorem dX6_isOnWay_20 : decode cX6_isOnWay 20 = .ok (.goto (-18), 3) := by decide +kernel
theorem dX6_isOnWay_23 : decode cX6_isOnWay 23 = .ok (.iload_n 3, 1) := by decide +kernel
theorem dX6_isOnWay_24 : decode cX6_isOnWay 24 = .ok (.iload_n 1, 1) := by decide +kernel
theorem dX6_isOnWay_25 : decode cX6_isOnWay 25 = .ok (.if_icmp .ne 7, 3) := by decide +kernel
theorem dX6_isOnWay_28 : decode cX6_isOnWay 28 = .ok (.iconst 1, 1) := by decide +kernel
theorem dX6_isOnWay_29 : decode cX6_isOnWay 29 = .ok (.goto 4, 3) := by decide +kernel
theorem dX6_isOnWay_32 : decode cX6_isOnWay 32 = .ok (.iconst 0, 1) := by decide +kernel
theorem dX6_isOnWay_33 : decode cX6_isOnWay 33 = .ok (.ireturn, 1) := by decide +kernel
set_option maxRecDepth 20000 in
theorem ggX6_leaves_X6_puts : GoodIn wsX6_leaves wsX6_puts := goodIn_r _ [5, 6, 7, 8, 9, 10, 11, 12, 13, 14, 15, 16, 17, 18, 19] (by decide +kernel) (by decide +kernel)
set_option maxRecDepth 20000 in
theorem gX6_leaves_X6_puts : GoodIn wsX6_leaves (wsV RX6 74 RX6 yX6_puts wsX6_puts) := goodIn_app (goodIn_of _ (by decide +kernel)) ggX6_leaves_X6_puts
theorem dX6_leaves_0 : decode cX6_leaves 0 = .ok (.aload_n 0, 1) := by decide +kernel
theorem dX6_leaves_1 : decode cX6_leaves 1 = .ok (.iload_n 1, 1) := by decide +kernel
theorem dX6_leaves_2 : decode cX6_leaves 2 = .ok (.iconst 0, 1) := by decide +kernel
theorem dX6_leaves_3 : decode cX6_leaves 3 = .ok (.iconst 2, 1) := by decide +kernel
theorem dX6_leaves_4 : decode cX6_leaves 4 = .ok (.invokevirtual 74, 3) := by decide +kernel
theorem dX6_leaves_7 : decode cX6_leaves 7 = .ok (.aload_n 0, 1) := by decide +kernel
theorem dX6_leaves_8 : decode cX6_leaves 8 = .ok (.iload_n 1, 1) := by decide +kernel
theorem dX6_leaves_9 : decode cX6_leaves 9 = .ok (.iconst 3, 1) := by decide +kernel
theorem dX6_leaves_10 : decode cX6_leaves 10 = .ok (.bipush (-5), 2) := by decide +kernel
theorem dX6_leaves_12 : decode cX6_leaves 12 = .ok (.invokevirtual 74, 3) := by decide +kernel
theorem dX6_leaves_15 : decode cX6_leaves 15 = .ok (.aload_n 0, 1) := by decide +kernel
theorem dX6_leaves_16 : decode cX6_leaves 16 = .ok (.iload_n 1, 1) := by decide +kernel
theorem dX6_leaves_17 : decode cX6_leaves 17 = .ok (.iconst 4, 1) := by decide +kernel
theorem dX6_leaves_18 : decode cX6_leaves 18 = .ok (.iconst 0, 1) := by decide +kernel
theorem dX6_leaves_19 : decode cX6_leaves 19 = .ok (.invokevirtual 74, 3) := by decide +kernel
theorem dX6_leaves_22 : decode cX6_leaves 22 = .ok (.return_, 1) := by decide +kernel
set_option maxRecDepth 20000 in
theorem ggX6_sweeps_X6_of : GoodIn wsX6_sweeps wsX6_of := goodIn_r _ [6, 1, 26, 27, 28, 29, 30, 31, 32, 33, 34, 35, 36, 37, 38] (by decide +kernel) (by decide +kernel)
set_option maxRecDepth 20000 in
theorem gX6_sweeps_X6_of : GoodIn wsX6_sweeps (wsV RX6 43 RX6 yX6_of wsX6_of) := goodIn_app (goodIn_of _ (by decide +kernel)) ggX6_sweeps_X6_of
set_option maxRecDepth 20000 in
theorem ggX6_sweeps_X6_followers : GoodIn wsX6_sweeps wsX6_followers := goodIn_r _ [10, 1, 11, 12, 13, 5, 14, 15, 16, 17, 2, 3, 4, 6, 26, 27, 28, 29, 30, 31, 32, 33, 34, 35, 36, 37, 38] (by decide +kernel) (by decide +kernel)
set_option maxRecDepth 20000 in
theorem gX6_sweeps_X6_followers : GoodIn wsX6_sweeps (wsV RX6 78 RX6 yX6_followers wsX6_followers) := goodIn_app (goodIn_of _ (by decide +kernel)) ggX6_sweeps_X6_followers
set_option maxRecDepth 20000 in
theorem ggX6_sweeps_X6_leaves : GoodIn wsX6_sweeps wsX6_leaves := goodIn_r _ [21, 22, 23, 24, 5, 25, 1, 26, 27, 28, 29, 30, 31, 32, 33, 34, 35, 36, 37, 38] (by decide +kernel) (by decide +kernel)
set_option maxRecDepth 20000 in
theorem gX6_sweeps_X6_leaves : GoodIn wsX6_sweeps (wsV RX6 81 RX6 yX6_leaves wsX6_leaves) := goodIn_app (goodIn_of _ (by decide +kernel)) ggX6_sweeps_X6_leaves
theorem dX6_sweeps_0 : decode cX6_sweeps 0 = .ok (.iconst 0, 1) := by decide +kernel
theorem dX6_sweeps_1 : decode cX6_sweeps 1 = .ok (.istore_n 1, 1) := by decide +kernel
theorem dX6_sweeps_2 : decode cX6_sweeps 2 = .ok (.iconst 1, 1) := by decide +kernel
theorem dX6_sweeps_3 : decode cX6_sweeps 3 = .ok (.istore_n 2, 1) := by decide +kernel
theorem dX6_sweeps_4 : decode cX6_sweeps 4 = .ok (.iload_n 2, 1) := by decide +kernel
theorem dX6_sweeps_5 : decode cX6_sweeps 5 = .ok (.ifCond .eq 56, 3) := by decide +kernel
theorem dX6_sweeps_8 : decode cX6_sweeps 8 = .ok (.iconst 0, 1) := by decide +kernel
theorem dX6_sweeps_9 : decode cX6_sweeps 9 = .ok (.istore_n 2, 1) := by decide +kernel
theorem dX6_sweeps_10 : decode cX6_sweeps 10 = .ok (.iconst 0, 1) := by decide +kernel
theorem dX6_sweeps_11 : decode cX6_sweeps 11 = .ok (.istore_n 3, 1) := by decide +kernel
theorem dX6_sweeps_12 : decode cX6_sweeps 12 = .ok (.iload_n 3, 1) := by decide +kernel
theorem dX6_sweeps_13 : decode cX6_sweeps 13 = .ok (.aload_n 0, 1) := by decide +kernel
theorem dX6_sweeps_14 : decode cX6_sweeps 14 = .ok (.getfield 7, 3) := by decide +kernel
theorem dX6_sweeps_17 : decode cX6_sweeps 17 = .ok (.sipush 685, 3) := by decide +kernel
theorem dX6_sweeps_20 : decode cX6_sweeps 20 = .ok (.iaload, 1) := by decide +kernel
theorem dX6_sweeps_21 : decode cX6_sweeps 21 = .ok (.if_icmp .ge 37, 3) := by decide +kernel
theorem dX6_sweeps_24 : decode cX6_sweeps 24 = .ok (.aload_n 0, 1) := by decide +kernel
theorem dX6_sweeps_25 : decode cX6_sweeps 25 = .ok (.iload_n 3, 1) := by decide +kernel
theorem dX6_sweeps_26 : decode cX6_sweeps 26 = .ok (.iconst 0, 1) := by decide +kernel
theorem dX6_sweeps_27 : decode cX6_sweeps 27 = .ok (.invokevirtual 43, 3) := by decide +kernel
theorem dX6_sweeps_30 : decode cX6_sweeps 30 = .ok (.iconst 1, 1) := by decide +kernel
theorem dX6_sweeps_31 : decode cX6_sweeps 31 = .ok (.if_icmp .ne 21, 3) := by decide +kernel
theorem dX6_sweeps_34 : decode cX6_sweeps 34 = .ok (.aload_n 0, 1) := by decide +kernel
theorem dX6_sweeps_35 : decode cX6_sweeps 35 = .ok (.iload_n 3, 1) := by decide +kernel
theorem dX6_sweeps_36 : decode cX6_sweeps 36 = .ok (.invokevirtual 78, 3) := by decide +kernel
theorem dX6_sweeps_39 : decode cX6_sweeps 39 = .ok (.ifCond .ne 13, 3) := by decide +kernel
theorem dX6_sweeps_42 : decode cX6_sweeps 42 = .ok (.aload_n 0, 1) := by decide +kernel
theorem dX6_sweeps_43 : decode cX6_sweeps 43 = .ok (.iload_n 3, 1) := by decide +kernel
theorem dX6_sweeps_44 : decode cX6_sweeps 44 = .ok (.invokevirtual 81, 3) := by decide +kernel
theorem dX6_sweeps_47 : decode cX6_sweeps 47 = .ok (.iinc 1 1, 3) := by decide +kernel
theorem dX6_sweeps_50 : decode cX6_sweeps 50 = .ok (.iconst 1, 1) := by decide +kernel
theorem dX6_sweeps_51 : decode cX6_sweeps 51 = .ok (.istore_n 2, 1) := by decide +kernel
theorem dX6_sweeps_52 : decode cX6_sweeps 52 = .ok (.iinc 3 1, 3) := by decide +kernel
theorem dX6_sweeps_55 : decode cX6_sweeps 55 = .ok (.goto (-43), 3) := by decide +kernel
theorem dX6_sweeps_58 : decode cX6_sweeps 58 = .ok (.goto (-54), 3) := by decide +kernel
theorem dX6_sweeps_61 : decode cX6_sweeps 61 = .ok (.iload_n 1, 1) := by decide +kernel
theorem dX6_sweeps_62 : decode cX6_sweeps 62 = .ok (.ireturn, 1) := by decide +kernel
theorem dX6_type_0 : decode cX6_type 0 = .ok (.aload_n 0, 1) := by decide +kernel
theorem dX6_type_1 : decode cX6_type 1 = .ok (.getfield 85, 3) := by decide +kernel
theorem dX6_type_4 : decode cX6_type 4 = .ok (.bipush 60, 2) := by decide +kernel
theorem dX6_type_6 : decode cX6_type 6 = .ok (.if_icmp .ne 6, 3) := by decide +kernel
theorem dX6_type_9 : decode cX6_type 9 = .ok (.bipush (-3), 2) := by decide +kernel
theorem dX6_type_11 : decode cX6_type 11 = .ok (.ireturn, 1) := by decide +kernel
theorem dX6_type_12 : decode cX6_type 12 = .ok (.aload_n 0, 1) := by decide +kernel
theorem dX6_type_13 : decode cX6_type 13 = .ok (.getfield 19, 3) := by decide +kernel
theorem dX6_type_16 : decode cX6_type 16 = .ok (.aload_n 0, 1) := by decide +kernel
theorem dX6_type_17 : decode cX6_type 17 = .ok (.getfield 85, 3) := by decide +kernel
theorem dX6_type_20 : decode cX6_type 20 = .ok (.iload_n 1, 1) := by decide +kernel
theorem dX6_type_21 : decode cX6_type 21 = .ok (.castore, 1) := by decide +kernel
theorem dX6_type_22 : decode cX6_type 22 = .ok (.aload_n 0, 1) := by decide +kernel
theorem dX6_type_23 : decode cX6_type 23 = .ok (.dup, 1) := by decide +kernel
theorem dX6_type_24 : decode cX6_type 24 = .ok (.getfield 85, 3) := by decide +kernel
theorem dX6_type_27 : decode cX6_type 27 = .ok (.iconst 1, 1) := by decide +kernel
theorem dX6_type_28 : decode cX6_type 28 = .ok (.iadd, 1) := by decide +kernel
theorem dX6_type_29 : decode cX6_type 29 = .ok (.putfield 85, 3) := by decide +kernel
theorem dX6_type_32 : decode cX6_type 32 = .ok (.aload_n 0, 1) := by decide +kernel
theorem dX6_type_33 : decode cX6_type 33 = .ok (.getfield 85, 3) := by decide +kernel
theorem dX6_type_36 : decode cX6_type 36 = .ok (.ireturn, 1) := by decide +kernel
theorem dX6_clearText_0 : decode cX6_clearText 0 = .ok (.aload_n 0, 1) := by decide +kernel
theorem dX6_clearText_1 : decode cX6_clearText 1 = .ok (.getfield 85, 3) := by decide +kernel
theorem dX6_clearText_4 : decode cX6_clearText 4 = .ok (.istore_n 1, 1) := by decide +kernel
theorem dX6_clearText_5 : decode cX6_clearText 5 = .ok (.aload_n 0, 1) := by decide +kernel
theorem dX6_clearText_6 : decode cX6_clearText 6 = .ok (.iconst 0, 1) := by decide +kernel
theorem dX6_clearText_7 : decode cX6_clearText 7 = .ok (.putfield 85, 3) := by decide +kernel
theorem dX6_clearText_10 : decode cX6_clearText 10 = .ok (.iload_n 1, 1) := by decide +kernel
theorem dX6_clearText_11 : decode cX6_clearText 11 = .ok (.ireturn, 1) := by decide +kernel
set_option maxRecDepth 20000 in
theorem ggX6_isDigit_X6_in : GoodIn wsX6_isDigit wsX6_in := goodIn_r _ [7] (by decide +kernel) (by decide +kernel)
set_option maxRecDepth 20000 in
theorem gX6_isDigit_X6_in : GoodIn wsX6_isDigit (va_wsS RX6 39 yX6_in wsX6_in) := goodIn_app (goodIn_of _ (by decide +kernel)) ggX6_isDigit_X6_in
theorem dX6_isDigit_0 : decode cX6_isDigit 0 = .ok (.aload_n 0, 1) := by decide +kernel
theorem dX6_isDigit_1 : decode cX6_isDigit 1 = .ok (.getfield 88, 3) := by decide +kernel
theorem dX6_isDigit_4 : decode cX6_isDigit 4 = .ok (.aload_n 0, 1) := by decide +kernel
theorem dX6_isDigit_5 : decode cX6_isDigit 5 = .ok (.getfield 85, 3) := by decide +kernel
theorem dX6_isDigit_8 : decode cX6_isDigit 8 = .ok (.if_icmp .ge 26, 3) := by decide +kernel
theorem dX6_isDigit_11 : decode cX6_isDigit 11 = .ok (.aload_n 0, 1) := by decide +kernel
theorem dX6_isDigit_12 : decode cX6_isDigit 12 = .ok (.getfield 19, 3) := by decide +kernel
theorem dX6_isDigit_15 : decode cX6_isDigit 15 = .ok (.aload_n 0, 1) := by decide +kernel
theorem dX6_isDigit_16 : decode cX6_isDigit 16 = .ok (.getfield 88, 3) := by decide +kernel
theorem dX6_isDigit_19 : decode cX6_isDigit 19 = .ok (.caload, 1) := by decide +kernel
theorem dX6_isDigit_20 : decode cX6_isDigit 20 = .ok (.bipush 48, 2) := by decide +kernel
theorem dX6_isDigit_22 : decode cX6_isDigit 22 = .ok (.bipush 57, 2) := by decide +kernel
theorem dX6_isDigit_24 : decode cX6_isDigit 24 = .ok (.invokestatic 39, 3) := by decide +kernel
theorem dX6_isDigit_27 : decode cX6_isDigit 27 = .ok (.ifCond .eq 7, 3) := by decide +kernel
theorem dX6_isDigit_30 : decode cX6_isDigit 30 = .ok (.iconst 1, 1) := by decide +kernel
theorem dX6_isDigit_31 : decode cX6_isDigit 31 = .ok (.goto 4, 3) := by decide +kernel
theorem dX6_isDigit_34 : decode cX6_isDigit 34 = .ok (.iconst 0, 1) := by decide +kernel
theorem dX6_isDigit_35 : decode cX6_isDigit 35 = .ok (.ireturn, 1) := by decide +kernel
theorem dX6_takes_0 : decode cX6_takes 0 = .ok (.aload_n 0, 1) := by decide +kernel
theorem dX6_takes_1 : decode cX6_takes 1 = .ok (.getfield 88, 3) := by decide +kernel
theorem dX6_takes_4 : decode cX6_takes 4 = .ok (.aload_n 0, 1) := by decide +kernel
theorem dX6_takes_5 : decode cX6_takes 5 = .ok (.getfield 85, 3) := by decide +kernel
theorem dX6_takes_8 : decode cX6_takes 8 = .ok (.if_icmp .eq 16, 3) := by decide +kernel
theorem dX6_takes_11 : decode cX6_takes 11 = .ok (.aload_n 0, 1) := by decide +kernel
theorem dX6_takes_12 : decode cX6_takes 12 = .ok (.getfield 19, 3) := by decide +kernel
theorem dX6_takes_15 : decode cX6_takes 15 = .ok (.aload_n 0, 1) := by decide +kernel
theorem dX6_takes_16 : decode cX6_takes 16 = .ok (.getfield 88, 3) := by decide +kernel
theorem dX6_takes_19 : decode cX6_takes 19 = .ok (.caload, 1) := by decide +kernel
theorem dX6_takes_20 : decode cX6_takes 20 = .ok (.iload_n 1, 1) := by decide +kernel
theorem dX6_takes_21 : decode cX6_takes 21 = .ok (.if_icmp .eq 5, 3) := by decide +kernel
theorem dX6_takes_24 : decode cX6_takes 24 = .ok (.iconst 0, 1) := by decide +kernel
theorem dX6_takes_25 : decode cX6_takes 25 = .ok (.ireturn, 1) := by decide +kernel
theorem dX6_takes_26 : decode cX6_takes 26 = .ok (.aload_n 0, 1) := by decide +kernel
theorem dX6_takes_27 : decode cX6_takes 27 = .ok (.dup, 1) := by decide +kernel
theorem dX6_takes_28 : decode cX6_takes 28 = .ok (.getfield 88, 3) := by decide +kernel
theorem dX6_takes_31 : decode cX6_takes 31 = .ok (.iconst 1, 1) := by decide +kernel
theorem dX6_takes_32 : decode cX6_takes 32 = .ok (.iadd, 1) := by decide +kernel
theorem dX6_takes_33 : decode cX6_takes 33 = .ok (.putfield 88, 3) := by decide +kernel
theorem dX6_takes_36 : decode cX6_takes 36 = .ok (.iconst 1, 1) := by decide +kernel
theorem dX6_takes_37 : decode cX6_takes 37 = .ok (.ireturn, 1) := by decide +kernel
set_option maxRecDepth 20000 in
theorem ggX6_edits_X6_field : GoodIn wsX6_edits wsX6_field := goodIn_r _ [9, 10, 22, 23, 24, 25, 26, 27, 28, 29, 30, 31, 32, 33, 34] (by decide +kernel) (by decide +kernel)
set_option maxRecDepth 20000 in
theorem gX6_edits_X6_field : GoodIn wsX6_edits (wsV RX6 55 RX6 yX6_field wsX6_field) := goodIn_app (goodIn_of _ (by decide +kernel)) ggX6_edits_X6_field
set_option maxRecDepth 20000 in
theorem ggX6_edits_X6_isDigit : GoodIn wsX6_edits wsX6_isDigit := goodIn_r _ [14, 2, 4, 3, 15, 16, 8, 17, 22, 23, 24, 25, 26, 27, 28, 29, 30, 31, 32, 33, 34] (by decide +kernel) (by decide +kernel)
set_option maxRecDepth 20000 in
theorem gX6_edits_X6_isDigit : GoodIn wsX6_edits (wsV RX6 91 RX6 yX6_isDigit wsX6_isDigit) := goodIn_app (goodIn_of _ (by decide +kernel)) ggX6_edits_X6_isDigit
set_option maxRecDepth 20000 in
theorem ggX6_edits_X6_in : GoodIn wsX6_edits wsX6_in := goodIn_r _ [17] (by decide +kernel) (by decide +kernel)
set_option maxRecDepth 20000 in
theorem gX6_edits_X6_in : GoodIn wsX6_edits (va_wsS RX6 39 yX6_in wsX6_in) := goodIn_app (goodIn_of _ (by decide +kernel)) ggX6_edits_X6_in
set_option maxRecDepth 20000 in
theorem ggX6_edits_X6_takes : GoodIn wsX6_edits wsX6_takes := goodIn_r _ [21, 2, 4, 3, 22, 23, 24, 25, 26, 27, 28, 29, 30, 31, 32, 33, 34] (by decide +kernel) (by decide +kernel)
set_option maxRecDepth 20000 in
theorem gX6_edits_X6_takes : GoodIn wsX6_edits (wsV RX6 95 RX6 yX6_takes wsX6_takes) := goodIn_app (goodIn_of _ (by decide +kernel)) ggX6_edits_X6_takes
theorem dX6_edits_0 : decode cX6_edits 0 = .ok (.iconst 0, 1) := by decide +kernel
theorem dX6_edits_1 : decode cX6_edits 1 = .ok (.istore_n 2, 1) := by decide +kernel
theorem dX6_edits_2 : decode cX6_edits 2 = .ok (.iload_n 2, 1) := by decide +kernel
theorem dX6_edits_3 : decode cX6_edits 3 = .ok (.bipush 12, 2) := by decide +kernel
theorem dX6_edits_5 : decode cX6_edits 5 = .ok (.if_icmp .ge 21, 3) := by decide +kernel
theorem dX6_edits_8 : decode cX6_edits 8 = .ok (.aload_n 0, 1) := by decide +kernel
theorem dX6_edits_9 : decode cX6_edits 9 = .ok (.getfield 23, 3) := by decide +kernel
theorem dX6_edits_12 : decode cX6_edits 12 = .ok (.iload_n 2, 1) := by decide +kernel
theorem dX6_edits_13 : decode cX6_edits 13 = .ok (.aload_n 0, 1) := by decide +kernel
theorem dX6_edits_14 : decode cX6_edits 14 = .ok (.iload_n 1, 1) := by decide +kernel
theorem dX6_edits_15 : decode cX6_edits 15 = .ok (.iload_n 2, 1) := by decide +kernel
theorem dX6_edits_16 : decode cX6_edits 16 = .ok (.invokevirtual 55, 3) := by decide +kernel
theorem dX6_edits_19 : decode cX6_edits 19 = .ok (.iastore, 1) := by decide +kernel
theorem dX6_edits_20 : decode cX6_edits 20 = .ok (.iinc 2 1, 3) := by decide +kernel
theorem dX6_edits_23 : decode cX6_edits 23 = .ok (.goto (-21), 3) := by decide +kernel
theorem dX6_edits_26 : decode cX6_edits 26 = .ok (.aload_n 0, 1) := by decide +kernel
theorem dX6_edits_27 : decode cX6_edits 27 = .ok (.iconst 0, 1) := by decide +kernel
theorem dX6_edits_28 : decode cX6_edits 28 = .ok (.putfield 88, 3) := by decide +kernel
theorem dX6_edits_31 : decode cX6_edits 31 = .ok (.iconst 1, 1) := by decide +kernel
theorem dX6_edits_32 : decode cX6_edits 32 = .ok (.istore_n 2, 1) := by decide +kernel
theorem dX6_edits_33 : decode cX6_edits 33 = .ok (.iload_n 2, 1) := by decide +kernel
theorem dX6_edits_34 : decode cX6_edits 34 = .ok (.ifCond .eq 223, 3) := by decide +kernel
theorem dX6_edits_37 : decode cX6_edits 37 = .ok (.aload_n 0, 1) := by decide +kernel
theorem dX6_edits_38 : decode cX6_edits 38 = .ok (.invokevirtual 91, 3) := by decide +kernel
theorem dX6_edits_41 : decode cX6_edits 41 = .ok (.ifCond .ne 5, 3) := by decide +kernel
theorem dX6_edits_44 : decode cX6_edits 44 = .ok (.iconst 0, 1) := by decide +kernel
theorem dX6_edits_45 : decode cX6_edits 45 = .ok (.ireturn, 1) := by decide +kernel
theorem dX6_edits_46 : decode cX6_edits 46 = .ok (.aload_n 0, 1) := by decide +kernel
theorem dX6_edits_47 : decode cX6_edits 47 = .ok (.getfield 19, 3) := by decide +kernel
theorem dX6_edits_50 : decode cX6_edits 50 = .ok (.aload_n 0, 1) := by decide +kernel
theorem dX6_edits_51 : decode cX6_edits 51 = .ok (.getfield 88, 3) := by decide +kernel
theorem dX6_edits_54 : decode cX6_edits 54 = .ok (.caload, 1) := by decide +kernel
theorem dX6_edits_55 : decode cX6_edits 55 = .ok (.bipush 48, 2) := by decide +kernel
theorem dX6_edits_57 : decode cX6_edits 57 = .ok (.isub, 1) := by decide +kernel
theorem dX6_edits_58 : decode cX6_edits 58 = .ok (.istore_n 3, 1) := by decide +kernel
theorem dX6_edits_59 : decode cX6_edits 59 = .ok (.aload_n 0, 1) := by decide +kernel
theorem dX6_edits_60 : decode cX6_edits 60 = .ok (.dup, 1) := by decide +kernel
theorem dX6_edits_61 : decode cX6_edits 61 = .ok (.getfield 88, 3) := by decide +kernel
theorem dX6_edits_64 : decode cX6_edits 64 = .ok (.iconst 1, 1) := by decide +kernel
theorem dX6_edits_65 : decode cX6_edits 65 = .ok (.iadd, 1) := by decide +kernel
theorem dX6_edits_66 : decode cX6_edits 66 = .ok (.putfield 88, 3) := by decide +kernel
theorem dX6_edits_69 : decode cX6_edits 69 = .ok (.iload_n 3, 1) := by decide +kernel
theorem dX6_edits_70 : decode cX6_edits 70 = .ok (.iconst 1, 1) := by decide +kernel
theorem dX6_edits_71 : decode cX6_edits 71 = .ok (.if_icmp .ne 59, 3) := by decide +kernel
theorem dX6_edits_74 : decode cX6_edits 74 = .ok (.aload_n 0, 1) := by decide +kernel
theorem dX6_edits_75 : decode cX6_edits 75 = .ok (.getfield 88, 3) := by decide +kernel
theorem dX6_edits_78 : decode cX6_edits 78 = .ok (.aload_n 0, 1) := by decide +kernel
theorem dX6_edits_79 : decode cX6_edits 79 = .ok (.getfield 85, 3) := by decide +kernel
theorem dX6_edits_82 : decode cX6_edits 82 = .ok (.if_icmp .ge 48, 3) := by decide +kernel
theorem dX6_edits_85 : decode cX6_edits 85 = .ok (.aload_n 0, 1) := by decide +kernel
theorem dX6_edits_86 : decode cX6_edits 86 = .ok (.getfield 19, 3) := by decide +kernel
theorem dX6_edits_89 : decode cX6_edits 89 = .ok (.aload_n 0, 1) := by decide +kernel
theorem dX6_edits_90 : decode cX6_edits 90 = .ok (.getfield 88, 3) := by decide +kernel
theorem dX6_edits_93 : decode cX6_edits 93 = .ok (.caload, 1) := by decide +kernel
theorem dX6_edits_94 : decode cX6_edits 94 = .ok (.bipush 48, 2) := by decide +kernel
theorem dX6_edits_96 : decode cX6_edits 96 = .ok (.bipush 49, 2) := by decide +kernel
theorem dX6_edits_98 : decode cX6_edits 98 = .ok (.invokestatic 39, 3) := by decide +kernel
theorem dX6_edits_101 : decode cX6_edits 101 = .ok (.ifCond .eq 29, 3) := by decide +kernel
theorem dX6_edits_104 : decode cX6_edits 104 = .ok (.bipush 10, 2) := by decide +kernel
theorem dX6_edits_106 : decode cX6_edits 106 = .ok (.aload_n 0, 1) := by decide +kernel
theorem dX6_edits_107 : decode cX6_edits 107 = .ok (.getfield 19, 3) := by decide +kernel
theorem dX6_edits_110 : decode cX6_edits 110 = .ok (.aload_n 0, 1) := by decide +kernel
theorem dX6_edits_111 : decode cX6_edits 111 = .ok (.getfield 88, 3) := by decide +kernel
theorem dX6_edits_114 : decode cX6_edits 114 = .ok (.caload, 1) := by decide +kernel
theorem dX6_edits_115 : decode cX6_edits 115 = .ok (.iadd, 1) := by decide +kernel
theorem dX6_edits_116 : decode cX6_edits 116 = .ok (.bipush 48, 2) := by decide +kernel
theorem dX6_edits_118 : decode cX6_edits 118 = .ok (.isub, 1) := by decide +kernel
theorem dX6_edits_119 : decode cX6_edits 119 = .ok (.istore_n 3, 1) := by decide +kernel
theorem dX6_edits_120 : decode cX6_edits 120 = .ok (.aload_n 0, 1) := by decide +kernel
theorem dX6_edits_121 : decode cX6_edits 121 = .ok (.dup, 1) := by decide +kernel
theorem dX6_edits_122 : decode cX6_edits 122 = .ok (.getfield 88, 3) := by decide +kernel
theorem dX6_edits_125 : decode cX6_edits 125 = .ok (.iconst 1, 1) := by decide +kernel
theorem dX6_edits_126 : decode cX6_edits 126 = .ok (.iadd, 1) := by decide +kernel
theorem dX6_edits_127 : decode cX6_edits 127 = .ok (.putfield 88, 3) := by decide +kernel
theorem dX6_edits_130 : decode cX6_edits 130 = .ok (.aload_n 0, 1) := by decide +kernel
theorem dX6_edits_131 : decode cX6_edits 131 = .ok (.bipush 61, 2) := by decide +kernel
theorem dX6_edits_133 : decode cX6_edits 133 = .ok (.invokevirtual 95, 3) := by decide +kernel
theorem dX6_edits_136 : decode cX6_edits 136 = .ok (.ifCond .eq 10, 3) := by decide +kernel
theorem dX6_edits_139 : decode cX6_edits 139 = .ok (.aload_n 0, 1) := by decide +kernel
theorem dX6_edits_140 : decode cX6_edits 140 = .ok (.invokevirtual 91, 3) := by decide +kernel
theorem dX6_edits_143 : decode cX6_edits 143 = .ok (.ifCond .ne 5, 3) := by decide +kernel
theorem dX6_edits_146 : decode cX6_edits 146 = .ok (.iconst 0, 1) := by decide +kernel
theorem dX6_edits_147 : decode cX6_edits 147 = .ok (.ireturn, 1) := by decide +kernel
theorem dX6_edits_148 : decode cX6_edits 148 = .ok (.aload_n 0, 1) := by decide +kernel
theorem dX6_edits_149 : decode cX6_edits 149 = .ok (.getfield 19, 3) := by decide +kernel
theorem dX6_edits_152 : decode cX6_edits 152 = .ok (.aload_n 0, 1) := by decide +kernel
theorem dX6_edits_153 : decode cX6_edits 153 = .ok (.getfield 88, 3) := by decide +kernel
theorem dX6_edits_156 : decode cX6_edits 156 = .ok (.caload, 1) := by decide +kernel
theorem dX6_edits_157 : decode cX6_edits 157 = .ok (.bipush 48, 2) := by decide +kernel
theorem dX6_edits_159 : decode cX6_edits 159 = .ok (.isub, 1) := by decide +kernel
theorem dX6_edits_160 : decode cX6_edits 160 = .ok (.istore 4, 2) := by decide +kernel
theorem dX6_edits_162 : decode cX6_edits 162 = .ok (.aload_n 0, 1) := by decide +kernel
theorem dX6_edits_163 : decode cX6_edits 163 = .ok (.dup, 1) := by decide +kernel
theorem dX6_edits_164 : decode cX6_edits 164 = .ok (.getfield 88, 3) := by decide +kernel
theorem dX6_edits_167 : decode cX6_edits 167 = .ok (.iconst 1, 1) := by decide +kernel
theorem dX6_edits_168 : decode cX6_edits 168 = .ok (.iadd, 1) := by decide +kernel
theorem dX6_edits_169 : decode cX6_edits 169 = .ok (.putfield 88, 3) := by decide +kernel
theorem dX6_edits_172 : decode cX6_edits 172 = .ok (.iload 4, 2) := by decide +kernel
theorem dX6_edits_174 : decode cX6_edits 174 = .ok (.ifCond .le 40, 3) := by decide +kernel
theorem dX6_edits_177 : decode cX6_edits 177 = .ok (.aload_n 0, 1) := by decide +kernel
theorem dX6_edits_178 : decode cX6_edits 178 = .ok (.invokevirtual 91, 3) := by decide +kernel
theorem dX6_edits_181 : decode cX6_edits 181 = .ok (.ifCond .eq 33, 3) := by decide +kernel
theorem dX6_edits_184 : decode cX6_edits 184 = .ok (.bipush 10, 2) := by decide +kernel
theorem dX6_edits_186 : decode cX6_edits 186 = .ok (.iload 4, 2) := by decide +kernel
theorem dX6_edits_188 : decode cX6_edits 188 = .ok (.imul, 1) := by decide +kernel
theorem dX6_edits_189 : decode cX6_edits 189 = .ok (.aload_n 0, 1) := by decide +kernel
theorem dX6_edits_190 : decode cX6_edits 190 = .ok (.getfield 19, 3) := by decide +kernel
theorem dX6_edits_193 : decode cX6_edits 193 = .ok (.aload_n 0, 1) := by decide +kernel
theorem dX6_edits_194 : decode cX6_edits 194 = .ok (.getfield 88, 3) := by decide +kernel
theorem dX6_edits_197 : decode cX6_edits 197 = .ok (.caload, 1) := by decide +kernel
theorem dX6_edits_198 : decode cX6_edits 198 = .ok (.iadd, 1) := by decide +kernel
theorem dX6_edits_199 : decode cX6_edits 199 = .ok (.bipush 48, 2) := by decide +kernel
theorem dX6_edits_201 : decode cX6_edits 201 = .ok (.isub, 1) := by decide +kernel
theorem dX6_edits_202 : decode cX6_edits 202 = .ok (.istore 4, 2) := by decide +kernel
theorem dX6_edits_204 : decode cX6_edits 204 = .ok (.aload_n 0, 1) := by decide +kernel
theorem dX6_edits_205 : decode cX6_edits 205 = .ok (.dup, 1) := by decide +kernel
theorem dX6_edits_206 : decode cX6_edits 206 = .ok (.getfield 88, 3) := by decide +kernel
theorem dX6_edits_209 : decode cX6_edits 209 = .ok (.iconst 1, 1) := by decide +kernel
theorem dX6_edits_210 : decode cX6_edits 210 = .ok (.iadd, 1) := by decide +kernel
theorem dX6_edits_211 : decode cX6_edits 211 = .ok (.putfield 88, 3) := by decide +kernel
theorem dX6_edits_214 : decode cX6_edits 214 = .ok (.aload_n 0, 1) := by decide +kernel
theorem dX6_edits_215 : decode cX6_edits 215 = .ok (.getfield 23, 3) := by decide +kernel
theorem dX6_edits_218 : decode cX6_edits 218 = .ok (.iload_n 3, 1) := by decide +kernel
theorem dX6_edits_219 : decode cX6_edits 219 = .ok (.iload 4, 2) := by decide +kernel
theorem dX6_edits_221 : decode cX6_edits 221 = .ok (.iastore, 1) := by decide +kernel
theorem dX6_edits_222 : decode cX6_edits 222 = .ok (.aload_n 0, 1) := by decide +kernel
theorem dX6_edits_223 : decode cX6_edits 223 = .ok (.getfield 88, 3) := by decide +kernel
theorem dX6_edits_226 : decode cX6_edits 226 = .ok (.aload_n 0, 1) := by decide +kernel
theorem dX6_edits_227 : decode cX6_edits 227 = .ok (.getfield 85, 3) := by decide +kernel
theorem dX6_edits_230 : decode cX6_edits 230 = .ok (.if_icmp .ge 7, 3) := by decide +kernel
theorem dX6_edits_233 : decode cX6_edits 233 = .ok (.iconst 1, 1) := by decide +kernel
theorem dX6_edits_234 : decode cX6_edits 234 = .ok (.goto 4, 3) := by decide +kernel
theorem dX6_edits_237 : decode cX6_edits 237 = .ok (.iconst 0, 1) := by decide +kernel
theorem dX6_edits_238 : decode cX6_edits 238 = .ok (.istore_n 2, 1) := by decide +kernel
theorem dX6_edits_239 : decode cX6_edits 239 = .ok (.iload_n 2, 1) := by decide +kernel
theorem dX6_edits_240 : decode cX6_edits 240 = .ok (.ifCond .eq 14, 3) := by decide +kernel
theorem dX6_edits_243 : decode cX6_edits 243 = .ok (.aload_n 0, 1) := by decide +kernel
theorem dX6_edits_244 : decode cX6_edits 244 = .ok (.bipush 44, 2) := by decide +kernel
theorem dX6_edits_246 : decode cX6_edits 246 = .ok (.invokevirtual 95, 3) := by decide +kernel
theorem dX6_edits_249 : decode cX6_edits 249 = .ok (.ifCond .ne 5, 3) := by decide +kernel
theorem dX6_edits_252 : decode cX6_edits 252 = .ok (.iconst 0, 1) := by decide +kernel
theorem dX6_edits_253 : decode cX6_edits 253 = .ok (.ireturn, 1) := by decide +kernel
theorem dX6_edits_254 : decode cX6_edits 254 = .ok (.goto (-221), 3) := by decide +kernel
theorem dX6_edits_257 : decode cX6_edits 257 = .ok (.iconst 1, 1) := by decide +kernel
theorem dX6_edits_258 : decode cX6_edits 258 = .ok (.ireturn, 1) := by decide +kernel
set_option maxRecDepth 20000 in
theorem ggX6_isEditedAs_X6_field : GoodIn wsX6_isEditedAs wsX6_field := goodIn_r _ [6, 7, 8, 9, 10, 11, 12, 13, 14, 15, 16, 17, 18, 19, 20] (by decide +kernel) (by decide +kernel)
set_option maxRecDepth 20000 in
theorem gX6_isEditedAs_X6_field : GoodIn wsX6_isEditedAs (wsV RX6 55 RX6 yX6_field wsX6_field) := goodIn_app (goodIn_of _ (by decide +kernel)) ggX6_isEditedAs_X6_field
theorem dX6_isEditedAs_0 : decode cX6_isEditedAs 0 = .ok (.iconst 0, 1) := by decide +kernel
theorem dX6_isEditedAs_1 : decode cX6_isEditedAs 1 = .ok (.istore_n 2, 1) := by decide +kernel
theorem dX6_isEditedAs_2 : decode cX6_isEditedAs 2 = .ok (.iload_n 2, 1) := by decide +kernel
theorem dX6_isEditedAs_3 : decode cX6_isEditedAs 3 = .ok (.bipush 12, 2) := by decide +kernel
theorem dX6_isEditedAs_5 : decode cX6_isEditedAs 5 = .ok (.if_icmp .ge 26, 3) := by decide +kernel
theorem dX6_isEditedAs_8 : decode cX6_isEditedAs 8 = .ok (.aload_n 0, 1) := by decide +kernel
theorem dX6_isEditedAs_9 : decode cX6_isEditedAs 9 = .ok (.getfield 23, 3) := by decide +kernel
theorem dX6_isEditedAs_12 : decode cX6_isEditedAs 12 = .ok (.iload_n 2, 1) := by decide +kernel
theorem dX6_isEditedAs_13 : decode cX6_isEditedAs 13 = .ok (.iaload, 1) := by decide +kernel
theorem dX6_isEditedAs_14 : decode cX6_isEditedAs 14 = .ok (.aload_n 0, 1) := by decide +kernel
theorem dX6_isEditedAs_15 : decode cX6_isEditedAs 15 = .ok (.iload_n 1, 1) := by decide +kernel
theorem dX6_isEditedAs_16 : decode cX6_isEditedAs 16 = .ok (.iload_n 2, 1) := by decide +kernel
theorem dX6_isEditedAs_17 : decode cX6_isEditedAs 17 = .ok (.invokevirtual 55, 3) := by decide +kernel
theorem dX6_isEditedAs_20 : decode cX6_isEditedAs 20 = .ok (.if_icmp .eq 5, 3) := by decide +kernel
theorem dX6_isEditedAs_23 : decode cX6_isEditedAs 23 = .ok (.iconst 0, 1) := by decide +kernel
theorem dX6_isEditedAs_24 : decode cX6_isEditedAs 24 = .ok (.ireturn, 1) := by decide +kernel
theorem dX6_isEditedAs_25 : decode cX6_isEditedAs 25 = .ok (.iinc 2 1, 3) := by decide +kernel
theorem dX6_isEditedAs_28 : decode cX6_isEditedAs 28 = .ok (.goto (-26), 3) := by decide +kernel
theorem dX6_isEditedAs_31 : decode cX6_isEditedAs 31 = .ok (.iconst 1, 1) := by decide +kernel
theorem dX6_isEditedAs_32 : decode cX6_isEditedAs 32 = .ok (.ireturn, 1) := by decide +kernel
set_option maxRecDepth 20000 in
theorem ggX6_adds_X6_puts : GoodIn wsX6_adds wsX6_puts := goodIn_r _ [7, 1, 24, 25, 26, 27, 28, 29, 30, 31, 32, 33, 34, 35, 36] (by decide +kernel) (by decide +kernel)
set_option maxRecDepth 20000 in
theorem gX6_adds_X6_puts : GoodIn wsX6_adds (wsV RX6 74 RX6 yX6_puts wsX6_puts) := goodIn_app (goodIn_of _ (by decide +kernel)) ggX6_adds_X6_puts
set_option maxRecDepth 20000 in
theorem ggX6_adds_X6_steps : GoodIn wsX6_adds wsX6_steps := goodIn_r _ [11, 12, 13, 14, 6, 15, 1, 24, 25, 26, 27, 28, 29, 30, 31, 32, 33, 34, 35, 36] (by decide +kernel) (by decide +kernel)
set_option maxRecDepth 20000 in
theorem gX6_adds_X6_steps : GoodIn wsX6_adds (wsV RX6 65 RX6 yX6_steps wsX6_steps) := goodIn_app (goodIn_of _ (by decide +kernel)) ggX6_adds_X6_steps
set_option maxRecDepth 20000 in
theorem ggX6_adds_X6_apart : GoodIn wsX6_adds wsX6_apart := goodIn_r _ [19, 20, 21, 22, 6, 23, 1, 24, 25, 26, 27, 28, 29, 30, 31, 32, 33, 34, 35, 36] (by decide +kernel) (by decide +kernel)
set_option maxRecDepth 20000 in
theorem gX6_adds_X6_apart : GoodIn wsX6_adds (wsV RX6 58 RX6 yX6_apart wsX6_apart) := goodIn_app (goodIn_of _ (by decide +kernel)) ggX6_adds_X6_apart
theorem dX6_adds_0 : decode cX6_adds 0 = .ok (.aload_n 0, 1) := by decide +kernel
theorem dX6_adds_1 : decode cX6_adds 1 = .ok (.getfield 7, 3) := by decide +kernel
theorem dX6_adds_4 : decode cX6_adds 4 = .ok (.sipush 685, 3) := by decide +kernel
theorem dX6_adds_7 : decode cX6_adds 7 = .ok (.iaload, 1) := by decide +kernel
theorem dX6_adds_8 : decode cX6_adds 8 = .ok (.istore_n 3, 1) := by decide +kernel
theorem dX6_adds_9 : decode cX6_adds 9 = .ok (.aload_n 0, 1) := by decide +kernel
theorem dX6_adds_10 : decode cX6_adds 10 = .ok (.getfield 7, 3) := by decide +kernel
theorem dX6_adds_13 : decode cX6_adds 13 = .ok (.sipush 685, 3) := by decide +kernel
theorem dX6_adds_16 : decode cX6_adds 16 = .ok (.dup2, 1) := by decide +kernel
theorem dX6_adds_17 : decode cX6_adds 17 = .ok (.iaload, 1) := by decide +kernel
theorem dX6_adds_18 : decode cX6_adds 18 = .ok (.iconst 1, 1) := by decide +kernel
theorem dX6_adds_19 : decode cX6_adds 19 = .ok (.iadd, 1) := by decide +kernel
theorem dX6_adds_20 : decode cX6_adds 20 = .ok (.iastore, 1) := by decide +kernel
theorem dX6_adds_21 : decode cX6_adds 21 = .ok (.iconst 0, 1) := by decide +kernel
theorem dX6_adds_22 : decode cX6_adds 22 = .ok (.istore 4, 2) := by decide +kernel
theorem dX6_adds_24 : decode cX6_adds 24 = .ok (.iload 4, 2) := by decide +kernel
theorem dX6_adds_26 : decode cX6_adds 26 = .ok (.bipush 12, 2) := by decide +kernel
theorem dX6_adds_28 : decode cX6_adds 28 = .ok (.if_icmp .ge 32, 3) := by decide +kernel
theorem dX6_adds_31 : decode cX6_adds 31 = .ok (.aload_n 0, 1) := by decide +kernel
theorem dX6_adds_32 : decode cX6_adds 32 = .ok (.getfield 7, 3) := by decide +kernel
theorem dX6_adds_35 : decode cX6_adds 35 = .ok (.sipush 200, 3) := by decide +kernel
theorem dX6_adds_38 : decode cX6_adds 38 = .ok (.bipush 12, 2) := by decide +kernel
theorem dX6_adds_40 : decode cX6_adds 40 = .ok (.iload_n 3, 1) := by decide +kernel
theorem dX6_adds_41 : decode cX6_adds 41 = .ok (.imul, 1) := by decide +kernel
theorem dX6_adds_42 : decode cX6_adds 42 = .ok (.iadd, 1) := by decide +kernel
theorem dX6_adds_43 : decode cX6_adds 43 = .ok (.iload 4, 2) := by decide +kernel
theorem dX6_adds_45 : decode cX6_adds 45 = .ok (.iadd, 1) := by decide +kernel
theorem dX6_adds_46 : decode cX6_adds 46 = .ok (.aload_n 0, 1) := by decide +kernel
theorem dX6_adds_47 : decode cX6_adds 47 = .ok (.getfield 23, 3) := by decide +kernel
theorem dX6_adds_50 : decode cX6_adds 50 = .ok (.iload 4, 2) := by decide +kernel
theorem dX6_adds_52 : decode cX6_adds 52 = .ok (.iaload, 1) := by decide +kernel
theorem dX6_adds_53 : decode cX6_adds 53 = .ok (.iastore, 1) := by decide +kernel
theorem dX6_adds_54 : decode cX6_adds 54 = .ok (.iinc 4 1, 3) := by decide +kernel
theorem dX6_adds_57 : decode cX6_adds 57 = .ok (.goto (-33), 3) := by decide +kernel
theorem dX6_adds_60 : decode cX6_adds 60 = .ok (.aload_n 0, 1) := by decide +kernel
theorem dX6_adds_61 : decode cX6_adds 61 = .ok (.iload_n 3, 1) := by decide +kernel
theorem dX6_adds_62 : decode cX6_adds 62 = .ok (.iconst 0, 1) := by decide +kernel
theorem dX6_adds_63 : decode cX6_adds 63 = .ok (.iconst 0, 1) := by decide +kernel
theorem dX6_adds_64 : decode cX6_adds 64 = .ok (.invokevirtual 74, 3) := by decide +kernel
theorem dX6_adds_67 : decode cX6_adds 67 = .ok (.aload_n 0, 1) := by decide +kernel
theorem dX6_adds_68 : decode cX6_adds 68 = .ok (.iload_n 3, 1) := by decide +kernel
theorem dX6_adds_69 : decode cX6_adds 69 = .ok (.iconst 1, 1) := by decide +kernel
theorem dX6_adds_70 : decode cX6_adds 70 = .ok (.iload_n 1, 1) := by decide +kernel
theorem dX6_adds_71 : decode cX6_adds 71 = .ok (.invokevirtual 74, 3) := by decide +kernel
theorem dX6_adds_74 : decode cX6_adds 74 = .ok (.aload_n 0, 1) := by decide +kernel
theorem dX6_adds_75 : decode cX6_adds 75 = .ok (.iload_n 3, 1) := by decide +kernel
theorem dX6_adds_76 : decode cX6_adds 76 = .ok (.iconst 2, 1) := by decide +kernel
theorem dX6_adds_77 : decode cX6_adds 77 = .ok (.iload_n 2, 1) := by decide +kernel
theorem dX6_adds_78 : decode cX6_adds 78 = .ok (.invokevirtual 74, 3) := by decide +kernel
theorem dX6_adds_81 : decode cX6_adds 81 = .ok (.aload_n 0, 1) := by decide +kernel
theorem dX6_adds_82 : decode cX6_adds 82 = .ok (.iload_n 1, 1) := by decide +kernel
theorem dX6_adds_83 : decode cX6_adds 83 = .ok (.invokevirtual 65, 3) := by decide +kernel
theorem dX6_adds_86 : decode cX6_adds 86 = .ok (.aload_n 0, 1) := by decide +kernel
theorem dX6_adds_87 : decode cX6_adds 87 = .ok (.getfield 7, 3) := by decide +kernel
theorem dX6_adds_90 : decode cX6_adds 90 = .ok (.sipush 686, 3) := by decide +kernel
theorem dX6_adds_93 : decode cX6_adds 93 = .ok (.iaload, 1) := by decide +kernel
theorem dX6_adds_94 : decode cX6_adds 94 = .ok (.if_icmp .ge 22, 3) := by decide +kernel
theorem dX6_adds_97 : decode cX6_adds 97 = .ok (.iconst 1, 1) := by decide +kernel
theorem dX6_adds_98 : decode cX6_adds 98 = .ok (.iconst 2, 1) := by decide +kernel
theorem dX6_adds_99 : decode cX6_adds 99 = .ok (.aload_n 0, 1) := by decide +kernel
theorem dX6_adds_100 : decode cX6_adds 100 = .ok (.iload_n 3, 1) := by decide +kernel
theorem dX6_adds_101 : decode cX6_adds 101 = .ok (.iload_n 1, 1) := by decide +kernel
theorem dX6_adds_102 : decode cX6_adds 102 = .ok (.invokevirtual 58, 3) := by decide +kernel
theorem dX6_adds_105 : decode cX6_adds 105 = .ok (.imul, 1) := by decide +kernel
theorem dX6_adds_106 : decode cX6_adds 106 = .ok (.iadd, 1) := by decide +kernel
theorem dX6_adds_107 : decode cX6_adds 107 = .ok (.bipush 12, 2) := by decide +kernel
theorem dX6_adds_109 : decode cX6_adds 109 = .ok (.if_icmp .ge 7, 3) := by decide +kernel
theorem dX6_adds_112 : decode cX6_adds 112 = .ok (.iconst 1, 1) := by decide +kernel
theorem dX6_adds_113 : decode cX6_adds 113 = .ok (.goto 4, 3) := by decide +kernel
theorem dX6_adds_116 : decode cX6_adds 116 = .ok (.iconst 0, 1) := by decide +kernel
theorem dX6_adds_117 : decode cX6_adds 117 = .ok (.istore 4, 2) := by decide +kernel
theorem dX6_adds_119 : decode cX6_adds 119 = .ok (.aload_n 0, 1) := by decide +kernel
theorem dX6_adds_120 : decode cX6_adds 120 = .ok (.iload_n 3, 1) := by decide +kernel
theorem dX6_adds_121 : decode cX6_adds 121 = .ok (.iconst 3, 1) := by decide +kernel
theorem dX6_adds_122 : decode cX6_adds 122 = .ok (.iload 4, 2) := by decide +kernel
theorem dX6_adds_124 : decode cX6_adds 124 = .ok (.ifCond .eq 7, 3) := by decide +kernel
theorem dX6_adds_127 : decode cX6_adds 127 = .ok (.iload_n 1, 1) := by decide +kernel
theorem dX6_adds_128 : decode cX6_adds 128 = .ok (.goto 5, 3) := by decide +kernel
theorem dX6_adds_131 : decode cX6_adds 131 = .ok (.bipush (-5), 2) := by decide +kernel
theorem dX6_adds_133 : decode cX6_adds 133 = .ok (.invokevirtual 74, 3) := by decide +kernel
theorem dX6_adds_136 : decode cX6_adds 136 = .ok (.aload_n 0, 1) := by decide +kernel
theorem dX6_adds_137 : decode cX6_adds 137 = .ok (.iload_n 3, 1) := by decide +kernel
theorem dX6_adds_138 : decode cX6_adds 138 = .ok (.iconst 4, 1) := by decide +kernel
theorem dX6_adds_139 : decode cX6_adds 139 = .ok (.iconst 0, 1) := by decide +kernel
theorem dX6_adds_140 : decode cX6_adds 140 = .ok (.invokevirtual 74, 3) := by decide +kernel
theorem dX6_adds_143 : decode cX6_adds 143 = .ok (.iload_n 3, 1) := by decide +kernel
theorem dX6_adds_144 : decode cX6_adds 144 = .ok (.ireturn, 1) := by decide +kernel
set_option maxRecDepth 20000 in
theorem ggX6_commit_X6_noHead : GoodIn wsX6_commit wsX6_noHead := goodIn_r _ [7, 2, 8, 9, 6, 10, 72, 73, 74, 75, 76, 77, 78, 79, 80, 81, 82, 83, 84] (by decide +kernel) (by decide +kernel)
set_option maxRecDepth 20000 in
theorem gX6_commit_X6_noHead : GoodIn wsX6_commit (wsV RX6 98 RX6 yX6_noHead wsX6_noHead) := goodIn_app (goodIn_of _ (by decide +kernel)) ggX6_commit_X6_noHead
set_option maxRecDepth 20000 in
theorem ggX6_commit_X6_at : GoodIn wsX6_commit wsX6_at := goodIn_r _ [14, 2, 72, 73, 74, 75, 76, 77, 78, 79, 80, 81, 82, 83, 84] (by decide +kernel) (by decide +kernel)
set_option maxRecDepth 20000 in
theorem gX6_commit_X6_at : GoodIn wsX6_commit (wsV RX6 101 RX6 yX6_at wsX6_at) := goodIn_app (goodIn_of _ (by decide +kernel)) ggX6_commit_X6_at
set_option maxRecDepth 20000 in
theorem ggX6_commit_X6_edits : GoodIn wsX6_commit wsX6_edits := goodIn_r _ [18, 19, 1, 20, 21, 22, 23, 24, 6, 25, 2, 26, 27, 28, 29, 8, 9, 10, 30, 31, 32, 33, 72, 73, 74, 75, 76, 77, 78, 79, 80, 81, 82, 83, 84] (by decide +kernel) (by decide +kernel)
set_option maxRecDepth 20000 in
theorem gX6_commit_X6_edits : GoodIn wsX6_commit (wsV RX6 104 RX6 yX6_edits wsX6_edits) := goodIn_app (goodIn_of _ (by decide +kernel)) ggX6_commit_X6_edits
set_option maxRecDepth 20000 in
theorem ggX6_commit_X6_isBarred : GoodIn wsX6_commit wsX6_isBarred := goodIn_r _ [37, 38, 39, 40, 6, 41, 42, 43, 44, 45, 2, 72, 73, 74, 75, 76, 77, 78, 79, 80, 81, 82, 83, 84] (by decide +kernel) (by decide +kernel)
set_option maxRecDepth 20000 in
theorem gX6_commit_X6_isBarred : GoodIn wsX6_commit (wsV RX6 71 RX6 yX6_isBarred wsX6_isBarred) := goodIn_app (goodIn_of _ (by decide +kernel)) ggX6_commit_X6_isBarred
set_option maxRecDepth 20000 in
theorem ggX6_commit_X6_isEditedAs : GoodIn wsX6_commit wsX6_isEditedAs := goodIn_r _ [49, 19, 22, 23, 24, 6, 25, 2, 72, 73, 74, 75, 76, 77, 78, 79, 80, 81, 82, 83, 84] (by decide +kernel) (by decide +kernel)
set_option maxRecDepth 20000 in
theorem gX6_commit_X6_isEditedAs : GoodIn wsX6_commit (wsV RX6 107 RX6 yX6_isEditedAs wsX6_isEditedAs) := goodIn_app (goodIn_of _ (by decide +kernel)) ggX6_commit_X6_isEditedAs
set_option maxRecDepth 20000 in
theorem ggX6_commit_X6_record : GoodIn wsX6_commit wsX6_record := goodIn_r _ [53, 54, 55, 2, 72, 73, 74, 75, 76, 77, 78, 79, 80, 81, 82, 83, 84] (by decide +kernel) (by decide +kernel)
set_option maxRecDepth 20000 in
theorem gX6_commit_X6_record : GoodIn wsX6_commit (wsV RX6 110 RX6 yX6_record wsX6_record) := goodIn_app (goodIn_of _ (by decide +kernel)) ggX6_commit_X6_record
set_option maxRecDepth 20000 in
theorem ggX6_commit_X6_adds : GoodIn wsX6_commit wsX6_adds := goodIn_r _ [59, 2, 19, 60, 61, 62, 6, 63, 64, 65, 66, 67, 42, 43, 44, 45, 68, 69, 70, 71, 22, 23, 24, 25, 72, 73, 74, 75, 76, 77, 78, 79, 80, 81, 82, 83, 84] (by decide +kernel) (by decide +kernel)
set_option maxRecDepth 20000 in
theorem gX6_commit_X6_adds : GoodIn wsX6_commit (wsV RX6 113 RX6 yX6_adds wsX6_adds) := goodIn_app (goodIn_of _ (by decide +kernel)) ggX6_commit_X6_adds
theorem dX6_commit_0 : decode cX6_commit 0 = .ok (.aload_n 0, 1) := by decide +kernel
theorem dX6_commit_1 : decode cX6_commit 1 = .ok (.iload_n 1, 1) := by decide +kernel
theorem dX6_commit_2 : decode cX6_commit 2 = .ok (.invokevirtual 98, 3) := by decide +kernel
theorem dX6_commit_5 : decode cX6_commit 5 = .ok (.ifCond .eq 5, 3) := by decide +kernel
theorem dX6_commit_8 : decode cX6_commit 8 = .ok (.iconst (-1), 1) := by decide +kernel
theorem dX6_commit_9 : decode cX6_commit 9 = .ok (.ireturn, 1) := by decide +kernel
theorem dX6_commit_10 : decode cX6_commit 10 = .ok (.aload_n 0, 1) := by decide +kernel
theorem dX6_commit_11 : decode cX6_commit 11 = .ok (.iload_n 1, 1) := by decide +kernel
theorem dX6_commit_12 : decode cX6_commit 12 = .ok (.invokevirtual 101, 3) := by decide +kernel
theorem dX6_commit_15 : decode cX6_commit 15 = .ok (.istore_n 2, 1) := by decide +kernel
theorem dX6_commit_16 : decode cX6_commit 16 = .ok (.aload_n 0, 1) := by decide +kernel
theorem dX6_commit_17 : decode cX6_commit 17 = .ok (.iload_n 2, 1) := by decide +kernel
theorem dX6_commit_18 : decode cX6_commit 18 = .ok (.invokevirtual 104, 3) := by decide +kernel
theorem dX6_commit_21 : decode cX6_commit 21 = .ok (.ifCond .ne 11, 3) := by decide +kernel
theorem dX6_commit_24 : decode cX6_commit 24 = .ok (.bipush (-100), 2) := by decide +kernel
theorem dX6_commit_26 : decode cX6_commit 26 = .ok (.aload_n 0, 1) := by decide +kernel
theorem dX6_commit_27 : decode cX6_commit 27 = .ok (.getfield 88, 3) := by decide +kernel
theorem dX6_commit_30 : decode cX6_commit 30 = .ok (.isub, 1) := by decide +kernel
theorem dX6_commit_31 : decode cX6_commit 31 = .ok (.ireturn, 1) := by decide +kernel
theorem dX6_commit_32 : decode cX6_commit 32 = .ok (.aload_n 0, 1) := by decide +kernel
theorem dX6_commit_33 : decode cX6_commit 33 = .ok (.iload_n 2, 1) := by decide +kernel
theorem dX6_commit_34 : decode cX6_commit 34 = .ok (.invokevirtual 71, 3) := by decide +kernel
theorem dX6_commit_37 : decode cX6_commit 37 = .ok (.ifCond .eq 6, 3) := by decide +kernel
theorem dX6_commit_40 : decode cX6_commit 40 = .ok (.bipush (-6), 2) := by decide +kernel
theorem dX6_commit_42 : decode cX6_commit 42 = .ok (.ireturn, 1) := by decide +kernel
theorem dX6_commit_43 : decode cX6_commit 43 = .ok (.aload_n 0, 1) := by decide +kernel
theorem dX6_commit_44 : decode cX6_commit 44 = .ok (.getfield 7, 3) := by decide +kernel
theorem dX6_commit_47 : decode cX6_commit 47 = .ok (.sipush 685, 3) := by decide +kernel
theorem dX6_commit_50 : decode cX6_commit 50 = .ok (.iaload, 1) := by decide +kernel
theorem dX6_commit_51 : decode cX6_commit 51 = .ok (.bipush 40, 2) := by decide +kernel
theorem dX6_commit_53 : decode cX6_commit 53 = .ok (.if_icmp .ne 6, 3) := by decide +kernel
theorem dX6_commit_56 : decode cX6_commit 56 = .ok (.bipush (-3), 2) := by decide +kernel
theorem dX6_commit_58 : decode cX6_commit 58 = .ok (.ireturn, 1) := by decide +kernel
theorem dX6_commit_59 : decode cX6_commit 59 = .ok (.aload_n 0, 1) := by decide +kernel
theorem dX6_commit_60 : decode cX6_commit 60 = .ok (.iload_n 2, 1) := by decide +kernel
theorem dX6_commit_61 : decode cX6_commit 61 = .ok (.invokevirtual 107, 3) := by decide +kernel
theorem dX6_commit_64 : decode cX6_commit 64 = .ok (.ifCond .eq 6, 3) := by decide +kernel
theorem dX6_commit_67 : decode cX6_commit 67 = .ok (.bipush (-5), 2) := by decide +kernel
theorem dX6_commit_69 : decode cX6_commit 69 = .ok (.ireturn, 1) := by decide +kernel
theorem dX6_commit_70 : decode cX6_commit 70 = .ok (.aload_n 0, 1) := by decide +kernel
theorem dX6_commit_71 : decode cX6_commit 71 = .ok (.invokevirtual 110, 3) := by decide +kernel
theorem dX6_commit_74 : decode cX6_commit 74 = .ok (.aload_n 0, 1) := by decide +kernel
theorem dX6_commit_75 : decode cX6_commit 75 = .ok (.iload_n 2, 1) := by decide +kernel
theorem dX6_commit_76 : decode cX6_commit 76 = .ok (.bipush (-5), 2) := by decide +kernel
theorem dX6_commit_78 : decode cX6_commit 78 = .ok (.invokevirtual 113, 3) := by decide +kernel
theorem dX6_commit_81 : decode cX6_commit 81 = .ok (.istore_n 3, 1) := by decide +kernel
theorem dX6_commit_82 : decode cX6_commit 82 = .ok (.aload_n 0, 1) := by decide +kernel
theorem dX6_commit_83 : decode cX6_commit 83 = .ok (.getfield 7, 3) := by decide +kernel
theorem dX6_commit_86 : decode cX6_commit 86 = .ok (.sipush 680, 3) := by decide +kernel
theorem dX6_commit_89 : decode cX6_commit 89 = .ok (.iload_n 1, 1) := by decide +kernel
theorem dX6_commit_90 : decode cX6_commit 90 = .ok (.iadd, 1) := by decide +kernel
theorem dX6_commit_91 : decode cX6_commit 91 = .ok (.iload_n 3, 1) := by decide +kernel
theorem dX6_commit_92 : decode cX6_commit 92 = .ok (.iastore, 1) := by decide +kernel
theorem dX6_commit_93 : decode cX6_commit 93 = .ok (.iload_n 3, 1) := by decide +kernel
theorem dX6_commit_94 : decode cX6_commit 94 = .ok (.ireturn, 1) := by decide +kernel
set_option maxRecDepth 20000 in
theorem ggX6_fork_X6_isKept : GoodIn wsX6_fork wsX6_isKept := goodIn_r _ [6, 7, 8, 9, 5, 10, 1, 11, 12, 13, 14, 15, 16, 17, 24, 25, 26, 27, 28, 29, 30, 31, 32, 33, 34, 35, 36] (by decide +kernel) (by decide +kernel)
set_option maxRecDepth 20000 in
theorem gX6_fork_X6_isKept : GoodIn wsX6_fork (wsV RX6 116 RX6 yX6_isKept wsX6_isKept) := goodIn_app (goodIn_of _ (by decide +kernel)) ggX6_fork_X6_isKept
set_option maxRecDepth 20000 in
theorem ggX6_fork_X6_record : GoodIn wsX6_fork wsX6_record := goodIn_r _ [21, 22, 23, 1, 24, 25, 26, 27, 28, 29, 30, 31, 32, 33, 34, 35, 36] (by decide +kernel) (by decide +kernel)
set_option maxRecDepth 20000 in
theorem gX6_fork_X6_record : GoodIn wsX6_fork (wsV RX6 110 RX6 yX6_record wsX6_record) := goodIn_app (goodIn_of _ (by decide +kernel)) ggX6_fork_X6_record
theorem dX6_fork_0 : decode cX6_fork 0 = .ok (.aload_n 0, 1) := by decide +kernel
theorem dX6_fork_1 : decode cX6_fork 1 = .ok (.iload_n 1, 1) := by decide +kernel
theorem dX6_fork_2 : decode cX6_fork 2 = .ok (.invokevirtual 116, 3) := by decide +kernel
theorem dX6_fork_5 : decode cX6_fork 5 = .ok (.ifCond .ne 5, 3) := by decide +kernel
theorem dX6_fork_8 : decode cX6_fork 8 = .ok (.iconst (-1), 1) := by decide +kernel
theorem dX6_fork_9 : decode cX6_fork 9 = .ok (.ireturn, 1) := by decide +kernel
theorem dX6_fork_10 : decode cX6_fork 10 = .ok (.aload_n 0, 1) := by decide +kernel
theorem dX6_fork_11 : decode cX6_fork 11 = .ok (.getfield 7, 3) := by decide +kernel
theorem dX6_fork_14 : decode cX6_fork 14 = .ok (.sipush 684, 3) := by decide +kernel
theorem dX6_fork_17 : decode cX6_fork 17 = .ok (.iaload, 1) := by decide +kernel
theorem dX6_fork_18 : decode cX6_fork 18 = .ok (.istore_n 2, 1) := by decide +kernel
theorem dX6_fork_19 : decode cX6_fork 19 = .ok (.iload_n 2, 1) := by decide +kernel
theorem dX6_fork_20 : decode cX6_fork 20 = .ok (.iconst 4, 1) := by decide +kernel
theorem dX6_fork_21 : decode cX6_fork 21 = .ok (.if_icmp .ne 6, 3) := by decide +kernel
theorem dX6_fork_24 : decode cX6_fork 24 = .ok (.bipush (-3), 2) := by decide +kernel
theorem dX6_fork_26 : decode cX6_fork 26 = .ok (.ireturn, 1) := by decide +kernel
theorem dX6_fork_27 : decode cX6_fork 27 = .ok (.aload_n 0, 1) := by decide +kernel
theorem dX6_fork_28 : decode cX6_fork 28 = .ok (.invokevirtual 110, 3) := by decide +kernel
theorem dX6_fork_31 : decode cX6_fork 31 = .ok (.aload_n 0, 1) := by decide +kernel
theorem dX6_fork_32 : decode cX6_fork 32 = .ok (.getfield 7, 3) := by decide +kernel
theorem dX6_fork_35 : decode cX6_fork 35 = .ok (.sipush 680, 3) := by decide +kernel
theorem dX6_fork_38 : decode cX6_fork 38 = .ok (.iload_n 2, 1) := by decide +kernel
theorem dX6_fork_39 : decode cX6_fork 39 = .ok (.iadd, 1) := by decide +kernel
theorem dX6_fork_40 : decode cX6_fork 40 = .ok (.iload_n 1, 1) := by decide +kernel
theorem dX6_fork_41 : decode cX6_fork 41 = .ok (.iastore, 1) := by decide +kernel
theorem dX6_fork_42 : decode cX6_fork 42 = .ok (.aload_n 0, 1) := by decide +kernel
theorem dX6_fork_43 : decode cX6_fork 43 = .ok (.getfield 7, 3) := by decide +kernel
theorem dX6_fork_46 : decode cX6_fork 46 = .ok (.sipush 684, 3) := by decide +kernel
theorem dX6_fork_49 : decode cX6_fork 49 = .ok (.dup2, 1) := by decide +kernel
theorem dX6_fork_50 : decode cX6_fork 50 = .ok (.iaload, 1) := by decide +kernel
theorem dX6_fork_51 : decode cX6_fork 51 = .ok (.iconst 1, 1) := by decide +kernel
theorem dX6_fork_52 : decode cX6_fork 52 = .ok (.iadd, 1) := by decide +kernel
theorem dX6_fork_53 : decode cX6_fork 53 = .ok (.iastore, 1) := by decide +kernel
theorem dX6_fork_54 : decode cX6_fork 54 = .ok (.iload_n 2, 1) := by decide +kernel
theorem dX6_fork_55 : decode cX6_fork 55 = .ok (.ireturn, 1) := by decide +kernel
set_option maxRecDepth 20000 in
theorem ggX6_moveHead_X6_noHead : GoodIn wsX6_moveHead wsX6_noHead := goodIn_r _ [6, 1, 7, 8, 5, 9, 32, 33, 34, 35, 36, 37, 38, 39, 40, 41, 42, 43, 44] (by decide +kernel) (by decide +kernel)
set_option maxRecDepth 20000 in
theorem gX6_moveHead_X6_noHead : GoodIn wsX6_moveHead (wsV RX6 98 RX6 yX6_noHead wsX6_noHead) := goodIn_app (goodIn_of _ (by decide +kernel)) ggX6_moveHead_X6_noHead
set_option maxRecDepth 20000 in
theorem ggX6_moveHead_X6_isKept : GoodIn wsX6_moveHead wsX6_isKept := goodIn_r _ [13, 14, 15, 16, 5, 17, 1, 7, 8, 9, 18, 19, 20, 21, 32, 33, 34, 35, 36, 37, 38, 39, 40, 41, 42, 43, 44] (by decide +kernel) (by decide +kernel)
set_option maxRecDepth 20000 in
theorem gX6_moveHead_X6_isKept : GoodIn wsX6_moveHead (wsV RX6 116 RX6 yX6_isKept wsX6_isKept) := goodIn_app (goodIn_of _ (by decide +kernel)) ggX6_moveHead_X6_isKept
set_option maxRecDepth 20000 in
theorem ggX6_moveHead_X6_at : GoodIn wsX6_moveHead wsX6_at := goodIn_r _ [25, 1, 32, 33, 34, 35, 36, 37, 38, 39, 40, 41, 42, 43, 44] (by decide +kernel) (by decide +kernel)
set_option maxRecDepth 20000 in
theorem gX6_moveHead_X6_at : GoodIn wsX6_moveHead (wsV RX6 101 RX6 yX6_at wsX6_at) := goodIn_app (goodIn_of _ (by decide +kernel)) ggX6_moveHead_X6_at
set_option maxRecDepth 20000 in
theorem ggX6_moveHead_X6_record : GoodIn wsX6_moveHead wsX6_record := goodIn_r _ [29, 30, 31, 1, 32, 33, 34, 35, 36, 37, 38, 39, 40, 41, 42, 43, 44] (by decide +kernel) (by decide +kernel)
set_option maxRecDepth 20000 in
theorem gX6_moveHead_X6_record : GoodIn wsX6_moveHead (wsV RX6 110 RX6 yX6_record wsX6_record) := goodIn_app (goodIn_of _ (by decide +kernel)) ggX6_moveHead_X6_record
theorem dX6_moveHead_0 : decode cX6_moveHead 0 = .ok (.aload_n 0, 1) := by decide +kernel
theorem dX6_moveHead_1 : decode cX6_moveHead 1 = .ok (.iload_n 1, 1) := by decide +kernel
theorem dX6_moveHead_2 : decode cX6_moveHead 2 = .ok (.invokevirtual 98, 3) := by decide +kernel
theorem dX6_moveHead_5 : decode cX6_moveHead 5 = .ok (.ifCond .ne 11, 3) := by decide +kernel
theorem dX6_moveHead_8 : decode cX6_moveHead 8 = .ok (.aload_n 0, 1) := by decide +kernel
theorem dX6_moveHead_9 : decode cX6_moveHead 9 = .ok (.iload_n 2, 1) := by decide +kernel
theorem dX6_moveHead_10 : decode cX6_moveHead 10 = .ok (.invokevirtual 116, 3) := by decide +kernel
theorem dX6_moveHead_13 : decode cX6_moveHead 13 = .ok (.ifCond .ne 5, 3) := by decide +kernel
theorem dX6_moveHead_16 : decode cX6_moveHead 16 = .ok (.iconst (-1), 1) := by decide +kernel
theorem dX6_moveHead_17 : decode cX6_moveHead 17 = .ok (.ireturn, 1) := by decide +kernel
theorem dX6_moveHead_18 : decode cX6_moveHead 18 = .ok (.aload_n 0, 1) := by decide +kernel
theorem dX6_moveHead_19 : decode cX6_moveHead 19 = .ok (.iload_n 1, 1) := by decide +kernel
theorem dX6_moveHead_20 : decode cX6_moveHead 20 = .ok (.invokevirtual 101, 3) := by decide +kernel
theorem dX6_moveHead_23 : decode cX6_moveHead 23 = .ok (.istore_n 3, 1) := by decide +kernel
theorem dX6_moveHead_24 : decode cX6_moveHead 24 = .ok (.iload_n 3, 1) := by decide +kernel
theorem dX6_moveHead_25 : decode cX6_moveHead 25 = .ok (.iload_n 2, 1) := by decide +kernel
theorem dX6_moveHead_26 : decode cX6_moveHead 26 = .ok (.if_icmp .ne 6, 3) := by decide +kernel
theorem dX6_moveHead_29 : decode cX6_moveHead 29 = .ok (.bipush (-5), 2) := by decide +kernel
theorem dX6_moveHead_31 : decode cX6_moveHead 31 = .ok (.ireturn, 1) := by decide +kernel
theorem dX6_moveHead_32 : decode cX6_moveHead 32 = .ok (.aload_n 0, 1) := by decide +kernel
theorem dX6_moveHead_33 : decode cX6_moveHead 33 = .ok (.invokevirtual 110, 3) := by decide +kernel
theorem dX6_moveHead_36 : decode cX6_moveHead 36 = .ok (.aload_n 0, 1) := by decide +kernel
theorem dX6_moveHead_37 : decode cX6_moveHead 37 = .ok (.getfield 7, 3) := by decide +kernel
theorem dX6_moveHead_40 : decode cX6_moveHead 40 = .ok (.sipush 680, 3) := by decide +kernel
theorem dX6_moveHead_43 : decode cX6_moveHead 43 = .ok (.iload_n 1, 1) := by decide +kernel
theorem dX6_moveHead_44 : decode cX6_moveHead 44 = .ok (.iadd, 1) := by decide +kernel
theorem dX6_moveHead_45 : decode cX6_moveHead 45 = .ok (.iload_n 2, 1) := by decide +kernel
theorem dX6_moveHead_46 : decode cX6_moveHead 46 = .ok (.iastore, 1) := by decide +kernel
theorem dX6_moveHead_47 : decode cX6_moveHead 47 = .ok (.iload_n 3, 1) := by decide +kernel
theorem dX6_moveHead_48 : decode cX6_moveHead 48 = .ok (.ireturn, 1) := by decide +kernel
set_option maxRecDepth 20000 in
theorem ggX6_marks_X6_of : GoodIn wsX6_marks wsX6_of := goodIn_r _ [8, 3, 9, 10, 11, 12, 13, 14, 15, 16, 17, 18, 19, 20, 21] (by decide +kernel) (by decide +kernel)
set_option maxRecDepth 20000 in
theorem gX6_marks_X6_of : GoodIn wsX6_marks (wsV RX6 43 RX6 yX6_of wsX6_of) := goodIn_app (goodIn_of _ (by decide +kernel)) ggX6_marks_X6_of
theorem dX6_marks_0 : decode cX6_marks 0 = .ok (.bipush 39, 2) := by decide +kernel
theorem dX6_marks_2 : decode cX6_marks 2 = .ok (.istore_n 3, 1) := by decide +kernel
theorem dX6_marks_3 : decode cX6_marks 3 = .ok (.iload_n 3, 1) := by decide +kernel
theorem dX6_marks_4 : decode cX6_marks 4 = .ok (.ifCond .lt 41, 3) := by decide +kernel
theorem dX6_marks_7 : decode cX6_marks 7 = .ok (.aload_n 0, 1) := by decide +kernel
theorem dX6_marks_8 : decode cX6_marks 8 = .ok (.getfield 26, 3) := by decide +kernel
theorem dX6_marks_11 : decode cX6_marks 11 = .ok (.iload_n 3, 1) := by decide +kernel
theorem dX6_marks_12 : decode cX6_marks 12 = .ok (.iload_n 3, 1) := by decide +kernel
theorem dX6_marks_13 : decode cX6_marks 13 = .ok (.iload_n 1, 1) := by decide +kernel
theorem dX6_marks_14 : decode cX6_marks 14 = .ok (.if_icmp .ne 7, 3) := by decide +kernel
theorem dX6_marks_17 : decode cX6_marks 17 = .ok (.iconst 1, 1) := by decide +kernel
theorem dX6_marks_18 : decode cX6_marks 18 = .ok (.goto 4, 3) := by decide +kernel
theorem dX6_marks_21 : decode cX6_marks 21 = .ok (.iconst 0, 1) := by decide +kernel
theorem dX6_marks_22 : decode cX6_marks 22 = .ok (.bastore, 1) := by decide +kernel
theorem dX6_marks_23 : decode cX6_marks 23 = .ok (.aload_n 0, 1) := by decide +kernel
theorem dX6_marks_24 : decode cX6_marks 24 = .ok (.getfield 30, 3) := by decide +kernel
theorem dX6_marks_27 : decode cX6_marks 27 = .ok (.iload_n 3, 1) := by decide +kernel
theorem dX6_marks_28 : decode cX6_marks 28 = .ok (.iload_n 3, 1) := by decide +kernel
theorem dX6_marks_29 : decode cX6_marks 29 = .ok (.iload_n 2, 1) := by decide +kernel
theorem dX6_marks_30 : decode cX6_marks 30 = .ok (.if_icmp .ne 7, 3) := by decide +kernel
theorem dX6_marks_33 : decode cX6_marks 33 = .ok (.iconst 1, 1) := by decide +kernel
theorem dX6_marks_34 : decode cX6_marks 34 = .ok (.goto 4, 3) := by decide +kernel
theorem dX6_marks_37 : decode cX6_marks 37 = .ok (.iconst 0, 1) := by decide +kernel
theorem dX6_marks_38 : decode cX6_marks 38 = .ok (.bastore, 1) := by decide +kernel
theorem dX6_marks_39 : decode cX6_marks 39 = .ok (.iinc 3 (-1), 3) := by decide +kernel
theorem dX6_marks_42 : decode cX6_marks 42 = .ok (.goto (-39), 3) := by decide +kernel
theorem dX6_marks_45 : decode cX6_marks 45 = .ok (.aload_n 0, 1) := by decide +kernel
theorem dX6_marks_46 : decode cX6_marks 46 = .ok (.getfield 7, 3) := by decide +kernel
theorem dX6_marks_49 : decode cX6_marks 49 = .ok (.sipush 685, 3) := by decide +kernel
theorem dX6_marks_52 : decode cX6_marks 52 = .ok (.iaload, 1) := by decide +kernel
theorem dX6_marks_53 : decode cX6_marks 53 = .ok (.iconst 1, 1) := by decide +kernel
theorem dX6_marks_54 : decode cX6_marks 54 = .ok (.isub, 1) := by decide +kernel
theorem dX6_marks_55 : decode cX6_marks 55 = .ok (.istore_n 3, 1) := by decide +kernel
theorem dX6_marks_56 : decode cX6_marks 56 = .ok (.iload_n 3, 1) := by decide +kernel
theorem dX6_marks_57 : decode cX6_marks 57 = .ok (.ifCond .lt 72, 3) := by decide +kernel
theorem dX6_marks_60 : decode cX6_marks 60 = .ok (.iconst 1, 1) := by decide +kernel
theorem dX6_marks_61 : decode cX6_marks 61 = .ok (.istore 4, 2) := by decide +kernel
theorem dX6_marks_63 : decode cX6_marks 63 = .ok (.iload 4, 2) := by decide +kernel
theorem dX6_marks_65 : decode cX6_marks 65 = .ok (.iconst 2, 1) := by decide +kernel
theorem dX6_marks_66 : decode cX6_marks 66 = .ok (.if_icmp .gt 57, 3) := by decide +kernel
theorem dX6_marks_69 : decode cX6_marks 69 = .ok (.aload_n 0, 1) := by decide +kernel
theorem dX6_marks_70 : decode cX6_marks 70 = .ok (.iload_n 3, 1) := by decide +kernel
theorem dX6_marks_71 : decode cX6_marks 71 = .ok (.iload 4, 2) := by decide +kernel
theorem dX6_marks_73 : decode cX6_marks 73 = .ok (.invokevirtual 43, 3) := by decide +kernel
theorem dX6_marks_76 : decode cX6_marks 76 = .ok (.istore 5, 2) := by decide +kernel
theorem dX6_marks_78 : decode cX6_marks 78 = .ok (.iload 5, 2) := by decide +kernel
theorem dX6_marks_80 : decode cX6_marks 80 = .ok (.bipush (-5), 2) := by decide +kernel
theorem dX6_marks_82 : decode cX6_marks 82 = .ok (.if_icmp .eq 35, 3) := by decide +kernel
theorem dX6_marks_85 : decode cX6_marks 85 = .ok (.aload_n 0, 1) := by decide +kernel
theorem dX6_marks_86 : decode cX6_marks 86 = .ok (.getfield 26, 3) := by decide +kernel
theorem dX6_marks_89 : decode cX6_marks 89 = .ok (.iload 5, 2) := by decide +kernel
theorem dX6_marks_91 : decode cX6_marks 91 = .ok (.dup2, 1) := by decide +kernel
theorem dX6_marks_92 : decode cX6_marks 92 = .ok (.baload, 1) := by decide +kernel
theorem dX6_marks_93 : decode cX6_marks 93 = .ok (.aload_n 0, 1) := by decide +kernel
theorem dX6_marks_94 : decode cX6_marks 94 = .ok (.getfield 26, 3) := by decide +kernel
theorem dX6_marks_97 : decode cX6_marks 97 = .ok (.iload_n 3, 1) := by decide +kernel
theorem dX6_marks_98 : decode cX6_marks 98 = .ok (.baload, 1) := by decide +kernel
theorem dX6_marks_99 : decode cX6_marks 99 = .ok (.ior, 1) := by decide +kernel
theorem dX6_marks_100 : decode cX6_marks 100 = .ok (.bastore, 1) := by decide +kernel
theorem dX6_marks_101 : decode cX6_marks 101 = .ok (.aload_n 0, 1) := by decide +kernel
theorem dX6_marks_102 : decode cX6_marks 102 = .ok (.getfield 30, 3) := by decide +kernel
theorem dX6_marks_105 : decode cX6_marks 105 = .ok (.iload 5, 2) := by decide +kernel
theorem dX6_marks_107 : decode cX6_marks 107 = .ok (.dup2, 1) := by decide +kernel
theorem dX6_marks_108 : decode cX6_marks 108 = .ok (.baload, 1) := by decide +kernel
theorem dX6_marks_109 : decode cX6_marks 109 = .ok (.aload_n 0, 1) := by decide +kernel
theorem dX6_marks_110 : decode cX6_marks 110 = .ok (.getfield 30, 3) := by decide +kernel
theorem dX6_marks_113 : decode cX6_marks 113 = .ok (.iload_n 3, 1) := by decide +kernel
theorem dX6_marks_114 : decode cX6_marks 114 = .ok (.baload, 1) := by decide +kernel
theorem dX6_marks_115 : decode cX6_marks 115 = .ok (.ior, 1) := by decide +kernel
theorem dX6_marks_116 : decode cX6_marks 116 = .ok (.bastore, 1) := by decide +kernel
theorem dX6_marks_117 : decode cX6_marks 117 = .ok (.iinc 4 1, 3) := by decide +kernel
theorem dX6_marks_120 : decode cX6_marks 120 = .ok (.goto (-57), 3) := by decide +kernel
theorem dX6_marks_123 : decode cX6_marks 123 = .ok (.iinc 3 (-1), 3) := by decide +kernel
theorem dX6_marks_126 : decode cX6_marks 126 = .ok (.goto (-70), 3) := by decide +kernel
theorem dX6_marks_129 : decode cX6_marks 129 = .ok (.return_, 1) := by decide +kernel
set_option maxRecDepth 20000 in
theorem ggX6_shared_X6_isThere : GoodIn wsX6_shared wsX6_isThere := goodIn_r _ [8, 1, 9, 10, 7, 11, 12, 13, 14, 15, 24, 25, 26, 27, 28, 29, 30, 31, 32, 33, 34, 35, 36] (by decide +kernel) (by decide +kernel)
set_option maxRecDepth 20000 in
theorem gX6_shared_X6_isThere : GoodIn wsX6_shared (wsV RX6 47 RX6 yX6_isThere wsX6_isThere) := goodIn_app (goodIn_of _ (by decide +kernel)) ggX6_shared_X6_isThere
set_option maxRecDepth 20000 in
theorem ggX6_shared_X6_isBarred : GoodIn wsX6_shared wsX6_isBarred := goodIn_r _ [19, 20, 21, 22, 7, 23, 12, 13, 14, 15, 1, 24, 25, 26, 27, 28, 29, 30, 31, 32, 33, 34, 35, 36] (by decide +kernel) (by decide +kernel)
set_option maxRecDepth 20000 in
theorem gX6_shared_X6_isBarred : GoodIn wsX6_shared (wsV RX6 71 RX6 yX6_isBarred wsX6_isBarred) := goodIn_app (goodIn_of _ (by decide +kernel)) ggX6_shared_X6_isBarred
theorem dX6_shared_0 : decode cX6_shared 0 = .ok (.aload_n 0, 1) := by decide +kernel
theorem dX6_shared_1 : decode cX6_shared 1 = .ok (.getfield 7, 3) := by decide +kernel
theorem dX6_shared_4 : decode cX6_shared 4 = .ok (.sipush 685, 3) := by decide +kernel
theorem dX6_shared_7 : decode cX6_shared 7 = .ok (.iaload, 1) := by decide +kernel
theorem dX6_shared_8 : decode cX6_shared 8 = .ok (.iconst 1, 1) := by decide +kernel
theorem dX6_shared_9 : decode cX6_shared 9 = .ok (.isub, 1) := by decide +kernel
theorem dX6_shared_10 : decode cX6_shared 10 = .ok (.istore_n 1, 1) := by decide +kernel
theorem dX6_shared_11 : decode cX6_shared 11 = .ok (.iload_n 1, 1) := by decide +kernel
theorem dX6_shared_12 : decode cX6_shared 12 = .ok (.ifCond .lt 43, 3) := by decide +kernel
theorem dX6_shared_15 : decode cX6_shared 15 = .ok (.aload_n 0, 1) := by decide +kernel
theorem dX6_shared_16 : decode cX6_shared 16 = .ok (.getfield 26, 3) := by decide +kernel
theorem dX6_shared_19 : decode cX6_shared 19 = .ok (.iload_n 1, 1) := by decide +kernel
theorem dX6_shared_20 : decode cX6_shared 20 = .ok (.baload, 1) := by decide +kernel
theorem dX6_shared_21 : decode cX6_shared 21 = .ok (.ifCond .eq 28, 3) := by decide +kernel
theorem dX6_shared_24 : decode cX6_shared 24 = .ok (.aload_n 0, 1) := by decide +kernel
theorem dX6_shared_25 : decode cX6_shared 25 = .ok (.getfield 30, 3) := by decide +kernel
theorem dX6_shared_28 : decode cX6_shared 28 = .ok (.iload_n 1, 1) := by decide +kernel
theorem dX6_shared_29 : decode cX6_shared 29 = .ok (.baload, 1) := by decide +kernel
theorem dX6_shared_30 : decode cX6_shared 30 = .ok (.ifCond .eq 19, 3) := by decide +kernel
theorem dX6_shared_33 : decode cX6_shared 33 = .ok (.aload_n 0, 1) := by decide +kernel
theorem dX6_shared_34 : decode cX6_shared 34 = .ok (.iload_n 1, 1) := by decide +kernel
theorem dX6_shared_35 : decode cX6_shared 35 = .ok (.invokevirtual 47, 3) := by decide +kernel
theorem dX6_shared_38 : decode cX6_shared 38 = .ok (.ifCond .eq 11, 3) := by decide +kernel
theorem dX6_shared_41 : decode cX6_shared 41 = .ok (.aload_n 0, 1) := by decide +kernel
theorem dX6_shared_42 : decode cX6_shared 42 = .ok (.iload_n 1, 1) := by decide +kernel
theorem dX6_shared_43 : decode cX6_shared 43 = .ok (.invokevirtual 71, 3) := by decide +kernel
theorem dX6_shared_46 : decode cX6_shared 46 = .ok (.ifCond .eq 9, 3) := by decide +kernel
theorem dX6_shared_49 : decode cX6_shared 49 = .ok (.iinc 1 (-1), 3) := by decide +kernel
theorem dX6_shared_52 : decode cX6_shared 52 = .ok (.goto (-41), 3) := by decide +kernel
theorem dX6_shared_55 : decode cX6_shared 55 = .ok (.iload_n 1, 1) := by decide +kernel
theorem dX6_shared_56 : decode cX6_shared 56 = .ok (.ifCond .ge 8, 3) := by decide +kernel
theorem dX6_shared_59 : decode cX6_shared 59 = .ok (.bipush (-5), 2) := by decide +kernel
theorem dX6_shared_61 : decode cX6_shared 61 = .ok (.goto 4, 3) := by decide +kernel
theorem dX6_shared_64 : decode cX6_shared 64 = .ok (.iload_n 1, 1) := by decide +kernel
theorem dX6_shared_65 : decode cX6_shared 65 = .ok (.ireturn, 1) := by decide +kernel
set_option maxRecDepth 20000 in
theorem ggX6_merge_X6_noHead : GoodIn wsX6_merge wsX6_noHead := goodIn_r _ [8, 1, 9, 10, 7, 11, 67, 68, 69, 70, 71, 72, 73, 74, 75, 76, 77, 78, 79] (by decide +kernel) (by decide +kernel)
set_option maxRecDepth 20000 in
theorem gX6_merge_X6_noHead : GoodIn wsX6_merge (wsV RX6 98 RX6 yX6_noHead wsX6_noHead) := goodIn_app (goodIn_of _ (by decide +kernel)) ggX6_merge_X6_noHead
set_option maxRecDepth 20000 in
theorem ggX6_merge_X6_at : GoodIn wsX6_merge wsX6_at := goodIn_r _ [15, 1, 67, 68, 69, 70, 71, 72, 73, 74, 75, 76, 77, 78, 79] (by decide +kernel) (by decide +kernel)
set_option maxRecDepth 20000 in
theorem gX6_merge_X6_at : GoodIn wsX6_merge (wsV RX6 101 RX6 yX6_at wsX6_at) := goodIn_app (goodIn_of _ (by decide +kernel)) ggX6_merge_X6_at
set_option maxRecDepth 20000 in
theorem ggX6_merge_X6_isBarred : GoodIn wsX6_merge wsX6_isBarred := goodIn_r _ [19, 20, 21, 22, 7, 23, 24, 25, 26, 27, 1, 67, 68, 69, 70, 71, 72, 73, 74, 75, 76, 77, 78, 79] (by decide +kernel) (by decide +kernel)
set_option maxRecDepth 20000 in
theorem gX6_merge_X6_isBarred : GoodIn wsX6_merge (wsV RX6 71 RX6 yX6_isBarred wsX6_isBarred) := goodIn_app (goodIn_of _ (by decide +kernel)) ggX6_merge_X6_isBarred
set_option maxRecDepth 20000 in
theorem ggX6_merge_X6_marks : GoodIn wsX6_merge wsX6_marks := goodIn_r _ [31, 2, 32, 1, 24, 25, 26, 7, 27, 67, 68, 69, 70, 71, 72, 73, 74, 75, 76, 77, 78, 79] (by decide +kernel) (by decide +kernel)
set_option maxRecDepth 20000 in
theorem gX6_merge_X6_marks : GoodIn wsX6_merge (wsV RX6 119 RX6 yX6_marks wsX6_marks) := goodIn_app (goodIn_of _ (by decide +kernel)) ggX6_merge_X6_marks
set_option maxRecDepth 20000 in
theorem ggX6_merge_X6_shared : GoodIn wsX6_merge wsX6_shared := goodIn_r _ [36, 1, 2, 32, 37, 38, 39, 7, 40, 9, 10, 11, 24, 25, 26, 27, 16, 17, 18, 19, 20, 21, 22, 23, 67, 68, 69, 70, 71, 72, 73, 74, 75, 76, 77, 78, 79] (by decide +kernel) (by decide +kernel)
set_option maxRecDepth 20000 in
theorem gX6_merge_X6_shared : GoodIn wsX6_merge (wsV RX6 123 RX6 yX6_shared wsX6_shared) := goodIn_app (goodIn_of _ (by decide +kernel)) ggX6_merge_X6_shared
set_option maxRecDepth 20000 in
theorem ggX6_merge_X6_record : GoodIn wsX6_merge wsX6_record := goodIn_r _ [44, 45, 46, 1, 67, 68, 69, 70, 71, 72, 73, 74, 75, 76, 77, 78, 79] (by decide +kernel) (by decide +kernel)
set_option maxRecDepth 20000 in
theorem gX6_merge_X6_record : GoodIn wsX6_merge (wsV RX6 110 RX6 yX6_record wsX6_record) := goodIn_app (goodIn_of _ (by decide +kernel)) ggX6_merge_X6_record
set_option maxRecDepth 20000 in
theorem ggX6_merge_X6_field : GoodIn wsX6_merge wsX6_field := goodIn_r _ [50, 1, 67, 68, 69, 70, 71, 72, 73, 74, 75, 76, 77, 78, 79] (by decide +kernel) (by decide +kernel)
set_option maxRecDepth 20000 in
theorem gX6_merge_X6_field : GoodIn wsX6_merge (wsV RX6 55 RX6 yX6_field wsX6_field) := goodIn_app (goodIn_of _ (by decide +kernel)) ggX6_merge_X6_field
set_option maxRecDepth 20000 in
theorem ggX6_merge_X6_adds : GoodIn wsX6_merge wsX6_adds := goodIn_r _ [54, 1, 3, 55, 56, 57, 7, 58, 59, 60, 61, 62, 24, 25, 26, 27, 63, 64, 65, 66, 47, 48, 49, 50, 67, 68, 69, 70, 71, 72, 73, 74, 75, 76, 77, 78, 79] (by decide +kernel) (by decide +kernel)
set_option maxRecDepth 20000 in
theorem gX6_merge_X6_adds : GoodIn wsX6_merge (wsV RX6 113 RX6 yX6_adds wsX6_adds) := goodIn_app (goodIn_of _ (by decide +kernel)) ggX6_merge_X6_adds
theorem dX6_merge_0 : decode cX6_merge 0 = .ok (.aload_n 0, 1) := by decide +kernel
theorem dX6_merge_1 : decode cX6_merge 1 = .ok (.iload_n 1, 1) := by decide +kernel
theorem dX6_merge_2 : decode cX6_merge 2 = .ok (.invokevirtual 98, 3) := by decide +kernel
theorem dX6_merge_5 : decode cX6_merge 5 = .ok (.ifCond .ne 11, 3) := by decide +kernel
theorem dX6_merge_8 : decode cX6_merge 8 = .ok (.aload_n 0, 1) := by decide +kernel
theorem dX6_merge_9 : decode cX6_merge 9 = .ok (.iload_n 2, 1) := by decide +kernel
theorem dX6_merge_10 : decode cX6_merge 10 = .ok (.invokevirtual 98, 3) := by decide +kernel
theorem dX6_merge_13 : decode cX6_merge 13 = .ok (.ifCond .eq 5, 3) := by decide +kernel
theorem dX6_merge_16 : decode cX6_merge 16 = .ok (.iconst (-1), 1) := by decide +kernel
theorem dX6_merge_17 : decode cX6_merge 17 = .ok (.ireturn, 1) := by decide +kernel
theorem dX6_merge_18 : decode cX6_merge 18 = .ok (.iload_n 1, 1) := by decide +kernel
theorem dX6_merge_19 : decode cX6_merge 19 = .ok (.iload_n 2, 1) := by decide +kernel
theorem dX6_merge_20 : decode cX6_merge 20 = .ok (.if_icmp .ne 6, 3) := by decide +kernel
theorem dX6_merge_23 : decode cX6_merge 23 = .ok (.bipush (-2), 2) := by decide +kernel
theorem dX6_merge_25 : decode cX6_merge 25 = .ok (.ireturn, 1) := by decide +kernel
theorem dX6_merge_26 : decode cX6_merge 26 = .ok (.aload_n 0, 1) := by decide +kernel
theorem dX6_merge_27 : decode cX6_merge 27 = .ok (.iload_n 1, 1) := by decide +kernel
theorem dX6_merge_28 : decode cX6_merge 28 = .ok (.invokevirtual 101, 3) := by decide +kernel
theorem dX6_merge_31 : decode cX6_merge 31 = .ok (.istore_n 3, 1) := by decide +kernel
theorem dX6_merge_32 : decode cX6_merge 32 = .ok (.aload_n 0, 1) := by decide +kernel
theorem dX6_merge_33 : decode cX6_merge 33 = .ok (.iload_n 2, 1) := by decide +kernel
theorem dX6_merge_34 : decode cX6_merge 34 = .ok (.invokevirtual 101, 3) := by decide +kernel
theorem dX6_merge_37 : decode cX6_merge 37 = .ok (.istore 4, 2) := by decide +kernel
theorem dX6_merge_39 : decode cX6_merge 39 = .ok (.aload_n 0, 1) := by decide +kernel
theorem dX6_merge_40 : decode cX6_merge 40 = .ok (.iload_n 3, 1) := by decide +kernel
theorem dX6_merge_41 : decode cX6_merge 41 = .ok (.invokevirtual 71, 3) := by decide +kernel
theorem dX6_merge_44 : decode cX6_merge 44 = .ok (.ifCond .ne 12, 3) := by decide +kernel
theorem dX6_merge_47 : decode cX6_merge 47 = .ok (.aload_n 0, 1) := by decide +kernel
theorem dX6_merge_48 : decode cX6_merge 48 = .ok (.iload 4, 2) := by decide +kernel
theorem dX6_merge_50 : decode cX6_merge 50 = .ok (.invokevirtual 71, 3) := by decide +kernel
theorem dX6_merge_53 : decode cX6_merge 53 = .ok (.ifCond .eq 6, 3) := by decide +kernel
theorem dX6_merge_56 : decode cX6_merge 56 = .ok (.bipush (-6), 2) := by decide +kernel
theorem dX6_merge_58 : decode cX6_merge 58 = .ok (.ireturn, 1) := by decide +kernel
theorem dX6_merge_59 : decode cX6_merge 59 = .ok (.aload_n 0, 1) := by decide +kernel
theorem dX6_merge_60 : decode cX6_merge 60 = .ok (.iload_n 3, 1) := by decide +kernel
theorem dX6_merge_61 : decode cX6_merge 61 = .ok (.iload 4, 2) := by decide +kernel
theorem dX6_merge_63 : decode cX6_merge 63 = .ok (.invokevirtual 119, 3) := by decide +kernel
theorem dX6_merge_66 : decode cX6_merge 66 = .ok (.aload_n 0, 1) := by decide +kernel
theorem dX6_merge_67 : decode cX6_merge 67 = .ok (.invokevirtual 123, 3) := by decide +kernel
theorem dX6_merge_70 : decode cX6_merge 70 = .ok (.istore 5, 2) := by decide +kernel
theorem dX6_merge_72 : decode cX6_merge 72 = .ok (.iload 5, 2) := by decide +kernel
theorem dX6_merge_74 : decode cX6_merge 74 = .ok (.bipush (-5), 2) := by decide +kernel
theorem dX6_merge_76 : decode cX6_merge 76 = .ok (.if_icmp .ne 6, 3) := by decide +kernel
theorem dX6_merge_79 : decode cX6_merge 79 = .ok (.bipush (-4), 2) := by decide +kernel
theorem dX6_merge_81 : decode cX6_merge 81 = .ok (.ireturn, 1) := by decide +kernel
theorem dX6_merge_82 : decode cX6_merge 82 = .ok (.aload_n 0, 1) := by decide +kernel
theorem dX6_merge_83 : decode cX6_merge 83 = .ok (.getfield 7, 3) := by decide +kernel
theorem dX6_merge_86 : decode cX6_merge 86 = .ok (.sipush 685, 3) := by decide +kernel
theorem dX6_merge_89 : decode cX6_merge 89 = .ok (.iaload, 1) := by decide +kernel
theorem dX6_merge_90 : decode cX6_merge 90 = .ok (.bipush 40, 2) := by decide +kernel
theorem dX6_merge_92 : decode cX6_merge 92 = .ok (.if_icmp .ne 6, 3) := by decide +kernel
theorem dX6_merge_95 : decode cX6_merge 95 = .ok (.bipush (-3), 2) := by decide +kernel
theorem dX6_merge_97 : decode cX6_merge 97 = .ok (.ireturn, 1) := by decide +kernel
theorem dX6_merge_98 : decode cX6_merge 98 = .ok (.aload_n 0, 1) := by decide +kernel
theorem dX6_merge_99 : decode cX6_merge 99 = .ok (.getfield 26, 3) := by decide +kernel
theorem dX6_merge_102 : decode cX6_merge 102 = .ok (.iload 4, 2) := by decide +kernel
theorem dX6_merge_104 : decode cX6_merge 104 = .ok (.baload, 1) := by decide +kernel
theorem dX6_merge_105 : decode cX6_merge 105 = .ok (.ifCond .eq 6, 3) := by decide +kernel
theorem dX6_merge_108 : decode cX6_merge 108 = .ok (.bipush (-5), 2) := by decide +kernel
theorem dX6_merge_110 : decode cX6_merge 110 = .ok (.ireturn, 1) := by decide +kernel
theorem dX6_merge_111 : decode cX6_merge 111 = .ok (.aload_n 0, 1) := by decide +kernel
theorem dX6_merge_112 : decode cX6_merge 112 = .ok (.invokevirtual 110, 3) := by decide +kernel
theorem dX6_merge_115 : decode cX6_merge 115 = .ok (.iconst 0, 1) := by decide +kernel
theorem dX6_merge_116 : decode cX6_merge 116 = .ok (.istore 6, 2) := by decide +kernel
theorem dX6_merge_118 : decode cX6_merge 118 = .ok (.iconst 0, 1) := by decide +kernel
theorem dX6_merge_119 : decode cX6_merge 119 = .ok (.istore 7, 2) := by decide +kernel
theorem dX6_merge_121 : decode cX6_merge 121 = .ok (.iload 7, 2) := by decide +kernel
theorem dX6_merge_123 : decode cX6_merge 123 = .ok (.bipush 12, 2) := by decide +kernel
theorem dX6_merge_125 : decode cX6_merge 125 = .ok (.if_icmp .ge 90, 3) := by decide +kernel
theorem dX6_merge_128 : decode cX6_merge 128 = .ok (.aload_n 0, 1) := by decide +kernel
theorem dX6_merge_129 : decode cX6_merge 129 = .ok (.iload_n 3, 1) := by decide +kernel
theorem dX6_merge_130 : decode cX6_merge 130 = .ok (.iload 7, 2) := by decide +kernel
theorem dX6_merge_132 : decode cX6_merge 132 = .ok (.invokevirtual 55, 3) := by decide +kernel
theorem dX6_merge_135 : decode cX6_merge 135 = .ok (.istore 8, 2) := by decide +kernel
theorem dX6_merge_137 : decode cX6_merge 137 = .ok (.aload_n 0, 1) := by decide +kernel
theorem dX6_merge_138 : decode cX6_merge 138 = .ok (.iload 4, 2) := by decide +kernel
theorem dX6_merge_140 : decode cX6_merge 140 = .ok (.iload 7, 2) := by decide +kernel
theorem dX6_merge_142 : decode cX6_merge 142 = .ok (.invokevirtual 55, 3) := by decide +kernel
theorem dX6_merge_145 : decode cX6_merge 145 = .ok (.istore 9, 2) := by decide +kernel
theorem dX6_merge_147 : decode cX6_merge 147 = .ok (.aload_n 0, 1) := by decide +kernel
theorem dX6_merge_148 : decode cX6_merge 148 = .ok (.iload 5, 2) := by decide +kernel
theorem dX6_merge_150 : decode cX6_merge 150 = .ok (.iload 7, 2) := by decide +kernel
theorem dX6_merge_152 : decode cX6_merge 152 = .ok (.invokevirtual 55, 3) := by decide +kernel
theorem dX6_merge_155 : decode cX6_merge 155 = .ok (.istore 10, 2) := by decide +kernel
theorem dX6_merge_157 : decode cX6_merge 157 = .ok (.iload 6, 2) := by decide +kernel
theorem dX6_merge_159 : decode cX6_merge 159 = .ok (.iload 8, 2) := by decide +kernel
theorem dX6_merge_161 : decode cX6_merge 161 = .ok (.iload 9, 2) := by decide +kernel
theorem dX6_merge_163 : decode cX6_merge 163 = .ok (.if_icmp .eq 21, 3) := by decide +kernel
theorem dX6_merge_166 : decode cX6_merge 166 = .ok (.iload 8, 2) := by decide +kernel
theorem dX6_merge_168 : decode cX6_merge 168 = .ok (.iload 10, 2) := by decide +kernel
theorem dX6_merge_170 : decode cX6_merge 170 = .ok (.if_icmp .eq 14, 3) := by decide +kernel
theorem dX6_merge_173 : decode cX6_merge 173 = .ok (.iload 9, 2) := by decide +kernel
theorem dX6_merge_175 : decode cX6_merge 175 = .ok (.iload 10, 2) := by decide +kernel
theorem dX6_merge_177 : decode cX6_merge 177 = .ok (.if_icmp .eq 7, 3) := by decide +kernel
theorem dX6_merge_180 : decode cX6_merge 180 = .ok (.iconst 1, 1) := by decide +kernel
theorem dX6_merge_181 : decode cX6_merge 181 = .ok (.goto 4, 3) := by decide +kernel
theorem dX6_merge_184 : decode cX6_merge 184 = .ok (.iconst 0, 1) := by decide +kernel
theorem dX6_merge_185 : decode cX6_merge 185 = .ok (.iadd, 1) := by decide +kernel
theorem dX6_merge_186 : decode cX6_merge 186 = .ok (.istore 6, 2) := by decide +kernel
theorem dX6_merge_188 : decode cX6_merge 188 = .ok (.aload_n 0, 1) := by decide +kernel
theorem dX6_merge_189 : decode cX6_merge 189 = .ok (.getfield 23, 3) := by decide +kernel
theorem dX6_merge_192 : decode cX6_merge 192 = .ok (.iload 7, 2) := by decide +kernel
theorem dX6_merge_194 : decode cX6_merge 194 = .ok (.iload 8, 2) := by decide +kernel
theorem dX6_merge_196 : decode cX6_merge 196 = .ok (.iload 10, 2) := by decide +kernel
theorem dX6_merge_198 : decode cX6_merge 198 = .ok (.if_icmp .ne 8, 3) := by decide +kernel
theorem dX6_merge_201 : decode cX6_merge 201 = .ok (.iload 9, 2) := by decide +kernel
theorem dX6_merge_203 : decode cX6_merge 203 = .ok (.goto 5, 3) := by decide +kernel
theorem dX6_merge_206 : decode cX6_merge 206 = .ok (.iload 8, 2) := by decide +kernel
theorem dX6_merge_208 : decode cX6_merge 208 = .ok (.iastore, 1) := by decide +kernel
theorem dX6_merge_209 : decode cX6_merge 209 = .ok (.iinc 7 1, 3) := by decide +kernel
theorem dX6_merge_212 : decode cX6_merge 212 = .ok (.goto (-91), 3) := by decide +kernel
theorem dX6_merge_215 : decode cX6_merge 215 = .ok (.aload_n 0, 1) := by decide +kernel
theorem dX6_merge_216 : decode cX6_merge 216 = .ok (.getfield 7, 3) := by decide +kernel
theorem dX6_merge_219 : decode cX6_merge 219 = .ok (.sipush 680, 3) := by decide +kernel
theorem dX6_merge_222 : decode cX6_merge 222 = .ok (.iload_n 1, 1) := by decide +kernel
theorem dX6_merge_223 : decode cX6_merge 223 = .ok (.iadd, 1) := by decide +kernel
theorem dX6_merge_224 : decode cX6_merge 224 = .ok (.aload_n 0, 1) := by decide +kernel
theorem dX6_merge_225 : decode cX6_merge 225 = .ok (.iload_n 3, 1) := by decide +kernel
theorem dX6_merge_226 : decode cX6_merge 226 = .ok (.iload 4, 2) := by decide +kernel
theorem dX6_merge_228 : decode cX6_merge 228 = .ok (.invokevirtual 113, 3) := by decide +kernel
theorem dX6_merge_231 : decode cX6_merge 231 = .ok (.iastore, 1) := by decide +kernel
theorem dX6_merge_232 : decode cX6_merge 232 = .ok (.aload_n 0, 1) := by decide +kernel
theorem dX6_merge_233 : decode cX6_merge 233 = .ok (.getfield 7, 3) := by decide +kernel
theorem dX6_merge_236 : decode cX6_merge 236 = .ok (.sipush 687, 3) := by decide +kernel
theorem dX6_merge_239 : decode cX6_merge 239 = .ok (.dup2, 1) := by decide +kernel
theorem dX6_merge_240 : decode cX6_merge 240 = .ok (.iaload, 1) := by decide +kernel
theorem dX6_merge_241 : decode cX6_merge 241 = .ok (.iconst 1, 1) := by decide +kernel
theorem dX6_merge_242 : decode cX6_merge 242 = .ok (.iadd, 1) := by decide +kernel
theorem dX6_merge_243 : decode cX6_merge 243 = .ok (.iastore, 1) := by decide +kernel
theorem dX6_merge_244 : decode cX6_merge 244 = .ok (.aload_n 0, 1) := by decide +kernel
theorem dX6_merge_245 : decode cX6_merge 245 = .ok (.getfield 7, 3) := by decide +kernel
theorem dX6_merge_248 : decode cX6_merge 248 = .ok (.sipush 688, 3) := by decide +kernel
theorem dX6_merge_251 : decode cX6_merge 251 = .ok (.dup2, 1) := by decide +kernel
theorem dX6_merge_252 : decode cX6_merge 252 = .ok (.iaload, 1) := by decide +kernel
theorem dX6_merge_253 : decode cX6_merge 253 = .ok (.iload 6, 2) := by decide +kernel
theorem dX6_merge_255 : decode cX6_merge 255 = .ok (.iadd, 1) := by decide +kernel
theorem dX6_merge_256 : decode cX6_merge 256 = .ok (.iastore, 1) := by decide +kernel
theorem dX6_merge_257 : decode cX6_merge 257 = .ok (.iload 6, 2) := by decide +kernel
theorem dX6_merge_259 : decode cX6_merge 259 = .ok (.ireturn, 1) := by decide +kernel
set_option maxRecDepth 20000 in
theorem ggX6_hasHead_X6_at : GoodIn wsX6_hasHead wsX6_at := goodIn_r _ [6, 1, 7, 8, 9, 10, 11, 12, 13, 14, 15, 16, 17, 18, 19] (by decide +kernel) (by decide +kernel)
set_option maxRecDepth 20000 in
theorem gX6_hasHead_X6_at : GoodIn wsX6_hasHead (wsV RX6 101 RX6 yX6_at wsX6_at) := goodIn_app (goodIn_of _ (by decide +kernel)) ggX6_hasHead_X6_at
theorem dX6_hasHead_0 : decode cX6_hasHead 0 = .ok (.iconst 0, 1) := by decide +kernel
theorem dX6_hasHead_1 : decode cX6_hasHead 1 = .ok (.istore_n 2, 1) := by decide +kernel
theorem dX6_hasHead_2 : decode cX6_hasHead 2 = .ok (.iload_n 2, 1) := by decide +kernel
theorem dX6_hasHead_3 : decode cX6_hasHead 3 = .ok (.aload_n 0, 1) := by decide +kernel
theorem dX6_hasHead_4 : decode cX6_hasHead 4 = .ok (.getfield 7, 3) := by decide +kernel
theorem dX6_hasHead_7 : decode cX6_hasHead 7 = .ok (.sipush 684, 3) := by decide +kernel
theorem dX6_hasHead_10 : decode cX6_hasHead 10 = .ok (.iaload, 1) := by decide +kernel
theorem dX6_hasHead_11 : decode cX6_hasHead 11 = .ok (.if_icmp .ge 20, 3) := by decide +kernel
theorem dX6_hasHead_14 : decode cX6_hasHead 14 = .ok (.aload_n 0, 1) := by decide +kernel
theorem dX6_hasHead_15 : decode cX6_hasHead 15 = .ok (.iload_n 2, 1) := by decide +kernel
theorem dX6_hasHead_16 : decode cX6_hasHead 16 = .ok (.invokevirtual 101, 3) := by decide +kernel
theorem dX6_hasHead_19 : decode cX6_hasHead 19 = .ok (.iload_n 1, 1) := by decide +kernel
theorem dX6_hasHead_20 : decode cX6_hasHead 20 = .ok (.if_icmp .ne 5, 3) := by decide +kernel
theorem dX6_hasHead_23 : decode cX6_hasHead 23 = .ok (.iconst 1, 1) := by decide +kernel
theorem dX6_hasHead_24 : decode cX6_hasHead 24 = .ok (.ireturn, 1) := by decide +kernel
theorem dX6_hasHead_25 : decode cX6_hasHead 25 = .ok (.iinc 2 1, 3) := by decide +kernel
theorem dX6_hasHead_28 : decode cX6_hasHead 28 = .ok (.goto (-26), 3) := by decide +kernel
theorem dX6_hasHead_31 : decode cX6_hasHead 31 = .ok (.iconst 0, 1) := by decide +kernel
theorem dX6_hasHead_32 : decode cX6_hasHead 32 = .ok (.ireturn, 1) := by decide +kernel
set_option maxRecDepth 20000 in
theorem ggX6_drop_X6_isKept : GoodIn wsX6_drop wsX6_isKept := goodIn_r _ [5, 6, 7, 8, 4, 9, 10, 11, 12, 13, 14, 15, 16, 17, 48, 49, 50, 51, 52, 53, 54, 55, 56, 57, 58, 59, 60] (by decide +kernel) (by decide +kernel)
set_option maxRecDepth 20000 in
theorem gX6_drop_X6_isKept : GoodIn wsX6_drop (wsV RX6 116 RX6 yX6_isKept wsX6_isKept) := goodIn_app (goodIn_of _ (by decide +kernel)) ggX6_drop_X6_isKept
set_option maxRecDepth 20000 in
theorem ggX6_drop_X6_hasHead : GoodIn wsX6_drop wsX6_hasHead := goodIn_r _ [21, 10, 22, 23, 24, 4, 25, 48, 49, 50, 51, 52, 53, 54, 55, 56, 57, 58, 59, 60] (by decide +kernel) (by decide +kernel)
set_option maxRecDepth 20000 in
theorem gX6_drop_X6_hasHead : GoodIn wsX6_drop (wsV RX6 127 RX6 yX6_hasHead wsX6_hasHead) := goodIn_app (goodIn_of _ (by decide +kernel)) ggX6_drop_X6_hasHead
set_option maxRecDepth 20000 in
theorem ggX6_drop_X6_record : GoodIn wsX6_drop wsX6_record := goodIn_r _ [29, 30, 31, 10, 48, 49, 50, 51, 52, 53, 54, 55, 56, 57, 58, 59, 60] (by decide +kernel) (by decide +kernel)
set_option maxRecDepth 20000 in
theorem gX6_drop_X6_record : GoodIn wsX6_drop (wsV RX6 110 RX6 yX6_record wsX6_record) := goodIn_app (goodIn_of _ (by decide +kernel)) ggX6_drop_X6_record
set_option maxRecDepth 20000 in
theorem ggX6_drop_X6_followers : GoodIn wsX6_drop wsX6_followers := goodIn_r _ [35, 10, 6, 7, 8, 4, 9, 11, 12, 13, 14, 15, 16, 17, 48, 49, 50, 51, 52, 53, 54, 55, 56, 57, 58, 59, 60] (by decide +kernel) (by decide +kernel)
set_option maxRecDepth 20000 in
theorem gX6_drop_X6_followers : GoodIn wsX6_drop (wsV RX6 78 RX6 yX6_followers wsX6_followers) := goodIn_app (goodIn_of _ (by decide +kernel)) ggX6_drop_X6_followers
set_option maxRecDepth 20000 in
theorem ggX6_drop_X6_puts : GoodIn wsX6_drop wsX6_puts := goodIn_r _ [39, 10, 48, 49, 50, 51, 52, 53, 54, 55, 56, 57, 58, 59, 60] (by decide +kernel) (by decide +kernel)
set_option maxRecDepth 20000 in
theorem gX6_drop_X6_puts : GoodIn wsX6_drop (wsV RX6 74 RX6 yX6_puts wsX6_puts) := goodIn_app (goodIn_of _ (by decide +kernel)) ggX6_drop_X6_puts
set_option maxRecDepth 20000 in
theorem ggX6_drop_X6_leaves : GoodIn wsX6_drop wsX6_leaves := goodIn_r _ [43, 36, 37, 38, 4, 39, 10, 48, 49, 50, 51, 52, 53, 54, 55, 56, 57, 58, 59, 60] (by decide +kernel) (by decide +kernel)
set_option maxRecDepth 20000 in
theorem gX6_drop_X6_leaves : GoodIn wsX6_drop (wsV RX6 81 RX6 yX6_leaves wsX6_leaves) := goodIn_app (goodIn_of _ (by decide +kernel)) ggX6_drop_X6_leaves
set_option maxRecDepth 20000 in
theorem ggX6_drop_X6_sweeps : GoodIn wsX6_drop wsX6_sweeps := goodIn_r _ [47, 10, 14, 15, 16, 4, 17, 32, 33, 34, 35, 6, 7, 8, 9, 11, 12, 13, 40, 41, 42, 43, 36, 37, 38, 39, 48, 49, 50, 51, 52, 53, 54, 55, 56, 57, 58, 59, 60] (by decide +kernel) (by decide +kernel)
set_option maxRecDepth 20000 in
theorem gX6_drop_X6_sweeps : GoodIn wsX6_drop (wsV RX6 130 RX6 yX6_sweeps wsX6_sweeps) := goodIn_app (goodIn_of _ (by decide +kernel)) ggX6_drop_X6_sweeps
theorem dX6_drop_0 : decode cX6_drop 0 = .ok (.aload_n 0, 1) := by decide +kernel
theorem dX6_drop_1 : decode cX6_drop 1 = .ok (.iload_n 1, 1) := by decide +kernel
theorem dX6_drop_2 : decode cX6_drop 2 = .ok (.invokevirtual 116, 3) := by decide +kernel
theorem dX6_drop_5 : decode cX6_drop 5 = .ok (.ifCond .ne 5, 3) := by decide +kernel
theorem dX6_drop_8 : decode cX6_drop 8 = .ok (.iconst (-1), 1) := by decide +kernel
theorem dX6_drop_9 : decode cX6_drop 9 = .ok (.ireturn, 1) := by decide +kernel
theorem dX6_drop_10 : decode cX6_drop 10 = .ok (.aload_n 0, 1) := by decide +kernel
theorem dX6_drop_11 : decode cX6_drop 11 = .ok (.iload_n 1, 1) := by decide +kernel
theorem dX6_drop_12 : decode cX6_drop 12 = .ok (.invokevirtual 127, 3) := by decide +kernel
theorem dX6_drop_15 : decode cX6_drop 15 = .ok (.ifCond .eq 6, 3) := by decide +kernel
theorem dX6_drop_18 : decode cX6_drop 18 = .ok (.bipush (-4), 2) := by decide +kernel
theorem dX6_drop_20 : decode cX6_drop 20 = .ok (.ireturn, 1) := by decide +kernel
theorem dX6_drop_21 : decode cX6_drop 21 = .ok (.aload_n 0, 1) := by decide +kernel
theorem dX6_drop_22 : decode cX6_drop 22 = .ok (.invokevirtual 110, 3) := by decide +kernel
theorem dX6_drop_25 : decode cX6_drop 25 = .ok (.aload_n 0, 1) := by decide +kernel
theorem dX6_drop_26 : decode cX6_drop 26 = .ok (.iload_n 1, 1) := by decide +kernel
theorem dX6_drop_27 : decode cX6_drop 27 = .ok (.invokevirtual 78, 3) := by decide +kernel
theorem dX6_drop_30 : decode cX6_drop 30 = .ok (.ifCond .le 12, 3) := by decide +kernel
theorem dX6_drop_33 : decode cX6_drop 33 = .ok (.aload_n 0, 1) := by decide +kernel
theorem dX6_drop_34 : decode cX6_drop 34 = .ok (.iload_n 1, 1) := by decide +kernel
theorem dX6_drop_35 : decode cX6_drop 35 = .ok (.iconst 0, 1) := by decide +kernel
theorem dX6_drop_36 : decode cX6_drop 36 = .ok (.iconst 1, 1) := by decide +kernel
theorem dX6_drop_37 : decode cX6_drop 37 = .ok (.invokevirtual 74, 3) := by decide +kernel
theorem dX6_drop_40 : decode cX6_drop 40 = .ok (.iconst 0, 1) := by decide +kernel
theorem dX6_drop_41 : decode cX6_drop 41 = .ok (.ireturn, 1) := by decide +kernel
theorem dX6_drop_42 : decode cX6_drop 42 = .ok (.aload_n 0, 1) := by decide +kernel
theorem dX6_drop_43 : decode cX6_drop 43 = .ok (.iload_n 1, 1) := by decide +kernel
theorem dX6_drop_44 : decode cX6_drop 44 = .ok (.invokevirtual 81, 3) := by decide +kernel
theorem dX6_drop_47 : decode cX6_drop 47 = .ok (.iconst 1, 1) := by decide +kernel
theorem dX6_drop_48 : decode cX6_drop 48 = .ok (.aload_n 0, 1) := by decide +kernel
theorem dX6_drop_49 : decode cX6_drop 49 = .ok (.invokevirtual 130, 3) := by decide +kernel
theorem dX6_drop_52 : decode cX6_drop 52 = .ok (.iadd, 1) := by decide +kernel
theorem dX6_drop_53 : decode cX6_drop 53 = .ok (.ireturn, 1) := by decide +kernel
set_option maxRecDepth 20000 in
theorem ggX6_storeWhole_X6_noVersion : GoodIn wsX6_storeWhole wsX6_noVersion := goodIn_r _ [5, 6, 7, 8, 4, 9, 10, 11, 12, 13, 14, 15, 16, 17, 64, 65, 66, 67, 68, 69, 70, 71, 72, 73, 74, 75, 76] (by decide +kernel) (by decide +kernel)
set_option maxRecDepth 20000 in
theorem gX6_storeWhole_X6_noVersion : GoodIn wsX6_storeWhole (wsV RX6 133 RX6 yX6_noVersion wsX6_noVersion) := goodIn_app (goodIn_of _ (by decide +kernel)) ggX6_storeWhole_X6_noVersion
set_option maxRecDepth 20000 in
theorem ggX6_storeWhole_X6_isBarred : GoodIn wsX6_storeWhole wsX6_isBarred := goodIn_r _ [21, 22, 23, 24, 4, 25, 14, 15, 16, 17, 10, 64, 65, 66, 67, 68, 69, 70, 71, 72, 73, 74, 75, 76] (by decide +kernel) (by decide +kernel)
set_option maxRecDepth 20000 in
theorem gX6_storeWhole_X6_isBarred : GoodIn wsX6_storeWhole (wsV RX6 71 RX6 yX6_isBarred wsX6_isBarred) := goodIn_app (goodIn_of _ (by decide +kernel)) ggX6_storeWhole_X6_isBarred
set_option maxRecDepth 20000 in
theorem ggX6_storeWhole_X6_of : GoodIn wsX6_storeWhole wsX6_of := goodIn_r _ [17, 10, 64, 65, 66, 67, 68, 69, 70, 71, 72, 73, 74, 75, 76] (by decide +kernel) (by decide +kernel)
set_option maxRecDepth 20000 in
theorem gX6_storeWhole_X6_of : GoodIn wsX6_storeWhole (wsV RX6 43 RX6 yX6_of wsX6_of) := goodIn_app (goodIn_of _ (by decide +kernel)) ggX6_storeWhole_X6_of
set_option maxRecDepth 20000 in
theorem ggX6_storeWhole_X6_record : GoodIn wsX6_storeWhole wsX6_record := goodIn_r _ [29, 30, 31, 10, 64, 65, 66, 67, 68, 69, 70, 71, 72, 73, 74, 75, 76] (by decide +kernel) (by decide +kernel)
set_option maxRecDepth 20000 in
theorem gX6_storeWhole_X6_record : GoodIn wsX6_storeWhole (wsV RX6 110 RX6 yX6_record wsX6_record) := goodIn_app (goodIn_of _ (by decide +kernel)) ggX6_storeWhole_X6_record
set_option maxRecDepth 20000 in
theorem ggX6_storeWhole_X6_allCosts : GoodIn wsX6_storeWhole wsX6_allCosts := goodIn_r _ [35, 10, 6, 7, 8, 4, 9, 11, 12, 13, 14, 15, 16, 17, 36, 37, 38, 39, 40, 41, 42, 43, 44, 45, 46, 47, 64, 65, 66, 67, 68, 69, 70, 71, 72, 73, 74, 75, 76] (by decide +kernel) (by decide +kernel)
set_option maxRecDepth 20000 in
theorem gX6_storeWhole_X6_allCosts : GoodIn wsX6_storeWhole (wsV RX6 136 RX6 yX6_allCosts wsX6_allCosts) := goodIn_app (goodIn_of _ (by decide +kernel)) ggX6_storeWhole_X6_allCosts
set_option maxRecDepth 20000 in
theorem ggX6_storeWhole_X6_puts : GoodIn wsX6_storeWhole wsX6_puts := goodIn_r _ [51, 10, 64, 65, 66, 67, 68, 69, 70, 71, 72, 73, 74, 75, 76] (by decide +kernel) (by decide +kernel)
set_option maxRecDepth 20000 in
theorem gX6_storeWhole_X6_puts : GoodIn wsX6_storeWhole (wsV RX6 74 RX6 yX6_puts wsX6_puts) := goodIn_app (goodIn_of _ (by decide +kernel)) ggX6_storeWhole_X6_puts
set_option maxRecDepth 20000 in
theorem ggX6_storeWhole_X6_sweeps : GoodIn wsX6_storeWhole wsX6_sweeps := goodIn_r _ [55, 10, 14, 15, 16, 4, 17, 56, 57, 58, 59, 6, 7, 8, 9, 11, 12, 13, 60, 61, 62, 63, 48, 49, 50, 51, 64, 65, 66, 67, 68, 69, 70, 71, 72, 73, 74, 75, 76] (by decide +kernel) (by decide +kernel)
set_option maxRecDepth 20000 in
theorem gX6_storeWhole_X6_sweeps : GoodIn wsX6_storeWhole (wsV RX6 130 RX6 yX6_sweeps wsX6_sweeps) := goodIn_app (goodIn_of _ (by decide +kernel)) ggX6_storeWhole_X6_sweeps
theorem dX6_storeWhole_0 : decode cX6_storeWhole 0 = .ok (.aload_n 0, 1) := by decide +kernel
theorem dX6_storeWhole_1 : decode cX6_storeWhole 1 = .ok (.iload_n 1, 1) := by decide +kernel
theorem dX6_storeWhole_2 : decode cX6_storeWhole 2 = .ok (.invokevirtual 133, 3) := by decide +kernel
theorem dX6_storeWhole_5 : decode cX6_storeWhole 5 = .ok (.ifCond .eq 5, 3) := by decide +kernel
theorem dX6_storeWhole_8 : decode cX6_storeWhole 8 = .ok (.iconst (-1), 1) := by decide +kernel
theorem dX6_storeWhole_9 : decode cX6_storeWhole 9 = .ok (.ireturn, 1) := by decide +kernel
theorem dX6_storeWhole_10 : decode cX6_storeWhole 10 = .ok (.aload_n 0, 1) := by decide +kernel
theorem dX6_storeWhole_11 : decode cX6_storeWhole 11 = .ok (.iload_n 1, 1) := by decide +kernel
theorem dX6_storeWhole_12 : decode cX6_storeWhole 12 = .ok (.invokevirtual 71, 3) := by decide +kernel
theorem dX6_storeWhole_15 : decode cX6_storeWhole 15 = .ok (.ifCond .eq 6, 3) := by decide +kernel
theorem dX6_storeWhole_18 : decode cX6_storeWhole 18 = .ok (.bipush (-6), 2) := by decide +kernel
theorem dX6_storeWhole_20 : decode cX6_storeWhole 20 = .ok (.ireturn, 1) := by decide +kernel
theorem dX6_storeWhole_21 : decode cX6_storeWhole 21 = .ok (.aload_n 0, 1) := by decide +kernel
theorem dX6_storeWhole_22 : decode cX6_storeWhole 22 = .ok (.iload_n 1, 1) := by decide +kernel
theorem dX6_storeWhole_23 : decode cX6_storeWhole 23 = .ok (.iconst 3, 1) := by decide +kernel
theorem dX6_storeWhole_24 : decode cX6_storeWhole 24 = .ok (.invokevirtual 43, 3) := by decide +kernel
theorem dX6_storeWhole_27 : decode cX6_storeWhole 27 = .ok (.bipush (-5), 2) := by decide +kernel
theorem dX6_storeWhole_29 : decode cX6_storeWhole 29 = .ok (.if_icmp .ne 6, 3) := by decide +kernel
theorem dX6_storeWhole_32 : decode cX6_storeWhole 32 = .ok (.bipush (-5), 2) := by decide +kernel
theorem dX6_storeWhole_34 : decode cX6_storeWhole 34 = .ok (.ireturn, 1) := by decide +kernel
theorem dX6_storeWhole_35 : decode cX6_storeWhole 35 = .ok (.aload_n 0, 1) := by decide +kernel
theorem dX6_storeWhole_36 : decode cX6_storeWhole 36 = .ok (.invokevirtual 110, 3) := by decide +kernel
theorem dX6_storeWhole_39 : decode cX6_storeWhole 39 = .ok (.aload_n 0, 1) := by decide +kernel
theorem dX6_storeWhole_40 : decode cX6_storeWhole 40 = .ok (.invokevirtual 136, 3) := by decide +kernel
theorem dX6_storeWhole_43 : decode cX6_storeWhole 43 = .ok (.istore_n 2, 1) := by decide +kernel
theorem dX6_storeWhole_44 : decode cX6_storeWhole 44 = .ok (.aload_n 0, 1) := by decide +kernel
theorem dX6_storeWhole_45 : decode cX6_storeWhole 45 = .ok (.iload_n 1, 1) := by decide +kernel
theorem dX6_storeWhole_46 : decode cX6_storeWhole 46 = .ok (.iconst 3, 1) := by decide +kernel
theorem dX6_storeWhole_47 : decode cX6_storeWhole 47 = .ok (.bipush (-5), 2) := by decide +kernel
theorem dX6_storeWhole_49 : decode cX6_storeWhole 49 = .ok (.invokevirtual 74, 3) := by decide +kernel
theorem dX6_storeWhole_52 : decode cX6_storeWhole 52 = .ok (.aload_n 0, 1) := by decide +kernel
theorem dX6_storeWhole_53 : decode cX6_storeWhole 53 = .ok (.invokevirtual 130, 3) := by decide +kernel
theorem dX6_storeWhole_56 : decode cX6_storeWhole 56 = .ok (.pop, 1) := by decide +kernel
theorem dX6_storeWhole_57 : decode cX6_storeWhole 57 = .ok (.sipush 1000, 3) := by decide +kernel
theorem dX6_storeWhole_60 : decode cX6_storeWhole 60 = .ok (.iload_n 2, 1) := by decide +kernel
theorem dX6_storeWhole_61 : decode cX6_storeWhole 61 = .ok (.iadd, 1) := by decide +kernel
theorem dX6_storeWhole_62 : decode cX6_storeWhole 62 = .ok (.aload_n 0, 1) := by decide +kernel
theorem dX6_storeWhole_63 : decode cX6_storeWhole 63 = .ok (.invokevirtual 136, 3) := by decide +kernel
theorem dX6_storeWhole_66 : decode cX6_storeWhole 66 = .ok (.isub, 1) := by decide +kernel
theorem dX6_storeWhole_67 : decode cX6_storeWhole 67 = .ok (.ireturn, 1) := by decide +kernel
set_option maxRecDepth 20000 in
theorem ggX6_isTooFar_X6_of : GoodIn wsX6_isTooFar wsX6_of := goodIn_r _ [6, 1, 26, 27, 28, 29, 30, 31, 32, 33, 34, 35, 36, 37, 38] (by decide +kernel) (by decide +kernel)
set_option maxRecDepth 20000 in
theorem gX6_isTooFar_X6_of : GoodIn wsX6_isTooFar (wsV RX6 43 RX6 yX6_of wsX6_of) := goodIn_app (goodIn_of _ (by decide +kernel)) ggX6_isTooFar_X6_of
set_option maxRecDepth 20000 in
theorem ggX6_isTooFar_X6_puts : GoodIn wsX6_isTooFar wsX6_puts := goodIn_r _ [10, 1, 26, 27, 28, 29, 30, 31, 32, 33, 34, 35, 36, 37, 38] (by decide +kernel) (by decide +kernel)
set_option maxRecDepth 20000 in
theorem gX6_isTooFar_X6_puts : GoodIn wsX6_isTooFar (wsV RX6 74 RX6 yX6_puts wsX6_puts) := goodIn_app (goodIn_of _ (by decide +kernel)) ggX6_isTooFar_X6_puts
set_option maxRecDepth 20000 in
theorem ggX6_isTooFar_X6_mostSteps : GoodIn wsX6_isTooFar wsX6_mostSteps := goodIn_r _ [14, 1, 15, 16, 17, 5, 18, 19, 20, 21, 2, 3, 4, 6, 22, 23, 24, 25, 26, 27, 28, 29, 30, 31, 32, 33, 34, 35, 36, 37, 38] (by decide +kernel) (by decide +kernel)
set_option maxRecDepth 20000 in
theorem gX6_isTooFar_X6_mostSteps : GoodIn wsX6_isTooFar (wsV RX6 139 RX6 yX6_mostSteps wsX6_mostSteps) := goodIn_app (goodIn_of _ (by decide +kernel)) ggX6_isTooFar_X6_mostSteps
theorem dX6_isTooFar_0 : decode cX6_isTooFar 0 = .ok (.aload_n 0, 1) := by decide +kernel
theorem dX6_isTooFar_1 : decode cX6_isTooFar 1 = .ok (.iload_n 1, 1) := by decide +kernel
theorem dX6_isTooFar_2 : decode cX6_isTooFar 2 = .ok (.iconst 3, 1) := by decide +kernel
theorem dX6_isTooFar_3 : decode cX6_isTooFar 3 = .ok (.invokevirtual 43, 3) := by decide +kernel
theorem dX6_isTooFar_6 : decode cX6_isTooFar 6 = .ok (.istore_n 3, 1) := by decide +kernel
theorem dX6_isTooFar_7 : decode cX6_isTooFar 7 = .ok (.aload_n 0, 1) := by decide +kernel
theorem dX6_isTooFar_8 : decode cX6_isTooFar 8 = .ok (.iload_n 1, 1) := by decide +kernel
theorem dX6_isTooFar_9 : decode cX6_isTooFar 9 = .ok (.iconst 3, 1) := by decide +kernel
theorem dX6_isTooFar_10 : decode cX6_isTooFar 10 = .ok (.iload_n 2, 1) := by decide +kernel
theorem dX6_isTooFar_11 : decode cX6_isTooFar 11 = .ok (.invokevirtual 74, 3) := by decide +kernel
theorem dX6_isTooFar_14 : decode cX6_isTooFar 14 = .ok (.aload_n 0, 1) := by decide +kernel
theorem dX6_isTooFar_15 : decode cX6_isTooFar 15 = .ok (.invokevirtual 139, 3) := by decide +kernel
theorem dX6_isTooFar_18 : decode cX6_isTooFar 18 = .ok (.aload_n 0, 1) := by decide +kernel
theorem dX6_isTooFar_19 : decode cX6_isTooFar 19 = .ok (.getfield 7, 3) := by decide +kernel
theorem dX6_isTooFar_22 : decode cX6_isTooFar 22 = .ok (.sipush 686, 3) := by decide +kernel
theorem dX6_isTooFar_25 : decode cX6_isTooFar 25 = .ok (.iaload, 1) := by decide +kernel
theorem dX6_isTooFar_26 : decode cX6_isTooFar 26 = .ok (.if_icmp .le 7, 3) := by decide +kernel
theorem dX6_isTooFar_29 : decode cX6_isTooFar 29 = .ok (.iconst 1, 1) := by decide +kernel
theorem dX6_isTooFar_30 : decode cX6_isTooFar 30 = .ok (.goto 4, 3) := by decide +kernel
theorem dX6_isTooFar_33 : decode cX6_isTooFar 33 = .ok (.iconst 0, 1) := by decide +kernel
theorem dX6_isTooFar_34 : decode cX6_isTooFar 34 = .ok (.istore 4, 2) := by decide +kernel
theorem dX6_isTooFar_36 : decode cX6_isTooFar 36 = .ok (.aload_n 0, 1) := by decide +kernel
theorem dX6_isTooFar_37 : decode cX6_isTooFar 37 = .ok (.iload_n 1, 1) := by decide +kernel
theorem dX6_isTooFar_38 : decode cX6_isTooFar 38 = .ok (.iconst 3, 1) := by decide +kernel
theorem dX6_isTooFar_39 : decode cX6_isTooFar 39 = .ok (.iload_n 3, 1) := by decide +kernel
theorem dX6_isTooFar_40 : decode cX6_isTooFar 40 = .ok (.invokevirtual 74, 3) := by decide +kernel
theorem dX6_isTooFar_43 : decode cX6_isTooFar 43 = .ok (.iload 4, 2) := by decide +kernel
theorem dX6_isTooFar_45 : decode cX6_isTooFar 45 = .ok (.ireturn, 1) := by decide +kernel
set_option maxRecDepth 20000 in
theorem ggX6_rebase_X6_noVersion : GoodIn wsX6_rebase wsX6_noVersion := goodIn_r _ [5, 6, 7, 8, 4, 9, 10, 11, 12, 13, 14, 15, 16, 17, 76, 77, 78, 79, 80, 81, 82, 83, 84, 85, 86, 87, 88] (by decide +kernel) (by decide +kernel)
set_option maxRecDepth 20000 in
theorem gX6_rebase_X6_noVersion : GoodIn wsX6_rebase (wsV RX6 133 RX6 yX6_noVersion wsX6_noVersion) := goodIn_app (goodIn_of _ (by decide +kernel)) ggX6_rebase_X6_noVersion
set_option maxRecDepth 20000 in
theorem ggX6_rebase_X6_isBarred : GoodIn wsX6_rebase wsX6_isBarred := goodIn_r _ [21, 22, 23, 24, 4, 25, 14, 15, 16, 17, 10, 76, 77, 78, 79, 80, 81, 82, 83, 84, 85, 86, 87, 88] (by decide +kernel) (by decide +kernel)
set_option maxRecDepth 20000 in
theorem gX6_rebase_X6_isBarred : GoodIn wsX6_rebase (wsV RX6 71 RX6 yX6_isBarred wsX6_isBarred) := goodIn_app (goodIn_of _ (by decide +kernel)) ggX6_rebase_X6_isBarred
set_option maxRecDepth 20000 in
theorem ggX6_rebase_X6_isOnWay : GoodIn wsX6_rebase wsX6_isOnWay := goodIn_r _ [29, 14, 15, 16, 4, 17, 10, 76, 77, 78, 79, 80, 81, 82, 83, 84, 85, 86, 87, 88] (by decide +kernel) (by decide +kernel)
set_option maxRecDepth 20000 in
theorem gX6_rebase_X6_isOnWay : GoodIn wsX6_rebase (wsV RX6 142 RX6 yX6_isOnWay wsX6_isOnWay) := goodIn_app (goodIn_of _ (by decide +kernel)) ggX6_rebase_X6_isOnWay
set_option maxRecDepth 20000 in
theorem ggX6_rebase_X6_isTooFar : GoodIn wsX6_rebase wsX6_isTooFar := goodIn_r _ [33, 10, 14, 15, 16, 4, 17, 34, 35, 36, 37, 38, 39, 40, 41, 6, 7, 8, 9, 11, 12, 13, 42, 43, 44, 45, 76, 77, 78, 79, 80, 81, 82, 83, 84, 85, 86, 87, 88] (by decide +kernel) (by decide +kernel)
set_option maxRecDepth 20000 in
theorem gX6_rebase_X6_isTooFar : GoodIn wsX6_rebase (wsV RX6 146 RX6 yX6_isTooFar wsX6_isTooFar) := goodIn_app (goodIn_of _ (by decide +kernel)) ggX6_rebase_X6_isTooFar
set_option maxRecDepth 20000 in
theorem ggX6_rebase_X6_of : GoodIn wsX6_rebase wsX6_of := goodIn_r _ [17, 10, 76, 77, 78, 79, 80, 81, 82, 83, 84, 85, 86, 87, 88] (by decide +kernel) (by decide +kernel)
set_option maxRecDepth 20000 in
theorem gX6_rebase_X6_of : GoodIn wsX6_rebase (wsV RX6 43 RX6 yX6_of wsX6_of) := goodIn_app (goodIn_of _ (by decide +kernel)) ggX6_rebase_X6_of
set_option maxRecDepth 20000 in
theorem ggX6_rebase_X6_record : GoodIn wsX6_rebase wsX6_record := goodIn_r _ [49, 50, 51, 10, 76, 77, 78, 79, 80, 81, 82, 83, 84, 85, 86, 87, 88] (by decide +kernel) (by decide +kernel)
set_option maxRecDepth 20000 in
theorem gX6_rebase_X6_record : GoodIn wsX6_rebase (wsV RX6 110 RX6 yX6_record wsX6_record) := goodIn_app (goodIn_of _ (by decide +kernel)) ggX6_rebase_X6_record
set_option maxRecDepth 20000 in
theorem ggX6_rebase_X6_puts : GoodIn wsX6_rebase wsX6_puts := goodIn_r _ [37, 10, 76, 77, 78, 79, 80, 81, 82, 83, 84, 85, 86, 87, 88] (by decide +kernel) (by decide +kernel)
set_option maxRecDepth 20000 in
theorem gX6_rebase_X6_puts : GoodIn wsX6_rebase (wsV RX6 74 RX6 yX6_puts wsX6_puts) := goodIn_app (goodIn_of _ (by decide +kernel)) ggX6_rebase_X6_puts
set_option maxRecDepth 20000 in
theorem ggX6_rebase_X6_sweeps : GoodIn wsX6_rebase wsX6_sweeps := goodIn_r _ [55, 10, 14, 15, 16, 4, 17, 56, 57, 58, 59, 6, 7, 8, 9, 11, 12, 13, 60, 61, 62, 63, 34, 35, 36, 37, 76, 77, 78, 79, 80, 81, 82, 83, 84, 85, 86, 87, 88] (by decide +kernel) (by decide +kernel)
set_option maxRecDepth 20000 in
theorem gX6_rebase_X6_sweeps : GoodIn wsX6_rebase (wsV RX6 130 RX6 yX6_sweeps wsX6_sweeps) := goodIn_app (goodIn_of _ (by decide +kernel)) ggX6_rebase_X6_sweeps
set_option maxRecDepth 20000 in
theorem ggX6_rebase_X6_cost : GoodIn wsX6_rebase wsX6_cost := goodIn_r _ [67, 14, 15, 16, 4, 17, 10, 68, 69, 70, 71, 72, 73, 74, 75, 76, 77, 78, 79, 80, 81, 82, 83, 84, 85, 86, 87, 88] (by decide +kernel) (by decide +kernel)
set_option maxRecDepth 20000 in
theorem gX6_rebase_X6_cost : GoodIn wsX6_rebase (wsV RX6 61 RX6 yX6_cost wsX6_cost) := goodIn_app (goodIn_of _ (by decide +kernel)) ggX6_rebase_X6_cost
theorem dX6_rebase_0 : decode cX6_rebase 0 = .ok (.aload_n 0, 1) := by decide +kernel
theorem dX6_rebase_1 : decode cX6_rebase 1 = .ok (.iload_n 1, 1) := by decide +kernel
theorem dX6_rebase_2 : decode cX6_rebase 2 = .ok (.invokevirtual 133, 3) := by decide +kernel
theorem dX6_rebase_5 : decode cX6_rebase 5 = .ok (.ifCond .ne 11, 3) := by decide +kernel
theorem dX6_rebase_8 : decode cX6_rebase 8 = .ok (.aload_n 0, 1) := by decide +kernel
theorem dX6_rebase_9 : decode cX6_rebase 9 = .ok (.iload_n 2, 1) := by decide +kernel
theorem dX6_rebase_10 : decode cX6_rebase 10 = .ok (.invokevirtual 133, 3) := by decide +kernel
theorem dX6_rebase_13 : decode cX6_rebase 13 = .ok (.ifCond .eq 5, 3) := by decide +kernel
theorem dX6_rebase_16 : decode cX6_rebase 16 = .ok (.iconst (-1), 1) := by decide +kernel
theorem dX6_rebase_17 : decode cX6_rebase 17 = .ok (.ireturn, 1) := by decide +kernel
theorem dX6_rebase_18 : decode cX6_rebase 18 = .ok (.iload_n 1, 1) := by decide +kernel
theorem dX6_rebase_19 : decode cX6_rebase 19 = .ok (.iload_n 2, 1) := by decide +kernel
theorem dX6_rebase_20 : decode cX6_rebase 20 = .ok (.if_icmp .ne 6, 3) := by decide +kernel
theorem dX6_rebase_23 : decode cX6_rebase 23 = .ok (.bipush (-2), 2) := by decide +kernel
theorem dX6_rebase_25 : decode cX6_rebase 25 = .ok (.ireturn, 1) := by decide +kernel
theorem dX6_rebase_26 : decode cX6_rebase 26 = .ok (.aload_n 0, 1) := by decide +kernel
theorem dX6_rebase_27 : decode cX6_rebase 27 = .ok (.iload_n 1, 1) := by decide +kernel
theorem dX6_rebase_28 : decode cX6_rebase 28 = .ok (.invokevirtual 71, 3) := by decide +kernel
theorem dX6_rebase_31 : decode cX6_rebase 31 = .ok (.ifCond .ne 11, 3) := by decide +kernel
theorem dX6_rebase_34 : decode cX6_rebase 34 = .ok (.aload_n 0, 1) := by decide +kernel
theorem dX6_rebase_35 : decode cX6_rebase 35 = .ok (.iload_n 2, 1) := by decide +kernel
theorem dX6_rebase_36 : decode cX6_rebase 36 = .ok (.invokevirtual 71, 3) := by decide +kernel
theorem dX6_rebase_39 : decode cX6_rebase 39 = .ok (.ifCond .eq 6, 3) := by decide +kernel
theorem dX6_rebase_42 : decode cX6_rebase 42 = .ok (.bipush (-6), 2) := by decide +kernel
theorem dX6_rebase_44 : decode cX6_rebase 44 = .ok (.ireturn, 1) := by decide +kernel
theorem dX6_rebase_45 : decode cX6_rebase 45 = .ok (.aload_n 0, 1) := by decide +kernel
theorem dX6_rebase_46 : decode cX6_rebase 46 = .ok (.iload_n 1, 1) := by decide +kernel
theorem dX6_rebase_47 : decode cX6_rebase 47 = .ok (.iload_n 2, 1) := by decide +kernel
theorem dX6_rebase_48 : decode cX6_rebase 48 = .ok (.invokevirtual 142, 3) := by decide +kernel
theorem dX6_rebase_51 : decode cX6_rebase 51 = .ok (.ifCond .eq 6, 3) := by decide +kernel
theorem dX6_rebase_54 : decode cX6_rebase 54 = .ok (.bipush (-4), 2) := by decide +kernel
theorem dX6_rebase_56 : decode cX6_rebase 56 = .ok (.ireturn, 1) := by decide +kernel
theorem dX6_rebase_57 : decode cX6_rebase 57 = .ok (.aload_n 0, 1) := by decide +kernel
theorem dX6_rebase_58 : decode cX6_rebase 58 = .ok (.iload_n 1, 1) := by decide +kernel
theorem dX6_rebase_59 : decode cX6_rebase 59 = .ok (.iload_n 2, 1) := by decide +kernel
theorem dX6_rebase_60 : decode cX6_rebase 60 = .ok (.invokevirtual 146, 3) := by decide +kernel
theorem dX6_rebase_63 : decode cX6_rebase 63 = .ok (.ifCond .eq 6, 3) := by decide +kernel
theorem dX6_rebase_66 : decode cX6_rebase 66 = .ok (.bipush (-7), 2) := by decide +kernel
theorem dX6_rebase_68 : decode cX6_rebase 68 = .ok (.ireturn, 1) := by decide +kernel
theorem dX6_rebase_69 : decode cX6_rebase 69 = .ok (.aload_n 0, 1) := by decide +kernel
theorem dX6_rebase_70 : decode cX6_rebase 70 = .ok (.iload_n 1, 1) := by decide +kernel
theorem dX6_rebase_71 : decode cX6_rebase 71 = .ok (.iconst 3, 1) := by decide +kernel
theorem dX6_rebase_72 : decode cX6_rebase 72 = .ok (.invokevirtual 43, 3) := by decide +kernel
theorem dX6_rebase_75 : decode cX6_rebase 75 = .ok (.iload_n 2, 1) := by decide +kernel
theorem dX6_rebase_76 : decode cX6_rebase 76 = .ok (.if_icmp .ne 6, 3) := by decide +kernel
theorem dX6_rebase_79 : decode cX6_rebase 79 = .ok (.bipush (-5), 2) := by decide +kernel
theorem dX6_rebase_81 : decode cX6_rebase 81 = .ok (.ireturn, 1) := by decide +kernel
theorem dX6_rebase_82 : decode cX6_rebase 82 = .ok (.aload_n 0, 1) := by decide +kernel
theorem dX6_rebase_83 : decode cX6_rebase 83 = .ok (.invokevirtual 110, 3) := by decide +kernel
theorem dX6_rebase_86 : decode cX6_rebase 86 = .ok (.aload_n 0, 1) := by decide +kernel
theorem dX6_rebase_87 : decode cX6_rebase 87 = .ok (.iload_n 1, 1) := by decide +kernel
theorem dX6_rebase_88 : decode cX6_rebase 88 = .ok (.iconst 3, 1) := by decide +kernel
theorem dX6_rebase_89 : decode cX6_rebase 89 = .ok (.iload_n 2, 1) := by decide +kernel
theorem dX6_rebase_90 : decode cX6_rebase 90 = .ok (.invokevirtual 74, 3) := by decide +kernel
theorem dX6_rebase_93 : decode cX6_rebase 93 = .ok (.aload_n 0, 1) := by decide +kernel
theorem dX6_rebase_94 : decode cX6_rebase 94 = .ok (.invokevirtual 130, 3) := by decide +kernel
theorem dX6_rebase_97 : decode cX6_rebase 97 = .ok (.pop, 1) := by decide +kernel
theorem dX6_rebase_98 : decode cX6_rebase 98 = .ok (.aload_n 0, 1) := by decide +kernel
theorem dX6_rebase_99 : decode cX6_rebase 99 = .ok (.iload_n 1, 1) := by decide +kernel
theorem dX6_rebase_100 : decode cX6_rebase 100 = .ok (.invokevirtual 61, 3) := by decide +kernel
theorem dX6_rebase_103 : decode cX6_rebase 103 = .ok (.ireturn, 1) := by decide +kernel
set_option maxRecDepth 20000 in
theorem ggX6_setLimit_X6_in : GoodIn wsX6_setLimit wsX6_in := goodIn_r _ [5] (by decide +kernel) (by decide +kernel)
set_option maxRecDepth 20000 in
theorem gX6_setLimit_X6_in : GoodIn wsX6_setLimit (va_wsS RX6 39 yX6_in wsX6_in) := goodIn_app (goodIn_of _ (by decide +kernel)) ggX6_setLimit_X6_in
set_option maxRecDepth 20000 in
theorem ggX6_setLimit_X6_mostSteps : GoodIn wsX6_setLimit wsX6_mostSteps := goodIn_r _ [9, 1, 10, 11, 12, 4, 13, 2, 3, 5, 14, 15, 16, 17, 18, 19, 20, 21, 28, 29, 30, 31, 32, 33, 34, 35, 36, 37, 38, 39, 40] (by decide +kernel) (by decide +kernel)
set_option maxRecDepth 20000 in
theorem gX6_setLimit_X6_mostSteps : GoodIn wsX6_setLimit (wsV RX6 139 RX6 yX6_mostSteps wsX6_mostSteps) := goodIn_app (goodIn_of _ (by decide +kernel)) ggX6_setLimit_X6_mostSteps
set_option maxRecDepth 20000 in
theorem ggX6_setLimit_X6_record : GoodIn wsX6_setLimit wsX6_record := goodIn_r _ [25, 26, 27, 1, 28, 29, 30, 31, 32, 33, 34, 35, 36, 37, 38, 39, 40] (by decide +kernel) (by decide +kernel)
set_option maxRecDepth 20000 in
theorem gX6_setLimit_X6_record : GoodIn wsX6_setLimit (wsV RX6 110 RX6 yX6_record wsX6_record) := goodIn_app (goodIn_of _ (by decide +kernel)) ggX6_setLimit_X6_record
theorem dX6_setLimit_0 : decode cX6_setLimit 0 = .ok (.iload_n 1, 1) := by decide +kernel
theorem dX6_setLimit_1 : decode cX6_setLimit 1 = .ok (.iconst 1, 1) := by decide +kernel
theorem dX6_setLimit_2 : decode cX6_setLimit 2 = .ok (.bipush 8, 2) := by decide +kernel
theorem dX6_setLimit_4 : decode cX6_setLimit 4 = .ok (.invokestatic 39, 3) := by decide +kernel
theorem dX6_setLimit_7 : decode cX6_setLimit 7 = .ok (.ifCond .ne 6, 3) := by decide +kernel
theorem dX6_setLimit_10 : decode cX6_setLimit 10 = .ok (.bipush (-2), 2) := by decide +kernel
theorem dX6_setLimit_12 : decode cX6_setLimit 12 = .ok (.ireturn, 1) := by decide +kernel
theorem dX6_setLimit_13 : decode cX6_setLimit 13 = .ok (.aload_n 0, 1) := by decide +kernel
theorem dX6_setLimit_14 : decode cX6_setLimit 14 = .ok (.invokevirtual 139, 3) := by decide +kernel
theorem dX6_setLimit_17 : decode cX6_setLimit 17 = .ok (.iload_n 1, 1) := by decide +kernel
theorem dX6_setLimit_18 : decode cX6_setLimit 18 = .ok (.if_icmp .le 6, 3) := by decide +kernel
theorem dX6_setLimit_21 : decode cX6_setLimit 21 = .ok (.bipush (-7), 2) := by decide +kernel
theorem dX6_setLimit_23 : decode cX6_setLimit 23 = .ok (.ireturn, 1) := by decide +kernel
theorem dX6_setLimit_24 : decode cX6_setLimit 24 = .ok (.aload_n 0, 1) := by decide +kernel
theorem dX6_setLimit_25 : decode cX6_setLimit 25 = .ok (.getfield 7, 3) := by decide +kernel
theorem dX6_setLimit_28 : decode cX6_setLimit 28 = .ok (.sipush 686, 3) := by decide +kernel
theorem dX6_setLimit_31 : decode cX6_setLimit 31 = .ok (.iaload, 1) := by decide +kernel
theorem dX6_setLimit_32 : decode cX6_setLimit 32 = .ok (.istore_n 2, 1) := by decide +kernel
theorem dX6_setLimit_33 : decode cX6_setLimit 33 = .ok (.iload_n 2, 1) := by decide +kernel
theorem dX6_setLimit_34 : decode cX6_setLimit 34 = .ok (.iload_n 1, 1) := by decide +kernel
theorem dX6_setLimit_35 : decode cX6_setLimit 35 = .ok (.if_icmp .ne 6, 3) := by decide +kernel
theorem dX6_setLimit_38 : decode cX6_setLimit 38 = .ok (.bipush (-5), 2) := by decide +kernel
theorem dX6_setLimit_40 : decode cX6_setLimit 40 = .ok (.ireturn, 1) := by decide +kernel
theorem dX6_setLimit_41 : decode cX6_setLimit 41 = .ok (.aload_n 0, 1) := by decide +kernel
theorem dX6_setLimit_42 : decode cX6_setLimit 42 = .ok (.invokevirtual 110, 3) := by decide +kernel
theorem dX6_setLimit_45 : decode cX6_setLimit 45 = .ok (.aload_n 0, 1) := by decide +kernel
theorem dX6_setLimit_46 : decode cX6_setLimit 46 = .ok (.getfield 7, 3) := by decide +kernel
theorem dX6_setLimit_49 : decode cX6_setLimit 49 = .ok (.sipush 686, 3) := by decide +kernel
theorem dX6_setLimit_52 : decode cX6_setLimit 52 = .ok (.iload_n 1, 1) := by decide +kernel
theorem dX6_setLimit_53 : decode cX6_setLimit 53 = .ok (.iastore, 1) := by decide +kernel
theorem dX6_setLimit_54 : decode cX6_setLimit 54 = .ok (.iload_n 2, 1) := by decide +kernel
theorem dX6_setLimit_55 : decode cX6_setLimit 55 = .ok (.ireturn, 1) := by decide +kernel
set_option maxRecDepth 20000 in
theorem ggX6_plans_X6_isThere : GoodIn wsX6_plans wsX6_isThere := goodIn_r _ [8, 1, 9, 10, 7, 11, 12, 13, 14, 15, 24, 25, 26, 27, 28, 29, 30, 31, 32, 33, 34, 35, 36] (by decide +kernel) (by decide +kernel)
set_option maxRecDepth 20000 in
theorem gX6_plans_X6_isThere : GoodIn wsX6_plans (wsV RX6 47 RX6 yX6_isThere wsX6_isThere) := goodIn_app (goodIn_of _ (by decide +kernel)) ggX6_plans_X6_isThere
set_option maxRecDepth 20000 in
theorem ggX6_plans_X6_apart : GoodIn wsX6_plans wsX6_apart := goodIn_r _ [19, 20, 21, 22, 7, 23, 1, 24, 25, 26, 27, 28, 29, 30, 31, 32, 33, 34, 35, 36] (by decide +kernel) (by decide +kernel)
set_option maxRecDepth 20000 in
theorem gX6_plans_X6_apart : GoodIn wsX6_plans (wsV RX6 58 RX6 yX6_apart wsX6_apart) := goodIn_app (goodIn_of _ (by decide +kernel)) ggX6_plans_X6_apart
theorem dX6_plans_0 : decode cX6_plans 0 = .ok (.iconst 0, 1) := by decide +kernel
theorem dX6_plans_1 : decode cX6_plans 1 = .ok (.istore_n 1, 1) := by decide +kernel
theorem dX6_plans_2 : decode cX6_plans 2 = .ok (.iload_n 1, 1) := by decide +kernel
theorem dX6_plans_3 : decode cX6_plans 3 = .ok (.aload_n 0, 1) := by decide +kernel
theorem dX6_plans_4 : decode cX6_plans 4 = .ok (.getfield 7, 3) := by decide +kernel
theorem dX6_plans_7 : decode cX6_plans 7 = .ok (.sipush 685, 3) := by decide +kernel
theorem dX6_plans_10 : decode cX6_plans 10 = .ok (.iaload, 1) := by decide +kernel
theorem dX6_plans_11 : decode cX6_plans 11 = .ok (.if_icmp .ge 120, 3) := by decide +kernel
theorem dX6_plans_14 : decode cX6_plans 14 = .ok (.aload_n 0, 1) := by decide +kernel
theorem dX6_plans_15 : decode cX6_plans 15 = .ok (.getfield 33, 3) := by decide +kernel
theorem dX6_plans_18 : decode cX6_plans 18 = .ok (.iload_n 1, 1) := by decide +kernel
theorem dX6_plans_19 : decode cX6_plans 19 = .ok (.bipush (-5), 2) := by decide +kernel
theorem dX6_plans_21 : decode cX6_plans 21 = .ok (.iastore, 1) := by decide +kernel
theorem dX6_plans_22 : decode cX6_plans 22 = .ok (.aload_n 0, 1) := by decide +kernel
theorem dX6_plans_23 : decode cX6_plans 23 = .ok (.getfield 36, 3) := by decide +kernel
theorem dX6_plans_26 : decode cX6_plans 26 = .ok (.iload_n 1, 1) := by decide +kernel
theorem dX6_plans_27 : decode cX6_plans 27 = .ok (.iconst 0, 1) := by decide +kernel
theorem dX6_plans_28 : decode cX6_plans 28 = .ok (.iastore, 1) := by decide +kernel
theorem dX6_plans_29 : decode cX6_plans 29 = .ok (.bipush 12, 2) := by decide +kernel
theorem dX6_plans_31 : decode cX6_plans 31 = .ok (.istore_n 2, 1) := by decide +kernel
theorem dX6_plans_32 : decode cX6_plans 32 = .ok (.iconst 0, 1) := by decide +kernel
theorem dX6_plans_33 : decode cX6_plans 33 = .ok (.istore_n 3, 1) := by decide +kernel
theorem dX6_plans_34 : decode cX6_plans 34 = .ok (.iload_n 3, 1) := by decide +kernel
theorem dX6_plans_35 : decode cX6_plans 35 = .ok (.iload_n 1, 1) := by decide +kernel
theorem dX6_plans_36 : decode cX6_plans 36 = .ok (.if_icmp .ge 89, 3) := by decide +kernel
theorem dX6_plans_39 : decode cX6_plans 39 = .ok (.aload_n 0, 1) := by decide +kernel
theorem dX6_plans_40 : decode cX6_plans 40 = .ok (.iload_n 1, 1) := by decide +kernel
theorem dX6_plans_41 : decode cX6_plans 41 = .ok (.invokevirtual 47, 3) := by decide +kernel
theorem dX6_plans_44 : decode cX6_plans 44 = .ok (.ifCond .eq 81, 3) := by decide +kernel
theorem dX6_plans_47 : decode cX6_plans 47 = .ok (.aload_n 0, 1) := by decide +kernel
theorem dX6_plans_48 : decode cX6_plans 48 = .ok (.iload_n 3, 1) := by decide +kernel
theorem dX6_plans_49 : decode cX6_plans 49 = .ok (.invokevirtual 47, 3) := by decide +kernel
theorem dX6_plans_52 : decode cX6_plans 52 = .ok (.ifCond .eq 33, 3) := by decide +kernel
theorem dX6_plans_55 : decode cX6_plans 55 = .ok (.aload_n 0, 1) := by decide +kernel
theorem dX6_plans_56 : decode cX6_plans 56 = .ok (.getfield 36, 3) := by decide +kernel
theorem dX6_plans_59 : decode cX6_plans 59 = .ok (.iload_n 3, 1) := by decide +kernel
theorem dX6_plans_60 : decode cX6_plans 60 = .ok (.iaload, 1) := by decide +kernel
theorem dX6_plans_61 : decode cX6_plans 61 = .ok (.aload_n 0, 1) := by decide +kernel
theorem dX6_plans_62 : decode cX6_plans 62 = .ok (.getfield 7, 3) := by decide +kernel
theorem dX6_plans_65 : decode cX6_plans 65 = .ok (.sipush 686, 3) := by decide +kernel
theorem dX6_plans_68 : decode cX6_plans 68 = .ok (.iaload, 1) := by decide +kernel
theorem dX6_plans_69 : decode cX6_plans 69 = .ok (.if_icmp .ge 16, 3) := by decide +kernel
theorem dX6_plans_72 : decode cX6_plans 72 = .ok (.iconst 1, 1) := by decide +kernel
theorem dX6_plans_73 : decode cX6_plans 73 = .ok (.iconst 2, 1) := by decide +kernel
theorem dX6_plans_74 : decode cX6_plans 74 = .ok (.aload_n 0, 1) := by decide +kernel
theorem dX6_plans_75 : decode cX6_plans 75 = .ok (.iload_n 1, 1) := by decide +kernel
theorem dX6_plans_76 : decode cX6_plans 76 = .ok (.iload_n 3, 1) := by decide +kernel
theorem dX6_plans_77 : decode cX6_plans 77 = .ok (.invokevirtual 58, 3) := by decide +kernel
theorem dX6_plans_80 : decode cX6_plans 80 = .ok (.imul, 1) := by decide +kernel
theorem dX6_plans_81 : decode cX6_plans 81 = .ok (.iadd, 1) := by decide +kernel
theorem dX6_plans_82 : decode cX6_plans 82 = .ok (.goto 5, 3) := by decide +kernel
theorem dX6_plans_85 : decode cX6_plans 85 = .ok (.bipush 12, 2) := by decide +kernel
theorem dX6_plans_87 : decode cX6_plans 87 = .ok (.istore 4, 2) := by decide +kernel
theorem dX6_plans_89 : decode cX6_plans 89 = .ok (.iload 4, 2) := by decide +kernel
theorem dX6_plans_91 : decode cX6_plans 91 = .ok (.iload_n 2, 1) := by decide +kernel
theorem dX6_plans_92 : decode cX6_plans 92 = .ok (.if_icmp .ge 27, 3) := by decide +kernel
theorem dX6_plans_95 : decode cX6_plans 95 = .ok (.iload 4, 2) := by decide +kernel
theorem dX6_plans_97 : decode cX6_plans 97 = .ok (.istore_n 2, 1) := by decide +kernel
theorem dX6_plans_98 : decode cX6_plans 98 = .ok (.aload_n 0, 1) := by decide +kernel
theorem dX6_plans_99 : decode cX6_plans 99 = .ok (.getfield 33, 3) := by decide +kernel
theorem dX6_plans_102 : decode cX6_plans 102 = .ok (.iload_n 1, 1) := by decide +kernel
theorem dX6_plans_103 : decode cX6_plans 103 = .ok (.iload_n 3, 1) := by decide +kernel
theorem dX6_plans_104 : decode cX6_plans 104 = .ok (.iastore, 1) := by decide +kernel
theorem dX6_plans_105 : decode cX6_plans 105 = .ok (.aload_n 0, 1) := by decide +kernel
theorem dX6_plans_106 : decode cX6_plans 106 = .ok (.getfield 36, 3) := by decide +kernel
theorem dX6_plans_109 : decode cX6_plans 109 = .ok (.iload_n 1, 1) := by decide +kernel
theorem dX6_plans_110 : decode cX6_plans 110 = .ok (.aload_n 0, 1) := by decide +kernel
theorem dX6_plans_111 : decode cX6_plans 111 = .ok (.getfield 36, 3) := by decide +kernel
theorem dX6_plans_114 : decode cX6_plans 114 = .ok (.iload_n 3, 1) := by decide +kernel
theorem dX6_plans_115 : decode cX6_plans 115 = .ok (.iaload, 1) := by decide +kernel
theorem dX6_plans_116 : decode cX6_plans 116 = .ok (.iconst 1, 1) := by decide +kernel
theorem dX6_plans_117 : decode cX6_plans 117 = .ok (.iadd, 1) := by decide +kernel
theorem dX6_plans_118 : decode cX6_plans 118 = .ok (.iastore, 1) := by decide +kernel
theorem dX6_plans_119 : decode cX6_plans 119 = .ok (.iinc 3 1, 3) := by decide +kernel
theorem dX6_plans_122 : decode cX6_plans 122 = .ok (.goto (-88), 3) := by decide +kernel
theorem dX6_plans_125 : decode cX6_plans 125 = .ok (.iinc 1 1, 3) := by decide +kernel
theorem dX6_plans_128 : decode cX6_plans 128 = .ok (.goto (-126), 3) := by decide +kernel
theorem dX6_plans_131 : decode cX6_plans 131 = .ok (.return_, 1) := by decide +kernel
set_option maxRecDepth 20000 in
theorem ggX6_optimize_X6_barred : GoodIn wsX6_optimize wsX6_barred := goodIn_r _ [7, 1, 8, 9, 10, 6, 11, 12, 13, 14, 15, 16, 17, 18, 19, 20, 21, 22, 23, 24, 25, 26, 70, 71, 72, 73, 74, 75, 76, 77, 78, 79, 80, 81, 82] (by decide +kernel) (by decide +kernel)
set_option maxRecDepth 20000 in
theorem gX6_optimize_X6_barred : GoodIn wsX6_optimize (wsV RX6 149 RX6 yX6_barred wsX6_barred) := goodIn_app (goodIn_of _ (by decide +kernel)) ggX6_optimize_X6_barred
set_option maxRecDepth 20000 in
theorem ggX6_optimize_X6_plans : GoodIn wsX6_optimize wsX6_plans := goodIn_r _ [30, 1, 2, 31, 8, 9, 10, 6, 11, 12, 13, 14, 15, 16, 17, 18, 32, 33, 34, 35, 36, 37, 38, 39, 70, 71, 72, 73, 74, 75, 76, 77, 78, 79, 80, 81, 82] (by decide +kernel) (by decide +kernel)
set_option maxRecDepth 20000 in
theorem gX6_optimize_X6_plans : GoodIn wsX6_optimize (wsV RX6 152 RX6 yX6_plans wsX6_plans) := goodIn_app (goodIn_of _ (by decide +kernel)) ggX6_optimize_X6_plans
set_option maxRecDepth 20000 in
theorem ggX6_optimize_X6_of : GoodIn wsX6_optimize wsX6_of := goodIn_r _ [18, 1, 70, 71, 72, 73, 74, 75, 76, 77, 78, 79, 80, 81, 82] (by decide +kernel) (by decide +kernel)
set_option maxRecDepth 20000 in
theorem gX6_optimize_X6_of : GoodIn wsX6_optimize (wsV RX6 43 RX6 yX6_of wsX6_of) := goodIn_app (goodIn_of _ (by decide +kernel)) ggX6_optimize_X6_of
set_option maxRecDepth 20000 in
theorem ggX6_optimize_X6_record : GoodIn wsX6_optimize wsX6_record := goodIn_r _ [43, 44, 45, 1, 70, 71, 72, 73, 74, 75, 76, 77, 78, 79, 80, 81, 82] (by decide +kernel) (by decide +kernel)
set_option maxRecDepth 20000 in
theorem gX6_optimize_X6_record : GoodIn wsX6_optimize (wsV RX6 110 RX6 yX6_record wsX6_record) := goodIn_app (goodIn_of _ (by decide +kernel)) ggX6_optimize_X6_record
set_option maxRecDepth 20000 in
theorem ggX6_optimize_X6_allCosts : GoodIn wsX6_optimize wsX6_allCosts := goodIn_r _ [49, 1, 8, 9, 10, 6, 11, 12, 13, 14, 15, 16, 17, 18, 50, 51, 52, 53, 32, 33, 34, 35, 36, 37, 38, 39, 70, 71, 72, 73, 74, 75, 76, 77, 78, 79, 80, 81, 82] (by decide +kernel) (by decide +kernel)
set_option maxRecDepth 20000 in
theorem gX6_optimize_X6_allCosts : GoodIn wsX6_optimize (wsV RX6 136 RX6 yX6_allCosts wsX6_allCosts) := goodIn_app (goodIn_of _ (by decide +kernel)) ggX6_optimize_X6_allCosts
set_option maxRecDepth 20000 in
theorem ggX6_optimize_X6_puts : GoodIn wsX6_optimize wsX6_puts := goodIn_r _ [57, 1, 70, 71, 72, 73, 74, 75, 76, 77, 78, 79, 80, 81, 82] (by decide +kernel) (by decide +kernel)
set_option maxRecDepth 20000 in
theorem gX6_optimize_X6_puts : GoodIn wsX6_optimize (wsV RX6 74 RX6 yX6_puts wsX6_puts) := goodIn_app (goodIn_of _ (by decide +kernel)) ggX6_optimize_X6_puts
set_option maxRecDepth 20000 in
theorem ggX6_optimize_X6_sweeps : GoodIn wsX6_optimize wsX6_sweeps := goodIn_r _ [61, 1, 15, 16, 17, 6, 18, 62, 63, 64, 65, 8, 9, 10, 11, 12, 13, 14, 66, 67, 68, 69, 54, 55, 56, 57, 70, 71, 72, 73, 74, 75, 76, 77, 78, 79, 80, 81, 82] (by decide +kernel) (by decide +kernel)
set_option maxRecDepth 20000 in
theorem gX6_optimize_X6_sweeps : GoodIn wsX6_optimize (wsV RX6 130 RX6 yX6_sweeps wsX6_sweeps) := goodIn_app (goodIn_of _ (by decide +kernel)) ggX6_optimize_X6_sweeps
theorem dX6_optimize_0 : decode cX6_optimize 0 = .ok (.aload_n 0, 1) := by decide +kernel
theorem dX6_optimize_1 : decode cX6_optimize 1 = .ok (.invokevirtual 149, 3) := by decide +kernel
theorem dX6_optimize_4 : decode cX6_optimize 4 = .ok (.ifCond .le 6, 3) := by decide +kernel
theorem dX6_optimize_7 : decode cX6_optimize 7 = .ok (.bipush (-6), 2) := by decide +kernel
theorem dX6_optimize_9 : decode cX6_optimize 9 = .ok (.ireturn, 1) := by decide +kernel
theorem dX6_optimize_10 : decode cX6_optimize 10 = .ok (.aload_n 0, 1) := by decide +kernel
theorem dX6_optimize_11 : decode cX6_optimize 11 = .ok (.invokevirtual 152, 3) := by decide +kernel
theorem dX6_optimize_14 : decode cX6_optimize 14 = .ok (.iconst 1, 1) := by decide +kernel
theorem dX6_optimize_15 : decode cX6_optimize 15 = .ok (.istore_n 1, 1) := by decide +kernel
theorem dX6_optimize_16 : decode cX6_optimize 16 = .ok (.iconst 0, 1) := by decide +kernel
theorem dX6_optimize_17 : decode cX6_optimize 17 = .ok (.istore_n 2, 1) := by decide +kernel
theorem dX6_optimize_18 : decode cX6_optimize 18 = .ok (.iload_n 2, 1) := by decide +kernel
theorem dX6_optimize_19 : decode cX6_optimize 19 = .ok (.aload_n 0, 1) := by decide +kernel
theorem dX6_optimize_20 : decode cX6_optimize 20 = .ok (.getfield 7, 3) := by decide +kernel
theorem dX6_optimize_23 : decode cX6_optimize 23 = .ok (.sipush 685, 3) := by decide +kernel
theorem dX6_optimize_26 : decode cX6_optimize 26 = .ok (.iaload, 1) := by decide +kernel
theorem dX6_optimize_27 : decode cX6_optimize 27 = .ok (.if_icmp .ge 32, 3) := by decide +kernel
theorem dX6_optimize_30 : decode cX6_optimize 30 = .ok (.iload_n 1, 1) := by decide +kernel
theorem dX6_optimize_31 : decode cX6_optimize 31 = .ok (.aload_n 0, 1) := by decide +kernel
theorem dX6_optimize_32 : decode cX6_optimize 32 = .ok (.iload_n 2, 1) := by decide +kernel
theorem dX6_optimize_33 : decode cX6_optimize 33 = .ok (.iconst 3, 1) := by decide +kernel
theorem dX6_optimize_34 : decode cX6_optimize 34 = .ok (.invokevirtual 43, 3) := by decide +kernel
theorem dX6_optimize_37 : decode cX6_optimize 37 = .ok (.aload_n 0, 1) := by decide +kernel
theorem dX6_optimize_38 : decode cX6_optimize 38 = .ok (.getfield 33, 3) := by decide +kernel
theorem dX6_optimize_41 : decode cX6_optimize 41 = .ok (.iload_n 2, 1) := by decide +kernel
theorem dX6_optimize_42 : decode cX6_optimize 42 = .ok (.iaload, 1) := by decide +kernel
theorem dX6_optimize_43 : decode cX6_optimize 43 = .ok (.if_icmp .ne 7, 3) := by decide +kernel
theorem dX6_optimize_46 : decode cX6_optimize 46 = .ok (.iconst 1, 1) := by decide +kernel
theorem dX6_optimize_47 : decode cX6_optimize 47 = .ok (.goto 4, 3) := by decide +kernel
theorem dX6_optimize_50 : decode cX6_optimize 50 = .ok (.iconst 0, 1) := by decide +kernel
theorem dX6_optimize_51 : decode cX6_optimize 51 = .ok (.iand, 1) := by decide +kernel
theorem dX6_optimize_52 : decode cX6_optimize 52 = .ok (.istore_n 1, 1) := by decide +kernel
theorem dX6_optimize_53 : decode cX6_optimize 53 = .ok (.iinc 2 1, 3) := by decide +kernel
theorem dX6_optimize_56 : decode cX6_optimize 56 = .ok (.goto (-38), 3) := by decide +kernel
theorem dX6_optimize_59 : decode cX6_optimize 59 = .ok (.iload_n 1, 1) := by decide +kernel
theorem dX6_optimize_60 : decode cX6_optimize 60 = .ok (.ifCond .eq 6, 3) := by decide +kernel
theorem dX6_optimize_63 : decode cX6_optimize 63 = .ok (.bipush (-5), 2) := by decide +kernel
theorem dX6_optimize_65 : decode cX6_optimize 65 = .ok (.ireturn, 1) := by decide +kernel
theorem dX6_optimize_66 : decode cX6_optimize 66 = .ok (.aload_n 0, 1) := by decide +kernel
theorem dX6_optimize_67 : decode cX6_optimize 67 = .ok (.invokevirtual 110, 3) := by decide +kernel
theorem dX6_optimize_70 : decode cX6_optimize 70 = .ok (.aload_n 0, 1) := by decide +kernel
theorem dX6_optimize_71 : decode cX6_optimize 71 = .ok (.invokevirtual 136, 3) := by decide +kernel
theorem dX6_optimize_74 : decode cX6_optimize 74 = .ok (.istore_n 2, 1) := by decide +kernel
theorem dX6_optimize_75 : decode cX6_optimize 75 = .ok (.iconst 0, 1) := by decide +kernel
theorem dX6_optimize_76 : decode cX6_optimize 76 = .ok (.istore_n 3, 1) := by decide +kernel
theorem dX6_optimize_77 : decode cX6_optimize 77 = .ok (.iload_n 3, 1) := by decide +kernel
theorem dX6_optimize_78 : decode cX6_optimize 78 = .ok (.aload_n 0, 1) := by decide +kernel
theorem dX6_optimize_79 : decode cX6_optimize 79 = .ok (.getfield 7, 3) := by decide +kernel
theorem dX6_optimize_82 : decode cX6_optimize 82 = .ok (.sipush 685, 3) := by decide +kernel
theorem dX6_optimize_85 : decode cX6_optimize 85 = .ok (.iaload, 1) := by decide +kernel
theorem dX6_optimize_86 : decode cX6_optimize 86 = .ok (.if_icmp .ge 21, 3) := by decide +kernel
theorem dX6_optimize_89 : decode cX6_optimize 89 = .ok (.aload_n 0, 1) := by decide +kernel
theorem dX6_optimize_90 : decode cX6_optimize 90 = .ok (.iload_n 3, 1) := by decide +kernel
theorem dX6_optimize_91 : decode cX6_optimize 91 = .ok (.iconst 3, 1) := by decide +kernel
theorem dX6_optimize_92 : decode cX6_optimize 92 = .ok (.aload_n 0, 1) := by decide +kernel
theorem dX6_optimize_93 : decode cX6_optimize 93 = .ok (.getfield 33, 3) := by decide +kernel
theorem dX6_optimize_96 : decode cX6_optimize 96 = .ok (.iload_n 3, 1) := by decide +kernel
theorem dX6_optimize_97 : decode cX6_optimize 97 = .ok (.iaload, 1) := by decide +kernel
theorem dX6_optimize_98 : decode cX6_optimize 98 = .ok (.invokevirtual 74, 3) := by decide +kernel
theorem dX6_optimize_101 : decode cX6_optimize 101 = .ok (.iinc 3 1, 3) := by decide +kernel
theorem dX6_optimize_104 : decode cX6_optimize 104 = .ok (.goto (-27), 3) := by decide +kernel
theorem dX6_optimize_107 : decode cX6_optimize 107 = .ok (.aload_n 0, 1) := by decide +kernel
theorem dX6_optimize_108 : decode cX6_optimize 108 = .ok (.invokevirtual 130, 3) := by decide +kernel
theorem dX6_optimize_111 : decode cX6_optimize 111 = .ok (.pop, 1) := by decide +kernel
theorem dX6_optimize_112 : decode cX6_optimize 112 = .ok (.sipush 1000, 3) := by decide +kernel
theorem dX6_optimize_115 : decode cX6_optimize 115 = .ok (.iload_n 2, 1) := by decide +kernel
theorem dX6_optimize_116 : decode cX6_optimize 116 = .ok (.iadd, 1) := by decide +kernel
theorem dX6_optimize_117 : decode cX6_optimize 117 = .ok (.aload_n 0, 1) := by decide +kernel
theorem dX6_optimize_118 : decode cX6_optimize 118 = .ok (.invokevirtual 136, 3) := by decide +kernel
theorem dX6_optimize_121 : decode cX6_optimize 121 = .ok (.isub, 1) := by decide +kernel
theorem dX6_optimize_122 : decode cX6_optimize 122 = .ok (.ireturn, 1) := by decide +kernel
set_option maxRecDepth 20000 in
theorem ggX6_spoil_X6_noVersion : GoodIn wsX6_spoil wsX6_noVersion := goodIn_r _ [5, 6, 7, 8, 4, 9, 10, 11, 12, 13, 14, 15, 16, 17, 40, 41, 42, 43, 44, 45, 46, 47, 48, 49, 50, 51, 52] (by decide +kernel) (by decide +kernel)
set_option maxRecDepth 20000 in
theorem gX6_spoil_X6_noVersion : GoodIn wsX6_spoil (wsV RX6 133 RX6 yX6_noVersion wsX6_noVersion) := goodIn_app (goodIn_of _ (by decide +kernel)) ggX6_spoil_X6_noVersion
set_option maxRecDepth 20000 in
theorem ggX6_spoil_X6_of : GoodIn wsX6_spoil wsX6_of := goodIn_r _ [17, 10, 40, 41, 42, 43, 44, 45, 46, 47, 48, 49, 50, 51, 52] (by decide +kernel) (by decide +kernel)
set_option maxRecDepth 20000 in
theorem gX6_spoil_X6_of : GoodIn wsX6_spoil (wsV RX6 43 RX6 yX6_of wsX6_of) := goodIn_app (goodIn_of _ (by decide +kernel)) ggX6_spoil_X6_of
set_option maxRecDepth 20000 in
theorem ggX6_spoil_X6_record : GoodIn wsX6_spoil wsX6_record := goodIn_r _ [21, 22, 23, 10, 40, 41, 42, 43, 44, 45, 46, 47, 48, 49, 50, 51, 52] (by decide +kernel) (by decide +kernel)
set_option maxRecDepth 20000 in
theorem gX6_spoil_X6_record : GoodIn wsX6_spoil (wsV RX6 110 RX6 yX6_record wsX6_record) := goodIn_app (goodIn_of _ (by decide +kernel)) ggX6_spoil_X6_record
set_option maxRecDepth 20000 in
theorem ggX6_spoil_X6_puts : GoodIn wsX6_spoil wsX6_puts := goodIn_r _ [27, 10, 40, 41, 42, 43, 44, 45, 46, 47, 48, 49, 50, 51, 52] (by decide +kernel) (by decide +kernel)
set_option maxRecDepth 20000 in
theorem gX6_spoil_X6_puts : GoodIn wsX6_spoil (wsV RX6 74 RX6 yX6_puts wsX6_puts) := goodIn_app (goodIn_of _ (by decide +kernel)) ggX6_spoil_X6_puts
set_option maxRecDepth 20000 in
theorem ggX6_spoil_X6_barred : GoodIn wsX6_spoil wsX6_barred := goodIn_r _ [31, 10, 6, 7, 8, 4, 9, 11, 12, 13, 14, 15, 16, 17, 32, 33, 34, 35, 36, 37, 38, 39, 40, 41, 42, 43, 44, 45, 46, 47, 48, 49, 50, 51, 52] (by decide +kernel) (by decide +kernel)
set_option maxRecDepth 20000 in
theorem gX6_spoil_X6_barred : GoodIn wsX6_spoil (wsV RX6 149 RX6 yX6_barred wsX6_barred) := goodIn_app (goodIn_of _ (by decide +kernel)) ggX6_spoil_X6_barred
theorem dX6_spoil_0 : decode cX6_spoil 0 = .ok (.aload_n 0, 1) := by decide +kernel
theorem dX6_spoil_1 : decode cX6_spoil 1 = .ok (.iload_n 1, 1) := by decide +kernel
theorem dX6_spoil_2 : decode cX6_spoil 2 = .ok (.invokevirtual 133, 3) := by decide +kernel
theorem dX6_spoil_5 : decode cX6_spoil 5 = .ok (.ifCond .eq 5, 3) := by decide +kernel
theorem dX6_spoil_8 : decode cX6_spoil 8 = .ok (.iconst (-1), 1) := by decide +kernel
theorem dX6_spoil_9 : decode cX6_spoil 9 = .ok (.ireturn, 1) := by decide +kernel
theorem dX6_spoil_10 : decode cX6_spoil 10 = .ok (.aload_n 0, 1) := by decide +kernel
theorem dX6_spoil_11 : decode cX6_spoil 11 = .ok (.iload_n 1, 1) := by decide +kernel
theorem dX6_spoil_12 : decode cX6_spoil 12 = .ok (.iconst 4, 1) := by decide +kernel
theorem dX6_spoil_13 : decode cX6_spoil 13 = .ok (.invokevirtual 43, 3) := by decide +kernel
theorem dX6_spoil_16 : decode cX6_spoil 16 = .ok (.iconst 1, 1) := by decide +kernel
theorem dX6_spoil_17 : decode cX6_spoil 17 = .ok (.if_icmp .ne 6, 3) := by decide +kernel
theorem dX6_spoil_20 : decode cX6_spoil 20 = .ok (.bipush (-5), 2) := by decide +kernel
theorem dX6_spoil_22 : decode cX6_spoil 22 = .ok (.ireturn, 1) := by decide +kernel
theorem dX6_spoil_23 : decode cX6_spoil 23 = .ok (.aload_n 0, 1) := by decide +kernel
theorem dX6_spoil_24 : decode cX6_spoil 24 = .ok (.invokevirtual 110, 3) := by decide +kernel
theorem dX6_spoil_27 : decode cX6_spoil 27 = .ok (.aload_n 0, 1) := by decide +kernel
theorem dX6_spoil_28 : decode cX6_spoil 28 = .ok (.iload_n 1, 1) := by decide +kernel
theorem dX6_spoil_29 : decode cX6_spoil 29 = .ok (.iconst 4, 1) := by decide +kernel
theorem dX6_spoil_30 : decode cX6_spoil 30 = .ok (.iconst 1, 1) := by decide +kernel
theorem dX6_spoil_31 : decode cX6_spoil 31 = .ok (.invokevirtual 74, 3) := by decide +kernel
theorem dX6_spoil_34 : decode cX6_spoil 34 = .ok (.aload_n 0, 1) := by decide +kernel
theorem dX6_spoil_35 : decode cX6_spoil 35 = .ok (.invokevirtual 149, 3) := by decide +kernel
theorem dX6_spoil_38 : decode cX6_spoil 38 = .ok (.ireturn, 1) := by decide +kernel
set_option maxRecDepth 20000 in
theorem ggX6_mend_X6_noVersion : GoodIn wsX6_mend wsX6_noVersion := goodIn_r _ [6, 7, 8, 9, 5, 10, 11, 12, 13, 14, 15, 16, 17, 18, 76, 77, 78, 79, 80, 81, 82, 83, 84, 85, 86, 87, 88] (by decide +kernel) (by decide +kernel)
set_option maxRecDepth 20000 in
theorem gX6_mend_X6_noVersion : GoodIn wsX6_mend (wsV RX6 133 RX6 yX6_noVersion wsX6_noVersion) := goodIn_app (goodIn_of _ (by decide +kernel)) ggX6_mend_X6_noVersion
set_option maxRecDepth 20000 in
theorem ggX6_mend_X6_edits : GoodIn wsX6_mend wsX6_edits := goodIn_r _ [22, 23, 1, 24, 25, 26, 27, 28, 5, 29, 11, 30, 31, 32, 33, 12, 13, 14, 34, 35, 36, 37, 76, 77, 78, 79, 80, 81, 82, 83, 84, 85, 86, 87, 88] (by decide +kernel) (by decide +kernel)
set_option maxRecDepth 20000 in
theorem gX6_mend_X6_edits : GoodIn wsX6_mend (wsV RX6 104 RX6 yX6_edits wsX6_edits) := goodIn_app (goodIn_of _ (by decide +kernel)) ggX6_mend_X6_edits
set_option maxRecDepth 20000 in
theorem ggX6_mend_X6_isBarred : GoodIn wsX6_mend wsX6_isBarred := goodIn_r _ [41, 42, 43, 44, 5, 45, 15, 16, 17, 18, 11, 76, 77, 78, 79, 80, 81, 82, 83, 84, 85, 86, 87, 88] (by decide +kernel) (by decide +kernel)
set_option maxRecDepth 20000 in
theorem gX6_mend_X6_isBarred : GoodIn wsX6_mend (wsV RX6 71 RX6 yX6_isBarred wsX6_isBarred) := goodIn_app (goodIn_of _ (by decide +kernel)) ggX6_mend_X6_isBarred
set_option maxRecDepth 20000 in
theorem ggX6_mend_X6_isEditedAs : GoodIn wsX6_mend wsX6_isEditedAs := goodIn_r _ [49, 23, 26, 27, 28, 5, 29, 11, 76, 77, 78, 79, 80, 81, 82, 83, 84, 85, 86, 87, 88] (by decide +kernel) (by decide +kernel)
set_option maxRecDepth 20000 in
theorem gX6_mend_X6_isEditedAs : GoodIn wsX6_mend (wsV RX6 107 RX6 yX6_isEditedAs wsX6_isEditedAs) := goodIn_app (goodIn_of _ (by decide +kernel)) ggX6_mend_X6_isEditedAs
set_option maxRecDepth 20000 in
theorem ggX6_mend_X6_of : GoodIn wsX6_mend wsX6_of := goodIn_r _ [18, 11, 76, 77, 78, 79, 80, 81, 82, 83, 84, 85, 86, 87, 88] (by decide +kernel) (by decide +kernel)
set_option maxRecDepth 20000 in
theorem gX6_mend_X6_of : GoodIn wsX6_mend (wsV RX6 43 RX6 yX6_of wsX6_of) := goodIn_app (goodIn_of _ (by decide +kernel)) ggX6_mend_X6_of
set_option maxRecDepth 20000 in
theorem ggX6_mend_X6_record : GoodIn wsX6_mend wsX6_record := goodIn_r _ [53, 54, 55, 11, 76, 77, 78, 79, 80, 81, 82, 83, 84, 85, 86, 87, 88] (by decide +kernel) (by decide +kernel)
set_option maxRecDepth 20000 in
theorem gX6_mend_X6_record : GoodIn wsX6_mend (wsV RX6 110 RX6 yX6_record wsX6_record) := goodIn_app (goodIn_of _ (by decide +kernel)) ggX6_mend_X6_record
set_option maxRecDepth 20000 in
theorem ggX6_mend_X6_puts : GoodIn wsX6_mend wsX6_puts := goodIn_r _ [59, 11, 76, 77, 78, 79, 80, 81, 82, 83, 84, 85, 86, 87, 88] (by decide +kernel) (by decide +kernel)
set_option maxRecDepth 20000 in
theorem gX6_mend_X6_puts : GoodIn wsX6_mend (wsV RX6 74 RX6 yX6_puts wsX6_puts) := goodIn_app (goodIn_of _ (by decide +kernel)) ggX6_mend_X6_puts
set_option maxRecDepth 20000 in
theorem ggX6_mend_X6_sweeps : GoodIn wsX6_mend wsX6_sweeps := goodIn_r _ [63, 11, 15, 16, 17, 5, 18, 64, 65, 66, 67, 7, 8, 9, 10, 12, 13, 14, 68, 69, 70, 71, 56, 57, 58, 59, 76, 77, 78, 79, 80, 81, 82, 83, 84, 85, 86, 87, 88] (by decide +kernel) (by decide +kernel)
set_option maxRecDepth 20000 in
theorem gX6_mend_X6_sweeps : GoodIn wsX6_mend (wsV RX6 130 RX6 yX6_sweeps wsX6_sweeps) := goodIn_app (goodIn_of _ (by decide +kernel)) ggX6_mend_X6_sweeps
set_option maxRecDepth 20000 in
theorem ggX6_mend_X6_barred : GoodIn wsX6_mend wsX6_barred := goodIn_r _ [75, 11, 7, 8, 9, 5, 10, 12, 13, 14, 15, 16, 17, 18, 38, 39, 40, 41, 42, 43, 44, 45, 76, 77, 78, 79, 80, 81, 82, 83, 84, 85, 86, 87, 88] (by decide +kernel) (by decide +kernel)
set_option maxRecDepth 20000 in
theorem gX6_mend_X6_barred : GoodIn wsX6_mend (wsV RX6 149 RX6 yX6_barred wsX6_barred) := goodIn_app (goodIn_of _ (by decide +kernel)) ggX6_mend_X6_barred
theorem dX6_mend_0 : decode cX6_mend 0 = .ok (.aload_n 0, 1) := by decide +kernel
theorem dX6_mend_1 : decode cX6_mend 1 = .ok (.iload_n 1, 1) := by decide +kernel
theorem dX6_mend_2 : decode cX6_mend 2 = .ok (.invokevirtual 133, 3) := by decide +kernel
theorem dX6_mend_5 : decode cX6_mend 5 = .ok (.ifCond .ne 11, 3) := by decide +kernel
theorem dX6_mend_8 : decode cX6_mend 8 = .ok (.aload_n 0, 1) := by decide +kernel
theorem dX6_mend_9 : decode cX6_mend 9 = .ok (.iload_n 2, 1) := by decide +kernel
theorem dX6_mend_10 : decode cX6_mend 10 = .ok (.invokevirtual 133, 3) := by decide +kernel
theorem dX6_mend_13 : decode cX6_mend 13 = .ok (.ifCond .eq 5, 3) := by decide +kernel
theorem dX6_mend_16 : decode cX6_mend 16 = .ok (.iconst (-1), 1) := by decide +kernel
theorem dX6_mend_17 : decode cX6_mend 17 = .ok (.ireturn, 1) := by decide +kernel
theorem dX6_mend_18 : decode cX6_mend 18 = .ok (.iload_n 1, 1) := by decide +kernel
theorem dX6_mend_19 : decode cX6_mend 19 = .ok (.iload_n 2, 1) := by decide +kernel
theorem dX6_mend_20 : decode cX6_mend 20 = .ok (.if_icmp .ne 6, 3) := by decide +kernel
theorem dX6_mend_23 : decode cX6_mend 23 = .ok (.bipush (-2), 2) := by decide +kernel
theorem dX6_mend_25 : decode cX6_mend 25 = .ok (.ireturn, 1) := by decide +kernel
theorem dX6_mend_26 : decode cX6_mend 26 = .ok (.aload_n 0, 1) := by decide +kernel
theorem dX6_mend_27 : decode cX6_mend 27 = .ok (.iload_n 2, 1) := by decide +kernel
theorem dX6_mend_28 : decode cX6_mend 28 = .ok (.invokevirtual 104, 3) := by decide +kernel
theorem dX6_mend_31 : decode cX6_mend 31 = .ok (.ifCond .ne 11, 3) := by decide +kernel
theorem dX6_mend_34 : decode cX6_mend 34 = .ok (.bipush (-100), 2) := by decide +kernel
theorem dX6_mend_36 : decode cX6_mend 36 = .ok (.aload_n 0, 1) := by decide +kernel
theorem dX6_mend_37 : decode cX6_mend 37 = .ok (.getfield 88, 3) := by decide +kernel
theorem dX6_mend_40 : decode cX6_mend 40 = .ok (.isub, 1) := by decide +kernel
theorem dX6_mend_41 : decode cX6_mend 41 = .ok (.ireturn, 1) := by decide +kernel
theorem dX6_mend_42 : decode cX6_mend 42 = .ok (.aload_n 0, 1) := by decide +kernel
theorem dX6_mend_43 : decode cX6_mend 43 = .ok (.iload_n 2, 1) := by decide +kernel
theorem dX6_mend_44 : decode cX6_mend 44 = .ok (.invokevirtual 71, 3) := by decide +kernel
theorem dX6_mend_47 : decode cX6_mend 47 = .ok (.ifCond .eq 6, 3) := by decide +kernel
theorem dX6_mend_50 : decode cX6_mend 50 = .ok (.bipush (-6), 2) := by decide +kernel
theorem dX6_mend_52 : decode cX6_mend 52 = .ok (.ireturn, 1) := by decide +kernel
theorem dX6_mend_53 : decode cX6_mend 53 = .ok (.aload_n 0, 1) := by decide +kernel
theorem dX6_mend_54 : decode cX6_mend 54 = .ok (.iload_n 1, 1) := by decide +kernel
theorem dX6_mend_55 : decode cX6_mend 55 = .ok (.invokevirtual 107, 3) := by decide +kernel
theorem dX6_mend_58 : decode cX6_mend 58 = .ok (.ifCond .ne 6, 3) := by decide +kernel
theorem dX6_mend_61 : decode cX6_mend 61 = .ok (.bipush (-4), 2) := by decide +kernel
theorem dX6_mend_63 : decode cX6_mend 63 = .ok (.ireturn, 1) := by decide +kernel
theorem dX6_mend_64 : decode cX6_mend 64 = .ok (.aload_n 0, 1) := by decide +kernel
theorem dX6_mend_65 : decode cX6_mend 65 = .ok (.iload_n 1, 1) := by decide +kernel
theorem dX6_mend_66 : decode cX6_mend 66 = .ok (.iconst 4, 1) := by decide +kernel
theorem dX6_mend_67 : decode cX6_mend 67 = .ok (.invokevirtual 43, 3) := by decide +kernel
theorem dX6_mend_70 : decode cX6_mend 70 = .ok (.ifCond .ne 6, 3) := by decide +kernel
theorem dX6_mend_73 : decode cX6_mend 73 = .ok (.bipush (-5), 2) := by decide +kernel
theorem dX6_mend_75 : decode cX6_mend 75 = .ok (.ireturn, 1) := by decide +kernel
theorem dX6_mend_76 : decode cX6_mend 76 = .ok (.aload_n 0, 1) := by decide +kernel
theorem dX6_mend_77 : decode cX6_mend 77 = .ok (.invokevirtual 110, 3) := by decide +kernel
theorem dX6_mend_80 : decode cX6_mend 80 = .ok (.aload_n 0, 1) := by decide +kernel
theorem dX6_mend_81 : decode cX6_mend 81 = .ok (.iload_n 1, 1) := by decide +kernel
theorem dX6_mend_82 : decode cX6_mend 82 = .ok (.iconst 4, 1) := by decide +kernel
theorem dX6_mend_83 : decode cX6_mend 83 = .ok (.iconst 0, 1) := by decide +kernel
theorem dX6_mend_84 : decode cX6_mend 84 = .ok (.invokevirtual 74, 3) := by decide +kernel
theorem dX6_mend_87 : decode cX6_mend 87 = .ok (.aload_n 0, 1) := by decide +kernel
theorem dX6_mend_88 : decode cX6_mend 88 = .ok (.iload_n 1, 1) := by decide +kernel
theorem dX6_mend_89 : decode cX6_mend 89 = .ok (.iconst 3, 1) := by decide +kernel
theorem dX6_mend_90 : decode cX6_mend 90 = .ok (.bipush (-5), 2) := by decide +kernel
theorem dX6_mend_92 : decode cX6_mend 92 = .ok (.invokevirtual 74, 3) := by decide +kernel
theorem dX6_mend_95 : decode cX6_mend 95 = .ok (.aload_n 0, 1) := by decide +kernel
theorem dX6_mend_96 : decode cX6_mend 96 = .ok (.invokevirtual 130, 3) := by decide +kernel
theorem dX6_mend_99 : decode cX6_mend 99 = .ok (.pop, 1) := by decide +kernel
theorem dX6_mend_100 : decode cX6_mend 100 = .ok (.aload_n 0, 1) := by decide +kernel
theorem dX6_mend_101 : decode cX6_mend 101 = .ok (.invokevirtual 149, 3) := by decide +kernel
theorem dX6_mend_104 : decode cX6_mend 104 = .ok (.ireturn, 1) := by decide +kernel
set_option maxRecDepth 20000 in
theorem ggX6_inState_X6_of : GoodIn wsX6_inState wsX6_of := goodIn_r _ [6, 1, 7, 8, 9, 10, 11, 12, 13, 14, 15, 16, 17, 18, 19] (by decide +kernel) (by decide +kernel)
set_option maxRecDepth 20000 in
theorem gX6_inState_X6_of : GoodIn wsX6_inState (wsV RX6 43 RX6 yX6_of wsX6_of) := goodIn_app (goodIn_of _ (by decide +kernel)) ggX6_inState_X6_of
theorem dX6_inState_0 : decode cX6_inState 0 = .ok (.iconst 0, 1) := by decide +kernel
theorem dX6_inState_1 : decode cX6_inState 1 = .ok (.istore_n 2, 1) := by decide +kernel
theorem dX6_inState_2 : decode cX6_inState 2 = .ok (.iconst 0, 1) := by decide +kernel
theorem dX6_inState_3 : decode cX6_inState 3 = .ok (.istore_n 3, 1) := by decide +kernel
theorem dX6_inState_4 : decode cX6_inState 4 = .ok (.iload_n 3, 1) := by decide +kernel
theorem dX6_inState_5 : decode cX6_inState 5 = .ok (.aload_n 0, 1) := by decide +kernel
theorem dX6_inState_6 : decode cX6_inState 6 = .ok (.getfield 7, 3) := by decide +kernel
theorem dX6_inState_9 : decode cX6_inState 9 = .ok (.sipush 685, 3) := by decide +kernel
theorem dX6_inState_12 : decode cX6_inState 12 = .ok (.iaload, 1) := by decide +kernel
theorem dX6_inState_13 : decode cX6_inState 13 = .ok (.if_icmp .ge 27, 3) := by decide +kernel
theorem dX6_inState_16 : decode cX6_inState 16 = .ok (.iload_n 2, 1) := by decide +kernel
theorem dX6_inState_17 : decode cX6_inState 17 = .ok (.aload_n 0, 1) := by decide +kernel
theorem dX6_inState_18 : decode cX6_inState 18 = .ok (.iload_n 3, 1) := by decide +kernel
theorem dX6_inState_19 : decode cX6_inState 19 = .ok (.iconst 0, 1) := by decide +kernel
theorem dX6_inState_20 : decode cX6_inState 20 = .ok (.invokevirtual 43, 3) := by decide +kernel
theorem dX6_inState_23 : decode cX6_inState 23 = .ok (.iload_n 1, 1) := by decide +kernel
theorem dX6_inState_24 : decode cX6_inState 24 = .ok (.if_icmp .ne 7, 3) := by decide +kernel
theorem dX6_inState_27 : decode cX6_inState 27 = .ok (.iconst 1, 1) := by decide +kernel
theorem dX6_inState_28 : decode cX6_inState 28 = .ok (.goto 4, 3) := by decide +kernel
theorem dX6_inState_31 : decode cX6_inState 31 = .ok (.iconst 0, 1) := by decide +kernel
theorem dX6_inState_32 : decode cX6_inState 32 = .ok (.iadd, 1) := by decide +kernel
theorem dX6_inState_33 : decode cX6_inState 33 = .ok (.istore_n 2, 1) := by decide +kernel
theorem dX6_inState_34 : decode cX6_inState 34 = .ok (.iinc 3 1, 3) := by decide +kernel
theorem dX6_inState_37 : decode cX6_inState 37 = .ok (.goto (-33), 3) := by decide +kernel
theorem dX6_inState_40 : decode cX6_inState 40 = .ok (.iload_n 2, 1) := by decide +kernel
theorem dX6_inState_41 : decode cX6_inState 41 = .ok (.ireturn, 1) := by decide +kernel
set_option maxRecDepth 20000 in
theorem ggX6_there_X6_inState : GoodIn wsX6_there wsX6_inState := goodIn_r _ [5, 6, 7, 8, 9, 4, 10, 11, 12, 13, 14, 15, 16, 17, 18, 19, 20, 21, 22, 23] (by decide +kernel) (by decide +kernel)
set_option maxRecDepth 20000 in
theorem gX6_there_X6_inState : GoodIn wsX6_there (wsV RX6 155 RX6 yX6_inState wsX6_inState) := goodIn_app (goodIn_of _ (by decide +kernel)) ggX6_there_X6_inState
theorem dX6_there_0 : decode cX6_there 0 = .ok (.aload_n 0, 1) := by decide +kernel
theorem dX6_there_1 : decode cX6_there 1 = .ok (.iconst 0, 1) := by decide +kernel
theorem dX6_there_2 : decode cX6_there 2 = .ok (.invokevirtual 155, 3) := by decide +kernel
theorem dX6_there_5 : decode cX6_there 5 = .ok (.aload_n 0, 1) := by decide +kernel
theorem dX6_there_6 : decode cX6_there 6 = .ok (.iconst 1, 1) := by decide +kernel
theorem dX6_there_7 : decode cX6_there 7 = .ok (.invokevirtual 155, 3) := by decide +kernel
theorem dX6_there_10 : decode cX6_there 10 = .ok (.iadd, 1) := by decide +kernel
theorem dX6_there_11 : decode cX6_there 11 = .ok (.ireturn, 1) := by decide +kernel
theorem dX6_undo_0 : decode cX6_undo 0 = .ok (.aload_n 0, 1) := by decide +kernel
theorem dX6_undo_1 : decode cX6_undo 1 = .ok (.getfield 51, 3) := by decide +kernel
theorem dX6_undo_4 : decode cX6_undo 4 = .ok (.ifCond .ne 6, 3) := by decide +kernel
theorem dX6_undo_7 : decode cX6_undo 7 = .ok (.bipush (-5), 2) := by decide +kernel
theorem dX6_undo_9 : decode cX6_undo 9 = .ok (.ireturn, 1) := by decide +kernel
theorem dX6_undo_10 : decode cX6_undo 10 = .ok (.aload_n 0, 1) := by decide +kernel
theorem dX6_undo_11 : decode cX6_undo 11 = .ok (.dup, 1) := by decide +kernel
theorem dX6_undo_12 : decode cX6_undo 12 = .ok (.getfield 51, 3) := by decide +kernel
theorem dX6_undo_15 : decode cX6_undo 15 = .ok (.iconst 1, 1) := by decide +kernel
theorem dX6_undo_16 : decode cX6_undo 16 = .ok (.isub, 1) := by decide +kernel
theorem dX6_undo_17 : decode cX6_undo 17 = .ok (.putfield 51, 3) := by decide +kernel
theorem dX6_undo_20 : decode cX6_undo 20 = .ok (.iconst 0, 1) := by decide +kernel
theorem dX6_undo_21 : decode cX6_undo 21 = .ok (.istore_n 1, 1) := by decide +kernel
theorem dX6_undo_22 : decode cX6_undo 22 = .ok (.iload_n 1, 1) := by decide +kernel
theorem dX6_undo_23 : decode cX6_undo 23 = .ok (.sipush 689, 3) := by decide +kernel
theorem dX6_undo_26 : decode cX6_undo 26 = .ok (.if_icmp .ge 30, 3) := by decide +kernel
theorem dX6_undo_29 : decode cX6_undo 29 = .ok (.aload_n 0, 1) := by decide +kernel
theorem dX6_undo_30 : decode cX6_undo 30 = .ok (.getfield 7, 3) := by decide +kernel
theorem dX6_undo_33 : decode cX6_undo 33 = .ok (.iload_n 1, 1) := by decide +kernel
theorem dX6_undo_34 : decode cX6_undo 34 = .ok (.aload_n 0, 1) := by decide +kernel
theorem dX6_undo_35 : decode cX6_undo 35 = .ok (.getfield 13, 3) := by decide +kernel
theorem dX6_undo_38 : decode cX6_undo 38 = .ok (.sipush 689, 3) := by decide +kernel
theorem dX6_undo_41 : decode cX6_undo 41 = .ok (.aload_n 0, 1) := by decide +kernel
theorem dX6_undo_42 : decode cX6_undo 42 = .ok (.getfield 51, 3) := by decide +kernel
theorem dX6_undo_45 : decode cX6_undo 45 = .ok (.imul, 1) := by decide +kernel
theorem dX6_undo_46 : decode cX6_undo 46 = .ok (.iload_n 1, 1) := by decide +kernel
theorem dX6_undo_47 : decode cX6_undo 47 = .ok (.iadd, 1) := by decide +kernel
theorem dX6_undo_48 : decode cX6_undo 48 = .ok (.iaload, 1) := by decide +kernel
theorem dX6_undo_49 : decode cX6_undo 49 = .ok (.iastore, 1) := by decide +kernel
theorem dX6_undo_50 : decode cX6_undo 50 = .ok (.iinc 1 1, 3) := by decide +kernel
theorem dX6_undo_53 : decode cX6_undo 53 = .ok (.goto (-31), 3) := by decide +kernel
theorem dX6_undo_56 : decode cX6_undo 56 = .ok (.aload_n 0, 1) := by decide +kernel
theorem dX6_undo_57 : decode cX6_undo 57 = .ok (.getfield 51, 3) := by decide +kernel
theorem dX6_undo_60 : decode cX6_undo 60 = .ok (.ireturn, 1) := by decide +kernel
set_option maxRecDepth 20000 in
theorem ggX6_keep_X6_there : GoodIn wsX6_keep wsX6_there := goodIn_r _ [8, 9, 10, 11, 7, 12, 2, 13, 14, 15, 16, 17, 18, 19, 20, 21, 22, 23, 24, 25, 26, 27, 28, 29] (by decide +kernel) (by decide +kernel)
set_option maxRecDepth 20000 in
theorem gX6_keep_X6_there : GoodIn wsX6_keep (wsV RX6 162 RX6 yX6_there wsX6_there) := goodIn_app (goodIn_of _ (by decide +kernel)) ggX6_keep_X6_there
theorem dX6_keep_0 : decode cX6_keep 0 = .ok (.iconst 0, 1) := by decide +kernel
theorem dX6_keep_1 : decode cX6_keep 1 = .ok (.istore_n 1, 1) := by decide +kernel
theorem dX6_keep_2 : decode cX6_keep 2 = .ok (.iload_n 1, 1) := by decide +kernel
theorem dX6_keep_3 : decode cX6_keep 3 = .ok (.sipush 689, 3) := by decide +kernel
theorem dX6_keep_6 : decode cX6_keep 6 = .ok (.if_icmp .ge 21, 3) := by decide +kernel
theorem dX6_keep_9 : decode cX6_keep 9 = .ok (.aload_n 0, 1) := by decide +kernel
theorem dX6_keep_10 : decode cX6_keep 10 = .ok (.getfield 16, 3) := by decide +kernel
theorem dX6_keep_13 : decode cX6_keep 13 = .ok (.iload_n 1, 1) := by decide +kernel
theorem dX6_keep_14 : decode cX6_keep 14 = .ok (.aload_n 0, 1) := by decide +kernel
theorem dX6_keep_15 : decode cX6_keep 15 = .ok (.getfield 7, 3) := by decide +kernel
theorem dX6_keep_18 : decode cX6_keep 18 = .ok (.iload_n 1, 1) := by decide +kernel
theorem dX6_keep_19 : decode cX6_keep 19 = .ok (.iaload, 1) := by decide +kernel
theorem dX6_keep_20 : decode cX6_keep 20 = .ok (.iastore, 1) := by decide +kernel
theorem dX6_keep_21 : decode cX6_keep 21 = .ok (.iinc 1 1, 3) := by decide +kernel
theorem dX6_keep_24 : decode cX6_keep 24 = .ok (.goto (-22), 3) := by decide +kernel
theorem dX6_keep_27 : decode cX6_keep 27 = .ok (.aload_n 0, 1) := by decide +kernel
theorem dX6_keep_28 : decode cX6_keep 28 = .ok (.iconst 1, 1) := by decide +kernel
theorem dX6_keep_29 : decode cX6_keep 29 = .ok (.putfield 158, 3) := by decide +kernel
theorem dX6_keep_32 : decode cX6_keep 32 = .ok (.aload_n 0, 1) := by decide +kernel
theorem dX6_keep_33 : decode cX6_keep 33 = .ok (.invokevirtual 162, 3) := by decide +kernel
theorem dX6_keep_36 : decode cX6_keep 36 = .ok (.ireturn, 1) := by decide +kernel
set_option maxRecDepth 20000 in
theorem ggX6_restore_X6_record : GoodIn wsX6_restore wsX6_record := goodIn_r _ [8, 9, 10, 2, 23, 24, 25, 26, 27, 28, 29, 30, 31, 32, 33, 34, 35] (by decide +kernel) (by decide +kernel)
set_option maxRecDepth 20000 in
theorem gX6_restore_X6_record : GoodIn wsX6_restore (wsV RX6 110 RX6 yX6_record wsX6_record) := goodIn_app (goodIn_of _ (by decide +kernel)) ggX6_restore_X6_record
set_option maxRecDepth 20000 in
theorem ggX6_restore_X6_there : GoodIn wsX6_restore wsX6_there := goodIn_r _ [14, 15, 16, 17, 7, 18, 2, 19, 20, 21, 22, 23, 24, 25, 26, 27, 28, 29, 30, 31, 32, 33, 34, 35] (by decide +kernel) (by decide +kernel)
set_option maxRecDepth 20000 in
theorem gX6_restore_X6_there : GoodIn wsX6_restore (wsV RX6 162 RX6 yX6_there wsX6_there) := goodIn_app (goodIn_of _ (by decide +kernel)) ggX6_restore_X6_there
theorem dX6_restore_0 : decode cX6_restore 0 = .ok (.aload_n 0, 1) := by decide +kernel
theorem dX6_restore_1 : decode cX6_restore 1 = .ok (.getfield 158, 3) := by decide +kernel
theorem dX6_restore_4 : decode cX6_restore 4 = .ok (.ifCond .ne 6, 3) := by decide +kernel
theorem dX6_restore_7 : decode cX6_restore 7 = .ok (.bipush (-5), 2) := by decide +kernel
theorem dX6_restore_9 : decode cX6_restore 9 = .ok (.ireturn, 1) := by decide +kernel
theorem dX6_restore_10 : decode cX6_restore 10 = .ok (.aload_n 0, 1) := by decide +kernel
theorem dX6_restore_11 : decode cX6_restore 11 = .ok (.invokevirtual 110, 3) := by decide +kernel
theorem dX6_restore_14 : decode cX6_restore 14 = .ok (.iconst 0, 1) := by decide +kernel
theorem dX6_restore_15 : decode cX6_restore 15 = .ok (.istore_n 1, 1) := by decide +kernel
theorem dX6_restore_16 : decode cX6_restore 16 = .ok (.iload_n 1, 1) := by decide +kernel
theorem dX6_restore_17 : decode cX6_restore 17 = .ok (.sipush 689, 3) := by decide +kernel
theorem dX6_restore_20 : decode cX6_restore 20 = .ok (.if_icmp .ge 21, 3) := by decide +kernel
theorem dX6_restore_23 : decode cX6_restore 23 = .ok (.aload_n 0, 1) := by decide +kernel
theorem dX6_restore_24 : decode cX6_restore 24 = .ok (.getfield 7, 3) := by decide +kernel
theorem dX6_restore_27 : decode cX6_restore 27 = .ok (.iload_n 1, 1) := by decide +kernel
theorem dX6_restore_28 : decode cX6_restore 28 = .ok (.aload_n 0, 1) := by decide +kernel
theorem dX6_restore_29 : decode cX6_restore 29 = .ok (.getfield 16, 3) := by decide +kernel
theorem dX6_restore_32 : decode cX6_restore 32 = .ok (.iload_n 1, 1) := by decide +kernel
theorem dX6_restore_33 : decode cX6_restore 33 = .ok (.iaload, 1) := by decide +kernel
theorem dX6_restore_34 : decode cX6_restore 34 = .ok (.iastore, 1) := by decide +kernel
theorem dX6_restore_35 : decode cX6_restore 35 = .ok (.iinc 1 1, 3) := by decide +kernel
theorem dX6_restore_38 : decode cX6_restore 38 = .ok (.goto (-22), 3) := by decide +kernel
theorem dX6_restore_41 : decode cX6_restore 41 = .ok (.aload_n 0, 1) := by decide +kernel
theorem dX6_restore_42 : decode cX6_restore 42 = .ok (.invokevirtual 162, 3) := by decide +kernel
theorem dX6_restore_45 : decode cX6_restore 45 = .ok (.ireturn, 1) := by decide +kernel
set_option maxRecDepth 20000 in
theorem ggX6_read_X6_isKept : GoodIn wsX6_read wsX6_isKept := goodIn_r _ [5, 6, 7, 8, 4, 9, 10, 11, 12, 13, 14, 15, 16, 17, 30, 31, 32, 33, 34, 35, 36, 37, 38, 39, 40, 41, 42] (by decide +kernel) (by decide +kernel)
set_option maxRecDepth 20000 in
theorem gX6_read_X6_isKept : GoodIn wsX6_read (wsV RX6 116 RX6 yX6_isKept wsX6_isKept) := goodIn_app (goodIn_of _ (by decide +kernel)) ggX6_read_X6_isKept
set_option maxRecDepth 20000 in
theorem ggX6_read_X6_in : GoodIn wsX6_read wsX6_in := goodIn_r _ [13] (by decide +kernel) (by decide +kernel)
set_option maxRecDepth 20000 in
theorem gX6_read_X6_in : GoodIn wsX6_read (va_wsS RX6 39 yX6_in wsX6_in) := goodIn_app (goodIn_of _ (by decide +kernel)) ggX6_read_X6_in
set_option maxRecDepth 20000 in
theorem ggX6_read_X6_isBarred : GoodIn wsX6_read wsX6_isBarred := goodIn_r _ [21, 22, 23, 24, 4, 25, 14, 15, 16, 17, 10, 30, 31, 32, 33, 34, 35, 36, 37, 38, 39, 40, 41, 42] (by decide +kernel) (by decide +kernel)
set_option maxRecDepth 20000 in
theorem gX6_read_X6_isBarred : GoodIn wsX6_read (wsV RX6 71 RX6 yX6_isBarred wsX6_isBarred) := goodIn_app (goodIn_of _ (by decide +kernel)) ggX6_read_X6_isBarred
set_option maxRecDepth 20000 in
theorem ggX6_read_X6_field : GoodIn wsX6_read wsX6_field := goodIn_r _ [29, 10, 30, 31, 32, 33, 34, 35, 36, 37, 38, 39, 40, 41, 42] (by decide +kernel) (by decide +kernel)
set_option maxRecDepth 20000 in
theorem gX6_read_X6_field : GoodIn wsX6_read (wsV RX6 55 RX6 yX6_field wsX6_field) := goodIn_app (goodIn_of _ (by decide +kernel)) ggX6_read_X6_field
theorem dX6_read_0 : decode cX6_read 0 = .ok (.aload_n 0, 1) := by decide +kernel
theorem dX6_read_1 : decode cX6_read 1 = .ok (.iload_n 1, 1) := by decide +kernel
theorem dX6_read_2 : decode cX6_read 2 = .ok (.invokevirtual 116, 3) := by decide +kernel
theorem dX6_read_5 : decode cX6_read 5 = .ok (.ifCond .eq 13, 3) := by decide +kernel
theorem dX6_read_8 : decode cX6_read 8 = .ok (.iload_n 2, 1) := by decide +kernel
theorem dX6_read_9 : decode cX6_read 9 = .ok (.iconst 0, 1) := by decide +kernel
theorem dX6_read_10 : decode cX6_read 10 = .ok (.bipush 11, 2) := by decide +kernel
theorem dX6_read_12 : decode cX6_read 12 = .ok (.invokestatic 39, 3) := by decide +kernel
theorem dX6_read_15 : decode cX6_read 15 = .ok (.ifCond .ne 5, 3) := by decide +kernel
theorem dX6_read_18 : decode cX6_read 18 = .ok (.iconst (-1), 1) := by decide +kernel
theorem dX6_read_19 : decode cX6_read 19 = .ok (.ireturn, 1) := by decide +kernel
theorem dX6_read_20 : decode cX6_read 20 = .ok (.aload_n 0, 1) := by decide +kernel
theorem dX6_read_21 : decode cX6_read 21 = .ok (.iload_n 1, 1) := by decide +kernel
theorem dX6_read_22 : decode cX6_read 22 = .ok (.invokevirtual 71, 3) := by decide +kernel
theorem dX6_read_25 : decode cX6_read 25 = .ok (.ifCond .eq 8, 3) := by decide +kernel
theorem dX6_read_28 : decode cX6_read 28 = .ok (.bipush (-6), 2) := by decide +kernel
theorem dX6_read_30 : decode cX6_read 30 = .ok (.goto 9, 3) := by decide +kernel
theorem dX6_read_33 : decode cX6_read 33 = .ok (.aload_n 0, 1) := by decide +kernel
theorem dX6_read_34 : decode cX6_read 34 = .ok (.iload_n 1, 1) := by decide +kernel
theorem dX6_read_35 : decode cX6_read 35 = .ok (.iload_n 2, 1) := by decide +kernel
theorem dX6_read_36 : decode cX6_read 36 = .ok (.invokevirtual 55, 3) := by decide +kernel
theorem dX6_read_39 : decode cX6_read 39 = .ok (.ireturn, 1) := by decide +kernel
set_option maxRecDepth 20000 in
theorem ggX6_version_X6_in : GoodIn wsX6_version wsX6_in := goodIn_r _ [5] (by decide +kernel) (by decide +kernel)
set_option maxRecDepth 20000 in
theorem gX6_version_X6_in : GoodIn wsX6_version (va_wsS RX6 39 yX6_in wsX6_in) := goodIn_app (goodIn_of _ (by decide +kernel)) ggX6_version_X6_in
set_option maxRecDepth 20000 in
theorem ggX6_version_X6_of : GoodIn wsX6_version wsX6_of := goodIn_r _ [9, 1, 34, 35, 36, 37, 38, 39, 40, 41, 42, 43, 44, 45, 46] (by decide +kernel) (by decide +kernel)
set_option maxRecDepth 20000 in
theorem gX6_version_X6_of : GoodIn wsX6_version (wsV RX6 43 RX6 yX6_of wsX6_of) := goodIn_app (goodIn_of _ (by decide +kernel)) ggX6_version_X6_of
set_option maxRecDepth 20000 in
theorem ggX6_version_X6_isThere : GoodIn wsX6_version wsX6_isThere := goodIn_r _ [13, 1, 2, 3, 4, 5, 6, 7, 8, 9, 34, 35, 36, 37, 38, 39, 40, 41, 42, 43, 44, 45, 46] (by decide +kernel) (by decide +kernel)
set_option maxRecDepth 20000 in
theorem gX6_version_X6_isThere : GoodIn wsX6_version (wsV RX6 47 RX6 yX6_isThere wsX6_isThere) := goodIn_app (goodIn_of _ (by decide +kernel)) ggX6_version_X6_isThere
set_option maxRecDepth 20000 in
theorem ggX6_version_X6_steps : GoodIn wsX6_version wsX6_steps := goodIn_r _ [17, 6, 7, 8, 4, 9, 1, 34, 35, 36, 37, 38, 39, 40, 41, 42, 43, 44, 45, 46] (by decide +kernel) (by decide +kernel)
set_option maxRecDepth 20000 in
theorem gX6_version_X6_steps : GoodIn wsX6_version (wsV RX6 65 RX6 yX6_steps wsX6_steps) := goodIn_app (goodIn_of _ (by decide +kernel)) ggX6_version_X6_steps
set_option maxRecDepth 20000 in
theorem ggX6_version_X6_cost : GoodIn wsX6_version wsX6_cost := goodIn_r _ [21, 6, 7, 8, 4, 9, 1, 22, 23, 24, 25, 26, 27, 28, 29, 34, 35, 36, 37, 38, 39, 40, 41, 42, 43, 44, 45, 46] (by decide +kernel) (by decide +kernel)
set_option maxRecDepth 20000 in
theorem gX6_version_X6_cost : GoodIn wsX6_version (wsV RX6 61 RX6 yX6_cost wsX6_cost) := goodIn_app (goodIn_of _ (by decide +kernel)) ggX6_version_X6_cost
set_option maxRecDepth 20000 in
theorem ggX6_version_X6_followers : GoodIn wsX6_version wsX6_followers := goodIn_r _ [33, 1, 10, 11, 12, 4, 13, 2, 3, 5, 6, 7, 8, 9, 34, 35, 36, 37, 38, 39, 40, 41, 42, 43, 44, 45, 46] (by decide +kernel) (by decide +kernel)
set_option maxRecDepth 20000 in
theorem gX6_version_X6_followers : GoodIn wsX6_version (wsV RX6 78 RX6 yX6_followers wsX6_followers) := goodIn_app (goodIn_of _ (by decide +kernel)) ggX6_version_X6_followers
theorem dX6_version_0 : decode cX6_version 0 = .ok (.iload_n 1, 1) := by decide +kernel
theorem dX6_version_1 : decode cX6_version 1 = .ok (.iconst 0, 1) := by decide +kernel
theorem dX6_version_2 : decode cX6_version 2 = .ok (.aload_n 0, 1) := by decide +kernel
theorem dX6_version_3 : decode cX6_version 3 = .ok (.getfield 7, 3) := by decide +kernel
theorem dX6_version_6 : decode cX6_version 6 = .ok (.sipush 685, 3) := by decide +kernel
theorem dX6_version_9 : decode cX6_version 9 = .ok (.iaload, 1) := by decide +kernel
theorem dX6_version_10 : decode cX6_version 10 = .ok (.iconst 1, 1) := by decide +kernel
theorem dX6_version_11 : decode cX6_version 11 = .ok (.isub, 1) := by decide +kernel
theorem dX6_version_12 : decode cX6_version 12 = .ok (.invokestatic 39, 3) := by decide +kernel
theorem dX6_version_15 : decode cX6_version 15 = .ok (.ifCond .ne 5, 3) := by decide +kernel
theorem dX6_version_18 : decode cX6_version 18 = .ok (.iconst (-1), 1) := by decide +kernel
theorem dX6_version_19 : decode cX6_version 19 = .ok (.ireturn, 1) := by decide +kernel
theorem dX6_version_20 : decode cX6_version 20 = .ok (.iload_n 2, 1) := by decide +kernel
theorem dX6_version_21 : decode cX6_version 21 = .ok (.tableswitch 104 0 7 #[47, 47, 47, 47, 54, 73, 91, 97], 47) := by decide +kernel
theorem dX6_version_68 : decode cX6_version 68 = .ok (.aload_n 0, 1) := by decide +kernel
theorem dX6_version_69 : decode cX6_version 69 = .ok (.iload_n 1, 1) := by decide +kernel
theorem dX6_version_70 : decode cX6_version 70 = .ok (.iload_n 2, 1) := by decide +kernel
theorem dX6_version_71 : decode cX6_version 71 = .ok (.invokevirtual 43, 3) := by decide +kernel
theorem dX6_version_74 : decode cX6_version 74 = .ok (.ireturn, 1) := by decide +kernel
theorem dX6_version_75 : decode cX6_version 75 = .ok (.aload_n 0, 1) := by decide +kernel
theorem dX6_version_76 : decode cX6_version 76 = .ok (.iload_n 1, 1) := by decide +kernel
theorem dX6_version_77 : decode cX6_version 77 = .ok (.invokevirtual 47, 3) := by decide +kernel
theorem dX6_version_80 : decode cX6_version 80 = .ok (.ifCond .eq 11, 3) := by decide +kernel
theorem dX6_version_83 : decode cX6_version 83 = .ok (.aload_n 0, 1) := by decide +kernel
theorem dX6_version_84 : decode cX6_version 84 = .ok (.iload_n 1, 1) := by decide +kernel
theorem dX6_version_85 : decode cX6_version 85 = .ok (.invokevirtual 65, 3) := by decide +kernel
theorem dX6_version_88 : decode cX6_version 88 = .ok (.goto 5, 3) := by decide +kernel
theorem dX6_version_91 : decode cX6_version 91 = .ok (.bipush (-5), 2) := by decide +kernel
theorem dX6_version_93 : decode cX6_version 93 = .ok (.ireturn, 1) := by decide +kernel
theorem dX6_version_94 : decode cX6_version 94 = .ok (.aload_n 0, 1) := by decide +kernel
theorem dX6_version_95 : decode cX6_version 95 = .ok (.iload_n 1, 1) := by decide +kernel
theorem dX6_version_96 : decode cX6_version 96 = .ok (.invokevirtual 47, 3) := by decide +kernel
theorem dX6_version_99 : decode cX6_version 99 = .ok (.ifCond .eq 11, 3) := by decide +kernel
theorem dX6_version_102 : decode cX6_version 102 = .ok (.aload_n 0, 1) := by decide +kernel
theorem dX6_version_103 : decode cX6_version 103 = .ok (.iload_n 1, 1) := by decide +kernel
theorem dX6_version_104 : decode cX6_version 104 = .ok (.invokevirtual 61, 3) := by decide +kernel
theorem dX6_version_107 : decode cX6_version 107 = .ok (.goto 4, 3) := by decide +kernel
theorem dX6_version_110 : decode cX6_version 110 = .ok (.iconst 0, 1) := by decide +kernel
theorem dX6_version_111 : decode cX6_version 111 = .ok (.ireturn, 1) := by decide +kernel
theorem dX6_version_112 : decode cX6_version 112 = .ok (.aload_n 0, 1) := by decide +kernel
theorem dX6_version_113 : decode cX6_version 113 = .ok (.iload_n 1, 1) := by decide +kernel
theorem dX6_version_114 : decode cX6_version 114 = .ok (.invokevirtual 78, 3) := by decide +kernel
theorem dX6_version_117 : decode cX6_version 117 = .ok (.ireturn, 1) := by decide +kernel
theorem dX6_version_118 : decode cX6_version 118 = .ok (.aload_n 0, 1) := by decide +kernel
theorem dX6_version_119 : decode cX6_version 119 = .ok (.iload_n 1, 1) := by decide +kernel
theorem dX6_version_120 : decode cX6_version 120 = .ok (.iconst 4, 1) := by decide +kernel
theorem dX6_version_121 : decode cX6_version 121 = .ok (.invokevirtual 43, 3) := by decide +kernel
theorem dX6_version_124 : decode cX6_version 124 = .ok (.ireturn, 1) := by decide +kernel
theorem dX6_version_125 : decode cX6_version 125 = .ok (.bipush (-2), 2) := by decide +kernel
theorem dX6_version_127 : decode cX6_version 127 = .ok (.ireturn, 1) := by decide +kernel
set_option maxRecDepth 20000 in
theorem ggX6_why_X6_noVersion : GoodIn wsX6_why wsX6_noVersion := goodIn_r _ [5, 6, 7, 8, 4, 9, 10, 11, 12, 13, 14, 15, 16, 17, 22, 23, 24, 25, 26, 27, 28, 29, 30, 31, 32, 33, 34] (by decide +kernel) (by decide +kernel)
set_option maxRecDepth 20000 in
theorem gX6_why_X6_noVersion : GoodIn wsX6_why (wsV RX6 133 RX6 yX6_noVersion wsX6_noVersion) := goodIn_app (goodIn_of _ (by decide +kernel)) ggX6_why_X6_noVersion
set_option maxRecDepth 20000 in
theorem ggX6_why_X6_in : GoodIn wsX6_why wsX6_in := goodIn_r _ [13] (by decide +kernel) (by decide +kernel)
set_option maxRecDepth 20000 in
theorem gX6_why_X6_in : GoodIn wsX6_why (va_wsS RX6 39 yX6_in wsX6_in) := goodIn_app (goodIn_of _ (by decide +kernel)) ggX6_why_X6_in
set_option maxRecDepth 20000 in
theorem ggX6_why_X6_blame : GoodIn wsX6_why wsX6_blame := goodIn_r _ [21, 14, 15, 16, 4, 17, 10, 22, 23, 24, 25, 26, 27, 28, 29, 30, 31, 32, 33, 34] (by decide +kernel) (by decide +kernel)
set_option maxRecDepth 20000 in
theorem gX6_why_X6_blame : GoodIn wsX6_why (wsV RX6 68 RX6 yX6_blame wsX6_blame) := goodIn_app (goodIn_of _ (by decide +kernel)) ggX6_why_X6_blame
set_option maxRecDepth 20000 in
theorem ggX6_why_X6_of : GoodIn wsX6_why wsX6_of := goodIn_r _ [17, 10, 22, 23, 24, 25, 26, 27, 28, 29, 30, 31, 32, 33, 34] (by decide +kernel) (by decide +kernel)
set_option maxRecDepth 20000 in
theorem gX6_why_X6_of : GoodIn wsX6_why (wsV RX6 43 RX6 yX6_of wsX6_of) := goodIn_app (goodIn_of _ (by decide +kernel)) ggX6_why_X6_of
theorem dX6_why_0 : decode cX6_why 0 = .ok (.aload_n 0, 1) := by decide +kernel
theorem dX6_why_1 : decode cX6_why 1 = .ok (.iload_n 1, 1) := by decide +kernel
theorem dX6_why_2 : decode cX6_why 2 = .ok (.invokevirtual 133, 3) := by decide +kernel
theorem dX6_why_5 : decode cX6_why 5 = .ok (.ifCond .eq 5, 3) := by decide +kernel
theorem dX6_why_8 : decode cX6_why 8 = .ok (.iconst (-1), 1) := by decide +kernel
theorem dX6_why_9 : decode cX6_why 9 = .ok (.ireturn, 1) := by decide +kernel
theorem dX6_why_10 : decode cX6_why 10 = .ok (.iload_n 2, 1) := by decide +kernel
theorem dX6_why_11 : decode cX6_why 11 = .ok (.iconst 0, 1) := by decide +kernel
theorem dX6_why_12 : decode cX6_why 12 = .ok (.iconst 2, 1) := by decide +kernel
theorem dX6_why_13 : decode cX6_why 13 = .ok (.invokestatic 39, 3) := by decide +kernel
theorem dX6_why_16 : decode cX6_why 16 = .ok (.ifCond .ne 6, 3) := by decide +kernel
theorem dX6_why_19 : decode cX6_why 19 = .ok (.bipush (-2), 2) := by decide +kernel
theorem dX6_why_21 : decode cX6_why 21 = .ok (.ireturn, 1) := by decide +kernel
theorem dX6_why_22 : decode cX6_why 22 = .ok (.aload_n 0, 1) := by decide +kernel
theorem dX6_why_23 : decode cX6_why 23 = .ok (.iload_n 1, 1) := by decide +kernel
theorem dX6_why_24 : decode cX6_why 24 = .ok (.invokevirtual 68, 3) := by decide +kernel
theorem dX6_why_27 : decode cX6_why 27 = .ok (.istore_n 3, 1) := by decide +kernel
theorem dX6_why_28 : decode cX6_why 28 = .ok (.iload_n 3, 1) := by decide +kernel
theorem dX6_why_29 : decode cX6_why 29 = .ok (.bipush (-5), 2) := by decide +kernel
theorem dX6_why_31 : decode cX6_why 31 = .ok (.if_icmp .ne 6, 3) := by decide +kernel
theorem dX6_why_34 : decode cX6_why 34 = .ok (.bipush (-5), 2) := by decide +kernel
theorem dX6_why_36 : decode cX6_why 36 = .ok (.ireturn, 1) := by decide +kernel
theorem dX6_why_37 : decode cX6_why 37 = .ok (.iconst 0, 1) := by decide +kernel
theorem dX6_why_38 : decode cX6_why 38 = .ok (.istore 4, 2) := by decide +kernel
theorem dX6_why_40 : decode cX6_why 40 = .ok (.iconst 0, 1) := by decide +kernel
theorem dX6_why_41 : decode cX6_why 41 = .ok (.istore 5, 2) := by decide +kernel
theorem dX6_why_43 : decode cX6_why 43 = .ok (.iload_n 1, 1) := by decide +kernel
theorem dX6_why_44 : decode cX6_why 44 = .ok (.istore 6, 2) := by decide +kernel
theorem dX6_why_46 : decode cX6_why 46 = .ok (.iload 6, 2) := by decide +kernel
theorem dX6_why_48 : decode cX6_why 48 = .ok (.bipush (-5), 2) := by decide +kernel
theorem dX6_why_50 : decode cX6_why 50 = .ok (.if_icmp .eq 48, 3) := by decide +kernel
theorem dX6_why_53 : decode cX6_why 53 = .ok (.iload 5, 2) := by decide +kernel
theorem dX6_why_55 : decode cX6_why 55 = .ok (.iload 4, 2) := by decide +kernel
theorem dX6_why_57 : decode cX6_why 57 = .ok (.ifCond .ne 13, 3) := by decide +kernel
theorem dX6_why_60 : decode cX6_why 60 = .ok (.iload 6, 2) := by decide +kernel
theorem dX6_why_62 : decode cX6_why 62 = .ok (.iload_n 3, 1) := by decide +kernel
theorem dX6_why_63 : decode cX6_why 63 = .ok (.if_icmp .eq 7, 3) := by decide +kernel
theorem dX6_why_66 : decode cX6_why 66 = .ok (.iconst 1, 1) := by decide +kernel
theorem dX6_why_67 : decode cX6_why 67 = .ok (.goto 4, 3) := by decide +kernel
theorem dX6_why_70 : decode cX6_why 70 = .ok (.iconst 0, 1) := by decide +kernel
theorem dX6_why_71 : decode cX6_why 71 = .ok (.iadd, 1) := by decide +kernel
theorem dX6_why_72 : decode cX6_why 72 = .ok (.istore 5, 2) := by decide +kernel
theorem dX6_why_74 : decode cX6_why 74 = .ok (.iload 4, 2) := by decide +kernel
theorem dX6_why_76 : decode cX6_why 76 = .ok (.aload_n 0, 1) := by decide +kernel
theorem dX6_why_77 : decode cX6_why 77 = .ok (.iload 6, 2) := by decide +kernel
theorem dX6_why_79 : decode cX6_why 79 = .ok (.iconst 4, 1) := by decide +kernel
theorem dX6_why_80 : decode cX6_why 80 = .ok (.invokevirtual 43, 3) := by decide +kernel
theorem dX6_why_83 : decode cX6_why 83 = .ok (.iadd, 1) := by decide +kernel
theorem dX6_why_84 : decode cX6_why 84 = .ok (.istore 4, 2) := by decide +kernel
theorem dX6_why_86 : decode cX6_why 86 = .ok (.aload_n 0, 1) := by decide +kernel
theorem dX6_why_87 : decode cX6_why 87 = .ok (.iload 6, 2) := by decide +kernel
theorem dX6_why_89 : decode cX6_why 89 = .ok (.iconst 3, 1) := by decide +kernel
theorem dX6_why_90 : decode cX6_why 90 = .ok (.invokevirtual 43, 3) := by decide +kernel
theorem dX6_why_93 : decode cX6_why 93 = .ok (.istore 6, 2) := by decide +kernel
theorem dX6_why_95 : decode cX6_why 95 = .ok (.goto (-49), 3) := by decide +kernel
theorem dX6_why_98 : decode cX6_why 98 = .ok (.iload_n 2, 1) := by decide +kernel
theorem dX6_why_99 : decode cX6_why 99 = .ok (.ifCond .ne 7, 3) := by decide +kernel
theorem dX6_why_102 : decode cX6_why 102 = .ok (.iload_n 3, 1) := by decide +kernel
theorem dX6_why_103 : decode cX6_why 103 = .ok (.goto 15, 3) := by decide +kernel
theorem dX6_why_106 : decode cX6_why 106 = .ok (.iload_n 2, 1) := by decide +kernel
theorem dX6_why_107 : decode cX6_why 107 = .ok (.iconst 1, 1) := by decide +kernel
theorem dX6_why_108 : decode cX6_why 108 = .ok (.if_icmp .ne 8, 3) := by decide +kernel
theorem dX6_why_111 : decode cX6_why 111 = .ok (.iload 5, 2) := by decide +kernel
theorem dX6_why_113 : decode cX6_why 113 = .ok (.goto 5, 3) := by decide +kernel
theorem dX6_why_116 : decode cX6_why 116 = .ok (.iload 4, 2) := by decide +kernel
theorem dX6_why_118 : decode cX6_why 118 = .ok (.ireturn, 1) := by decide +kernel
set_option maxRecDepth 20000 in
theorem ggX6_way_X6_noVersion : GoodIn wsX6_way wsX6_noVersion := goodIn_r _ [5, 6, 7, 8, 4, 9, 10, 11, 12, 13, 14, 15, 16, 17, 18, 19, 20, 21, 22, 23, 24, 25, 26, 27, 28, 29, 30] (by decide +kernel) (by decide +kernel)
set_option maxRecDepth 20000 in
theorem gX6_way_X6_noVersion : GoodIn wsX6_way (wsV RX6 133 RX6 yX6_noVersion wsX6_noVersion) := goodIn_app (goodIn_of _ (by decide +kernel)) ggX6_way_X6_noVersion
set_option maxRecDepth 20000 in
theorem ggX6_way_X6_of : GoodIn wsX6_way wsX6_of := goodIn_r _ [17, 10, 18, 19, 20, 21, 22, 23, 24, 25, 26, 27, 28, 29, 30] (by decide +kernel) (by decide +kernel)
set_option maxRecDepth 20000 in
theorem gX6_way_X6_of : GoodIn wsX6_way (wsV RX6 43 RX6 yX6_of wsX6_of) := goodIn_app (goodIn_of _ (by decide +kernel)) ggX6_way_X6_of
theorem dX6_way_0 : decode cX6_way 0 = .ok (.aload_n 0, 1) := by decide +kernel
theorem dX6_way_1 : decode cX6_way 1 = .ok (.iload_n 1, 1) := by decide +kernel
theorem dX6_way_2 : decode cX6_way 2 = .ok (.invokevirtual 133, 3) := by decide +kernel
theorem dX6_way_5 : decode cX6_way 5 = .ok (.ifCond .eq 5, 3) := by decide +kernel
theorem dX6_way_8 : decode cX6_way 8 = .ok (.iconst (-1), 1) := by decide +kernel
theorem dX6_way_9 : decode cX6_way 9 = .ok (.ireturn, 1) := by decide +kernel
theorem dX6_way_10 : decode cX6_way 10 = .ok (.iload_n 2, 1) := by decide +kernel
theorem dX6_way_11 : decode cX6_way 11 = .ok (.ifCond .ge 6, 3) := by decide +kernel
theorem dX6_way_14 : decode cX6_way 14 = .ok (.bipush (-2), 2) := by decide +kernel
theorem dX6_way_16 : decode cX6_way 16 = .ok (.ireturn, 1) := by decide +kernel
theorem dX6_way_17 : decode cX6_way 17 = .ok (.iload_n 1, 1) := by decide +kernel
theorem dX6_way_18 : decode cX6_way 18 = .ok (.istore_n 3, 1) := by decide +kernel
theorem dX6_way_19 : decode cX6_way 19 = .ok (.iconst 0, 1) := by decide +kernel
theorem dX6_way_20 : decode cX6_way 20 = .ok (.istore 4, 2) := by decide +kernel
theorem dX6_way_22 : decode cX6_way 22 = .ok (.iload 4, 2) := by decide +kernel
theorem dX6_way_24 : decode cX6_way 24 = .ok (.iload_n 2, 1) := by decide +kernel
theorem dX6_way_25 : decode cX6_way 25 = .ok (.if_icmp .ge 22, 3) := by decide +kernel
theorem dX6_way_28 : decode cX6_way 28 = .ok (.iload_n 3, 1) := by decide +kernel
theorem dX6_way_29 : decode cX6_way 29 = .ok (.bipush (-5), 2) := by decide +kernel
theorem dX6_way_31 : decode cX6_way 31 = .ok (.if_icmp .eq 16, 3) := by decide +kernel
theorem dX6_way_34 : decode cX6_way 34 = .ok (.aload_n 0, 1) := by decide +kernel
theorem dX6_way_35 : decode cX6_way 35 = .ok (.iload_n 3, 1) := by decide +kernel
theorem dX6_way_36 : decode cX6_way 36 = .ok (.iconst 3, 1) := by decide +kernel
theorem dX6_way_37 : decode cX6_way 37 = .ok (.invokevirtual 43, 3) := by decide +kernel
theorem dX6_way_40 : decode cX6_way 40 = .ok (.istore_n 3, 1) := by decide +kernel
theorem dX6_way_41 : decode cX6_way 41 = .ok (.iinc 4 1, 3) := by decide +kernel
theorem dX6_way_44 : decode cX6_way 44 = .ok (.goto (-22), 3) := by decide +kernel
theorem dX6_way_47 : decode cX6_way 47 = .ok (.iload_n 3, 1) := by decide +kernel
theorem dX6_way_48 : decode cX6_way 48 = .ok (.ireturn, 1) := by decide +kernel
set_option maxRecDepth 20000 in
theorem ggX6_differ_X6_noVersion : GoodIn wsX6_differ wsX6_noVersion := goodIn_r _ [5, 6, 7, 8, 4, 9, 10, 11, 12, 13, 14, 15, 16, 17, 34, 35, 36, 37, 38, 39, 40, 41, 42, 43, 44, 45, 46] (by decide +kernel) (by decide +kernel)
set_option maxRecDepth 20000 in
theorem gX6_differ_X6_noVersion : GoodIn wsX6_differ (wsV RX6 133 RX6 yX6_noVersion wsX6_noVersion) := goodIn_app (goodIn_of _ (by decide +kernel)) ggX6_differ_X6_noVersion
set_option maxRecDepth 20000 in
theorem ggX6_differ_X6_isBarred : GoodIn wsX6_differ wsX6_isBarred := goodIn_r _ [21, 22, 23, 24, 4, 25, 14, 15, 16, 17, 10, 34, 35, 36, 37, 38, 39, 40, 41, 42, 43, 44, 45, 46] (by decide +kernel) (by decide +kernel)
set_option maxRecDepth 20000 in
theorem gX6_differ_X6_isBarred : GoodIn wsX6_differ (wsV RX6 71 RX6 yX6_isBarred wsX6_isBarred) := goodIn_app (goodIn_of _ (by decide +kernel)) ggX6_differ_X6_isBarred
set_option maxRecDepth 20000 in
theorem ggX6_differ_X6_apart : GoodIn wsX6_differ wsX6_apart := goodIn_r _ [29, 30, 31, 32, 4, 33, 10, 34, 35, 36, 37, 38, 39, 40, 41, 42, 43, 44, 45, 46] (by decide +kernel) (by decide +kernel)
set_option maxRecDepth 20000 in
theorem gX6_differ_X6_apart : GoodIn wsX6_differ (wsV RX6 58 RX6 yX6_apart wsX6_apart) := goodIn_app (goodIn_of _ (by decide +kernel)) ggX6_differ_X6_apart
theorem dX6_differ_0 : decode cX6_differ 0 = .ok (.aload_n 0, 1) := by decide +kernel
theorem dX6_differ_1 : decode cX6_differ 1 = .ok (.iload_n 1, 1) := by decide +kernel
theorem dX6_differ_2 : decode cX6_differ 2 = .ok (.invokevirtual 133, 3) := by decide +kernel
theorem dX6_differ_5 : decode cX6_differ 5 = .ok (.ifCond .ne 11, 3) := by decide +kernel
theorem dX6_differ_8 : decode cX6_differ 8 = .ok (.aload_n 0, 1) := by decide +kernel
theorem dX6_differ_9 : decode cX6_differ 9 = .ok (.iload_n 2, 1) := by decide +kernel
theorem dX6_differ_10 : decode cX6_differ 10 = .ok (.invokevirtual 133, 3) := by decide +kernel
theorem dX6_differ_13 : decode cX6_differ 13 = .ok (.ifCond .eq 5, 3) := by decide +kernel
theorem dX6_differ_16 : decode cX6_differ 16 = .ok (.iconst (-1), 1) := by decide +kernel
theorem dX6_differ_17 : decode cX6_differ 17 = .ok (.ireturn, 1) := by decide +kernel
theorem dX6_differ_18 : decode cX6_differ 18 = .ok (.aload_n 0, 1) := by decide +kernel
theorem dX6_differ_19 : decode cX6_differ 19 = .ok (.iload_n 1, 1) := by decide +kernel
theorem dX6_differ_20 : decode cX6_differ 20 = .ok (.invokevirtual 71, 3) := by decide +kernel
theorem dX6_differ_23 : decode cX6_differ 23 = .ok (.ifCond .ne 11, 3) := by decide +kernel
theorem dX6_differ_26 : decode cX6_differ 26 = .ok (.aload_n 0, 1) := by decide +kernel
theorem dX6_differ_27 : decode cX6_differ 27 = .ok (.iload_n 2, 1) := by decide +kernel
theorem dX6_differ_28 : decode cX6_differ 28 = .ok (.invokevirtual 71, 3) := by decide +kernel
theorem dX6_differ_31 : decode cX6_differ 31 = .ok (.ifCond .eq 8, 3) := by decide +kernel
theorem dX6_differ_34 : decode cX6_differ 34 = .ok (.bipush (-6), 2) := by decide +kernel
theorem dX6_differ_36 : decode cX6_differ 36 = .ok (.goto 9, 3) := by decide +kernel
theorem dX6_differ_39 : decode cX6_differ 39 = .ok (.aload_n 0, 1) := by decide +kernel
theorem dX6_differ_40 : decode cX6_differ 40 = .ok (.iload_n 1, 1) := by decide +kernel
theorem dX6_differ_41 : decode cX6_differ 41 = .ok (.iload_n 2, 1) := by decide +kernel
theorem dX6_differ_42 : decode cX6_differ 42 = .ok (.invokevirtual 58, 3) := by decide +kernel
theorem dX6_differ_45 : decode cX6_differ 45 = .ok (.ireturn, 1) := by decide +kernel
set_option maxRecDepth 20000 in
theorem ggX6_bestBase_X6_noVersion : GoodIn wsX6_bestBase wsX6_noVersion := goodIn_r _ [6, 7, 8, 9, 5, 10, 1, 11, 12, 13, 14, 15, 16, 17, 54, 55, 56, 57, 58, 59, 60, 61, 62, 63, 64, 65, 66] (by decide +kernel) (by decide +kernel)
set_option maxRecDepth 20000 in
theorem gX6_bestBase_X6_noVersion : GoodIn wsX6_bestBase (wsV RX6 133 RX6 yX6_noVersion wsX6_noVersion) := goodIn_app (goodIn_of _ (by decide +kernel)) ggX6_bestBase_X6_noVersion
set_option maxRecDepth 20000 in
theorem ggX6_bestBase_X6_isBarred : GoodIn wsX6_bestBase wsX6_isBarred := goodIn_r _ [21, 22, 23, 24, 5, 25, 14, 15, 16, 17, 1, 54, 55, 56, 57, 58, 59, 60, 61, 62, 63, 64, 65, 66] (by decide +kernel) (by decide +kernel)
set_option maxRecDepth 20000 in
theorem gX6_bestBase_X6_isBarred : GoodIn wsX6_bestBase (wsV RX6 71 RX6 yX6_isBarred wsX6_isBarred) := goodIn_app (goodIn_of _ (by decide +kernel)) ggX6_bestBase_X6_isBarred
set_option maxRecDepth 20000 in
theorem ggX6_bestBase_X6_isThere : GoodIn wsX6_bestBase wsX6_isThere := goodIn_r _ [10, 1, 11, 12, 5, 13, 14, 15, 16, 17, 54, 55, 56, 57, 58, 59, 60, 61, 62, 63, 64, 65, 66] (by decide +kernel) (by decide +kernel)
set_option maxRecDepth 20000 in
theorem gX6_bestBase_X6_isThere : GoodIn wsX6_bestBase (wsV RX6 47 RX6 yX6_isThere wsX6_isThere) := goodIn_app (goodIn_of _ (by decide +kernel)) ggX6_bestBase_X6_isThere
set_option maxRecDepth 20000 in
theorem ggX6_bestBase_X6_isOnWay : GoodIn wsX6_bestBase wsX6_isOnWay := goodIn_r _ [29, 14, 15, 16, 5, 17, 1, 54, 55, 56, 57, 58, 59, 60, 61, 62, 63, 64, 65, 66] (by decide +kernel) (by decide +kernel)
set_option maxRecDepth 20000 in
theorem gX6_bestBase_X6_isOnWay : GoodIn wsX6_bestBase (wsV RX6 142 RX6 yX6_isOnWay wsX6_isOnWay) := goodIn_app (goodIn_of _ (by decide +kernel)) ggX6_bestBase_X6_isOnWay
set_option maxRecDepth 20000 in
theorem ggX6_bestBase_X6_apart : GoodIn wsX6_bestBase wsX6_apart := goodIn_r _ [33, 34, 35, 36, 5, 37, 1, 54, 55, 56, 57, 58, 59, 60, 61, 62, 63, 64, 65, 66] (by decide +kernel) (by decide +kernel)
set_option maxRecDepth 20000 in
theorem gX6_bestBase_X6_apart : GoodIn wsX6_bestBase (wsV RX6 58 RX6 yX6_apart wsX6_apart) := goodIn_app (goodIn_of _ (by decide +kernel)) ggX6_bestBase_X6_apart
set_option maxRecDepth 20000 in
theorem ggX6_bestBase_X6_isTooFar : GoodIn wsX6_bestBase wsX6_isTooFar := goodIn_r _ [41, 1, 14, 15, 16, 5, 17, 42, 43, 44, 45, 46, 47, 48, 49, 7, 8, 9, 10, 11, 12, 13, 50, 51, 52, 53, 54, 55, 56, 57, 58, 59, 60, 61, 62, 63, 64, 65, 66] (by decide +kernel) (by decide +kernel)
set_option maxRecDepth 20000 in
theorem gX6_bestBase_X6_isTooFar : GoodIn wsX6_bestBase (wsV RX6 146 RX6 yX6_isTooFar wsX6_isTooFar) := goodIn_app (goodIn_of _ (by decide +kernel)) ggX6_bestBase_X6_isTooFar
theorem dX6_bestBase_0 : decode cX6_bestBase 0 = .ok (.aload_n 0, 1) := by decide +kernel
theorem dX6_bestBase_1 : decode cX6_bestBase 1 = .ok (.iload_n 1, 1) := by decide +kernel
theorem dX6_bestBase_2 : decode cX6_bestBase 2 = .ok (.invokevirtual 133, 3) := by decide +kernel
theorem dX6_bestBase_5 : decode cX6_bestBase 5 = .ok (.ifCond .eq 5, 3) := by decide +kernel
theorem dX6_bestBase_8 : decode cX6_bestBase 8 = .ok (.iconst (-1), 1) := by decide +kernel
theorem dX6_bestBase_9 : decode cX6_bestBase 9 = .ok (.ireturn, 1) := by decide +kernel
theorem dX6_bestBase_10 : decode cX6_bestBase 10 = .ok (.aload_n 0, 1) := by decide +kernel
theorem dX6_bestBase_11 : decode cX6_bestBase 11 = .ok (.iload_n 1, 1) := by decide +kernel
theorem dX6_bestBase_12 : decode cX6_bestBase 12 = .ok (.invokevirtual 71, 3) := by decide +kernel
theorem dX6_bestBase_15 : decode cX6_bestBase 15 = .ok (.ifCond .eq 6, 3) := by decide +kernel
theorem dX6_bestBase_18 : decode cX6_bestBase 18 = .ok (.bipush (-6), 2) := by decide +kernel
theorem dX6_bestBase_20 : decode cX6_bestBase 20 = .ok (.ireturn, 1) := by decide +kernel
theorem dX6_bestBase_21 : decode cX6_bestBase 21 = .ok (.bipush (-5), 2) := by decide +kernel
theorem dX6_bestBase_23 : decode cX6_bestBase 23 = .ok (.istore_n 2, 1) := by decide +kernel
theorem dX6_bestBase_24 : decode cX6_bestBase 24 = .ok (.bipush 6, 2) := by decide +kernel
theorem dX6_bestBase_26 : decode cX6_bestBase 26 = .ok (.istore_n 3, 1) := by decide +kernel
theorem dX6_bestBase_27 : decode cX6_bestBase 27 = .ok (.iconst 0, 1) := by decide +kernel
theorem dX6_bestBase_28 : decode cX6_bestBase 28 = .ok (.istore 4, 2) := by decide +kernel
theorem dX6_bestBase_30 : decode cX6_bestBase 30 = .ok (.iload 4, 2) := by decide +kernel
theorem dX6_bestBase_32 : decode cX6_bestBase 32 = .ok (.aload_n 0, 1) := by decide +kernel
theorem dX6_bestBase_33 : decode cX6_bestBase 33 = .ok (.getfield 7, 3) := by decide +kernel
theorem dX6_bestBase_36 : decode cX6_bestBase 36 = .ok (.sipush 685, 3) := by decide +kernel
theorem dX6_bestBase_39 : decode cX6_bestBase 39 = .ok (.iaload, 1) := by decide +kernel
theorem dX6_bestBase_40 : decode cX6_bestBase 40 = .ok (.if_icmp .ge 81, 3) := by decide +kernel
theorem dX6_bestBase_43 : decode cX6_bestBase 43 = .ok (.aload_n 0, 1) := by decide +kernel
theorem dX6_bestBase_44 : decode cX6_bestBase 44 = .ok (.iload 4, 2) := by decide +kernel
theorem dX6_bestBase_46 : decode cX6_bestBase 46 = .ok (.invokevirtual 47, 3) := by decide +kernel
theorem dX6_bestBase_49 : decode cX6_bestBase 49 = .ok (.ifCond .eq 26, 3) := by decide +kernel
theorem dX6_bestBase_52 : decode cX6_bestBase 52 = .ok (.aload_n 0, 1) := by decide +kernel
theorem dX6_bestBase_53 : decode cX6_bestBase 53 = .ok (.iload 4, 2) := by decide +kernel
theorem dX6_bestBase_55 : decode cX6_bestBase 55 = .ok (.invokevirtual 71, 3) := by decide +kernel
theorem dX6_bestBase_58 : decode cX6_bestBase 58 = .ok (.ifCond .ne 17, 3) := by decide +kernel
theorem dX6_bestBase_61 : decode cX6_bestBase 61 = .ok (.aload_n 0, 1) := by decide +kernel
theorem dX6_bestBase_62 : decode cX6_bestBase 62 = .ok (.iload_n 1, 1) := by decide +kernel
theorem dX6_bestBase_63 : decode cX6_bestBase 63 = .ok (.iload 4, 2) := by decide +kernel
theorem dX6_bestBase_65 : decode cX6_bestBase 65 = .ok (.invokevirtual 142, 3) := by decide +kernel
theorem dX6_bestBase_68 : decode cX6_bestBase 68 = .ok (.ifCond .ne 7, 3) := by decide +kernel
theorem dX6_bestBase_71 : decode cX6_bestBase 71 = .ok (.iconst 1, 1) := by decide +kernel
theorem dX6_bestBase_72 : decode cX6_bestBase 72 = .ok (.goto 4, 3) := by decide +kernel
theorem dX6_bestBase_75 : decode cX6_bestBase 75 = .ok (.iconst 0, 1) := by decide +kernel
theorem dX6_bestBase_76 : decode cX6_bestBase 76 = .ok (.istore 5, 2) := by decide +kernel
theorem dX6_bestBase_78 : decode cX6_bestBase 78 = .ok (.iload 5, 2) := by decide +kernel
theorem dX6_bestBase_80 : decode cX6_bestBase 80 = .ok (.ifCond .eq 35, 3) := by decide +kernel
theorem dX6_bestBase_83 : decode cX6_bestBase 83 = .ok (.aload_n 0, 1) := by decide +kernel
theorem dX6_bestBase_84 : decode cX6_bestBase 84 = .ok (.iload_n 1, 1) := by decide +kernel
theorem dX6_bestBase_85 : decode cX6_bestBase 85 = .ok (.iload 4, 2) := by decide +kernel
theorem dX6_bestBase_87 : decode cX6_bestBase 87 = .ok (.invokevirtual 58, 3) := by decide +kernel
theorem dX6_bestBase_90 : decode cX6_bestBase 90 = .ok (.iload_n 3, 1) := by decide +kernel
theorem dX6_bestBase_91 : decode cX6_bestBase 91 = .ok (.if_icmp .ge 24, 3) := by decide +kernel
theorem dX6_bestBase_94 : decode cX6_bestBase 94 = .ok (.aload_n 0, 1) := by decide +kernel
theorem dX6_bestBase_95 : decode cX6_bestBase 95 = .ok (.iload_n 1, 1) := by decide +kernel
theorem dX6_bestBase_96 : decode cX6_bestBase 96 = .ok (.iload 4, 2) := by decide +kernel
theorem dX6_bestBase_98 : decode cX6_bestBase 98 = .ok (.invokevirtual 146, 3) := by decide +kernel
theorem dX6_bestBase_101 : decode cX6_bestBase 101 = .ok (.ifCond .ne 14, 3) := by decide +kernel
theorem dX6_bestBase_104 : decode cX6_bestBase 104 = .ok (.iload 4, 2) := by decide +kernel
theorem dX6_bestBase_106 : decode cX6_bestBase 106 = .ok (.istore_n 2, 1) := by decide +kernel
theorem dX6_bestBase_107 : decode cX6_bestBase 107 = .ok (.aload_n 0, 1) := by decide +kernel
theorem dX6_bestBase_108 : decode cX6_bestBase 108 = .ok (.iload_n 1, 1) := by decide +kernel
theorem dX6_bestBase_109 : decode cX6_bestBase 109 = .ok (.iload 4, 2) := by decide +kernel
theorem dX6_bestBase_111 : decode cX6_bestBase 111 = .ok (.invokevirtual 58, 3) := by decide +kernel
theorem dX6_bestBase_114 : decode cX6_bestBase 114 = .ok (.istore_n 3, 1) := by decide +kernel
theorem dX6_bestBase_115 : decode cX6_bestBase 115 = .ok (.iinc 4 1, 3) := by decide +kernel
theorem dX6_bestBase_118 : decode cX6_bestBase 118 = .ok (.goto (-88), 3) := by decide +kernel
theorem dX6_bestBase_121 : decode cX6_bestBase 121 = .ok (.iload_n 2, 1) := by decide +kernel
theorem dX6_bestBase_122 : decode cX6_bestBase 122 = .ok (.ireturn, 1) := by decide +kernel
set_option maxRecDepth 20000 in
theorem ggX6_common_X6_noHead : GoodIn wsX6_common wsX6_noHead := goodIn_r _ [5, 6, 7, 8, 4, 9, 40, 41, 42, 43, 44, 45, 46, 47, 48, 49, 50, 51, 52] (by decide +kernel) (by decide +kernel)
set_option maxRecDepth 20000 in
theorem gX6_common_X6_noHead : GoodIn wsX6_common (wsV RX6 98 RX6 yX6_noHead wsX6_noHead) := goodIn_app (goodIn_of _ (by decide +kernel)) ggX6_common_X6_noHead
set_option maxRecDepth 20000 in
theorem ggX6_common_X6_at : GoodIn wsX6_common wsX6_at := goodIn_r _ [13, 6, 40, 41, 42, 43, 44, 45, 46, 47, 48, 49, 50, 51, 52] (by decide +kernel) (by decide +kernel)
set_option maxRecDepth 20000 in
theorem gX6_common_X6_at : GoodIn wsX6_common (wsV RX6 101 RX6 yX6_at wsX6_at) := goodIn_app (goodIn_of _ (by decide +kernel)) ggX6_common_X6_at
set_option maxRecDepth 20000 in
theorem ggX6_common_X6_marks : GoodIn wsX6_common wsX6_marks := goodIn_r _ [17, 18, 19, 6, 20, 21, 22, 4, 23, 40, 41, 42, 43, 44, 45, 46, 47, 48, 49, 50, 51, 52] (by decide +kernel) (by decide +kernel)
set_option maxRecDepth 20000 in
theorem gX6_common_X6_marks : GoodIn wsX6_common (wsV RX6 119 RX6 yX6_marks wsX6_marks) := goodIn_app (goodIn_of _ (by decide +kernel)) ggX6_common_X6_marks
set_option maxRecDepth 20000 in
theorem ggX6_common_X6_shared : GoodIn wsX6_common wsX6_shared := goodIn_r _ [27, 6, 18, 19, 28, 29, 30, 4, 31, 7, 8, 9, 20, 21, 22, 23, 32, 33, 34, 35, 36, 37, 38, 39, 40, 41, 42, 43, 44, 45, 46, 47, 48, 49, 50, 51, 52] (by decide +kernel) (by decide +kernel)
set_option maxRecDepth 20000 in
theorem gX6_common_X6_shared : GoodIn wsX6_common (wsV RX6 123 RX6 yX6_shared wsX6_shared) := goodIn_app (goodIn_of _ (by decide +kernel)) ggX6_common_X6_shared
theorem dX6_common_0 : decode cX6_common 0 = .ok (.aload_n 0, 1) := by decide +kernel
theorem dX6_common_1 : decode cX6_common 1 = .ok (.iload_n 1, 1) := by decide +kernel
theorem dX6_common_2 : decode cX6_common 2 = .ok (.invokevirtual 98, 3) := by decide +kernel
theorem dX6_common_5 : decode cX6_common 5 = .ok (.ifCond .ne 11, 3) := by decide +kernel
theorem dX6_common_8 : decode cX6_common 8 = .ok (.aload_n 0, 1) := by decide +kernel
theorem dX6_common_9 : decode cX6_common 9 = .ok (.iload_n 2, 1) := by decide +kernel
theorem dX6_common_10 : decode cX6_common 10 = .ok (.invokevirtual 98, 3) := by decide +kernel
theorem dX6_common_13 : decode cX6_common 13 = .ok (.ifCond .eq 5, 3) := by decide +kernel
theorem dX6_common_16 : decode cX6_common 16 = .ok (.iconst (-1), 1) := by decide +kernel
theorem dX6_common_17 : decode cX6_common 17 = .ok (.ireturn, 1) := by decide +kernel
theorem dX6_common_18 : decode cX6_common 18 = .ok (.aload_n 0, 1) := by decide +kernel
theorem dX6_common_19 : decode cX6_common 19 = .ok (.aload_n 0, 1) := by decide +kernel
theorem dX6_common_20 : decode cX6_common 20 = .ok (.iload_n 1, 1) := by decide +kernel
theorem dX6_common_21 : decode cX6_common 21 = .ok (.invokevirtual 101, 3) := by decide +kernel
theorem dX6_common_24 : decode cX6_common 24 = .ok (.aload_n 0, 1) := by decide +kernel
theorem dX6_common_25 : decode cX6_common 25 = .ok (.iload_n 2, 1) := by decide +kernel
theorem dX6_common_26 : decode cX6_common 26 = .ok (.invokevirtual 101, 3) := by decide +kernel
theorem dX6_common_29 : decode cX6_common 29 = .ok (.invokevirtual 119, 3) := by decide +kernel
theorem dX6_common_32 : decode cX6_common 32 = .ok (.aload_n 0, 1) := by decide +kernel
theorem dX6_common_33 : decode cX6_common 33 = .ok (.invokevirtual 123, 3) := by decide +kernel
theorem dX6_common_36 : decode cX6_common 36 = .ok (.ireturn, 1) := by decide +kernel
set_option maxRecDepth 20000 in
theorem ggX6_head_X6_noHead : GoodIn wsX6_head wsX6_noHead := goodIn_r _ [5, 6, 7, 8, 4, 9, 14, 15, 16, 17, 18, 19, 20, 21, 22, 23, 24, 25, 26] (by decide +kernel) (by decide +kernel)
set_option maxRecDepth 20000 in
theorem gX6_head_X6_noHead : GoodIn wsX6_head (wsV RX6 98 RX6 yX6_noHead wsX6_noHead) := goodIn_app (goodIn_of _ (by decide +kernel)) ggX6_head_X6_noHead
set_option maxRecDepth 20000 in
theorem ggX6_head_X6_at : GoodIn wsX6_head wsX6_at := goodIn_r _ [13, 6, 14, 15, 16, 17, 18, 19, 20, 21, 22, 23, 24, 25, 26] (by decide +kernel) (by decide +kernel)
set_option maxRecDepth 20000 in
theorem gX6_head_X6_at : GoodIn wsX6_head (wsV RX6 101 RX6 yX6_at wsX6_at) := goodIn_app (goodIn_of _ (by decide +kernel)) ggX6_head_X6_at
theorem dX6_head_0 : decode cX6_head 0 = .ok (.aload_n 0, 1) := by decide +kernel
theorem dX6_head_1 : decode cX6_head 1 = .ok (.iload_n 1, 1) := by decide +kernel
theorem dX6_head_2 : decode cX6_head 2 = .ok (.invokevirtual 98, 3) := by decide +kernel
theorem dX6_head_5 : decode cX6_head 5 = .ok (.ifCond .eq 7, 3) := by decide +kernel
theorem dX6_head_8 : decode cX6_head 8 = .ok (.iconst (-1), 1) := by decide +kernel
theorem dX6_head_9 : decode cX6_head 9 = .ok (.goto 8, 3) := by decide +kernel
theorem dX6_head_12 : decode cX6_head 12 = .ok (.aload_n 0, 1) := by decide +kernel
theorem dX6_head_13 : decode cX6_head 13 = .ok (.iload_n 1, 1) := by decide +kernel
theorem dX6_head_14 : decode cX6_head 14 = .ok (.invokevirtual 101, 3) := by decide +kernel
theorem dX6_head_17 : decode cX6_head 17 = .ok (.ireturn, 1) := by decide +kernel
set_option maxRecDepth 20000 in
theorem ggX6_whole_X6_isThere : GoodIn wsX6_whole wsX6_isThere := goodIn_r _ [6, 1, 7, 8, 5, 9, 10, 11, 12, 13, 14, 15, 16, 17, 18, 19, 20, 21, 22, 23, 24, 25, 26] (by decide +kernel) (by decide +kernel)
set_option maxRecDepth 20000 in
theorem gX6_whole_X6_isThere : GoodIn wsX6_whole (wsV RX6 47 RX6 yX6_isThere wsX6_isThere) := goodIn_app (goodIn_of _ (by decide +kernel)) ggX6_whole_X6_isThere
set_option maxRecDepth 20000 in
theorem ggX6_whole_X6_of : GoodIn wsX6_whole wsX6_of := goodIn_r _ [13, 1, 14, 15, 16, 17, 18, 19, 20, 21, 22, 23, 24, 25, 26] (by decide +kernel) (by decide +kernel)
set_option maxRecDepth 20000 in
theorem gX6_whole_X6_of : GoodIn wsX6_whole (wsV RX6 43 RX6 yX6_of wsX6_of) := goodIn_app (goodIn_of _ (by decide +kernel)) ggX6_whole_X6_of
theorem dX6_whole_0 : decode cX6_whole 0 = .ok (.iconst 0, 1) := by decide +kernel
theorem dX6_whole_1 : decode cX6_whole 1 = .ok (.istore_n 1, 1) := by decide +kernel
theorem dX6_whole_2 : decode cX6_whole 2 = .ok (.iconst 0, 1) := by decide +kernel
theorem dX6_whole_3 : decode cX6_whole 3 = .ok (.istore_n 2, 1) := by decide +kernel
theorem dX6_whole_4 : decode cX6_whole 4 = .ok (.iload_n 2, 1) := by decide +kernel
theorem dX6_whole_5 : decode cX6_whole 5 = .ok (.aload_n 0, 1) := by decide +kernel
theorem dX6_whole_6 : decode cX6_whole 6 = .ok (.getfield 7, 3) := by decide +kernel
theorem dX6_whole_9 : decode cX6_whole 9 = .ok (.sipush 685, 3) := by decide +kernel
theorem dX6_whole_12 : decode cX6_whole 12 = .ok (.iaload, 1) := by decide +kernel
theorem dX6_whole_13 : decode cX6_whole 13 = .ok (.if_icmp .ge 36, 3) := by decide +kernel
theorem dX6_whole_16 : decode cX6_whole 16 = .ok (.iload_n 1, 1) := by decide +kernel
theorem dX6_whole_17 : decode cX6_whole 17 = .ok (.aload_n 0, 1) := by decide +kernel
theorem dX6_whole_18 : decode cX6_whole 18 = .ok (.iload_n 2, 1) := by decide +kernel
theorem dX6_whole_19 : decode cX6_whole 19 = .ok (.invokevirtual 47, 3) := by decide +kernel
theorem dX6_whole_22 : decode cX6_whole 22 = .ok (.ifCond .eq 18, 3) := by decide +kernel
theorem dX6_whole_25 : decode cX6_whole 25 = .ok (.aload_n 0, 1) := by decide +kernel
theorem dX6_whole_26 : decode cX6_whole 26 = .ok (.iload_n 2, 1) := by decide +kernel
theorem dX6_whole_27 : decode cX6_whole 27 = .ok (.iconst 3, 1) := by decide +kernel
theorem dX6_whole_28 : decode cX6_whole 28 = .ok (.invokevirtual 43, 3) := by decide +kernel
theorem dX6_whole_31 : decode cX6_whole 31 = .ok (.bipush (-5), 2) := by decide +kernel
theorem dX6_whole_33 : decode cX6_whole 33 = .ok (.if_icmp .ne 7, 3) := by decide +kernel
theorem dX6_whole_36 : decode cX6_whole 36 = .ok (.iconst 1, 1) := by decide +kernel
theorem dX6_whole_37 : decode cX6_whole 37 = .ok (.goto 4, 3) := by decide +kernel
theorem dX6_whole_40 : decode cX6_whole 40 = .ok (.iconst 0, 1) := by decide +kernel
theorem dX6_whole_41 : decode cX6_whole 41 = .ok (.iadd, 1) := by decide +kernel
theorem dX6_whole_42 : decode cX6_whole 42 = .ok (.istore_n 1, 1) := by decide +kernel
theorem dX6_whole_43 : decode cX6_whole 43 = .ok (.iinc 2 1, 3) := by decide +kernel
theorem dX6_whole_46 : decode cX6_whole 46 = .ok (.goto (-42), 3) := by decide +kernel
theorem dX6_whole_49 : decode cX6_whole 49 = .ok (.iload_n 1, 1) := by decide +kernel
theorem dX6_whole_50 : decode cX6_whole 50 = .ok (.ireturn, 1) := by decide +kernel
set_option maxRecDepth 20000 in
theorem ggX6_count_X6_inState : GoodIn wsX6_count wsX6_inState := goodIn_r _ [8, 1, 9, 10, 11, 7, 12, 60, 61, 62, 63, 64, 65, 66, 67, 68, 69, 70, 71, 72] (by decide +kernel) (by decide +kernel)
set_option maxRecDepth 20000 in
theorem gX6_count_X6_inState : GoodIn wsX6_count (wsV RX6 155 RX6 yX6_inState wsX6_inState) := goodIn_app (goodIn_of _ (by decide +kernel)) ggX6_count_X6_inState
set_option maxRecDepth 20000 in
theorem ggX6_count_X6_allCosts : GoodIn wsX6_count wsX6_allCosts := goodIn_r _ [16, 1, 17, 18, 19, 7, 20, 21, 22, 23, 9, 10, 11, 12, 24, 25, 26, 27, 28, 29, 30, 31, 32, 33, 34, 35, 60, 61, 62, 63, 64, 65, 66, 67, 68, 69, 70, 71, 72] (by decide +kernel) (by decide +kernel)
set_option maxRecDepth 20000 in
theorem gX6_count_X6_allCosts : GoodIn wsX6_count (wsV RX6 136 RX6 yX6_allCosts wsX6_allCosts) := goodIn_app (goodIn_of _ (by decide +kernel)) ggX6_count_X6_allCosts
set_option maxRecDepth 20000 in
theorem ggX6_count_X6_whole : GoodIn wsX6_count wsX6_whole := goodIn_r _ [39, 1, 17, 18, 19, 7, 20, 21, 22, 23, 9, 10, 11, 12, 60, 61, 62, 63, 64, 65, 66, 67, 68, 69, 70, 71, 72] (by decide +kernel) (by decide +kernel)
set_option maxRecDepth 20000 in
theorem gX6_count_X6_whole : GoodIn wsX6_count (wsV RX6 165 RX6 yX6_whole wsX6_whole) := goodIn_app (goodIn_of _ (by decide +kernel)) ggX6_count_X6_whole
set_option maxRecDepth 20000 in
theorem ggX6_count_X6_mostSteps : GoodIn wsX6_count wsX6_mostSteps := goodIn_r _ [43, 1, 17, 18, 19, 7, 20, 21, 22, 23, 9, 10, 11, 12, 44, 45, 46, 47, 60, 61, 62, 63, 64, 65, 66, 67, 68, 69, 70, 71, 72] (by decide +kernel) (by decide +kernel)
set_option maxRecDepth 20000 in
theorem gX6_count_X6_mostSteps : GoodIn wsX6_count (wsV RX6 139 RX6 yX6_mostSteps wsX6_mostSteps) := goodIn_app (goodIn_of _ (by decide +kernel)) ggX6_count_X6_mostSteps
set_option maxRecDepth 20000 in
theorem ggX6_count_X6_barred : GoodIn wsX6_count wsX6_barred := goodIn_r _ [51, 1, 17, 18, 19, 7, 20, 21, 22, 23, 9, 10, 11, 12, 52, 53, 54, 55, 56, 57, 58, 59, 60, 61, 62, 63, 64, 65, 66, 67, 68, 69, 70, 71, 72] (by decide +kernel) (by decide +kernel)
set_option maxRecDepth 20000 in
theorem gX6_count_X6_barred : GoodIn wsX6_count (wsV RX6 149 RX6 yX6_barred wsX6_barred) := goodIn_app (goodIn_of _ (by decide +kernel)) ggX6_count_X6_barred
theorem dX6_count_0 : decode cX6_count 0 = .ok (.iload_n 1, 1) := by decide +kernel
theorem dX6_count_1 : decode cX6_count 1 = .ok (.tableswitch 154 0 13 #[71, 80, 80, 80, 88, 97, 106, 111, 116, 121, 126, 135, 144, 149], 71) := by decide +kernel
theorem dX6_count_72 : decode cX6_count 72 = .ok (.aload_n 0, 1) := by decide +kernel
theorem dX6_count_73 : decode cX6_count 73 = .ok (.getfield 7, 3) := by decide +kernel
theorem dX6_count_76 : decode cX6_count 76 = .ok (.sipush 685, 3) := by decide +kernel
theorem dX6_count_79 : decode cX6_count 79 = .ok (.iaload, 1) := by decide +kernel
theorem dX6_count_80 : decode cX6_count 80 = .ok (.ireturn, 1) := by decide +kernel
theorem dX6_count_81 : decode cX6_count 81 = .ok (.aload_n 0, 1) := by decide +kernel
theorem dX6_count_82 : decode cX6_count 82 = .ok (.iload_n 1, 1) := by decide +kernel
theorem dX6_count_83 : decode cX6_count 83 = .ok (.iconst 1, 1) := by decide +kernel
theorem dX6_count_84 : decode cX6_count 84 = .ok (.isub, 1) := by decide +kernel
theorem dX6_count_85 : decode cX6_count 85 = .ok (.invokevirtual 155, 3) := by decide +kernel
theorem dX6_count_88 : decode cX6_count 88 = .ok (.ireturn, 1) := by decide +kernel
theorem dX6_count_89 : decode cX6_count 89 = .ok (.aload_n 0, 1) := by decide +kernel
theorem dX6_count_90 : decode cX6_count 90 = .ok (.getfield 7, 3) := by decide +kernel
theorem dX6_count_93 : decode cX6_count 93 = .ok (.sipush 684, 3) := by decide +kernel
theorem dX6_count_96 : decode cX6_count 96 = .ok (.iaload, 1) := by decide +kernel
theorem dX6_count_97 : decode cX6_count 97 = .ok (.ireturn, 1) := by decide +kernel
theorem dX6_count_98 : decode cX6_count 98 = .ok (.aload_n 0, 1) := by decide +kernel
theorem dX6_count_99 : decode cX6_count 99 = .ok (.getfield 7, 3) := by decide +kernel
theorem dX6_count_102 : decode cX6_count 102 = .ok (.sipush 686, 3) := by decide +kernel
theorem dX6_count_105 : decode cX6_count 105 = .ok (.iaload, 1) := by decide +kernel
theorem dX6_count_106 : decode cX6_count 106 = .ok (.ireturn, 1) := by decide +kernel
theorem dX6_count_107 : decode cX6_count 107 = .ok (.aload_n 0, 1) := by decide +kernel
theorem dX6_count_108 : decode cX6_count 108 = .ok (.invokevirtual 136, 3) := by decide +kernel
theorem dX6_count_111 : decode cX6_count 111 = .ok (.ireturn, 1) := by decide +kernel
theorem dX6_count_112 : decode cX6_count 112 = .ok (.aload_n 0, 1) := by decide +kernel
theorem dX6_count_113 : decode cX6_count 113 = .ok (.invokevirtual 165, 3) := by decide +kernel
theorem dX6_count_116 : decode cX6_count 116 = .ok (.ireturn, 1) := by decide +kernel
theorem dX6_count_117 : decode cX6_count 117 = .ok (.aload_n 0, 1) := by decide +kernel
theorem dX6_count_118 : decode cX6_count 118 = .ok (.invokevirtual 139, 3) := by decide +kernel
theorem dX6_count_121 : decode cX6_count 121 = .ok (.ireturn, 1) := by decide +kernel
theorem dX6_count_122 : decode cX6_count 122 = .ok (.aload_n 0, 1) := by decide +kernel
theorem dX6_count_123 : decode cX6_count 123 = .ok (.invokevirtual 149, 3) := by decide +kernel
theorem dX6_count_126 : decode cX6_count 126 = .ok (.ireturn, 1) := by decide +kernel
theorem dX6_count_127 : decode cX6_count 127 = .ok (.aload_n 0, 1) := by decide +kernel
theorem dX6_count_128 : decode cX6_count 128 = .ok (.getfield 7, 3) := by decide +kernel
theorem dX6_count_131 : decode cX6_count 131 = .ok (.sipush 687, 3) := by decide +kernel
theorem dX6_count_134 : decode cX6_count 134 = .ok (.iaload, 1) := by decide +kernel
theorem dX6_count_135 : decode cX6_count 135 = .ok (.ireturn, 1) := by decide +kernel
theorem dX6_count_136 : decode cX6_count 136 = .ok (.aload_n 0, 1) := by decide +kernel
theorem dX6_count_137 : decode cX6_count 137 = .ok (.getfield 7, 3) := by decide +kernel
theorem dX6_count_140 : decode cX6_count 140 = .ok (.sipush 688, 3) := by decide +kernel
theorem dX6_count_143 : decode cX6_count 143 = .ok (.iaload, 1) := by decide +kernel
theorem dX6_count_144 : decode cX6_count 144 = .ok (.ireturn, 1) := by decide +kernel
theorem dX6_count_145 : decode cX6_count 145 = .ok (.aload_n 0, 1) := by decide +kernel
theorem dX6_count_146 : decode cX6_count 146 = .ok (.getfield 51, 3) := by decide +kernel
theorem dX6_count_149 : decode cX6_count 149 = .ok (.ireturn, 1) := by decide +kernel
theorem dX6_count_150 : decode cX6_count 150 = .ok (.aload_n 0, 1) := by decide +kernel
theorem dX6_count_151 : decode cX6_count 151 = .ok (.getfield 85, 3) := by decide +kernel
theorem dX6_count_154 : decode cX6_count 154 = .ok (.ireturn, 1) := by decide +kernel
theorem dX6_count_155 : decode cX6_count 155 = .ok (.bipush (-2), 2) := by decide +kernel
theorem dX6_count_157 : decode cX6_count 157 = .ok (.ireturn, 1) := by decide +kernel

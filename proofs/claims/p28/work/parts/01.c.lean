theorem dX0_init_0 : decode cX0_init 0 = .ok (.aload_n 0, 1) := by decide +kernel
theorem dX0_init_1 : decode cX0_init 1 = .ok (.invokespecial 3, 3) := by decide +kernel
theorem dX0_init_4 : decode cX0_init 4 = .ok (.aload_n 0, 1) := by decide +kernel
theorem dX0_init_5 : decode cX0_init 5 = .ok (.bipush 60, 2) := by decide +kernel
theorem dX0_init_7 : decode cX0_init 7 = .ok (.newarray .char, 2) := by decide +kernel
theorem dX0_init_9 : decode cX0_init 9 = .ok (.putfield 9, 3) := by decide +kernel
theorem dX0_init_12 : decode cX0_init 12 = .ok (.aload_n 0, 1) := by decide +kernel
theorem dX0_init_13 : decode cX0_init 13 = .ok (.bipush 12, 2) := by decide +kernel
theorem dX0_init_15 : decode cX0_init 15 = .ok (.newarray .int, 2) := by decide +kernel
theorem dX0_init_17 : decode cX0_init 17 = .ok (.putfield 15, 3) := by decide +kernel
theorem dX0_init_20 : decode cX0_init 20 = .ok (.aload_n 0, 1) := by decide +kernel
theorem dX0_init_21 : decode cX0_init 21 = .ok (.iconst 0, 1) := by decide +kernel
theorem dX0_init_22 : decode cX0_init 22 = .ok (.putfield 19, 3) := by decide +kernel
theorem dX0_init_25 : decode cX0_init 25 = .ok (.aload_n 0, 1) := by decide +kernel
theorem dX0_init_26 : decode cX0_init 26 = .ok (.iconst 0, 1) := by decide +kernel
theorem dX0_init_27 : decode cX0_init 27 = .ok (.putfield 23, 3) := by decide +kernel
theorem dX0_init_30 : decode cX0_init 30 = .ok (.return_, 1) := by decide +kernel
theorem dX0_append_0 : decode cX0_append 0 = .ok (.aload_n 0, 1) := by decide +kernel
theorem dX0_append_1 : decode cX0_append 1 = .ok (.getfield 23, 3) := by decide +kernel
theorem dX0_append_4 : decode cX0_append 4 = .ok (.ifCond .lt 32, 3) := by decide +kernel
theorem dX0_append_7 : decode cX0_append 7 = .ok (.aload_n 0, 1) := by decide +kernel
theorem dX0_append_8 : decode cX0_append 8 = .ok (.getfield 23, 3) := by decide +kernel
theorem dX0_append_11 : decode cX0_append 11 = .ok (.bipush 60, 2) := by decide +kernel
theorem dX0_append_13 : decode cX0_append 13 = .ok (.if_icmp .ge 23, 3) := by decide +kernel
theorem dX0_append_16 : decode cX0_append 16 = .ok (.aload_n 0, 1) := by decide +kernel
theorem dX0_append_17 : decode cX0_append 17 = .ok (.getfield 9, 3) := by decide +kernel
theorem dX0_append_20 : decode cX0_append 20 = .ok (.aload_n 0, 1) := by decide +kernel
theorem dX0_append_21 : decode cX0_append 21 = .ok (.getfield 23, 3) := by decide +kernel
theorem dX0_append_24 : decode cX0_append 24 = .ok (.iload_n 1, 1) := by decide +kernel
theorem dX0_append_25 : decode cX0_append 25 = .ok (.castore, 1) := by decide +kernel
theorem dX0_append_26 : decode cX0_append 26 = .ok (.aload_n 0, 1) := by decide +kernel
theorem dX0_append_27 : decode cX0_append 27 = .ok (.dup, 1) := by decide +kernel
theorem dX0_append_28 : decode cX0_append 28 = .ok (.getfield 23, 3) := by decide +kernel
theorem dX0_append_31 : decode cX0_append 31 = .ok (.iconst 1, 1) := by decide +kernel
theorem dX0_append_32 : decode cX0_append 32 = .ok (.iadd, 1) := by decide +kernel
theorem dX0_append_33 : decode cX0_append 33 = .ok (.putfield 23, 3) := by decide +kernel
theorem dX0_append_36 : decode cX0_append 36 = .ok (.return_, 1) := by decide +kernel
theorem dX0_empty_0 : decode cX0_empty 0 = .ok (.aload_n 0, 1) := by decide +kernel
theorem dX0_empty_1 : decode cX0_empty 1 = .ok (.getfield 23, 3) := by decide +kernel
theorem dX0_empty_4 : decode cX0_empty 4 = .ok (.istore_n 1, 1) := by decide +kernel
theorem dX0_empty_5 : decode cX0_empty 5 = .ok (.aload_n 0, 1) := by decide +kernel
theorem dX0_empty_6 : decode cX0_empty 6 = .ok (.iconst 0, 1) := by decide +kernel
theorem dX0_empty_7 : decode cX0_empty 7 = .ok (.putfield 23, 3) := by decide +kernel
theorem dX0_empty_10 : decode cX0_empty 10 = .ok (.iload_n 1, 1) := by decide +kernel
theorem dX0_empty_11 : decode cX0_empty 11 = .ok (.ireturn, 1) := by decide +kernel
set_option maxRecDepth 20000 in
theorem ggX0_readEdits_J7_fill_53178 : GoodIn wsX0_readEdits wsJ7_fill_53178 := goodIn_r _ [7] (by decide +kernel) (by decide +kernel)
set_option maxRecDepth 20000 in
theorem gX0_readEdits_J7_fill_53178 : GoodIn wsX0_readEdits (va_wsS RX0 26 yJ7_fill_53178 wsJ7_fill_53178) := goodIn_app (goodIn_of _ (by decide +kernel)) ggX0_readEdits_J7_fill_53178
set_option maxRecDepth 20000 in
theorem ggX0_readEdits_X0_readsEdit : GoodIn wsX0_readEdits wsX0_readsEdit := goodIn_r _ [12, 1, 13, 14, 15, 11, 16, 2, 17, 18, 19, 20, 3, 21, 22, 23, 24, 25, 26, 27, 28, 29] (by decide +kernel) (by decide +kernel)
set_option maxRecDepth 20000 in
theorem gX0_readEdits_X0_readsEdit : GoodIn wsX0_readEdits (wsV RX0 32 RX0 yX0_readsEdit wsX0_readsEdit) := goodIn_app (goodIn_of _ (by decide +kernel)) ggX0_readEdits_X0_readsEdit
set_option maxRecDepth 20000 in
theorem ggX0_readEdits_X0_reads : GoodIn wsX0_readEdits wsX0_reads := goodIn_r _ [25, 2, 3, 21, 26, 27, 28, 29] (by decide +kernel) (by decide +kernel)
set_option maxRecDepth 20000 in
theorem gX0_readEdits_X0_reads : GoodIn wsX0_readEdits (wsV RX0 36 RX0 yX0_reads wsX0_reads) := goodIn_app (goodIn_of _ (by decide +kernel)) ggX0_readEdits_X0_reads
theorem dX0_readEdits_0 : decode cX0_readEdits 0 = .ok (.aload_n 0, 1) := by decide +kernel
theorem dX0_readEdits_1 : decode cX0_readEdits 1 = .ok (.getfield 15, 3) := by decide +kernel
theorem dX0_readEdits_4 : decode cX0_readEdits 4 = .ok (.bipush (-5), 2) := by decide +kernel
theorem dX0_readEdits_6 : decode cX0_readEdits 6 = .ok (.invokestatic 26, 3) := by decide +kernel
theorem dX0_readEdits_9 : decode cX0_readEdits 9 = .ok (.aload_n 0, 1) := by decide +kernel
theorem dX0_readEdits_10 : decode cX0_readEdits 10 = .ok (.iconst 0, 1) := by decide +kernel
theorem dX0_readEdits_11 : decode cX0_readEdits 11 = .ok (.putfield 19, 3) := by decide +kernel
theorem dX0_readEdits_14 : decode cX0_readEdits 14 = .ok (.iconst 0, 1) := by decide +kernel
theorem dX0_readEdits_15 : decode cX0_readEdits 15 = .ok (.istore_n 1, 1) := by decide +kernel
theorem dX0_readEdits_16 : decode cX0_readEdits 16 = .ok (.iload_n 1, 1) := by decide +kernel
theorem dX0_readEdits_17 : decode cX0_readEdits 17 = .ok (.bipush 60, 2) := by decide +kernel
theorem dX0_readEdits_19 : decode cX0_readEdits 19 = .ok (.if_icmp .ge 49, 3) := by decide +kernel
theorem dX0_readEdits_22 : decode cX0_readEdits 22 = .ok (.aload_n 0, 1) := by decide +kernel
theorem dX0_readEdits_23 : decode cX0_readEdits 23 = .ok (.invokevirtual 32, 3) := by decide +kernel
theorem dX0_readEdits_26 : decode cX0_readEdits 26 = .ok (.ifCond .ne 8, 3) := by decide +kernel
theorem dX0_readEdits_29 : decode cX0_readEdits 29 = .ok (.aload_n 0, 1) := by decide +kernel
theorem dX0_readEdits_30 : decode cX0_readEdits 30 = .ok (.getfield 19, 3) := by decide +kernel
theorem dX0_readEdits_33 : decode cX0_readEdits 33 = .ok (.ireturn, 1) := by decide +kernel
theorem dX0_readEdits_34 : decode cX0_readEdits 34 = .ok (.aload_n 0, 1) := by decide +kernel
theorem dX0_readEdits_35 : decode cX0_readEdits 35 = .ok (.getfield 19, 3) := by decide +kernel
theorem dX0_readEdits_38 : decode cX0_readEdits 38 = .ok (.aload_n 0, 1) := by decide +kernel
theorem dX0_readEdits_39 : decode cX0_readEdits 39 = .ok (.getfield 23, 3) := by decide +kernel
theorem dX0_readEdits_42 : decode cX0_readEdits 42 = .ok (.if_icmp .ne 6, 3) := by decide +kernel
theorem dX0_readEdits_45 : decode cX0_readEdits 45 = .ok (.bipush (-5), 2) := by decide +kernel
theorem dX0_readEdits_47 : decode cX0_readEdits 47 = .ok (.ireturn, 1) := by decide +kernel
theorem dX0_readEdits_48 : decode cX0_readEdits 48 = .ok (.aload_n 0, 1) := by decide +kernel
theorem dX0_readEdits_49 : decode cX0_readEdits 49 = .ok (.bipush 44, 2) := by decide +kernel
theorem dX0_readEdits_51 : decode cX0_readEdits 51 = .ok (.invokevirtual 36, 3) := by decide +kernel
theorem dX0_readEdits_54 : decode cX0_readEdits 54 = .ok (.ifCond .ne 8, 3) := by decide +kernel
theorem dX0_readEdits_57 : decode cX0_readEdits 57 = .ok (.aload_n 0, 1) := by decide +kernel
theorem dX0_readEdits_58 : decode cX0_readEdits 58 = .ok (.getfield 19, 3) := by decide +kernel
theorem dX0_readEdits_61 : decode cX0_readEdits 61 = .ok (.ireturn, 1) := by decide +kernel
theorem dX0_readEdits_62 : decode cX0_readEdits 62 = .ok (.iinc 1 1, 3) := by decide +kernel
theorem dX0_readEdits_65 : decode cX0_readEdits 65 = .ok (.goto (-49), 3) := by decide +kernel
theorem dX0_readEdits_68 : decode cX0_readEdits 68 = .ok (.aload_n 0, 1) := by decide +kernel
theorem dX0_readEdits_69 : decode cX0_readEdits 69 = .ok (.getfield 19, 3) := by decide +kernel
theorem dX0_readEdits_72 : decode cX0_readEdits 72 = .ok (.ireturn, 1) := by decide +kernel
set_option maxRecDepth 20000 in
theorem ggX0_propose_X4_valueOf : GoodIn wsX0_propose wsX4_valueOf := goodIn_r _ [6, 7, 8, 9, 10, 5, 11, 12, 17, 18, 19, 20, 21, 22, 23] (by decide +kernel) (by decide +kernel)
set_option maxRecDepth 20000 in
theorem gX0_propose_X4_valueOf : GoodIn wsX0_propose (wsV RX0 40 RX4 yX4_valueOf wsX4_valueOf) := goodIn_app (goodIn_of _ (by decide +kernel)) ggX0_propose_X4_valueOf
theorem dX0_propose_0 : decode cX0_propose 0 = .ok (.iconst 0, 1) := by decide +kernel
theorem dX0_propose_1 : decode cX0_propose 1 = .ok (.istore 4, 2) := by decide +kernel
theorem dX0_propose_3 : decode cX0_propose 3 = .ok (.iload 4, 2) := by decide +kernel
theorem dX0_propose_5 : decode cX0_propose 5 = .ok (.bipush 12, 2) := by decide +kernel
theorem dX0_propose_7 : decode cX0_propose 7 = .ok (.if_icmp .ge 46, 3) := by decide +kernel
theorem dX0_propose_10 : decode cX0_propose 10 = .ok (.iload 4, 2) := by decide +kernel
theorem dX0_propose_12 : decode cX0_propose 12 = .ok (.aload_n 3, 1) := by decide +kernel
theorem dX0_propose_13 : decode cX0_propose 13 = .ok (.arraylength, 1) := by decide +kernel
theorem dX0_propose_14 : decode cX0_propose 14 = .ok (.if_icmp .ge 39, 3) := by decide +kernel
theorem dX0_propose_17 : decode cX0_propose 17 = .ok (.aload_n 0, 1) := by decide +kernel
theorem dX0_propose_18 : decode cX0_propose 18 = .ok (.getfield 15, 3) := by decide +kernel
theorem dX0_propose_21 : decode cX0_propose 21 = .ok (.iload 4, 2) := by decide +kernel
theorem dX0_propose_23 : decode cX0_propose 23 = .ok (.iaload, 1) := by decide +kernel
theorem dX0_propose_24 : decode cX0_propose 24 = .ok (.istore 5, 2) := by decide +kernel
theorem dX0_propose_26 : decode cX0_propose 26 = .ok (.aload_n 3, 1) := by decide +kernel
theorem dX0_propose_27 : decode cX0_propose 27 = .ok (.iload 4, 2) := by decide +kernel
theorem dX0_propose_29 : decode cX0_propose 29 = .ok (.iload 5, 2) := by decide +kernel
theorem dX0_propose_31 : decode cX0_propose 31 = .ok (.ifCond .ge 13, 3) := by decide +kernel
theorem dX0_propose_34 : decode cX0_propose 34 = .ok (.aload_n 1, 1) := by decide +kernel
theorem dX0_propose_35 : decode cX0_propose 35 = .ok (.iload_n 2, 1) := by decide +kernel
theorem dX0_propose_36 : decode cX0_propose 36 = .ok (.iload 4, 2) := by decide +kernel
theorem dX0_propose_38 : decode cX0_propose 38 = .ok (.invokevirtual 40, 3) := by decide +kernel
theorem dX0_propose_41 : decode cX0_propose 41 = .ok (.goto 5, 3) := by decide +kernel
theorem dX0_propose_44 : decode cX0_propose 44 = .ok (.iload 5, 2) := by decide +kernel
theorem dX0_propose_46 : decode cX0_propose 46 = .ok (.iastore, 1) := by decide +kernel
theorem dX0_propose_47 : decode cX0_propose 47 = .ok (.iinc 4 1, 3) := by decide +kernel
theorem dX0_propose_50 : decode cX0_propose 50 = .ok (.goto (-47), 3) := by decide +kernel
theorem dX0_propose_53 : decode cX0_propose 53 = .ok (.return_, 1) := by decide +kernel
set_option maxRecDepth 20000 in
theorem ggX0_readsEdit_X0_readNumber : GoodIn wsX0_readsEdit wsX0_readNumber := goodIn_r _ [6, 7, 8, 9, 10, 5, 11, 12, 13, 18, 19, 20, 21] (by decide +kernel) (by decide +kernel)
set_option maxRecDepth 20000 in
theorem gX0_readsEdit_X0_readNumber : GoodIn wsX0_readsEdit (wsV RX0 46 RX0 yX0_readNumber wsX0_readNumber) := goodIn_app (goodIn_of _ (by decide +kernel)) ggX0_readsEdit_X0_readNumber
set_option maxRecDepth 20000 in
theorem ggX0_readsEdit_X0_reads : GoodIn wsX0_readsEdit wsX0_reads := goodIn_r _ [17, 7, 12, 13, 18, 19, 20, 21] (by decide +kernel) (by decide +kernel)
set_option maxRecDepth 20000 in
theorem gX0_readsEdit_X0_reads : GoodIn wsX0_readsEdit (wsV RX0 36 RX0 yX0_reads wsX0_reads) := goodIn_app (goodIn_of _ (by decide +kernel)) ggX0_readsEdit_X0_reads
theorem dX0_readsEdit_0 : decode cX0_readsEdit 0 = .ok (.aload_n 0, 1) := by decide +kernel
theorem dX0_readsEdit_1 : decode cX0_readsEdit 1 = .ok (.bipush 11, 2) := by decide +kernel
theorem dX0_readsEdit_3 : decode cX0_readsEdit 3 = .ok (.invokevirtual 46, 3) := by decide +kernel
theorem dX0_readsEdit_6 : decode cX0_readsEdit 6 = .ok (.istore_n 1, 1) := by decide +kernel
theorem dX0_readsEdit_7 : decode cX0_readsEdit 7 = .ok (.iload_n 1, 1) := by decide +kernel
theorem dX0_readsEdit_8 : decode cX0_readsEdit 8 = .ok (.ifCond .lt 18, 3) := by decide +kernel
theorem dX0_readsEdit_11 : decode cX0_readsEdit 11 = .ok (.iload_n 1, 1) := by decide +kernel
theorem dX0_readsEdit_12 : decode cX0_readsEdit 12 = .ok (.bipush 12, 2) := by decide +kernel
theorem dX0_readsEdit_14 : decode cX0_readsEdit 14 = .ok (.if_icmp .ge 12, 3) := by decide +kernel
theorem dX0_readsEdit_17 : decode cX0_readsEdit 17 = .ok (.aload_n 0, 1) := by decide +kernel
theorem dX0_readsEdit_18 : decode cX0_readsEdit 18 = .ok (.bipush 61, 2) := by decide +kernel
theorem dX0_readsEdit_20 : decode cX0_readsEdit 20 = .ok (.invokevirtual 36, 3) := by decide +kernel
theorem dX0_readsEdit_23 : decode cX0_readsEdit 23 = .ok (.ifCond .ne 5, 3) := by decide +kernel
theorem dX0_readsEdit_26 : decode cX0_readsEdit 26 = .ok (.iconst 0, 1) := by decide +kernel
theorem dX0_readsEdit_27 : decode cX0_readsEdit 27 = .ok (.ireturn, 1) := by decide +kernel
theorem dX0_readsEdit_28 : decode cX0_readsEdit 28 = .ok (.aload_n 0, 1) := by decide +kernel
theorem dX0_readsEdit_29 : decode cX0_readsEdit 29 = .ok (.bipush 99, 2) := by decide +kernel
theorem dX0_readsEdit_31 : decode cX0_readsEdit 31 = .ok (.invokevirtual 46, 3) := by decide +kernel
theorem dX0_readsEdit_34 : decode cX0_readsEdit 34 = .ok (.istore_n 2, 1) := by decide +kernel
theorem dX0_readsEdit_35 : decode cX0_readsEdit 35 = .ok (.iload_n 2, 1) := by decide +kernel
theorem dX0_readsEdit_36 : decode cX0_readsEdit 36 = .ok (.ifCond .ge 5, 3) := by decide +kernel
theorem dX0_readsEdit_39 : decode cX0_readsEdit 39 = .ok (.iconst 0, 1) := by decide +kernel
theorem dX0_readsEdit_40 : decode cX0_readsEdit 40 = .ok (.ireturn, 1) := by decide +kernel
theorem dX0_readsEdit_41 : decode cX0_readsEdit 41 = .ok (.aload_n 0, 1) := by decide +kernel
theorem dX0_readsEdit_42 : decode cX0_readsEdit 42 = .ok (.getfield 15, 3) := by decide +kernel
theorem dX0_readsEdit_45 : decode cX0_readsEdit 45 = .ok (.iload_n 1, 1) := by decide +kernel
theorem dX0_readsEdit_46 : decode cX0_readsEdit 46 = .ok (.iload_n 2, 1) := by decide +kernel
theorem dX0_readsEdit_47 : decode cX0_readsEdit 47 = .ok (.iastore, 1) := by decide +kernel
theorem dX0_readsEdit_48 : decode cX0_readsEdit 48 = .ok (.iconst 1, 1) := by decide +kernel
theorem dX0_readsEdit_49 : decode cX0_readsEdit 49 = .ok (.ireturn, 1) := by decide +kernel
theorem dX0_reads_0 : decode cX0_reads 0 = .ok (.aload_n 0, 1) := by decide +kernel
theorem dX0_reads_1 : decode cX0_reads 1 = .ok (.getfield 19, 3) := by decide +kernel
theorem dX0_reads_4 : decode cX0_reads 4 = .ok (.ifCond .lt 36, 3) := by decide +kernel
theorem dX0_reads_7 : decode cX0_reads 7 = .ok (.aload_n 0, 1) := by decide +kernel
theorem dX0_reads_8 : decode cX0_reads 8 = .ok (.getfield 19, 3) := by decide +kernel
theorem dX0_reads_11 : decode cX0_reads 11 = .ok (.aload_n 0, 1) := by decide +kernel
theorem dX0_reads_12 : decode cX0_reads 12 = .ok (.getfield 23, 3) := by decide +kernel
theorem dX0_reads_15 : decode cX0_reads 15 = .ok (.if_icmp .ge 25, 3) := by decide +kernel
theorem dX0_reads_18 : decode cX0_reads 18 = .ok (.aload_n 0, 1) := by decide +kernel
theorem dX0_reads_19 : decode cX0_reads 19 = .ok (.getfield 19, 3) := by decide +kernel
theorem dX0_reads_22 : decode cX0_reads 22 = .ok (.bipush 60, 2) := by decide +kernel
theorem dX0_reads_24 : decode cX0_reads 24 = .ok (.if_icmp .ge 16, 3) := by decide +kernel
theorem dX0_reads_27 : decode cX0_reads 27 = .ok (.aload_n 0, 1) := by decide +kernel
theorem dX0_reads_28 : decode cX0_reads 28 = .ok (.getfield 9, 3) := by decide +kernel
theorem dX0_reads_31 : decode cX0_reads 31 = .ok (.aload_n 0, 1) := by decide +kernel
theorem dX0_reads_32 : decode cX0_reads 32 = .ok (.getfield 19, 3) := by decide +kernel
theorem dX0_reads_35 : decode cX0_reads 35 = .ok (.caload, 1) := by decide +kernel
theorem dX0_reads_36 : decode cX0_reads 36 = .ok (.iload_n 1, 1) := by decide +kernel
theorem dX0_reads_37 : decode cX0_reads 37 = .ok (.if_icmp .eq 5, 3) := by decide +kernel
theorem dX0_reads_40 : decode cX0_reads 40 = .ok (.iconst 0, 1) := by decide +kernel
theorem dX0_reads_41 : decode cX0_reads 41 = .ok (.ireturn, 1) := by decide +kernel
theorem dX0_reads_42 : decode cX0_reads 42 = .ok (.aload_n 0, 1) := by decide +kernel
theorem dX0_reads_43 : decode cX0_reads 43 = .ok (.dup, 1) := by decide +kernel
theorem dX0_reads_44 : decode cX0_reads 44 = .ok (.getfield 19, 3) := by decide +kernel
theorem dX0_reads_47 : decode cX0_reads 47 = .ok (.iconst 1, 1) := by decide +kernel
theorem dX0_reads_48 : decode cX0_reads 48 = .ok (.iadd, 1) := by decide +kernel
theorem dX0_reads_49 : decode cX0_reads 49 = .ok (.putfield 19, 3) := by decide +kernel
theorem dX0_reads_52 : decode cX0_reads 52 = .ok (.iconst 1, 1) := by decide +kernel
theorem dX0_reads_53 : decode cX0_reads 53 = .ok (.ireturn, 1) := by decide +kernel
set_option maxRecDepth 20000 in
theorem ggX0_readNumber_X0_digitAt : GoodIn wsX0_readNumber wsX0_digitAt := goodIn_r _ [6, 7, 8, 9, 10, 11, 12] (by decide +kernel) (by decide +kernel)
set_option maxRecDepth 20000 in
theorem gX0_readNumber_X0_digitAt : GoodIn wsX0_readNumber (wsV RX0 50 RX0 yX0_digitAt wsX0_digitAt) := goodIn_app (goodIn_of _ (by decide +kernel)) ggX0_readNumber_X0_digitAt
theorem dX0_readNumber_0 : decode cX0_readNumber 0 = .ok (.aload_n 0, 1) := by decide +kernel
theorem dX0_readNumber_1 : decode cX0_readNumber 1 = .ok (.aload_n 0, 1) := by decide +kernel
theorem dX0_readNumber_2 : decode cX0_readNumber 2 = .ok (.getfield 19, 3) := by decide +kernel
theorem dX0_readNumber_5 : decode cX0_readNumber 5 = .ok (.invokevirtual 50, 3) := by decide +kernel
theorem dX0_readNumber_8 : decode cX0_readNumber 8 = .ok (.istore_n 2, 1) := by decide +kernel
theorem dX0_readNumber_9 : decode cX0_readNumber 9 = .ok (.iload_n 2, 1) := by decide +kernel
theorem dX0_readNumber_10 : decode cX0_readNumber 10 = .ok (.ifCond .ge 6, 3) := by decide +kernel
theorem dX0_readNumber_13 : decode cX0_readNumber 13 = .ok (.bipush (-5), 2) := by decide +kernel
theorem dX0_readNumber_15 : decode cX0_readNumber 15 = .ok (.ireturn, 1) := by decide +kernel
theorem dX0_readNumber_16 : decode cX0_readNumber 16 = .ok (.aload_n 0, 1) := by decide +kernel
theorem dX0_readNumber_17 : decode cX0_readNumber 17 = .ok (.dup, 1) := by decide +kernel
theorem dX0_readNumber_18 : decode cX0_readNumber 18 = .ok (.getfield 19, 3) := by decide +kernel
theorem dX0_readNumber_21 : decode cX0_readNumber 21 = .ok (.iconst 1, 1) := by decide +kernel
theorem dX0_readNumber_22 : decode cX0_readNumber 22 = .ok (.iadd, 1) := by decide +kernel
theorem dX0_readNumber_23 : decode cX0_readNumber 23 = .ok (.putfield 19, 3) := by decide +kernel
theorem dX0_readNumber_26 : decode cX0_readNumber 26 = .ok (.aload_n 0, 1) := by decide +kernel
theorem dX0_readNumber_27 : decode cX0_readNumber 27 = .ok (.aload_n 0, 1) := by decide +kernel
theorem dX0_readNumber_28 : decode cX0_readNumber 28 = .ok (.getfield 19, 3) := by decide +kernel
theorem dX0_readNumber_31 : decode cX0_readNumber 31 = .ok (.invokevirtual 50, 3) := by decide +kernel
theorem dX0_readNumber_34 : decode cX0_readNumber 34 = .ok (.istore_n 3, 1) := by decide +kernel
theorem dX0_readNumber_35 : decode cX0_readNumber 35 = .ok (.iload_n 2, 1) := by decide +kernel
theorem dX0_readNumber_36 : decode cX0_readNumber 36 = .ok (.bipush 10, 2) := by decide +kernel
theorem dX0_readNumber_38 : decode cX0_readNumber 38 = .ok (.imul, 1) := by decide +kernel
theorem dX0_readNumber_39 : decode cX0_readNumber 39 = .ok (.iload_n 3, 1) := by decide +kernel
theorem dX0_readNumber_40 : decode cX0_readNumber 40 = .ok (.iadd, 1) := by decide +kernel
theorem dX0_readNumber_41 : decode cX0_readNumber 41 = .ok (.istore 4, 2) := by decide +kernel
theorem dX0_readNumber_43 : decode cX0_readNumber 43 = .ok (.iload_n 2, 1) := by decide +kernel
theorem dX0_readNumber_44 : decode cX0_readNumber 44 = .ok (.ifCond .eq 13, 3) := by decide +kernel
theorem dX0_readNumber_47 : decode cX0_readNumber 47 = .ok (.iload_n 3, 1) := by decide +kernel
theorem dX0_readNumber_48 : decode cX0_readNumber 48 = .ok (.ifCond .lt 9, 3) := by decide +kernel
theorem dX0_readNumber_51 : decode cX0_readNumber 51 = .ok (.iload 4, 2) := by decide +kernel
theorem dX0_readNumber_53 : decode cX0_readNumber 53 = .ok (.iload_n 1, 1) := by decide +kernel
theorem dX0_readNumber_54 : decode cX0_readNumber 54 = .ok (.if_icmp .le 5, 3) := by decide +kernel
theorem dX0_readNumber_57 : decode cX0_readNumber 57 = .ok (.iload_n 2, 1) := by decide +kernel
theorem dX0_readNumber_58 : decode cX0_readNumber 58 = .ok (.ireturn, 1) := by decide +kernel
theorem dX0_readNumber_59 : decode cX0_readNumber 59 = .ok (.aload_n 0, 1) := by decide +kernel
theorem dX0_readNumber_60 : decode cX0_readNumber 60 = .ok (.dup, 1) := by decide +kernel
theorem dX0_readNumber_61 : decode cX0_readNumber 61 = .ok (.getfield 19, 3) := by decide +kernel
theorem dX0_readNumber_64 : decode cX0_readNumber 64 = .ok (.iconst 1, 1) := by decide +kernel
theorem dX0_readNumber_65 : decode cX0_readNumber 65 = .ok (.iadd, 1) := by decide +kernel
theorem dX0_readNumber_66 : decode cX0_readNumber 66 = .ok (.putfield 19, 3) := by decide +kernel
theorem dX0_readNumber_69 : decode cX0_readNumber 69 = .ok (.iload 4, 2) := by decide +kernel
theorem dX0_readNumber_71 : decode cX0_readNumber 71 = .ok (.ireturn, 1) := by decide +kernel
theorem dX0_digitAt_0 : decode cX0_digitAt 0 = .ok (.iload_n 1, 1) := by decide +kernel
theorem dX0_digitAt_1 : decode cX0_digitAt 1 = .ok (.ifCond .lt 17, 3) := by decide +kernel
theorem dX0_digitAt_4 : decode cX0_digitAt 4 = .ok (.iload_n 1, 1) := by decide +kernel
theorem dX0_digitAt_5 : decode cX0_digitAt 5 = .ok (.aload_n 0, 1) := by decide +kernel
theorem dX0_digitAt_6 : decode cX0_digitAt 6 = .ok (.getfield 23, 3) := by decide +kernel
theorem dX0_digitAt_9 : decode cX0_digitAt 9 = .ok (.if_icmp .ge 9, 3) := by decide +kernel
theorem dX0_digitAt_12 : decode cX0_digitAt 12 = .ok (.iload_n 1, 1) := by decide +kernel
theorem dX0_digitAt_13 : decode cX0_digitAt 13 = .ok (.bipush 60, 2) := by decide +kernel
theorem dX0_digitAt_15 : decode cX0_digitAt 15 = .ok (.if_icmp .lt 6, 3) := by decide +kernel
theorem dX0_digitAt_18 : decode cX0_digitAt 18 = .ok (.bipush (-5), 2) := by decide +kernel
theorem dX0_digitAt_20 : decode cX0_digitAt 20 = .ok (.ireturn, 1) := by decide +kernel
theorem dX0_digitAt_21 : decode cX0_digitAt 21 = .ok (.aload_n 0, 1) := by decide +kernel
theorem dX0_digitAt_22 : decode cX0_digitAt 22 = .ok (.getfield 9, 3) := by decide +kernel
theorem dX0_digitAt_25 : decode cX0_digitAt 25 = .ok (.iload_n 1, 1) := by decide +kernel
theorem dX0_digitAt_26 : decode cX0_digitAt 26 = .ok (.caload, 1) := by decide +kernel
theorem dX0_digitAt_27 : decode cX0_digitAt 27 = .ok (.istore_n 2, 1) := by decide +kernel
theorem dX0_digitAt_28 : decode cX0_digitAt 28 = .ok (.iload_n 2, 1) := by decide +kernel
theorem dX0_digitAt_29 : decode cX0_digitAt 29 = .ok (.bipush 48, 2) := by decide +kernel
theorem dX0_digitAt_31 : decode cX0_digitAt 31 = .ok (.if_icmp .lt 16, 3) := by decide +kernel
theorem dX0_digitAt_34 : decode cX0_digitAt 34 = .ok (.iload_n 2, 1) := by decide +kernel
theorem dX0_digitAt_35 : decode cX0_digitAt 35 = .ok (.bipush 57, 2) := by decide +kernel
theorem dX0_digitAt_37 : decode cX0_digitAt 37 = .ok (.if_icmp .gt 10, 3) := by decide +kernel
theorem dX0_digitAt_40 : decode cX0_digitAt 40 = .ok (.iload_n 2, 1) := by decide +kernel
theorem dX0_digitAt_41 : decode cX0_digitAt 41 = .ok (.bipush 48, 2) := by decide +kernel
theorem dX0_digitAt_43 : decode cX0_digitAt 43 = .ok (.isub, 1) := by decide +kernel
theorem dX0_digitAt_44 : decode cX0_digitAt 44 = .ok (.goto 5, 3) := by decide +kernel
theorem dX0_digitAt_47 : decode cX0_digitAt 47 = .ok (.bipush (-5), 2) := by decide +kernel
theorem dX0_digitAt_49 : decode cX0_digitAt 49 = .ok (.ireturn, 1) := by decide +kernel
theorem dX1_init_0 : decode cX1_init 0 = .ok (.aload_n 0, 1) := by decide +kernel
theorem dX1_init_1 : decode cX1_init 1 = .ok (.invokespecial 3, 3) := by decide +kernel
theorem dX1_init_4 : decode cX1_init 4 = .ok (.aload_n 0, 1) := by decide +kernel
theorem dX1_init_5 : decode cX1_init 5 = .ok (.iconst 4, 1) := by decide +kernel
theorem dX1_init_6 : decode cX1_init 6 = .ok (.anewarray 9, 3) := by decide +kernel
theorem dX1_init_9 : decode cX1_init 9 = .ok (.putfield 11, 3) := by decide +kernel
theorem dX1_init_12 : decode cX1_init 12 = .ok (.aload_n 0, 1) := by decide +kernel
theorem dX1_init_13 : decode cX1_init 13 = .ok (.iconst 0, 1) := by decide +kernel
theorem dX1_init_14 : decode cX1_init 14 = .ok (.putfield 17, 3) := by decide +kernel
theorem dX1_init_17 : decode cX1_init 17 = .ok (.aload_n 0, 1) := by decide +kernel
theorem dX1_init_18 : decode cX1_init 18 = .ok (.iconst 0, 1) := by decide +kernel
theorem dX1_init_19 : decode cX1_init 19 = .ok (.putfield 21, 3) := by decide +kernel
theorem dX1_init_22 : decode cX1_init 22 = .ok (.return_, 1) := by decide +kernel
set_option maxRecDepth 20000 in
theorem ggX1_push_X3_init : GoodIn wsX1_push wsX3_init := goodIn_r _ [12, 13, 14, 15, 16, 17, 18, 19, 20, 21, 22, 23, 24, 25, 26, 27, 28, 29, 30, 31, 32, 33, 34, 35, 58, 59, 60, 61, 62, 63, 64, 52, 53, 54, 55, 56, 57] (by decide +kernel) (by decide +kernel)
set_option maxRecDepth 20000 in
theorem gX1_push_X3_init_n24 : GoodIn wsX1_push (wsX3_init) := ggX1_push_X3_init
set_option maxRecDepth 20000 in
theorem ggX1_push_X3_copyFrom : GoodIn wsX1_push wsX3_copyFrom := goodIn_r _ [39, 19, 21, 40, 41, 42, 43, 22, 23, 24, 25, 44, 45, 46, 18, 47, 29, 48, 30, 31, 32, 33, 34, 35, 52, 53, 54, 55, 56, 57, 58, 59, 60, 61, 62, 63, 64] (by decide +kernel) (by decide +kernel)
set_option maxRecDepth 20000 in
theorem gX1_push_X3_copyFrom : GoodIn wsX1_push (wsV RX1 25 RX3 yX3_copyFrom wsX3_copyFrom) := goodIn_app (goodIn_of _ (by decide +kernel)) ggX1_push_X3_copyFrom
theorem dX1_push_0 : decode cX1_push 0 = .ok (.aload_n 0, 1) := by decide +kernel
theorem dX1_push_1 : decode cX1_push 1 = .ok (.getfield 17, 3) := by decide +kernel
theorem dX1_push_4 : decode cX1_push 4 = .ok (.ifCond .lt 11, 3) := by decide +kernel
theorem dX1_push_7 : decode cX1_push 7 = .ok (.aload_n 0, 1) := by decide +kernel
theorem dX1_push_8 : decode cX1_push 8 = .ok (.getfield 17, 3) := by decide +kernel
theorem dX1_push_11 : decode cX1_push 11 = .ok (.iconst 4, 1) := by decide +kernel
theorem dX1_push_12 : decode cX1_push 12 = .ok (.if_icmp .lt 4, 3) := by decide +kernel
theorem dX1_push_15 : decode cX1_push 15 = .ok (.return_, 1) := by decide +kernel
theorem dX1_push_16 : decode cX1_push 16 = .ok (.aload_n 0, 1) := by decide +kernel
theorem dX1_push_17 : decode cX1_push 17 = .ok (.getfield 11, 3) := by decide +kernel
theorem dX1_push_20 : decode cX1_push 20 = .ok (.aload_n 0, 1) := by decide +kernel
theorem dX1_push_21 : decode cX1_push 21 = .ok (.getfield 17, 3) := by decide +kernel
theorem dX1_push_24 : decode cX1_push 24 = .ok (.aaload, 1) := by decide +kernel
theorem dX1_push_25 : decode cX1_push 25 = .ok (.astore_n 2, 1) := by decide +kernel
theorem dX1_push_26 : decode cX1_push 26 = .ok (.aload_n 2, 1) := by decide +kernel
theorem dX1_push_27 : decode cX1_push 27 = .ok (.ifnonnull 21, 3) := by decide +kernel
theorem dX1_push_30 : decode cX1_push 30 = .ok (.new 9, 3) := by decide +kernel
theorem dX1_push_33 : decode cX1_push 33 = .ok (.dup, 1) := by decide +kernel
theorem dX1_push_34 : decode cX1_push 34 = .ok (.invokespecial 24, 3) := by decide +kernel
theorem dX1_push_37 : decode cX1_push 37 = .ok (.astore_n 2, 1) := by decide +kernel
theorem dX1_push_38 : decode cX1_push 38 = .ok (.aload_n 0, 1) := by decide +kernel
theorem dX1_push_39 : decode cX1_push 39 = .ok (.getfield 11, 3) := by decide +kernel
theorem dX1_push_42 : decode cX1_push 42 = .ok (.aload_n 0, 1) := by decide +kernel
theorem dX1_push_43 : decode cX1_push 43 = .ok (.getfield 17, 3) := by decide +kernel
theorem dX1_push_46 : decode cX1_push 46 = .ok (.aload_n 2, 1) := by decide +kernel
theorem dX1_push_47 : decode cX1_push 47 = .ok (.aastore, 1) := by decide +kernel
theorem dX1_push_48 : decode cX1_push 48 = .ok (.aload_n 2, 1) := by decide +kernel
theorem dX1_push_49 : decode cX1_push 49 = .ok (.aload_n 1, 1) := by decide +kernel
theorem dX1_push_50 : decode cX1_push 50 = .ok (.invokevirtual 25, 3) := by decide +kernel
theorem dX1_push_53 : decode cX1_push 53 = .ok (.aload_n 0, 1) := by decide +kernel
theorem dX1_push_54 : decode cX1_push 54 = .ok (.aload_n 0, 1) := by decide +kernel
theorem dX1_push_55 : decode cX1_push 55 = .ok (.getfield 17, 3) := by decide +kernel
theorem dX1_push_58 : decode cX1_push 58 = .ok (.iconst 1, 1) := by decide +kernel
theorem dX1_push_59 : decode cX1_push 59 = .ok (.iadd, 1) := by decide +kernel
theorem dX1_push_60 : decode cX1_push 60 = .ok (.iconst 4, 1) := by decide +kernel
theorem dX1_push_61 : decode cX1_push 61 = .ok (.irem, 1) := by decide +kernel
theorem dX1_push_62 : decode cX1_push 62 = .ok (.putfield 17, 3) := by decide +kernel
theorem dX1_push_65 : decode cX1_push 65 = .ok (.aload_n 0, 1) := by decide +kernel
theorem dX1_push_66 : decode cX1_push 66 = .ok (.aload_n 0, 1) := by decide +kernel
theorem dX1_push_67 : decode cX1_push 67 = .ok (.getfield 21, 3) := by decide +kernel
theorem dX1_push_70 : decode cX1_push 70 = .ok (.iconst 1, 1) := by decide +kernel
theorem dX1_push_71 : decode cX1_push 71 = .ok (.iadd, 1) := by decide +kernel
theorem dX1_push_72 : decode cX1_push 72 = .ok (.iconst 4, 1) := by decide +kernel
theorem dX1_push_73 : decode cX1_push 73 = .ok (.invokestatic 29, 3) := by decide +kernel
theorem dX1_push_76 : decode cX1_push 76 = .ok (.putfield 21, 3) := by decide +kernel
theorem dX1_push_79 : decode cX1_push 79 = .ok (.return_, 1) := by decide +kernel
set_option maxRecDepth 20000 in
theorem ggX1_popInto_X3_copyFrom : GoodIn wsX1_popInto wsX3_copyFrom := goodIn_r _ [8, 9, 10, 11, 12, 13, 14, 15, 16, 17, 18, 19, 20, 21, 22, 23, 24, 25, 26, 27, 28, 29, 30, 31, 35, 36, 37, 38, 39, 40, 41, 42, 43, 44, 45, 46, 47] (by decide +kernel) (by decide +kernel)
set_option maxRecDepth 20000 in
theorem gX1_popInto_X3_copyFrom : GoodIn wsX1_popInto (wsV RX1 25 RX3 yX3_copyFrom wsX3_copyFrom) := goodIn_app (goodIn_of _ (by decide +kernel)) ggX1_popInto_X3_copyFrom
theorem dX1_popInto_0 : decode cX1_popInto 0 = .ok (.aload_n 0, 1) := by decide +kernel
theorem dX1_popInto_1 : decode cX1_popInto 1 = .ok (.getfield 17, 3) := by decide +kernel
theorem dX1_popInto_4 : decode cX1_popInto 4 = .ok (.iconst 4, 1) := by decide +kernel
theorem dX1_popInto_5 : decode cX1_popInto 5 = .ok (.iadd, 1) := by decide +kernel
theorem dX1_popInto_6 : decode cX1_popInto 6 = .ok (.iconst 1, 1) := by decide +kernel
theorem dX1_popInto_7 : decode cX1_popInto 7 = .ok (.isub, 1) := by decide +kernel
theorem dX1_popInto_8 : decode cX1_popInto 8 = .ok (.iconst 4, 1) := by decide +kernel
theorem dX1_popInto_9 : decode cX1_popInto 9 = .ok (.irem, 1) := by decide +kernel
theorem dX1_popInto_10 : decode cX1_popInto 10 = .ok (.istore_n 2, 1) := by decide +kernel
theorem dX1_popInto_11 : decode cX1_popInto 11 = .ok (.aload_n 0, 1) := by decide +kernel
theorem dX1_popInto_12 : decode cX1_popInto 12 = .ok (.getfield 21, 3) := by decide +kernel
theorem dX1_popInto_15 : decode cX1_popInto 15 = .ok (.ifCond .le 12, 3) := by decide +kernel
theorem dX1_popInto_18 : decode cX1_popInto 18 = .ok (.iload_n 2, 1) := by decide +kernel
theorem dX1_popInto_19 : decode cX1_popInto 19 = .ok (.ifCond .lt 8, 3) := by decide +kernel
theorem dX1_popInto_22 : decode cX1_popInto 22 = .ok (.iload_n 2, 1) := by decide +kernel
theorem dX1_popInto_23 : decode cX1_popInto 23 = .ok (.iconst 4, 1) := by decide +kernel
theorem dX1_popInto_24 : decode cX1_popInto 24 = .ok (.if_icmp .lt 4, 3) := by decide +kernel
theorem dX1_popInto_27 : decode cX1_popInto 27 = .ok (.return_, 1) := by decide +kernel
theorem dX1_popInto_28 : decode cX1_popInto 28 = .ok (.aload_n 0, 1) := by decide +kernel
theorem dX1_popInto_29 : decode cX1_popInto 29 = .ok (.getfield 11, 3) := by decide +kernel
theorem dX1_popInto_32 : decode cX1_popInto 32 = .ok (.iload_n 2, 1) := by decide +kernel
theorem dX1_popInto_33 : decode cX1_popInto 33 = .ok (.aaload, 1) := by decide +kernel
theorem dX1_popInto_34 : decode cX1_popInto 34 = .ok (.astore_n 3, 1) := by decide +kernel
theorem dX1_popInto_35 : decode cX1_popInto 35 = .ok (.aload_n 3, 1) := by decide +kernel
theorem dX1_popInto_36 : decode cX1_popInto 36 = .ok (.ifnonnull 4, 3) := by decide +kernel
theorem dX1_popInto_39 : decode cX1_popInto 39 = .ok (.return_, 1) := by decide +kernel
theorem dX1_popInto_40 : decode cX1_popInto 40 = .ok (.aload_n 1, 1) := by decide +kernel
theorem dX1_popInto_41 : decode cX1_popInto 41 = .ok (.aload_n 3, 1) := by decide +kernel
theorem dX1_popInto_42 : decode cX1_popInto 42 = .ok (.invokevirtual 25, 3) := by decide +kernel
theorem dX1_popInto_45 : decode cX1_popInto 45 = .ok (.aload_n 0, 1) := by decide +kernel
theorem dX1_popInto_46 : decode cX1_popInto 46 = .ok (.iload_n 2, 1) := by decide +kernel
theorem dX1_popInto_47 : decode cX1_popInto 47 = .ok (.putfield 17, 3) := by decide +kernel
theorem dX1_popInto_50 : decode cX1_popInto 50 = .ok (.aload_n 0, 1) := by decide +kernel
theorem dX1_popInto_51 : decode cX1_popInto 51 = .ok (.dup, 1) := by decide +kernel
theorem dX1_popInto_52 : decode cX1_popInto 52 = .ok (.getfield 21, 3) := by decide +kernel
theorem dX1_popInto_55 : decode cX1_popInto 55 = .ok (.iconst 1, 1) := by decide +kernel
theorem dX1_popInto_56 : decode cX1_popInto 56 = .ok (.isub, 1) := by decide +kernel
theorem dX1_popInto_57 : decode cX1_popInto 57 = .ok (.putfield 21, 3) := by decide +kernel
theorem dX1_popInto_60 : decode cX1_popInto 60 = .ok (.return_, 1) := by decide +kernel
theorem dX2_init_0 : decode cX2_init 0 = .ok (.aload_n 0, 1) := by decide +kernel
theorem dX2_init_1 : decode cX2_init 1 = .ok (.invokespecial 3, 3) := by decide +kernel
theorem dX2_init_4 : decode cX2_init 4 = .ok (.aload_n 0, 1) := by decide +kernel
theorem dX2_init_5 : decode cX2_init 5 = .ok (.bipush 40, 2) := by decide +kernel
theorem dX2_init_7 : decode cX2_init 7 = .ok (.newarray .int, 2) := by decide +kernel
theorem dX2_init_9 : decode cX2_init 9 = .ok (.putfield 9, 3) := by decide +kernel
theorem dX2_init_12 : decode cX2_init 12 = .ok (.aload_n 0, 1) := by decide +kernel
theorem dX2_init_13 : decode cX2_init 13 = .ok (.bipush 40, 2) := by decide +kernel
theorem dX2_init_15 : decode cX2_init 15 = .ok (.newarray .int, 2) := by decide +kernel
theorem dX2_init_17 : decode cX2_init 17 = .ok (.putfield 15, 3) := by decide +kernel
theorem dX2_init_20 : decode cX2_init 20 = .ok (.return_, 1) := by decide +kernel
set_option maxRecDepth 20000 in
theorem ggX2_makeFor_X4_isPresent : GoodIn wsX2_makeFor wsX4_isPresent := goodIn_r _ [8, 9, 10, 11, 12, 7, 13, 14, 28, 29, 30, 31, 32, 33, 34] (by decide +kernel) (by decide +kernel)
set_option maxRecDepth 20000 in
theorem gX2_makeFor_X4_isPresent : GoodIn wsX2_makeFor (wsV RX2 24 RX4 yX4_isPresent wsX4_isPresent) := goodIn_app (goodIn_of _ (by decide +kernel)) ggX2_makeFor_X4_isPresent
set_option maxRecDepth 20000 in
theorem ggX2_makeFor_X2_baseFor : GoodIn wsX2_makeFor wsX2_baseFor := goodIn_r _ [19, 3, 4, 5, 6, 7, 8, 9, 10, 11, 12, 13, 14, 20, 21, 22, 23, 24, 25, 26, 27, 35, 36, 28, 29, 30, 31, 32, 33, 34] (by decide +kernel) (by decide +kernel)
set_option maxRecDepth 20000 in
theorem gX2_makeFor_X2_baseFor : GoodIn wsX2_makeFor (wsV RX2 28 RX2 yX2_baseFor wsX2_baseFor) := goodIn_app (goodIn_of _ (by decide +kernel)) ggX2_makeFor_X2_baseFor
theorem dX2_makeFor_0 : decode cX2_makeFor 0 = .ok (.iconst 0, 1) := by decide +kernel
theorem dX2_makeFor_1 : decode cX2_makeFor 1 = .ok (.istore_n 3, 1) := by decide +kernel
theorem dX2_makeFor_2 : decode cX2_makeFor 2 = .ok (.iload_n 3, 1) := by decide +kernel
theorem dX2_makeFor_3 : decode cX2_makeFor 3 = .ok (.aload_n 1, 1) := by decide +kernel
theorem dX2_makeFor_4 : decode cX2_makeFor 4 = .ok (.getfield 18, 3) := by decide +kernel
theorem dX2_makeFor_7 : decode cX2_makeFor 7 = .ok (.if_icmp .ge 76, 3) := by decide +kernel
theorem dX2_makeFor_10 : decode cX2_makeFor 10 = .ok (.iload_n 3, 1) := by decide +kernel
theorem dX2_makeFor_11 : decode cX2_makeFor 11 = .ok (.bipush 40, 2) := by decide +kernel
theorem dX2_makeFor_13 : decode cX2_makeFor 13 = .ok (.if_icmp .ge 70, 3) := by decide +kernel
theorem dX2_makeFor_16 : decode cX2_makeFor 16 = .ok (.aload_n 1, 1) := by decide +kernel
theorem dX2_makeFor_17 : decode cX2_makeFor 17 = .ok (.iload_n 3, 1) := by decide +kernel
theorem dX2_makeFor_18 : decode cX2_makeFor 18 = .ok (.invokevirtual 24, 3) := by decide +kernel
theorem dX2_makeFor_21 : decode cX2_makeFor 21 = .ok (.ifCond .eq 13, 3) := by decide +kernel
theorem dX2_makeFor_24 : decode cX2_makeFor 24 = .ok (.aload_n 0, 1) := by decide +kernel
theorem dX2_makeFor_25 : decode cX2_makeFor 25 = .ok (.aload_n 1, 1) := by decide +kernel
theorem dX2_makeFor_26 : decode cX2_makeFor 26 = .ok (.iload_n 3, 1) := by decide +kernel
theorem dX2_makeFor_27 : decode cX2_makeFor 27 = .ok (.iload_n 2, 1) := by decide +kernel
theorem dX2_makeFor_28 : decode cX2_makeFor 28 = .ok (.invokevirtual 28, 3) := by decide +kernel
theorem dX2_makeFor_31 : decode cX2_makeFor 31 = .ok (.goto 5, 3) := by decide +kernel
theorem dX2_makeFor_34 : decode cX2_makeFor 34 = .ok (.bipush (-5), 2) := by decide +kernel
theorem dX2_makeFor_36 : decode cX2_makeFor 36 = .ok (.istore 4, 2) := by decide +kernel
theorem dX2_makeFor_38 : decode cX2_makeFor 38 = .ok (.aload_n 0, 1) := by decide +kernel
theorem dX2_makeFor_39 : decode cX2_makeFor 39 = .ok (.getfield 9, 3) := by decide +kernel
theorem dX2_makeFor_42 : decode cX2_makeFor 42 = .ok (.iload_n 3, 1) := by decide +kernel
theorem dX2_makeFor_43 : decode cX2_makeFor 43 = .ok (.iload 4, 2) := by decide +kernel
theorem dX2_makeFor_45 : decode cX2_makeFor 45 = .ok (.iastore, 1) := by decide +kernel
theorem dX2_makeFor_46 : decode cX2_makeFor 46 = .ok (.aload_n 0, 1) := by decide +kernel
theorem dX2_makeFor_47 : decode cX2_makeFor 47 = .ok (.getfield 15, 3) := by decide +kernel
theorem dX2_makeFor_50 : decode cX2_makeFor 50 = .ok (.iload_n 3, 1) := by decide +kernel
theorem dX2_makeFor_51 : decode cX2_makeFor 51 = .ok (.iload 4, 2) := by decide +kernel
theorem dX2_makeFor_53 : decode cX2_makeFor 53 = .ok (.ifCond .lt 22, 3) := by decide +kernel
theorem dX2_makeFor_56 : decode cX2_makeFor 56 = .ok (.iload 4, 2) := by decide +kernel
theorem dX2_makeFor_58 : decode cX2_makeFor 58 = .ok (.bipush 40, 2) := by decide +kernel
theorem dX2_makeFor_60 : decode cX2_makeFor 60 = .ok (.if_icmp .ge 15, 3) := by decide +kernel
theorem dX2_makeFor_63 : decode cX2_makeFor 63 = .ok (.aload_n 0, 1) := by decide +kernel
theorem dX2_makeFor_64 : decode cX2_makeFor 64 = .ok (.getfield 15, 3) := by decide +kernel
theorem dX2_makeFor_67 : decode cX2_makeFor 67 = .ok (.iload 4, 2) := by decide +kernel
theorem dX2_makeFor_69 : decode cX2_makeFor 69 = .ok (.iaload, 1) := by decide +kernel
theorem dX2_makeFor_70 : decode cX2_makeFor 70 = .ok (.iconst 1, 1) := by decide +kernel
theorem dX2_makeFor_71 : decode cX2_makeFor 71 = .ok (.iadd, 1) := by decide +kernel
theorem dX2_makeFor_72 : decode cX2_makeFor 72 = .ok (.goto 4, 3) := by decide +kernel
theorem dX2_makeFor_75 : decode cX2_makeFor 75 = .ok (.iconst 0, 1) := by decide +kernel
theorem dX2_makeFor_76 : decode cX2_makeFor 76 = .ok (.iastore, 1) := by decide +kernel
theorem dX2_makeFor_77 : decode cX2_makeFor 77 = .ok (.iinc 3 1, 3) := by decide +kernel
theorem dX2_makeFor_80 : decode cX2_makeFor 80 = .ok (.goto (-78), 3) := by decide +kernel
theorem dX2_makeFor_83 : decode cX2_makeFor 83 = .ok (.return_, 1) := by decide +kernel
set_option maxRecDepth 20000 in
theorem ggX2_baseFor_X4_isPresent : GoodIn wsX2_baseFor wsX4_isPresent := goodIn_r _ [6, 7, 8, 9, 10, 5, 11, 12, 23, 24, 25, 26, 27, 28, 29] (by decide +kernel) (by decide +kernel)
set_option maxRecDepth 20000 in
theorem gX2_baseFor_X4_isPresent : GoodIn wsX2_baseFor (wsV RX2 24 RX4 yX4_isPresent wsX4_isPresent) := goodIn_app (goodIn_of _ (by decide +kernel)) ggX2_baseFor_X4_isPresent
set_option maxRecDepth 20000 in
theorem ggX2_baseFor_X4_differing : GoodIn wsX2_baseFor wsX4_differing := goodIn_r _ [16, 17, 8, 9, 10, 5, 11, 12, 23, 24, 25, 26, 27, 28, 29] (by decide +kernel) (by decide +kernel)
set_option maxRecDepth 20000 in
theorem gX2_baseFor_X4_differing : GoodIn wsX2_baseFor (wsV RX2 32 RX4 yX4_differing wsX4_differing) := goodIn_app (goodIn_of _ (by decide +kernel)) ggX2_baseFor_X4_differing
set_option maxRecDepth 20000 in
theorem ggX2_baseFor_X4_costOfChanges : GoodIn wsX2_baseFor wsX4_costOfChanges := goodIn_r _ [20] (by decide +kernel) (by decide +kernel)
set_option maxRecDepth 20000 in
theorem gX2_baseFor_X4_costOfChanges : GoodIn wsX2_baseFor (va_wsS RX2 36 yX4_costOfChanges wsX4_costOfChanges) := goodIn_app (goodIn_of _ (by decide +kernel)) ggX2_baseFor_X4_costOfChanges
theorem dX2_baseFor_0 : decode cX2_baseFor 0 = .ok (.bipush (-5), 2) := by decide +kernel
theorem dX2_baseFor_2 : decode cX2_baseFor 2 = .ok (.istore 4, 2) := by decide +kernel
theorem dX2_baseFor_4 : decode cX2_baseFor 4 = .ok (.bipush 12, 2) := by decide +kernel
theorem dX2_baseFor_6 : decode cX2_baseFor 6 = .ok (.istore 5, 2) := by decide +kernel
theorem dX2_baseFor_8 : decode cX2_baseFor 8 = .ok (.iconst 0, 1) := by decide +kernel
theorem dX2_baseFor_9 : decode cX2_baseFor 9 = .ok (.istore 6, 2) := by decide +kernel
theorem dX2_baseFor_11 : decode cX2_baseFor 11 = .ok (.iload 6, 2) := by decide +kernel
theorem dX2_baseFor_13 : decode cX2_baseFor 13 = .ok (.iload_n 2, 1) := by decide +kernel
theorem dX2_baseFor_14 : decode cX2_baseFor 14 = .ok (.if_icmp .ge 80, 3) := by decide +kernel
theorem dX2_baseFor_17 : decode cX2_baseFor 17 = .ok (.iload 6, 2) := by decide +kernel
theorem dX2_baseFor_19 : decode cX2_baseFor 19 = .ok (.bipush 40, 2) := by decide +kernel
theorem dX2_baseFor_21 : decode cX2_baseFor 21 = .ok (.if_icmp .ge 73, 3) := by decide +kernel
theorem dX2_baseFor_24 : decode cX2_baseFor 24 = .ok (.aload_n 1, 1) := by decide +kernel
theorem dX2_baseFor_25 : decode cX2_baseFor 25 = .ok (.iload 6, 2) := by decide +kernel
theorem dX2_baseFor_27 : decode cX2_baseFor 27 = .ok (.invokevirtual 24, 3) := by decide +kernel
theorem dX2_baseFor_30 : decode cX2_baseFor 30 = .ok (.ifCond .eq 18, 3) := by decide +kernel
theorem dX2_baseFor_33 : decode cX2_baseFor 33 = .ok (.aload_n 0, 1) := by decide +kernel
theorem dX2_baseFor_34 : decode cX2_baseFor 34 = .ok (.getfield 15, 3) := by decide +kernel
theorem dX2_baseFor_37 : decode cX2_baseFor 37 = .ok (.iload 6, 2) := by decide +kernel
theorem dX2_baseFor_39 : decode cX2_baseFor 39 = .ok (.iaload, 1) := by decide +kernel
theorem dX2_baseFor_40 : decode cX2_baseFor 40 = .ok (.iload_n 3, 1) := by decide +kernel
theorem dX2_baseFor_41 : decode cX2_baseFor 41 = .ok (.if_icmp .ge 7, 3) := by decide +kernel
theorem dX2_baseFor_44 : decode cX2_baseFor 44 = .ok (.iconst 1, 1) := by decide +kernel
theorem dX2_baseFor_45 : decode cX2_baseFor 45 = .ok (.goto 4, 3) := by decide +kernel
theorem dX2_baseFor_48 : decode cX2_baseFor 48 = .ok (.iconst 0, 1) := by decide +kernel
theorem dX2_baseFor_49 : decode cX2_baseFor 49 = .ok (.istore 7, 2) := by decide +kernel
theorem dX2_baseFor_51 : decode cX2_baseFor 51 = .ok (.iload 7, 2) := by decide +kernel
theorem dX2_baseFor_53 : decode cX2_baseFor 53 = .ok (.ifCond .eq 16, 3) := by decide +kernel
theorem dX2_baseFor_56 : decode cX2_baseFor 56 = .ok (.aload_n 1, 1) := by decide +kernel
theorem dX2_baseFor_57 : decode cX2_baseFor 57 = .ok (.iload_n 2, 1) := by decide +kernel
theorem dX2_baseFor_58 : decode cX2_baseFor 58 = .ok (.iload 6, 2) := by decide +kernel
theorem dX2_baseFor_60 : decode cX2_baseFor 60 = .ok (.invokevirtual 32, 3) := by decide +kernel
theorem dX2_baseFor_63 : decode cX2_baseFor 63 = .ok (.invokestatic 36, 3) := by decide +kernel
theorem dX2_baseFor_66 : decode cX2_baseFor 66 = .ok (.goto 5, 3) := by decide +kernel
theorem dX2_baseFor_69 : decode cX2_baseFor 69 = .ok (.bipush 12, 2) := by decide +kernel
theorem dX2_baseFor_71 : decode cX2_baseFor 71 = .ok (.istore 8, 2) := by decide +kernel
theorem dX2_baseFor_73 : decode cX2_baseFor 73 = .ok (.iload 8, 2) := by decide +kernel
theorem dX2_baseFor_75 : decode cX2_baseFor 75 = .ok (.iload 5, 2) := by decide +kernel
theorem dX2_baseFor_77 : decode cX2_baseFor 77 = .ok (.if_icmp .ge 11, 3) := by decide +kernel
theorem dX2_baseFor_80 : decode cX2_baseFor 80 = .ok (.iload 6, 2) := by decide +kernel
theorem dX2_baseFor_82 : decode cX2_baseFor 82 = .ok (.istore 4, 2) := by decide +kernel
theorem dX2_baseFor_84 : decode cX2_baseFor 84 = .ok (.iload 8, 2) := by decide +kernel
theorem dX2_baseFor_86 : decode cX2_baseFor 86 = .ok (.istore 5, 2) := by decide +kernel
theorem dX2_baseFor_88 : decode cX2_baseFor 88 = .ok (.iinc 6 1, 3) := by decide +kernel
theorem dX2_baseFor_91 : decode cX2_baseFor 91 = .ok (.goto (-80), 3) := by decide +kernel
theorem dX2_baseFor_94 : decode cX2_baseFor 94 = .ok (.iload 4, 2) := by decide +kernel
theorem dX2_baseFor_96 : decode cX2_baseFor 96 = .ok (.ireturn, 1) := by decide +kernel
set_option maxRecDepth 20000 in
theorem ggX2_isAsStored_X4_baseOf : GoodIn wsX2_isAsStored wsX4_baseOf := goodIn_r _ [7, 8, 9, 10, 11, 6, 12, 13, 14, 15, 16, 17, 18, 19, 20] (by decide +kernel) (by decide +kernel)
set_option maxRecDepth 20000 in
theorem gX2_isAsStored_X4_baseOf : GoodIn wsX2_isAsStored (wsV RX2 40 RX4 yX4_baseOf wsX4_baseOf) := goodIn_app (goodIn_of _ (by decide +kernel)) ggX2_isAsStored_X4_baseOf
theorem dX2_isAsStored_0 : decode cX2_isAsStored 0 = .ok (.iconst 0, 1) := by decide +kernel
theorem dX2_isAsStored_1 : decode cX2_isAsStored 1 = .ok (.istore_n 2, 1) := by decide +kernel
theorem dX2_isAsStored_2 : decode cX2_isAsStored 2 = .ok (.iload_n 2, 1) := by decide +kernel
theorem dX2_isAsStored_3 : decode cX2_isAsStored 3 = .ok (.aload_n 1, 1) := by decide +kernel
theorem dX2_isAsStored_4 : decode cX2_isAsStored 4 = .ok (.getfield 18, 3) := by decide +kernel
theorem dX2_isAsStored_7 : decode cX2_isAsStored 7 = .ok (.if_icmp .ge 31, 3) := by decide +kernel
theorem dX2_isAsStored_10 : decode cX2_isAsStored 10 = .ok (.iload_n 2, 1) := by decide +kernel
theorem dX2_isAsStored_11 : decode cX2_isAsStored 11 = .ok (.bipush 40, 2) := by decide +kernel
theorem dX2_isAsStored_13 : decode cX2_isAsStored 13 = .ok (.if_icmp .ge 25, 3) := by decide +kernel
theorem dX2_isAsStored_16 : decode cX2_isAsStored 16 = .ok (.aload_n 0, 1) := by decide +kernel
theorem dX2_isAsStored_17 : decode cX2_isAsStored 17 = .ok (.getfield 9, 3) := by decide +kernel
theorem dX2_isAsStored_20 : decode cX2_isAsStored 20 = .ok (.iload_n 2, 1) := by decide +kernel
theorem dX2_isAsStored_21 : decode cX2_isAsStored 21 = .ok (.iaload, 1) := by decide +kernel
theorem dX2_isAsStored_22 : decode cX2_isAsStored 22 = .ok (.aload_n 1, 1) := by decide +kernel
theorem dX2_isAsStored_23 : decode cX2_isAsStored 23 = .ok (.iload_n 2, 1) := by decide +kernel
theorem dX2_isAsStored_24 : decode cX2_isAsStored 24 = .ok (.invokevirtual 40, 3) := by decide +kernel
theorem dX2_isAsStored_27 : decode cX2_isAsStored 27 = .ok (.if_icmp .eq 5, 3) := by decide +kernel
theorem dX2_isAsStored_30 : decode cX2_isAsStored 30 = .ok (.iconst 0, 1) := by decide +kernel
theorem dX2_isAsStored_31 : decode cX2_isAsStored 31 = .ok (.ireturn, 1) := by decide +kernel
theorem dX2_isAsStored_32 : decode cX2_isAsStored 32 = .ok (.iinc 2 1, 3) := by decide +kernel
theorem dX2_isAsStored_35 : decode cX2_isAsStored 35 = .ok (.goto (-33), 3) := by decide +kernel
theorem dX2_isAsStored_38 : decode cX2_isAsStored 38 = .ok (.iconst 1, 1) := by decide +kernel
theorem dX2_isAsStored_39 : decode cX2_isAsStored 39 = .ok (.ireturn, 1) := by decide +kernel
set_option maxRecDepth 20000 in
theorem ggX3_init_X4_init : GoodIn wsX3_init wsX4_init := goodIn_r _ [15, 16, 2, 3, 8, 17, 18, 19, 20, 21, 22, 23, 24, 25, 26, 27, 28, 29, 30] (by decide +kernel) (by decide +kernel)
set_option maxRecDepth 20000 in
theorem gX3_init_X4_init_n11 : GoodIn wsX3_init (wsX4_init) := ggX3_init_X4_init
theorem dX3_init_0 : decode cX3_init 0 = .ok (.aload_n 0, 1) := by decide +kernel
theorem dX3_init_1 : decode cX3_init 1 = .ok (.invokespecial 3, 3) := by decide +kernel
theorem dX3_init_4 : decode cX3_init 4 = .ok (.aload_n 0, 1) := by decide +kernel
theorem dX3_init_5 : decode cX3_init 5 = .ok (.new 9, 3) := by decide +kernel
theorem dX3_init_8 : decode cX3_init 8 = .ok (.dup, 1) := by decide +kernel
theorem dX3_init_9 : decode cX3_init 9 = .ok (.invokespecial 11, 3) := by decide +kernel
theorem dX3_init_12 : decode cX3_init 12 = .ok (.putfield 12, 3) := by decide +kernel
theorem dX3_init_15 : decode cX3_init 15 = .ok (.aload_n 0, 1) := by decide +kernel
theorem dX3_init_16 : decode cX3_init 16 = .ok (.iconst 4, 1) := by decide +kernel
theorem dX3_init_17 : decode cX3_init 17 = .ok (.newarray .int, 2) := by decide +kernel
theorem dX3_init_19 : decode cX3_init 19 = .ok (.putfield 18, 3) := by decide +kernel
theorem dX3_init_22 : decode cX3_init 22 = .ok (.aload_n 0, 1) := by decide +kernel
theorem dX3_init_23 : decode cX3_init 23 = .ok (.iconst 1, 1) := by decide +kernel
theorem dX3_init_24 : decode cX3_init 24 = .ok (.putfield 22, 3) := by decide +kernel
theorem dX3_init_27 : decode cX3_init 27 = .ok (.aload_n 0, 1) := by decide +kernel
theorem dX3_init_28 : decode cX3_init 28 = .ok (.iconst 4, 1) := by decide +kernel
theorem dX3_init_29 : decode cX3_init 29 = .ok (.putfield 26, 3) := by decide +kernel
theorem dX3_init_32 : decode cX3_init 32 = .ok (.aload_n 0, 1) := by decide +kernel
theorem dX3_init_33 : decode cX3_init 33 = .ok (.iconst 0, 1) := by decide +kernel
theorem dX3_init_34 : decode cX3_init 34 = .ok (.putfield 29, 3) := by decide +kernel
theorem dX3_init_37 : decode cX3_init 37 = .ok (.aload_n 0, 1) := by decide +kernel
theorem dX3_init_38 : decode cX3_init 38 = .ok (.iconst 0, 1) := by decide +kernel
theorem dX3_init_39 : decode cX3_init 39 = .ok (.putfield 32, 3) := by decide +kernel
theorem dX3_init_42 : decode cX3_init 42 = .ok (.return_, 1) := by decide +kernel
set_option maxRecDepth 20000 in
theorem ggX3_copyFrom_X4_copyFrom : GoodIn wsX3_copyFrom wsX4_copyFrom := goodIn_r _ [15, 16, 17, 4, 5, 6, 18, 19, 20, 21, 22, 23, 30, 31, 32, 33, 34, 35, 36] (by decide +kernel) (by decide +kernel)
set_option maxRecDepth 20000 in
theorem gX3_copyFrom_X4_copyFrom : GoodIn wsX3_copyFrom (wsV RX3 35 RX4 yX4_copyFrom wsX4_copyFrom) := goodIn_app (goodIn_of _ (by decide +kernel)) ggX3_copyFrom_X4_copyFrom
theorem dX3_copyFrom_0 : decode cX3_copyFrom 0 = .ok (.aload_n 0, 1) := by decide +kernel
theorem dX3_copyFrom_1 : decode cX3_copyFrom 1 = .ok (.getfield 12, 3) := by decide +kernel
theorem dX3_copyFrom_4 : decode cX3_copyFrom 4 = .ok (.aload_n 1, 1) := by decide +kernel
theorem dX3_copyFrom_5 : decode cX3_copyFrom 5 = .ok (.getfield 12, 3) := by decide +kernel
theorem dX3_copyFrom_8 : decode cX3_copyFrom 8 = .ok (.invokevirtual 35, 3) := by decide +kernel
theorem dX3_copyFrom_11 : decode cX3_copyFrom 11 = .ok (.aload_n 1, 1) := by decide +kernel
theorem dX3_copyFrom_12 : decode cX3_copyFrom 12 = .ok (.getfield 18, 3) := by decide +kernel
theorem dX3_copyFrom_15 : decode cX3_copyFrom 15 = .ok (.iconst 0, 1) := by decide +kernel
theorem dX3_copyFrom_16 : decode cX3_copyFrom 16 = .ok (.aload_n 0, 1) := by decide +kernel
theorem dX3_copyFrom_17 : decode cX3_copyFrom 17 = .ok (.getfield 18, 3) := by decide +kernel
theorem dX3_copyFrom_20 : decode cX3_copyFrom 20 = .ok (.iconst 0, 1) := by decide +kernel
theorem dX3_copyFrom_21 : decode cX3_copyFrom 21 = .ok (.iconst 4, 1) := by decide +kernel
theorem dX3_copyFrom_22 : decode cX3_copyFrom 22 = .ok (.invokestatic 39, 3) := by decide +kernel
theorem dX3_copyFrom_25 : decode cX3_copyFrom 25 = .ok (.aload_n 0, 1) := by decide +kernel
theorem dX3_copyFrom_26 : decode cX3_copyFrom 26 = .ok (.aload_n 1, 1) := by decide +kernel
theorem dX3_copyFrom_27 : decode cX3_copyFrom 27 = .ok (.getfield 22, 3) := by decide +kernel
theorem dX3_copyFrom_30 : decode cX3_copyFrom 30 = .ok (.putfield 22, 3) := by decide +kernel
theorem dX3_copyFrom_33 : decode cX3_copyFrom 33 = .ok (.aload_n 0, 1) := by decide +kernel
theorem dX3_copyFrom_34 : decode cX3_copyFrom 34 = .ok (.aload_n 1, 1) := by decide +kernel
theorem dX3_copyFrom_35 : decode cX3_copyFrom 35 = .ok (.getfield 26, 3) := by decide +kernel
theorem dX3_copyFrom_38 : decode cX3_copyFrom 38 = .ok (.putfield 26, 3) := by decide +kernel
theorem dX3_copyFrom_41 : decode cX3_copyFrom 41 = .ok (.aload_n 0, 1) := by decide +kernel
theorem dX3_copyFrom_42 : decode cX3_copyFrom 42 = .ok (.aload_n 1, 1) := by decide +kernel
theorem dX3_copyFrom_43 : decode cX3_copyFrom 43 = .ok (.getfield 29, 3) := by decide +kernel
theorem dX3_copyFrom_46 : decode cX3_copyFrom 46 = .ok (.putfield 29, 3) := by decide +kernel
theorem dX3_copyFrom_49 : decode cX3_copyFrom 49 = .ok (.aload_n 0, 1) := by decide +kernel
theorem dX3_copyFrom_50 : decode cX3_copyFrom 50 = .ok (.aload_n 1, 1) := by decide +kernel
theorem dX3_copyFrom_51 : decode cX3_copyFrom 51 = .ok (.getfield 32, 3) := by decide +kernel
theorem dX3_copyFrom_54 : decode cX3_copyFrom 54 = .ok (.putfield 32, 3) := by decide +kernel
theorem dX3_copyFrom_57 : decode cX3_copyFrom 57 = .ok (.return_, 1) := by decide +kernel
theorem dX3_isHead_0 : decode cX3_isHead 0 = .ok (.iload_n 1, 1) := by decide +kernel
theorem dX3_isHead_1 : decode cX3_isHead 1 = .ok (.ifCond .lt 20, 3) := by decide +kernel
theorem dX3_isHead_4 : decode cX3_isHead 4 = .ok (.iload_n 1, 1) := by decide +kernel
theorem dX3_isHead_5 : decode cX3_isHead 5 = .ok (.aload_n 0, 1) := by decide +kernel
theorem dX3_isHead_6 : decode cX3_isHead 6 = .ok (.getfield 22, 3) := by decide +kernel
theorem dX3_isHead_9 : decode cX3_isHead 9 = .ok (.if_icmp .ge 12, 3) := by decide +kernel
theorem dX3_isHead_12 : decode cX3_isHead 12 = .ok (.iload_n 1, 1) := by decide +kernel
theorem dX3_isHead_13 : decode cX3_isHead 13 = .ok (.iconst 4, 1) := by decide +kernel
theorem dX3_isHead_14 : decode cX3_isHead 14 = .ok (.if_icmp .ge 7, 3) := by decide +kernel
theorem dX3_isHead_17 : decode cX3_isHead 17 = .ok (.iconst 1, 1) := by decide +kernel
theorem dX3_isHead_18 : decode cX3_isHead 18 = .ok (.goto 4, 3) := by decide +kernel
theorem dX3_isHead_21 : decode cX3_isHead 21 = .ok (.iconst 0, 1) := by decide +kernel
theorem dX3_isHead_22 : decode cX3_isHead 22 = .ok (.ireturn, 1) := by decide +kernel
set_option maxRecDepth 20000 in
theorem ggX3_placeOf_X3_isHead : GoodIn wsX3_placeOf wsX3_isHead := goodIn_r _ [6, 7, 8, 9, 10, 11, 12, 13] (by decide +kernel) (by decide +kernel)
set_option maxRecDepth 20000 in
theorem gX3_placeOf_X3_isHead : GoodIn wsX3_placeOf (wsV RX3 45 RX3 yX3_isHead wsX3_isHead) := goodIn_app (goodIn_of _ (by decide +kernel)) ggX3_placeOf_X3_isHead
theorem dX3_placeOf_0 : decode cX3_placeOf 0 = .ok (.aload_n 0, 1) := by decide +kernel
theorem dX3_placeOf_1 : decode cX3_placeOf 1 = .ok (.iload_n 1, 1) := by decide +kernel
theorem dX3_placeOf_2 : decode cX3_placeOf 2 = .ok (.invokevirtual 45, 3) := by decide +kernel
theorem dX3_placeOf_5 : decode cX3_placeOf 5 = .ok (.ifCond .eq 12, 3) := by decide +kernel
theorem dX3_placeOf_8 : decode cX3_placeOf 8 = .ok (.aload_n 0, 1) := by decide +kernel
theorem dX3_placeOf_9 : decode cX3_placeOf 9 = .ok (.getfield 18, 3) := by decide +kernel
theorem dX3_placeOf_12 : decode cX3_placeOf 12 = .ok (.iload_n 1, 1) := by decide +kernel
theorem dX3_placeOf_13 : decode cX3_placeOf 13 = .ok (.iaload, 1) := by decide +kernel
theorem dX3_placeOf_14 : decode cX3_placeOf 14 = .ok (.goto 5, 3) := by decide +kernel
theorem dX3_placeOf_17 : decode cX3_placeOf 17 = .ok (.bipush (-5), 2) := by decide +kernel
theorem dX3_placeOf_19 : decode cX3_placeOf 19 = .ok (.ireturn, 1) := by decide +kernel
set_option maxRecDepth 20000 in
theorem ggX3_place_X3_isHead : GoodIn wsX3_place wsX3_isHead := goodIn_r _ [6, 7, 8, 9, 10, 11, 12, 13] (by decide +kernel) (by decide +kernel)
set_option maxRecDepth 20000 in
theorem gX3_place_X3_isHead : GoodIn wsX3_place (wsV RX3 45 RX3 yX3_isHead wsX3_isHead) := goodIn_app (goodIn_of _ (by decide +kernel)) ggX3_place_X3_isHead
theorem dX3_place_0 : decode cX3_place 0 = .ok (.aload_n 0, 1) := by decide +kernel
theorem dX3_place_1 : decode cX3_place 1 = .ok (.iload_n 1, 1) := by decide +kernel
theorem dX3_place_2 : decode cX3_place 2 = .ok (.invokevirtual 45, 3) := by decide +kernel
theorem dX3_place_5 : decode cX3_place 5 = .ok (.ifCond .eq 10, 3) := by decide +kernel
theorem dX3_place_8 : decode cX3_place 8 = .ok (.aload_n 0, 1) := by decide +kernel
theorem dX3_place_9 : decode cX3_place 9 = .ok (.getfield 18, 3) := by decide +kernel
theorem dX3_place_12 : decode cX3_place 12 = .ok (.iload_n 1, 1) := by decide +kernel
theorem dX3_place_13 : decode cX3_place 13 = .ok (.iload_n 2, 1) := by decide +kernel
theorem dX3_place_14 : decode cX3_place 14 = .ok (.iastore, 1) := by decide +kernel
theorem dX3_place_15 : decode cX3_place 15 = .ok (.return_, 1) := by decide +kernel
set_option maxRecDepth 20000 in
theorem ggX3_addHead_X3_place : GoodIn wsX3_addHead wsX3_place := goodIn_r _ [6, 7, 8, 9, 10, 5, 11, 1, 12, 13, 14, 15, 16, 17] (by decide +kernel) (by decide +kernel)
set_option maxRecDepth 20000 in
theorem gX3_addHead_X3_place : GoodIn wsX3_addHead (wsV RX3 49 RX3 yX3_place wsX3_place) := goodIn_app (goodIn_of _ (by decide +kernel)) ggX3_addHead_X3_place
theorem dX3_addHead_0 : decode cX3_addHead 0 = .ok (.aload_n 0, 1) := by decide +kernel
theorem dX3_addHead_1 : decode cX3_addHead 1 = .ok (.getfield 22, 3) := by decide +kernel
theorem dX3_addHead_4 : decode cX3_addHead 4 = .ok (.iconst 4, 1) := by decide +kernel
theorem dX3_addHead_5 : decode cX3_addHead 5 = .ok (.if_icmp .lt 6, 3) := by decide +kernel
theorem dX3_addHead_8 : decode cX3_addHead 8 = .ok (.bipush (-3), 2) := by decide +kernel
theorem dX3_addHead_10 : decode cX3_addHead 10 = .ok (.ireturn, 1) := by decide +kernel
theorem dX3_addHead_11 : decode cX3_addHead 11 = .ok (.aload_n 0, 1) := by decide +kernel
theorem dX3_addHead_12 : decode cX3_addHead 12 = .ok (.getfield 22, 3) := by decide +kernel
theorem dX3_addHead_15 : decode cX3_addHead 15 = .ok (.istore_n 2, 1) := by decide +kernel
theorem dX3_addHead_16 : decode cX3_addHead 16 = .ok (.aload_n 0, 1) := by decide +kernel
theorem dX3_addHead_17 : decode cX3_addHead 17 = .ok (.dup, 1) := by decide +kernel
theorem dX3_addHead_18 : decode cX3_addHead 18 = .ok (.getfield 22, 3) := by decide +kernel
theorem dX3_addHead_21 : decode cX3_addHead 21 = .ok (.iconst 1, 1) := by decide +kernel
theorem dX3_addHead_22 : decode cX3_addHead 22 = .ok (.iadd, 1) := by decide +kernel
theorem dX3_addHead_23 : decode cX3_addHead 23 = .ok (.putfield 22, 3) := by decide +kernel
theorem dX3_addHead_26 : decode cX3_addHead 26 = .ok (.aload_n 0, 1) := by decide +kernel
theorem dX3_addHead_27 : decode cX3_addHead 27 = .ok (.iload_n 2, 1) := by decide +kernel
theorem dX3_addHead_28 : decode cX3_addHead 28 = .ok (.iload_n 1, 1) := by decide +kernel
theorem dX3_addHead_29 : decode cX3_addHead 29 = .ok (.invokevirtual 49, 3) := by decide +kernel
theorem dX3_addHead_32 : decode cX3_addHead 32 = .ok (.iload_n 2, 1) := by decide +kernel
theorem dX3_addHead_33 : decode cX3_addHead 33 = .ok (.ireturn, 1) := by decide +kernel
set_option maxRecDepth 20000 in
theorem ggX3_hasHeadAt_X3_placeOf : GoodIn wsX3_hasHeadAt wsX3_placeOf := goodIn_r _ [6, 7, 8, 9, 10, 5, 11, 1, 12, 13, 14, 15, 16, 17] (by decide +kernel) (by decide +kernel)
set_option maxRecDepth 20000 in
theorem gX3_hasHeadAt_X3_placeOf : GoodIn wsX3_hasHeadAt (wsV RX3 53 RX3 yX3_placeOf wsX3_placeOf) := goodIn_app (goodIn_of _ (by decide +kernel)) ggX3_hasHeadAt_X3_placeOf
theorem dX3_hasHeadAt_0 : decode cX3_hasHeadAt 0 = .ok (.iconst 0, 1) := by decide +kernel
theorem dX3_hasHeadAt_1 : decode cX3_hasHeadAt 1 = .ok (.istore_n 2, 1) := by decide +kernel
theorem dX3_hasHeadAt_2 : decode cX3_hasHeadAt 2 = .ok (.iload_n 2, 1) := by decide +kernel
theorem dX3_hasHeadAt_3 : decode cX3_hasHeadAt 3 = .ok (.aload_n 0, 1) := by decide +kernel
theorem dX3_hasHeadAt_4 : decode cX3_hasHeadAt 4 = .ok (.getfield 22, 3) := by decide +kernel
theorem dX3_hasHeadAt_7 : decode cX3_hasHeadAt 7 = .ok (.if_icmp .ge 20, 3) := by decide +kernel
theorem dX3_hasHeadAt_10 : decode cX3_hasHeadAt 10 = .ok (.aload_n 0, 1) := by decide +kernel
theorem dX3_hasHeadAt_11 : decode cX3_hasHeadAt 11 = .ok (.iload_n 2, 1) := by decide +kernel
theorem dX3_hasHeadAt_12 : decode cX3_hasHeadAt 12 = .ok (.invokevirtual 53, 3) := by decide +kernel
theorem dX3_hasHeadAt_15 : decode cX3_hasHeadAt 15 = .ok (.iload_n 1, 1) := by decide +kernel
theorem dX3_hasHeadAt_16 : decode cX3_hasHeadAt 16 = .ok (.if_icmp .ne 5, 3) := by decide +kernel
theorem dX3_hasHeadAt_19 : decode cX3_hasHeadAt 19 = .ok (.iconst 1, 1) := by decide +kernel
theorem dX3_hasHeadAt_20 : decode cX3_hasHeadAt 20 = .ok (.ireturn, 1) := by decide +kernel
theorem dX3_hasHeadAt_21 : decode cX3_hasHeadAt 21 = .ok (.iinc 2 1, 3) := by decide +kernel
theorem dX3_hasHeadAt_24 : decode cX3_hasHeadAt 24 = .ok (.goto (-22), 3) := by decide +kernel
theorem dX3_hasHeadAt_27 : decode cX3_hasHeadAt 27 = .ok (.iconst 0, 1) := by decide +kernel
theorem dX3_hasHeadAt_28 : decode cX3_hasHeadAt 28 = .ok (.ireturn, 1) := by decide +kernel
theorem dX4_init_0 : decode cX4_init 0 = .ok (.aload_n 0, 1) := by decide +kernel
theorem dX4_init_1 : decode cX4_init 1 = .ok (.invokespecial 3, 3) := by decide +kernel
theorem dX4_init_4 : decode cX4_init 4 = .ok (.aload_n 0, 1) := by decide +kernel
theorem dX4_init_5 : decode cX4_init 5 = .ok (.bipush 40, 2) := by decide +kernel
theorem dX4_init_7 : decode cX4_init 7 = .ok (.newarray .int, 2) := by decide +kernel
theorem dX4_init_9 : decode cX4_init 9 = .ok (.putfield 9, 3) := by decide +kernel
theorem dX4_init_12 : decode cX4_init 12 = .ok (.aload_n 0, 1) := by decide +kernel
theorem dX4_init_13 : decode cX4_init 13 = .ok (.bipush 40, 2) := by decide +kernel
theorem dX4_init_15 : decode cX4_init 15 = .ok (.newarray .int, 2) := by decide +kernel
theorem dX4_init_17 : decode cX4_init 17 = .ok (.putfield 15, 3) := by decide +kernel
theorem dX4_init_20 : decode cX4_init 20 = .ok (.aload_n 0, 1) := by decide +kernel
theorem dX4_init_21 : decode cX4_init 21 = .ok (.bipush 40, 2) := by decide +kernel
theorem dX4_init_23 : decode cX4_init 23 = .ok (.newarray .int, 2) := by decide +kernel
theorem dX4_init_25 : decode cX4_init 25 = .ok (.putfield 18, 3) := by decide +kernel
theorem dX4_init_28 : decode cX4_init 28 = .ok (.aload_n 0, 1) := by decide +kernel
theorem dX4_init_29 : decode cX4_init 29 = .ok (.bipush 40, 2) := by decide +kernel
theorem dX4_init_31 : decode cX4_init 31 = .ok (.newarray .int, 2) := by decide +kernel
theorem dX4_init_33 : decode cX4_init 33 = .ok (.putfield 21, 3) := by decide +kernel
theorem dX4_init_36 : decode cX4_init 36 = .ok (.aload_n 0, 1) := by decide +kernel
theorem dX4_init_37 : decode cX4_init 37 = .ok (.bipush 40, 2) := by decide +kernel
theorem dX4_init_39 : decode cX4_init 39 = .ok (.newarray .int, 2) := by decide +kernel
theorem dX4_init_41 : decode cX4_init 41 = .ok (.putfield 24, 3) := by decide +kernel
theorem dX4_init_44 : decode cX4_init 44 = .ok (.aload_n 0, 1) := by decide +kernel
theorem dX4_init_45 : decode cX4_init 45 = .ok (.sipush 480, 3) := by decide +kernel
theorem dX4_init_48 : decode cX4_init 48 = .ok (.newarray .int, 2) := by decide +kernel
theorem dX4_init_50 : decode cX4_init 50 = .ok (.putfield 27, 3) := by decide +kernel
theorem dX4_init_53 : decode cX4_init 53 = .ok (.aload_n 0, 1) := by decide +kernel
theorem dX4_init_54 : decode cX4_init 54 = .ok (.iconst 0, 1) := by decide +kernel
theorem dX4_init_55 : decode cX4_init 55 = .ok (.putfield 30, 3) := by decide +kernel
theorem dX4_init_58 : decode cX4_init 58 = .ok (.return_, 1) := by decide +kernel
theorem dX4_copyFrom_0 : decode cX4_copyFrom 0 = .ok (.aload_n 1, 1) := by decide +kernel
theorem dX4_copyFrom_1 : decode cX4_copyFrom 1 = .ok (.getfield 9, 3) := by decide +kernel
theorem dX4_copyFrom_4 : decode cX4_copyFrom 4 = .ok (.iconst 0, 1) := by decide +kernel
theorem dX4_copyFrom_5 : decode cX4_copyFrom 5 = .ok (.aload_n 0, 1) := by decide +kernel
theorem dX4_copyFrom_6 : decode cX4_copyFrom 6 = .ok (.getfield 9, 3) := by decide +kernel
theorem dX4_copyFrom_9 : decode cX4_copyFrom 9 = .ok (.iconst 0, 1) := by decide +kernel
theorem dX4_copyFrom_10 : decode cX4_copyFrom 10 = .ok (.bipush 40, 2) := by decide +kernel
theorem dX4_copyFrom_12 : decode cX4_copyFrom 12 = .ok (.invokestatic 34, 3) := by decide +kernel
theorem dX4_copyFrom_15 : decode cX4_copyFrom 15 = .ok (.aload_n 1, 1) := by decide +kernel
theorem dX4_copyFrom_16 : decode cX4_copyFrom 16 = .ok (.getfield 15, 3) := by decide +kernel
theorem dX4_copyFrom_19 : decode cX4_copyFrom 19 = .ok (.iconst 0, 1) := by decide +kernel
theorem dX4_copyFrom_20 : decode cX4_copyFrom 20 = .ok (.aload_n 0, 1) := by decide +kernel
theorem dX4_copyFrom_21 : decode cX4_copyFrom 21 = .ok (.getfield 15, 3) := by decide +kernel
theorem dX4_copyFrom_24 : decode cX4_copyFrom 24 = .ok (.iconst 0, 1) := by decide +kernel
theorem dX4_copyFrom_25 : decode cX4_copyFrom 25 = .ok (.bipush 40, 2) := by decide +kernel
theorem dX4_copyFrom_27 : decode cX4_copyFrom 27 = .ok (.invokestatic 34, 3) := by decide +kernel
theorem dX4_copyFrom_30 : decode cX4_copyFrom 30 = .ok (.aload_n 1, 1) := by decide +kernel
theorem dX4_copyFrom_31 : decode cX4_copyFrom 31 = .ok (.getfield 18, 3) := by decide +kernel
theorem dX4_copyFrom_34 : decode cX4_copyFrom 34 = .ok (.iconst 0, 1) := by decide +kernel
theorem dX4_copyFrom_35 : decode cX4_copyFrom 35 = .ok (.aload_n 0, 1) := by decide +kernel
theorem dX4_copyFrom_36 : decode cX4_copyFrom 36 = .ok (.getfield 18, 3) := by decide +kernel
theorem dX4_copyFrom_39 : decode cX4_copyFrom 39 = .ok (.iconst 0, 1) := by decide +kernel
theorem dX4_copyFrom_40 : decode cX4_copyFrom 40 = .ok (.bipush 40, 2) := by decide +kernel
theorem dX4_copyFrom_42 : decode cX4_copyFrom 42 = .ok (.invokestatic 34, 3) := by decide +kernel
theorem dX4_copyFrom_45 : decode cX4_copyFrom 45 = .ok (.aload_n 1, 1) := by decide +kernel
theorem dX4_copyFrom_46 : decode cX4_copyFrom 46 = .ok (.getfield 21, 3) := by decide +kernel
theorem dX4_copyFrom_49 : decode cX4_copyFrom 49 = .ok (.iconst 0, 1) := by decide +kernel
theorem dX4_copyFrom_50 : decode cX4_copyFrom 50 = .ok (.aload_n 0, 1) := by decide +kernel
theorem dX4_copyFrom_51 : decode cX4_copyFrom 51 = .ok (.getfield 21, 3) := by decide +kernel
theorem dX4_copyFrom_54 : decode cX4_copyFrom 54 = .ok (.iconst 0, 1) := by decide +kernel
theorem dX4_copyFrom_55 : decode cX4_copyFrom 55 = .ok (.bipush 40, 2) := by decide +kernel
theorem dX4_copyFrom_57 : decode cX4_copyFrom 57 = .ok (.invokestatic 34, 3) := by decide +kernel
theorem dX4_copyFrom_60 : decode cX4_copyFrom 60 = .ok (.aload_n 1, 1) := by decide +kernel
theorem dX4_copyFrom_61 : decode cX4_copyFrom 61 = .ok (.getfield 24, 3) := by decide +kernel
theorem dX4_copyFrom_64 : decode cX4_copyFrom 64 = .ok (.iconst 0, 1) := by decide +kernel
theorem dX4_copyFrom_65 : decode cX4_copyFrom 65 = .ok (.aload_n 0, 1) := by decide +kernel
theorem dX4_copyFrom_66 : decode cX4_copyFrom 66 = .ok (.getfield 24, 3) := by decide +kernel
theorem dX4_copyFrom_69 : decode cX4_copyFrom 69 = .ok (.iconst 0, 1) := by decide +kernel
theorem dX4_copyFrom_70 : decode cX4_copyFrom 70 = .ok (.bipush 40, 2) := by decide +kernel
theorem dX4_copyFrom_72 : decode cX4_copyFrom 72 = .ok (.invokestatic 34, 3) := by decide +kernel
theorem dX4_copyFrom_75 : decode cX4_copyFrom 75 = .ok (.aload_n 1, 1) := by decide +kernel
theorem dX4_copyFrom_76 : decode cX4_copyFrom 76 = .ok (.getfield 27, 3) := by decide +kernel
theorem dX4_copyFrom_79 : decode cX4_copyFrom 79 = .ok (.iconst 0, 1) := by decide +kernel
theorem dX4_copyFrom_80 : decode cX4_copyFrom 80 = .ok (.aload_n 0, 1) := by decide +kernel
theorem dX4_copyFrom_81 : decode cX4_copyFrom 81 = .ok (.getfield 27, 3) := by decide +kernel
theorem dX4_copyFrom_84 : decode cX4_copyFrom 84 = .ok (.iconst 0, 1) := by decide +kernel
theorem dX4_copyFrom_85 : decode cX4_copyFrom 85 = .ok (.sipush 480, 3) := by decide +kernel
theorem dX4_copyFrom_88 : decode cX4_copyFrom 88 = .ok (.invokestatic 34, 3) := by decide +kernel
theorem dX4_copyFrom_91 : decode cX4_copyFrom 91 = .ok (.aload_n 0, 1) := by decide +kernel
theorem dX4_copyFrom_92 : decode cX4_copyFrom 92 = .ok (.aload_n 1, 1) := by decide +kernel
theorem dX4_copyFrom_93 : decode cX4_copyFrom 93 = .ok (.getfield 30, 3) := by decide +kernel
theorem dX4_copyFrom_96 : decode cX4_copyFrom 96 = .ok (.putfield 30, 3) := by decide +kernel
theorem dX4_copyFrom_99 : decode cX4_copyFrom 99 = .ok (.return_, 1) := by decide +kernel
theorem dX4_isNumber_0 : decode cX4_isNumber 0 = .ok (.iload_n 1, 1) := by decide +kernel
theorem dX4_isNumber_1 : decode cX4_isNumber 1 = .ok (.ifCond .lt 21, 3) := by decide +kernel
theorem dX4_isNumber_4 : decode cX4_isNumber 4 = .ok (.iload_n 1, 1) := by decide +kernel
theorem dX4_isNumber_5 : decode cX4_isNumber 5 = .ok (.aload_n 0, 1) := by decide +kernel
theorem dX4_isNumber_6 : decode cX4_isNumber 6 = .ok (.getfield 30, 3) := by decide +kernel
theorem dX4_isNumber_9 : decode cX4_isNumber 9 = .ok (.if_icmp .ge 13, 3) := by decide +kernel
theorem dX4_isNumber_12 : decode cX4_isNumber 12 = .ok (.iload_n 1, 1) := by decide +kernel
theorem dX4_isNumber_13 : decode cX4_isNumber 13 = .ok (.bipush 40, 2) := by decide +kernel
theorem dX4_isNumber_15 : decode cX4_isNumber 15 = .ok (.if_icmp .ge 7, 3) := by decide +kernel
theorem dX4_isNumber_18 : decode cX4_isNumber 18 = .ok (.iconst 1, 1) := by decide +kernel
theorem dX4_isNumber_19 : decode cX4_isNumber 19 = .ok (.goto 4, 3) := by decide +kernel
theorem dX4_isNumber_22 : decode cX4_isNumber 22 = .ok (.iconst 0, 1) := by decide +kernel
theorem dX4_isNumber_23 : decode cX4_isNumber 23 = .ok (.ireturn, 1) := by decide +kernel
set_option maxRecDepth 20000 in
theorem ggX4_isPresent_X4_isNumber : GoodIn wsX4_isPresent wsX4_isNumber := goodIn_r _ [6, 7, 8, 9, 10, 11, 12, 13, 14] (by decide +kernel) (by decide +kernel)
set_option maxRecDepth 20000 in
theorem gX4_isPresent_X4_isNumber : GoodIn wsX4_isPresent (wsV RX4 40 RX4 yX4_isNumber wsX4_isNumber) := goodIn_app (goodIn_of _ (by decide +kernel)) ggX4_isPresent_X4_isNumber
theorem dX4_isPresent_0 : decode cX4_isPresent 0 = .ok (.aload_n 0, 1) := by decide +kernel
theorem dX4_isPresent_1 : decode cX4_isPresent 1 = .ok (.iload_n 1, 1) := by decide +kernel
theorem dX4_isPresent_2 : decode cX4_isPresent 2 = .ok (.invokevirtual 40, 3) := by decide +kernel
theorem dX4_isPresent_5 : decode cX4_isPresent 5 = .ok (.ifCond .eq 17, 3) := by decide +kernel
theorem dX4_isPresent_8 : decode cX4_isPresent 8 = .ok (.aload_n 0, 1) := by decide +kernel
theorem dX4_isPresent_9 : decode cX4_isPresent 9 = .ok (.getfield 9, 3) := by decide +kernel
theorem dX4_isPresent_12 : decode cX4_isPresent 12 = .ok (.iload_n 1, 1) := by decide +kernel
theorem dX4_isPresent_13 : decode cX4_isPresent 13 = .ok (.iaload, 1) := by decide +kernel
theorem dX4_isPresent_14 : decode cX4_isPresent 14 = .ok (.iconst 2, 1) := by decide +kernel
theorem dX4_isPresent_15 : decode cX4_isPresent 15 = .ok (.if_icmp .eq 7, 3) := by decide +kernel
theorem dX4_isPresent_18 : decode cX4_isPresent 18 = .ok (.iconst 1, 1) := by decide +kernel
theorem dX4_isPresent_19 : decode cX4_isPresent 19 = .ok (.goto 4, 3) := by decide +kernel
theorem dX4_isPresent_22 : decode cX4_isPresent 22 = .ok (.iconst 0, 1) := by decide +kernel
theorem dX4_isPresent_23 : decode cX4_isPresent 23 = .ok (.ireturn, 1) := by decide +kernel
set_option maxRecDepth 20000 in
theorem ggX4_isKept_X4_isNumber : GoodIn wsX4_isKept wsX4_isNumber := goodIn_r _ [6, 7, 8, 9, 10, 11, 12, 13, 14] (by decide +kernel) (by decide +kernel)
set_option maxRecDepth 20000 in
theorem gX4_isKept_X4_isNumber : GoodIn wsX4_isKept (wsV RX4 40 RX4 yX4_isNumber wsX4_isNumber) := goodIn_app (goodIn_of _ (by decide +kernel)) ggX4_isKept_X4_isNumber
theorem dX4_isKept_0 : decode cX4_isKept 0 = .ok (.aload_n 0, 1) := by decide +kernel
theorem dX4_isKept_1 : decode cX4_isKept 1 = .ok (.iload_n 1, 1) := by decide +kernel
theorem dX4_isKept_2 : decode cX4_isKept 2 = .ok (.invokevirtual 40, 3) := by decide +kernel
theorem dX4_isKept_5 : decode cX4_isKept 5 = .ok (.ifCond .eq 16, 3) := by decide +kernel
theorem dX4_isKept_8 : decode cX4_isKept 8 = .ok (.aload_n 0, 1) := by decide +kernel
theorem dX4_isKept_9 : decode cX4_isKept 9 = .ok (.getfield 9, 3) := by decide +kernel
theorem dX4_isKept_12 : decode cX4_isKept 12 = .ok (.iload_n 1, 1) := by decide +kernel
theorem dX4_isKept_13 : decode cX4_isKept 13 = .ok (.iaload, 1) := by decide +kernel
theorem dX4_isKept_14 : decode cX4_isKept 14 = .ok (.ifCond .ne 7, 3) := by decide +kernel
theorem dX4_isKept_17 : decode cX4_isKept 17 = .ok (.iconst 1, 1) := by decide +kernel
theorem dX4_isKept_18 : decode cX4_isKept 18 = .ok (.goto 4, 3) := by decide +kernel
theorem dX4_isKept_21 : decode cX4_isKept 21 = .ok (.iconst 0, 1) := by decide +kernel
theorem dX4_isKept_22 : decode cX4_isKept 22 = .ok (.ireturn, 1) := by decide +kernel
set_option maxRecDepth 20000 in
theorem ggX4_isHidden_X4_isNumber : GoodIn wsX4_isHidden wsX4_isNumber := goodIn_r _ [6, 7, 8, 9, 10, 11, 12, 13, 14] (by decide +kernel) (by decide +kernel)
set_option maxRecDepth 20000 in
theorem gX4_isHidden_X4_isNumber : GoodIn wsX4_isHidden (wsV RX4 40 RX4 yX4_isNumber wsX4_isNumber) := goodIn_app (goodIn_of _ (by decide +kernel)) ggX4_isHidden_X4_isNumber
theorem dX4_isHidden_0 : decode cX4_isHidden 0 = .ok (.aload_n 0, 1) := by decide +kernel
theorem dX4_isHidden_1 : decode cX4_isHidden 1 = .ok (.iload_n 1, 1) := by decide +kernel
theorem dX4_isHidden_2 : decode cX4_isHidden 2 = .ok (.invokevirtual 40, 3) := by decide +kernel
theorem dX4_isHidden_5 : decode cX4_isHidden 5 = .ok (.ifCond .eq 17, 3) := by decide +kernel
theorem dX4_isHidden_8 : decode cX4_isHidden 8 = .ok (.aload_n 0, 1) := by decide +kernel
theorem dX4_isHidden_9 : decode cX4_isHidden 9 = .ok (.getfield 9, 3) := by decide +kernel
theorem dX4_isHidden_12 : decode cX4_isHidden 12 = .ok (.iload_n 1, 1) := by decide +kernel
theorem dX4_isHidden_13 : decode cX4_isHidden 13 = .ok (.iaload, 1) := by decide +kernel
theorem dX4_isHidden_14 : decode cX4_isHidden 14 = .ok (.iconst 1, 1) := by decide +kernel
theorem dX4_isHidden_15 : decode cX4_isHidden 15 = .ok (.if_icmp .ne 7, 3) := by decide +kernel
theorem dX4_isHidden_18 : decode cX4_isHidden 18 = .ok (.iconst 1, 1) := by decide +kernel
theorem dX4_isHidden_19 : decode cX4_isHidden 19 = .ok (.goto 4, 3) := by decide +kernel
theorem dX4_isHidden_22 : decode cX4_isHidden 22 = .ok (.iconst 0, 1) := by decide +kernel
theorem dX4_isHidden_23 : decode cX4_isHidden 23 = .ok (.ireturn, 1) := by decide +kernel
set_option maxRecDepth 20000 in
theorem ggX4_isSpoiled_X4_isNumber : GoodIn wsX4_isSpoiled wsX4_isNumber := goodIn_r _ [6, 7, 8, 9, 10, 11, 12, 13, 14] (by decide +kernel) (by decide +kernel)
set_option maxRecDepth 20000 in
theorem gX4_isSpoiled_X4_isNumber : GoodIn wsX4_isSpoiled (wsV RX4 40 RX4 yX4_isNumber wsX4_isNumber) := goodIn_app (goodIn_of _ (by decide +kernel)) ggX4_isSpoiled_X4_isNumber
theorem dX4_isSpoiled_0 : decode cX4_isSpoiled 0 = .ok (.aload_n 0, 1) := by decide +kernel
theorem dX4_isSpoiled_1 : decode cX4_isSpoiled 1 = .ok (.iload_n 1, 1) := by decide +kernel
theorem dX4_isSpoiled_2 : decode cX4_isSpoiled 2 = .ok (.invokevirtual 40, 3) := by decide +kernel
theorem dX4_isSpoiled_5 : decode cX4_isSpoiled 5 = .ok (.ifCond .eq 17, 3) := by decide +kernel
theorem dX4_isSpoiled_8 : decode cX4_isSpoiled 8 = .ok (.aload_n 0, 1) := by decide +kernel
theorem dX4_isSpoiled_9 : decode cX4_isSpoiled 9 = .ok (.getfield 24, 3) := by decide +kernel
theorem dX4_isSpoiled_12 : decode cX4_isSpoiled 12 = .ok (.iload_n 1, 1) := by decide +kernel
theorem dX4_isSpoiled_13 : decode cX4_isSpoiled 13 = .ok (.iaload, 1) := by decide +kernel
theorem dX4_isSpoiled_14 : decode cX4_isSpoiled 14 = .ok (.iconst 1, 1) := by decide +kernel
theorem dX4_isSpoiled_15 : decode cX4_isSpoiled 15 = .ok (.if_icmp .ne 7, 3) := by decide +kernel
theorem dX4_isSpoiled_18 : decode cX4_isSpoiled 18 = .ok (.iconst 1, 1) := by decide +kernel
theorem dX4_isSpoiled_19 : decode cX4_isSpoiled 19 = .ok (.goto 4, 3) := by decide +kernel
theorem dX4_isSpoiled_22 : decode cX4_isSpoiled 22 = .ok (.iconst 0, 1) := by decide +kernel
theorem dX4_isSpoiled_23 : decode cX4_isSpoiled 23 = .ok (.ireturn, 1) := by decide +kernel
set_option maxRecDepth 20000 in
theorem ggX4_kindOf_X4_isNumber : GoodIn wsX4_kindOf wsX4_isNumber := goodIn_r _ [6, 7, 8, 9, 10, 11, 12, 13, 14] (by decide +kernel) (by decide +kernel)
set_option maxRecDepth 20000 in
theorem gX4_kindOf_X4_isNumber : GoodIn wsX4_kindOf (wsV RX4 40 RX4 yX4_isNumber wsX4_isNumber) := goodIn_app (goodIn_of _ (by decide +kernel)) ggX4_kindOf_X4_isNumber
theorem dX4_kindOf_0 : decode cX4_kindOf 0 = .ok (.aload_n 0, 1) := by decide +kernel
theorem dX4_kindOf_1 : decode cX4_kindOf 1 = .ok (.iload_n 1, 1) := by decide +kernel
theorem dX4_kindOf_2 : decode cX4_kindOf 2 = .ok (.invokevirtual 40, 3) := by decide +kernel
theorem dX4_kindOf_5 : decode cX4_kindOf 5 = .ok (.ifCond .eq 12, 3) := by decide +kernel
theorem dX4_kindOf_8 : decode cX4_kindOf 8 = .ok (.aload_n 0, 1) := by decide +kernel
theorem dX4_kindOf_9 : decode cX4_kindOf 9 = .ok (.getfield 9, 3) := by decide +kernel
theorem dX4_kindOf_12 : decode cX4_kindOf 12 = .ok (.iload_n 1, 1) := by decide +kernel
theorem dX4_kindOf_13 : decode cX4_kindOf 13 = .ok (.iaload, 1) := by decide +kernel
theorem dX4_kindOf_14 : decode cX4_kindOf 14 = .ok (.goto 4, 3) := by decide +kernel
theorem dX4_kindOf_17 : decode cX4_kindOf 17 = .ok (.iconst 2, 1) := by decide +kernel
theorem dX4_kindOf_18 : decode cX4_kindOf 18 = .ok (.ireturn, 1) := by decide +kernel
set_option maxRecDepth 20000 in
theorem ggX4_parentOf_X4_isNumber : GoodIn wsX4_parentOf wsX4_isNumber := goodIn_r _ [6, 7, 8, 9, 10, 11, 12, 13, 14] (by decide +kernel) (by decide +kernel)
set_option maxRecDepth 20000 in
theorem gX4_parentOf_X4_isNumber : GoodIn wsX4_parentOf (wsV RX4 40 RX4 yX4_isNumber wsX4_isNumber) := goodIn_app (goodIn_of _ (by decide +kernel)) ggX4_parentOf_X4_isNumber
theorem dX4_parentOf_0 : decode cX4_parentOf 0 = .ok (.aload_n 0, 1) := by decide +kernel
theorem dX4_parentOf_1 : decode cX4_parentOf 1 = .ok (.iload_n 1, 1) := by decide +kernel
theorem dX4_parentOf_2 : decode cX4_parentOf 2 = .ok (.invokevirtual 40, 3) := by decide +kernel
theorem dX4_parentOf_5 : decode cX4_parentOf 5 = .ok (.ifCond .eq 12, 3) := by decide +kernel
theorem dX4_parentOf_8 : decode cX4_parentOf 8 = .ok (.aload_n 0, 1) := by decide +kernel
theorem dX4_parentOf_9 : decode cX4_parentOf 9 = .ok (.getfield 15, 3) := by decide +kernel
theorem dX4_parentOf_12 : decode cX4_parentOf 12 = .ok (.iload_n 1, 1) := by decide +kernel
theorem dX4_parentOf_13 : decode cX4_parentOf 13 = .ok (.iaload, 1) := by decide +kernel
theorem dX4_parentOf_14 : decode cX4_parentOf 14 = .ok (.goto 5, 3) := by decide +kernel
theorem dX4_parentOf_17 : decode cX4_parentOf 17 = .ok (.bipush (-5), 2) := by decide +kernel
theorem dX4_parentOf_19 : decode cX4_parentOf 19 = .ok (.ireturn, 1) := by decide +kernel
set_option maxRecDepth 20000 in
theorem ggX4_secondParentOf_X4_isNumber : GoodIn wsX4_secondParentOf wsX4_isNumber := goodIn_r _ [6, 7, 8, 9, 10, 11, 12, 13, 14] (by decide +kernel) (by decide +kernel)
set_option maxRecDepth 20000 in
theorem gX4_secondParentOf_X4_isNumber : GoodIn wsX4_secondParentOf (wsV RX4 40 RX4 yX4_isNumber wsX4_isNumber) := goodIn_app (goodIn_of _ (by decide +kernel)) ggX4_secondParentOf_X4_isNumber
theorem dX4_secondParentOf_0 : decode cX4_secondParentOf 0 = .ok (.aload_n 0, 1) := by decide +kernel
theorem dX4_secondParentOf_1 : decode cX4_secondParentOf 1 = .ok (.iload_n 1, 1) := by decide +kernel
theorem dX4_secondParentOf_2 : decode cX4_secondParentOf 2 = .ok (.invokevirtual 40, 3) := by decide +kernel
theorem dX4_secondParentOf_5 : decode cX4_secondParentOf 5 = .ok (.ifCond .eq 12, 3) := by decide +kernel
theorem dX4_secondParentOf_8 : decode cX4_secondParentOf 8 = .ok (.aload_n 0, 1) := by decide +kernel
theorem dX4_secondParentOf_9 : decode cX4_secondParentOf 9 = .ok (.getfield 18, 3) := by decide +kernel
theorem dX4_secondParentOf_12 : decode cX4_secondParentOf 12 = .ok (.iload_n 1, 1) := by decide +kernel
theorem dX4_secondParentOf_13 : decode cX4_secondParentOf 13 = .ok (.iaload, 1) := by decide +kernel
theorem dX4_secondParentOf_14 : decode cX4_secondParentOf 14 = .ok (.goto 5, 3) := by decide +kernel
theorem dX4_secondParentOf_17 : decode cX4_secondParentOf 17 = .ok (.bipush (-5), 2) := by decide +kernel
theorem dX4_secondParentOf_19 : decode cX4_secondParentOf 19 = .ok (.ireturn, 1) := by decide +kernel
set_option maxRecDepth 20000 in
theorem ggX4_baseOf_X4_isNumber : GoodIn wsX4_baseOf wsX4_isNumber := goodIn_r _ [6, 7, 8, 9, 10, 11, 12, 13, 14] (by decide +kernel) (by decide +kernel)
set_option maxRecDepth 20000 in
theorem gX4_baseOf_X4_isNumber : GoodIn wsX4_baseOf (wsV RX4 40 RX4 yX4_isNumber wsX4_isNumber) := goodIn_app (goodIn_of _ (by decide +kernel)) ggX4_baseOf_X4_isNumber
theorem dX4_baseOf_0 : decode cX4_baseOf 0 = .ok (.aload_n 0, 1) := by decide +kernel
theorem dX4_baseOf_1 : decode cX4_baseOf 1 = .ok (.iload_n 1, 1) := by decide +kernel
theorem dX4_baseOf_2 : decode cX4_baseOf 2 = .ok (.invokevirtual 40, 3) := by decide +kernel
theorem dX4_baseOf_5 : decode cX4_baseOf 5 = .ok (.ifCond .eq 12, 3) := by decide +kernel
theorem dX4_baseOf_8 : decode cX4_baseOf 8 = .ok (.aload_n 0, 1) := by decide +kernel
theorem dX4_baseOf_9 : decode cX4_baseOf 9 = .ok (.getfield 21, 3) := by decide +kernel
theorem dX4_baseOf_12 : decode cX4_baseOf 12 = .ok (.iload_n 1, 1) := by decide +kernel
theorem dX4_baseOf_13 : decode cX4_baseOf 13 = .ok (.iaload, 1) := by decide +kernel
theorem dX4_baseOf_14 : decode cX4_baseOf 14 = .ok (.goto 5, 3) := by decide +kernel
theorem dX4_baseOf_17 : decode cX4_baseOf 17 = .ok (.bipush (-5), 2) := by decide +kernel
theorem dX4_baseOf_19 : decode cX4_baseOf 19 = .ok (.ireturn, 1) := by decide +kernel
set_option maxRecDepth 20000 in
theorem ggX4_valueOf_X4_isNumber : GoodIn wsX4_valueOf wsX4_isNumber := goodIn_r _ [6, 7, 8, 9, 10, 11, 12, 13, 14] (by decide +kernel) (by decide +kernel)
set_option maxRecDepth 20000 in
theorem gX4_valueOf_X4_isNumber : GoodIn wsX4_valueOf (wsV RX4 40 RX4 yX4_isNumber wsX4_isNumber) := goodIn_app (goodIn_of _ (by decide +kernel)) ggX4_valueOf_X4_isNumber
theorem dX4_valueOf_0 : decode cX4_valueOf 0 = .ok (.aload_n 0, 1) := by decide +kernel
theorem dX4_valueOf_1 : decode cX4_valueOf 1 = .ok (.iload_n 1, 1) := by decide +kernel
theorem dX4_valueOf_2 : decode cX4_valueOf 2 = .ok (.invokevirtual 40, 3) := by decide +kernel
theorem dX4_valueOf_5 : decode cX4_valueOf 5 = .ok (.ifCond .eq 17, 3) := by decide +kernel
theorem dX4_valueOf_8 : decode cX4_valueOf 8 = .ok (.iload_n 2, 1) := by decide +kernel
theorem dX4_valueOf_9 : decode cX4_valueOf 9 = .ok (.ifCond .lt 13, 3) := by decide +kernel
theorem dX4_valueOf_12 : decode cX4_valueOf 12 = .ok (.iload_n 2, 1) := by decide +kernel
theorem dX4_valueOf_13 : decode cX4_valueOf 13 = .ok (.bipush 12, 2) := by decide +kernel
theorem dX4_valueOf_15 : decode cX4_valueOf 15 = .ok (.if_icmp .ge 7, 3) := by decide +kernel
theorem dX4_valueOf_18 : decode cX4_valueOf 18 = .ok (.iconst 1, 1) := by decide +kernel
theorem dX4_valueOf_19 : decode cX4_valueOf 19 = .ok (.goto 4, 3) := by decide +kernel
theorem dX4_valueOf_22 : decode cX4_valueOf 22 = .ok (.iconst 0, 1) := by decide +kernel
theorem dX4_valueOf_23 : decode cX4_valueOf 23 = .ok (.istore_n 3, 1) := by decide +kernel
theorem dX4_valueOf_24 : decode cX4_valueOf 24 = .ok (.iload_n 3, 1) := by decide +kernel
theorem dX4_valueOf_25 : decode cX4_valueOf 25 = .ok (.ifCond .eq 17, 3) := by decide +kernel
theorem dX4_valueOf_28 : decode cX4_valueOf 28 = .ok (.aload_n 0, 1) := by decide +kernel
theorem dX4_valueOf_29 : decode cX4_valueOf 29 = .ok (.getfield 27, 3) := by decide +kernel
theorem dX4_valueOf_32 : decode cX4_valueOf 32 = .ok (.iload_n 1, 1) := by decide +kernel
theorem dX4_valueOf_33 : decode cX4_valueOf 33 = .ok (.bipush 12, 2) := by decide +kernel
theorem dX4_valueOf_35 : decode cX4_valueOf 35 = .ok (.imul, 1) := by decide +kernel
theorem dX4_valueOf_36 : decode cX4_valueOf 36 = .ok (.iload_n 2, 1) := by decide +kernel
theorem dX4_valueOf_37 : decode cX4_valueOf 37 = .ok (.iadd, 1) := by decide +kernel
theorem dX4_valueOf_38 : decode cX4_valueOf 38 = .ok (.iaload, 1) := by decide +kernel
theorem dX4_valueOf_39 : decode cX4_valueOf 39 = .ok (.goto 4, 3) := by decide +kernel
theorem dX4_valueOf_42 : decode cX4_valueOf 42 = .ok (.iconst 0, 1) := by decide +kernel
theorem dX4_valueOf_43 : decode cX4_valueOf 43 = .ok (.ireturn, 1) := by decide +kernel
set_option maxRecDepth 20000 in
theorem ggX4_differing_X4_isNumber : GoodIn wsX4_differing wsX4_isNumber := goodIn_r _ [6, 7, 8, 9, 10, 11, 12, 13, 14] (by decide +kernel) (by decide +kernel)
set_option maxRecDepth 20000 in
theorem gX4_differing_X4_isNumber : GoodIn wsX4_differing (wsV RX4 40 RX4 yX4_isNumber wsX4_isNumber) := goodIn_app (goodIn_of _ (by decide +kernel)) ggX4_differing_X4_isNumber
theorem dX4_differing_0 : decode cX4_differing 0 = .ok (.aload_n 0, 1) := by decide +kernel
theorem dX4_differing_1 : decode cX4_differing 1 = .ok (.iload_n 1, 1) := by decide +kernel
theorem dX4_differing_2 : decode cX4_differing 2 = .ok (.invokevirtual 40, 3) := by decide +kernel
theorem dX4_differing_5 : decode cX4_differing 5 = .ok (.ifCond .eq 11, 3) := by decide +kernel
theorem dX4_differing_8 : decode cX4_differing 8 = .ok (.aload_n 0, 1) := by decide +kernel
theorem dX4_differing_9 : decode cX4_differing 9 = .ok (.iload_n 2, 1) := by decide +kernel
theorem dX4_differing_10 : decode cX4_differing 10 = .ok (.invokevirtual 40, 3) := by decide +kernel
theorem dX4_differing_13 : decode cX4_differing 13 = .ok (.ifCond .ne 5, 3) := by decide +kernel
theorem dX4_differing_16 : decode cX4_differing 16 = .ok (.iconst 0, 1) := by decide +kernel
theorem dX4_differing_17 : decode cX4_differing 17 = .ok (.ireturn, 1) := by decide +kernel
theorem dX4_differing_18 : decode cX4_differing 18 = .ok (.iconst 0, 1) := by decide +kernel
theorem dX4_differing_19 : decode cX4_differing 19 = .ok (.istore_n 3, 1) := by decide +kernel
theorem dX4_differing_20 : decode cX4_differing 20 = .ok (.iload_n 1, 1) := by decide +kernel
theorem dX4_differing_21 : decode cX4_differing 21 = .ok (.bipush 12, 2) := by decide +kernel
theorem dX4_differing_23 : decode cX4_differing 23 = .ok (.imul, 1) := by decide +kernel
theorem dX4_differing_24 : decode cX4_differing 24 = .ok (.istore 4, 2) := by decide +kernel
theorem dX4_differing_26 : decode cX4_differing 26 = .ok (.iload_n 2, 1) := by decide +kernel
theorem dX4_differing_27 : decode cX4_differing 27 = .ok (.bipush 12, 2) := by decide +kernel
theorem dX4_differing_29 : decode cX4_differing 29 = .ok (.imul, 1) := by decide +kernel
theorem dX4_differing_30 : decode cX4_differing 30 = .ok (.istore 5, 2) := by decide +kernel
theorem dX4_differing_32 : decode cX4_differing 32 = .ok (.iconst 0, 1) := by decide +kernel
theorem dX4_differing_33 : decode cX4_differing 33 = .ok (.istore 6, 2) := by decide +kernel
theorem dX4_differing_35 : decode cX4_differing 35 = .ok (.iload 6, 2) := by decide +kernel
theorem dX4_differing_37 : decode cX4_differing 37 = .ok (.bipush 12, 2) := by decide +kernel
theorem dX4_differing_39 : decode cX4_differing 39 = .ok (.if_icmp .ge 35, 3) := by decide +kernel
theorem dX4_differing_42 : decode cX4_differing 42 = .ok (.aload_n 0, 1) := by decide +kernel
theorem dX4_differing_43 : decode cX4_differing 43 = .ok (.getfield 27, 3) := by decide +kernel
theorem dX4_differing_46 : decode cX4_differing 46 = .ok (.iload 4, 2) := by decide +kernel
theorem dX4_differing_48 : decode cX4_differing 48 = .ok (.iload 6, 2) := by decide +kernel
theorem dX4_differing_50 : decode cX4_differing 50 = .ok (.iadd, 1) := by decide +kernel
theorem dX4_differing_51 : decode cX4_differing 51 = .ok (.iaload, 1) := by decide +kernel
theorem dX4_differing_52 : decode cX4_differing 52 = .ok (.aload_n 0, 1) := by decide +kernel
theorem dX4_differing_53 : decode cX4_differing 53 = .ok (.getfield 27, 3) := by decide +kernel
theorem dX4_differing_56 : decode cX4_differing 56 = .ok (.iload 5, 2) := by decide +kernel
theorem dX4_differing_58 : decode cX4_differing 58 = .ok (.iload 6, 2) := by decide +kernel
theorem dX4_differing_60 : decode cX4_differing 60 = .ok (.iadd, 1) := by decide +kernel
theorem dX4_differing_61 : decode cX4_differing 61 = .ok (.iaload, 1) := by decide +kernel
theorem dX4_differing_62 : decode cX4_differing 62 = .ok (.if_icmp .eq 6, 3) := by decide +kernel
theorem dX4_differing_65 : decode cX4_differing 65 = .ok (.iinc 3 1, 3) := by decide +kernel
theorem dX4_differing_68 : decode cX4_differing 68 = .ok (.iinc 6 1, 3) := by decide +kernel
theorem dX4_differing_71 : decode cX4_differing 71 = .ok (.goto (-36), 3) := by decide +kernel
theorem dX4_differing_74 : decode cX4_differing 74 = .ok (.iload_n 3, 1) := by decide +kernel
theorem dX4_differing_75 : decode cX4_differing 75 = .ok (.ireturn, 1) := by decide +kernel
set_option maxRecDepth 20000 in
theorem ggX4_differingFrom_X4_valueOf : GoodIn wsX4_differingFrom wsX4_valueOf := goodIn_r _ [5, 6, 7, 8, 9, 4, 10, 11, 12, 13, 14, 15, 16, 17, 18] (by decide +kernel) (by decide +kernel)
set_option maxRecDepth 20000 in
theorem gX4_differingFrom_X4_valueOf : GoodIn wsX4_differingFrom (wsV RX4 44 RX4 yX4_valueOf wsX4_valueOf) := goodIn_app (goodIn_of _ (by decide +kernel)) ggX4_differingFrom_X4_valueOf
theorem dX4_differingFrom_0 : decode cX4_differingFrom 0 = .ok (.iconst 0, 1) := by decide +kernel
theorem dX4_differingFrom_1 : decode cX4_differingFrom 1 = .ok (.istore_n 3, 1) := by decide +kernel
theorem dX4_differingFrom_2 : decode cX4_differingFrom 2 = .ok (.iconst 0, 1) := by decide +kernel
theorem dX4_differingFrom_3 : decode cX4_differingFrom 3 = .ok (.istore 4, 2) := by decide +kernel
theorem dX4_differingFrom_5 : decode cX4_differingFrom 5 = .ok (.iload 4, 2) := by decide +kernel
theorem dX4_differingFrom_7 : decode cX4_differingFrom 7 = .ok (.bipush 12, 2) := by decide +kernel
theorem dX4_differingFrom_9 : decode cX4_differingFrom 9 = .ok (.if_icmp .ge 33, 3) := by decide +kernel
theorem dX4_differingFrom_12 : decode cX4_differingFrom 12 = .ok (.iload 4, 2) := by decide +kernel
theorem dX4_differingFrom_14 : decode cX4_differingFrom 14 = .ok (.aload_n 2, 1) := by decide +kernel
theorem dX4_differingFrom_15 : decode cX4_differingFrom 15 = .ok (.arraylength, 1) := by decide +kernel
theorem dX4_differingFrom_16 : decode cX4_differingFrom 16 = .ok (.if_icmp .ge 26, 3) := by decide +kernel
theorem dX4_differingFrom_19 : decode cX4_differingFrom 19 = .ok (.aload_n 0, 1) := by decide +kernel
theorem dX4_differingFrom_20 : decode cX4_differingFrom 20 = .ok (.iload_n 1, 1) := by decide +kernel
theorem dX4_differingFrom_21 : decode cX4_differingFrom 21 = .ok (.iload 4, 2) := by decide +kernel
theorem dX4_differingFrom_23 : decode cX4_differingFrom 23 = .ok (.invokevirtual 44, 3) := by decide +kernel
theorem dX4_differingFrom_26 : decode cX4_differingFrom 26 = .ok (.aload_n 2, 1) := by decide +kernel
theorem dX4_differingFrom_27 : decode cX4_differingFrom 27 = .ok (.iload 4, 2) := by decide +kernel
theorem dX4_differingFrom_29 : decode cX4_differingFrom 29 = .ok (.iaload, 1) := by decide +kernel
theorem dX4_differingFrom_30 : decode cX4_differingFrom 30 = .ok (.if_icmp .eq 6, 3) := by decide +kernel
theorem dX4_differingFrom_33 : decode cX4_differingFrom 33 = .ok (.iinc 3 1, 3) := by decide +kernel
theorem dX4_differingFrom_36 : decode cX4_differingFrom 36 = .ok (.iinc 4 1, 3) := by decide +kernel
theorem dX4_differingFrom_39 : decode cX4_differingFrom 39 = .ok (.goto (-34), 3) := by decide +kernel
theorem dX4_differingFrom_42 : decode cX4_differingFrom 42 = .ok (.iload_n 3, 1) := by decide +kernel
theorem dX4_differingFrom_43 : decode cX4_differingFrom 43 = .ok (.ireturn, 1) := by decide +kernel
set_option maxRecDepth 20000 in
theorem ggX4_costOf_X4_isPresent : GoodIn wsX4_costOf wsX4_isPresent := goodIn_r _ [5, 6, 7, 8, 9, 4, 10, 11, 25, 26, 27, 28, 29, 30, 31] (by decide +kernel) (by decide +kernel)
set_option maxRecDepth 20000 in
theorem gX4_costOf_X4_isPresent : GoodIn wsX4_costOf (wsV RX4 48 RX4 yX4_isPresent wsX4_isPresent) := goodIn_app (goodIn_of _ (by decide +kernel)) ggX4_costOf_X4_isPresent
set_option maxRecDepth 20000 in
theorem ggX4_costOf_X4_baseOf : GoodIn wsX4_costOf wsX4_baseOf := goodIn_r _ [15, 16, 7, 8, 9, 4, 10, 11, 25, 26, 27, 28, 29, 30, 31] (by decide +kernel) (by decide +kernel)
set_option maxRecDepth 20000 in
theorem gX4_costOf_X4_baseOf : GoodIn wsX4_costOf (wsV RX4 51 RX4 yX4_baseOf wsX4_baseOf) := goodIn_app (goodIn_of _ (by decide +kernel)) ggX4_costOf_X4_baseOf
set_option maxRecDepth 20000 in
theorem ggX4_costOf_X4_differing : GoodIn wsX4_costOf wsX4_differing := goodIn_r _ [20, 21, 7, 8, 9, 4, 10, 11, 25, 26, 27, 28, 29, 30, 31] (by decide +kernel) (by decide +kernel)
set_option maxRecDepth 20000 in
theorem gX4_costOf_X4_differing : GoodIn wsX4_costOf (wsV RX4 55 RX4 yX4_differing wsX4_differing) := goodIn_app (goodIn_of _ (by decide +kernel)) ggX4_costOf_X4_differing
set_option maxRecDepth 20000 in
theorem ggX4_costOf_X4_costOfChanges : GoodIn wsX4_costOf wsX4_costOfChanges := goodIn_r _ [24] (by decide +kernel) (by decide +kernel)
set_option maxRecDepth 20000 in
theorem gX4_costOf_X4_costOfChanges : GoodIn wsX4_costOf (va_wsS RX4 58 yX4_costOfChanges wsX4_costOfChanges) := goodIn_app (goodIn_of _ (by decide +kernel)) ggX4_costOf_X4_costOfChanges
theorem dX4_costOf_0 : decode cX4_costOf 0 = .ok (.aload_n 0, 1) := by decide +kernel
theorem dX4_costOf_1 : decode cX4_costOf 1 = .ok (.iload_n 1, 1) := by decide +kernel
theorem dX4_costOf_2 : decode cX4_costOf 2 = .ok (.invokevirtual 48, 3) := by decide +kernel
theorem dX4_costOf_5 : decode cX4_costOf 5 = .ok (.ifCond .ne 5, 3) := by decide +kernel
theorem dX4_costOf_8 : decode cX4_costOf 8 = .ok (.iconst 0, 1) := by decide +kernel
theorem dX4_costOf_9 : decode cX4_costOf 9 = .ok (.ireturn, 1) := by decide +kernel
theorem dX4_costOf_10 : decode cX4_costOf 10 = .ok (.aload_n 0, 1) := by decide +kernel
theorem dX4_costOf_11 : decode cX4_costOf 11 = .ok (.iload_n 1, 1) := by decide +kernel
theorem dX4_costOf_12 : decode cX4_costOf 12 = .ok (.invokevirtual 51, 3) := by decide +kernel
theorem dX4_costOf_15 : decode cX4_costOf 15 = .ok (.istore_n 2, 1) := by decide +kernel
theorem dX4_costOf_16 : decode cX4_costOf 16 = .ok (.iload_n 2, 1) := by decide +kernel
theorem dX4_costOf_17 : decode cX4_costOf 17 = .ok (.ifCond .ge 8, 3) := by decide +kernel
theorem dX4_costOf_20 : decode cX4_costOf 20 = .ok (.bipush 12, 2) := by decide +kernel
theorem dX4_costOf_22 : decode cX4_costOf 22 = .ok (.goto 12, 3) := by decide +kernel
theorem dX4_costOf_25 : decode cX4_costOf 25 = .ok (.aload_n 0, 1) := by decide +kernel
theorem dX4_costOf_26 : decode cX4_costOf 26 = .ok (.iload_n 1, 1) := by decide +kernel
theorem dX4_costOf_27 : decode cX4_costOf 27 = .ok (.iload_n 2, 1) := by decide +kernel
theorem dX4_costOf_28 : decode cX4_costOf 28 = .ok (.invokevirtual 55, 3) := by decide +kernel
theorem dX4_costOf_31 : decode cX4_costOf 31 = .ok (.invokestatic 58, 3) := by decide +kernel
theorem dX4_costOf_34 : decode cX4_costOf 34 = .ok (.ireturn, 1) := by decide +kernel
theorem dX4_costOfChanges_0 : decode cX4_costOfChanges 0 = .ok (.iconst 1, 1) := by decide +kernel
theorem dX4_costOfChanges_1 : decode cX4_costOfChanges 1 = .ok (.iconst 2, 1) := by decide +kernel
theorem dX4_costOfChanges_2 : decode cX4_costOfChanges 2 = .ok (.iload_n 0, 1) := by decide +kernel
theorem dX4_costOfChanges_3 : decode cX4_costOfChanges 3 = .ok (.imul, 1) := by decide +kernel
theorem dX4_costOfChanges_4 : decode cX4_costOfChanges 4 = .ok (.iadd, 1) := by decide +kernel
theorem dX4_costOfChanges_5 : decode cX4_costOfChanges 5 = .ok (.ireturn, 1) := by decide +kernel
set_option maxRecDepth 20000 in
theorem ggX4_dependants_X4_isPresent : GoodIn wsX4_dependants wsX4_isPresent := goodIn_r _ [6, 7, 8, 9, 10, 5, 11, 1, 17, 18, 19, 20, 21, 22, 23] (by decide +kernel) (by decide +kernel)
set_option maxRecDepth 20000 in
theorem gX4_dependants_X4_isPresent : GoodIn wsX4_dependants (wsV RX4 48 RX4 yX4_isPresent wsX4_isPresent) := goodIn_app (goodIn_of _ (by decide +kernel)) ggX4_dependants_X4_isPresent
set_option maxRecDepth 20000 in
theorem ggX4_dependants_X4_baseOf : GoodIn wsX4_dependants wsX4_baseOf := goodIn_r _ [15, 16, 8, 9, 10, 5, 11, 1, 17, 18, 19, 20, 21, 22, 23] (by decide +kernel) (by decide +kernel)
set_option maxRecDepth 20000 in
theorem gX4_dependants_X4_baseOf : GoodIn wsX4_dependants (wsV RX4 51 RX4 yX4_baseOf wsX4_baseOf) := goodIn_app (goodIn_of _ (by decide +kernel)) ggX4_dependants_X4_baseOf
theorem dX4_dependants_0 : decode cX4_dependants 0 = .ok (.iconst 0, 1) := by decide +kernel
theorem dX4_dependants_1 : decode cX4_dependants 1 = .ok (.istore_n 2, 1) := by decide +kernel
theorem dX4_dependants_2 : decode cX4_dependants 2 = .ok (.iconst 0, 1) := by decide +kernel
theorem dX4_dependants_3 : decode cX4_dependants 3 = .ok (.istore_n 3, 1) := by decide +kernel
theorem dX4_dependants_4 : decode cX4_dependants 4 = .ok (.iload_n 3, 1) := by decide +kernel
theorem dX4_dependants_5 : decode cX4_dependants 5 = .ok (.aload_n 0, 1) := by decide +kernel
theorem dX4_dependants_6 : decode cX4_dependants 6 = .ok (.getfield 30, 3) := by decide +kernel
theorem dX4_dependants_9 : decode cX4_dependants 9 = .ok (.if_icmp .ge 29, 3) := by decide +kernel
theorem dX4_dependants_12 : decode cX4_dependants 12 = .ok (.aload_n 0, 1) := by decide +kernel
theorem dX4_dependants_13 : decode cX4_dependants 13 = .ok (.iload_n 3, 1) := by decide +kernel
theorem dX4_dependants_14 : decode cX4_dependants 14 = .ok (.invokevirtual 48, 3) := by decide +kernel
theorem dX4_dependants_17 : decode cX4_dependants 17 = .ok (.ifCond .eq 15, 3) := by decide +kernel
theorem dX4_dependants_20 : decode cX4_dependants 20 = .ok (.aload_n 0, 1) := by decide +kernel
theorem dX4_dependants_21 : decode cX4_dependants 21 = .ok (.iload_n 3, 1) := by decide +kernel
theorem dX4_dependants_22 : decode cX4_dependants 22 = .ok (.invokevirtual 51, 3) := by decide +kernel
theorem dX4_dependants_25 : decode cX4_dependants 25 = .ok (.iload_n 1, 1) := by decide +kernel
theorem dX4_dependants_26 : decode cX4_dependants 26 = .ok (.if_icmp .ne 6, 3) := by decide +kernel
theorem dX4_dependants_29 : decode cX4_dependants 29 = .ok (.iinc 2 1, 3) := by decide +kernel
theorem dX4_dependants_32 : decode cX4_dependants 32 = .ok (.iinc 3 1, 3) := by decide +kernel
theorem dX4_dependants_35 : decode cX4_dependants 35 = .ok (.goto (-31), 3) := by decide +kernel
theorem dX4_dependants_38 : decode cX4_dependants 38 = .ok (.iload_n 2, 1) := by decide +kernel
theorem dX4_dependants_39 : decode cX4_dependants 39 = .ok (.ireturn, 1) := by decide +kernel
set_option maxRecDepth 20000 in
theorem ggX4_stepsOf_X4_baseOf : GoodIn wsX4_stepsOf wsX4_baseOf := goodIn_r _ [5, 6, 7, 8, 9, 4, 10, 11, 12, 13, 14, 15, 16, 17, 18] (by decide +kernel) (by decide +kernel)
set_option maxRecDepth 20000 in
theorem gX4_stepsOf_X4_baseOf : GoodIn wsX4_stepsOf (wsV RX4 51 RX4 yX4_baseOf wsX4_baseOf) := goodIn_app (goodIn_of _ (by decide +kernel)) ggX4_stepsOf_X4_baseOf
theorem dX4_stepsOf_0 : decode cX4_stepsOf 0 = .ok (.iconst 0, 1) := by decide +kernel
theorem dX4_stepsOf_1 : decode cX4_stepsOf 1 = .ok (.istore_n 2, 1) := by decide +kernel
theorem dX4_stepsOf_2 : decode cX4_stepsOf 2 = .ok (.aload_n 0, 1) := by decide +kernel
theorem dX4_stepsOf_3 : decode cX4_stepsOf 3 = .ok (.iload_n 1, 1) := by decide +kernel
theorem dX4_stepsOf_4 : decode cX4_stepsOf 4 = .ok (.invokevirtual 51, 3) := by decide +kernel
theorem dX4_stepsOf_7 : decode cX4_stepsOf 7 = .ok (.istore_n 3, 1) := by decide +kernel
theorem dX4_stepsOf_8 : decode cX4_stepsOf 8 = .ok (.iload_n 2, 1) := by decide +kernel
theorem dX4_stepsOf_9 : decode cX4_stepsOf 9 = .ok (.bipush 40, 2) := by decide +kernel
theorem dX4_stepsOf_11 : decode cX4_stepsOf 11 = .ok (.if_icmp .ge 19, 3) := by decide +kernel
theorem dX4_stepsOf_14 : decode cX4_stepsOf 14 = .ok (.iload_n 3, 1) := by decide +kernel
theorem dX4_stepsOf_15 : decode cX4_stepsOf 15 = .ok (.ifCond .lt 15, 3) := by decide +kernel
theorem dX4_stepsOf_18 : decode cX4_stepsOf 18 = .ok (.iinc 2 1, 3) := by decide +kernel
theorem dX4_stepsOf_21 : decode cX4_stepsOf 21 = .ok (.aload_n 0, 1) := by decide +kernel
theorem dX4_stepsOf_22 : decode cX4_stepsOf 22 = .ok (.iload_n 3, 1) := by decide +kernel
theorem dX4_stepsOf_23 : decode cX4_stepsOf 23 = .ok (.invokevirtual 51, 3) := by decide +kernel
theorem dX4_stepsOf_26 : decode cX4_stepsOf 26 = .ok (.istore_n 3, 1) := by decide +kernel
theorem dX4_stepsOf_27 : decode cX4_stepsOf 27 = .ok (.goto (-19), 3) := by decide +kernel
theorem dX4_stepsOf_30 : decode cX4_stepsOf 30 = .ok (.iload_n 2, 1) := by decide +kernel
theorem dX4_stepsOf_31 : decode cX4_stepsOf 31 = .ok (.ireturn, 1) := by decide +kernel
set_option maxRecDepth 20000 in
theorem ggX4_onWay_X4_baseOf : GoodIn wsX4_onWay wsX4_baseOf := goodIn_r _ [5, 6, 7, 8, 9, 4, 10, 11, 12, 13, 14, 15, 16, 17, 18] (by decide +kernel) (by decide +kernel)
set_option maxRecDepth 20000 in
theorem gX4_onWay_X4_baseOf : GoodIn wsX4_onWay (wsV RX4 51 RX4 yX4_baseOf wsX4_baseOf) := goodIn_app (goodIn_of _ (by decide +kernel)) ggX4_onWay_X4_baseOf
theorem dX4_onWay_0 : decode cX4_onWay 0 = .ok (.iload_n 1, 1) := by decide +kernel
theorem dX4_onWay_1 : decode cX4_onWay 1 = .ok (.istore_n 3, 1) := by decide +kernel
theorem dX4_onWay_2 : decode cX4_onWay 2 = .ok (.iconst 0, 1) := by decide +kernel
theorem dX4_onWay_3 : decode cX4_onWay 3 = .ok (.istore 4, 2) := by decide +kernel
theorem dX4_onWay_5 : decode cX4_onWay 5 = .ok (.iload 4, 2) := by decide +kernel
theorem dX4_onWay_7 : decode cX4_onWay 7 = .ok (.iload_n 2, 1) := by decide +kernel
theorem dX4_onWay_8 : decode cX4_onWay 8 = .ok (.if_icmp .ge 26, 3) := by decide +kernel
theorem dX4_onWay_11 : decode cX4_onWay 11 = .ok (.iload 4, 2) := by decide +kernel
theorem dX4_onWay_13 : decode cX4_onWay 13 = .ok (.bipush 40, 2) := by decide +kernel
theorem dX4_onWay_15 : decode cX4_onWay 15 = .ok (.if_icmp .ge 19, 3) := by decide +kernel
theorem dX4_onWay_18 : decode cX4_onWay 18 = .ok (.iload_n 3, 1) := by decide +kernel
theorem dX4_onWay_19 : decode cX4_onWay 19 = .ok (.ifCond .lt 15, 3) := by decide +kernel
theorem dX4_onWay_22 : decode cX4_onWay 22 = .ok (.aload_n 0, 1) := by decide +kernel
theorem dX4_onWay_23 : decode cX4_onWay 23 = .ok (.iload_n 3, 1) := by decide +kernel
theorem dX4_onWay_24 : decode cX4_onWay 24 = .ok (.invokevirtual 51, 3) := by decide +kernel
theorem dX4_onWay_27 : decode cX4_onWay 27 = .ok (.istore_n 3, 1) := by decide +kernel
theorem dX4_onWay_28 : decode cX4_onWay 28 = .ok (.iinc 4 1, 3) := by decide +kernel
theorem dX4_onWay_31 : decode cX4_onWay 31 = .ok (.goto (-26), 3) := by decide +kernel
theorem dX4_onWay_34 : decode cX4_onWay 34 = .ok (.iload_n 3, 1) := by decide +kernel
theorem dX4_onWay_35 : decode cX4_onWay 35 = .ok (.ireturn, 1) := by decide +kernel
set_option maxRecDepth 20000 in
theorem ggX4_distance_X4_baseOf : GoodIn wsX4_distance wsX4_baseOf := goodIn_r _ [5, 6, 7, 8, 9, 4, 10, 11, 12, 13, 14, 15, 16, 17, 18] (by decide +kernel) (by decide +kernel)
set_option maxRecDepth 20000 in
theorem gX4_distance_X4_baseOf : GoodIn wsX4_distance (wsV RX4 51 RX4 yX4_baseOf wsX4_baseOf) := goodIn_app (goodIn_of _ (by decide +kernel)) ggX4_distance_X4_baseOf
theorem dX4_distance_0 : decode cX4_distance 0 = .ok (.iload_n 1, 1) := by decide +kernel
theorem dX4_distance_1 : decode cX4_distance 1 = .ok (.istore_n 3, 1) := by decide +kernel
theorem dX4_distance_2 : decode cX4_distance 2 = .ok (.iconst 0, 1) := by decide +kernel
theorem dX4_distance_3 : decode cX4_distance 3 = .ok (.istore 4, 2) := by decide +kernel
theorem dX4_distance_5 : decode cX4_distance 5 = .ok (.iload 4, 2) := by decide +kernel
theorem dX4_distance_7 : decode cX4_distance 7 = .ok (.bipush 40, 2) := by decide +kernel
theorem dX4_distance_9 : decode cX4_distance 9 = .ok (.if_icmp .ge 27, 3) := by decide +kernel
theorem dX4_distance_12 : decode cX4_distance 12 = .ok (.iload_n 3, 1) := by decide +kernel
theorem dX4_distance_13 : decode cX4_distance 13 = .ok (.ifCond .lt 23, 3) := by decide +kernel
theorem dX4_distance_16 : decode cX4_distance 16 = .ok (.iload_n 3, 1) := by decide +kernel
theorem dX4_distance_17 : decode cX4_distance 17 = .ok (.iload_n 2, 1) := by decide +kernel
theorem dX4_distance_18 : decode cX4_distance 18 = .ok (.if_icmp .ne 6, 3) := by decide +kernel
theorem dX4_distance_21 : decode cX4_distance 21 = .ok (.iload 4, 2) := by decide +kernel
theorem dX4_distance_23 : decode cX4_distance 23 = .ok (.ireturn, 1) := by decide +kernel
theorem dX4_distance_24 : decode cX4_distance 24 = .ok (.aload_n 0, 1) := by decide +kernel
theorem dX4_distance_25 : decode cX4_distance 25 = .ok (.iload_n 3, 1) := by decide +kernel
theorem dX4_distance_26 : decode cX4_distance 26 = .ok (.invokevirtual 51, 3) := by decide +kernel
theorem dX4_distance_29 : decode cX4_distance 29 = .ok (.istore_n 3, 1) := by decide +kernel
theorem dX4_distance_30 : decode cX4_distance 30 = .ok (.iinc 4 1, 3) := by decide +kernel
theorem dX4_distance_33 : decode cX4_distance 33 = .ok (.goto (-28), 3) := by decide +kernel
theorem dX4_distance_36 : decode cX4_distance 36 = .ok (.bipush (-5), 2) := by decide +kernel
theorem dX4_distance_38 : decode cX4_distance 38 = .ok (.ireturn, 1) := by decide +kernel
set_option maxRecDepth 20000 in
theorem ggX4_isOnWay_X4_distance : GoodIn wsX4_isOnWay wsX4_distance := goodIn_r _ [5, 6, 7, 8, 4, 9, 10, 11, 12, 13, 14, 15, 16, 17, 18, 19, 20, 21, 22] (by decide +kernel) (by decide +kernel)
set_option maxRecDepth 20000 in
theorem gX4_isOnWay_X4_distance : GoodIn wsX4_isOnWay (wsV RX4 61 RX4 yX4_distance wsX4_distance) := goodIn_app (goodIn_of _ (by decide +kernel)) ggX4_isOnWay_X4_distance
theorem dX4_isOnWay_0 : decode cX4_isOnWay 0 = .ok (.aload_n 0, 1) := by decide +kernel
theorem dX4_isOnWay_1 : decode cX4_isOnWay 1 = .ok (.iload_n 2, 1) := by decide +kernel
theorem dX4_isOnWay_2 : decode cX4_isOnWay 2 = .ok (.iload_n 1, 1) := by decide +kernel
theorem dX4_isOnWay_3 : decode cX4_isOnWay 3 = .ok (.invokevirtual 61, 3) := by decide +kernel
theorem dX4_isOnWay_6 : decode cX4_isOnWay 6 = .ok (.ifCond .lt 7, 3) := by decide +kernel
theorem dX4_isOnWay_9 : decode cX4_isOnWay 9 = .ok (.iconst 1, 1) := by decide +kernel
theorem dX4_isOnWay_10 : decode cX4_isOnWay 10 = .ok (.goto 4, 3) := by decide +kernel
theorem dX4_isOnWay_13 : decode cX4_isOnWay 13 = .ok (.iconst 0, 1) := by decide +kernel
theorem dX4_isOnWay_14 : decode cX4_isOnWay 14 = .ok (.ireturn, 1) := by decide +kernel
set_option maxRecDepth 20000 in
theorem ggX4_heightOver_X4_isPresent : GoodIn wsX4_heightOver wsX4_isPresent := goodIn_r _ [10, 11, 12, 13, 14, 9, 15, 1, 25, 26, 27, 28, 29, 30, 31] (by decide +kernel) (by decide +kernel)
set_option maxRecDepth 20000 in
theorem gX4_heightOver_X4_isPresent : GoodIn wsX4_heightOver (wsV RX4 48 RX4 yX4_isPresent wsX4_isPresent) := goodIn_app (goodIn_of _ (by decide +kernel)) ggX4_heightOver_X4_isPresent
set_option maxRecDepth 20000 in
theorem ggX4_heightOver_X4_distance : GoodIn wsX4_heightOver wsX4_distance := goodIn_r _ [19, 20, 21, 22, 9, 23, 24, 12, 13, 14, 15, 1, 25, 26, 27, 28, 29, 30, 31] (by decide +kernel) (by decide +kernel)
set_option maxRecDepth 20000 in
theorem gX4_heightOver_X4_distance : GoodIn wsX4_heightOver (wsV RX4 61 RX4 yX4_distance wsX4_distance) := goodIn_app (goodIn_of _ (by decide +kernel)) ggX4_heightOver_X4_distance
theorem dX4_heightOver_0 : decode cX4_heightOver 0 = .ok (.iconst 0, 1) := by decide +kernel
theorem dX4_heightOver_1 : decode cX4_heightOver 1 = .ok (.istore_n 2, 1) := by decide +kernel
theorem dX4_heightOver_2 : decode cX4_heightOver 2 = .ok (.iconst 0, 1) := by decide +kernel
theorem dX4_heightOver_3 : decode cX4_heightOver 3 = .ok (.istore_n 3, 1) := by decide +kernel
theorem dX4_heightOver_4 : decode cX4_heightOver 4 = .ok (.iload_n 3, 1) := by decide +kernel
theorem dX4_heightOver_5 : decode cX4_heightOver 5 = .ok (.aload_n 0, 1) := by decide +kernel
theorem dX4_heightOver_6 : decode cX4_heightOver 6 = .ok (.getfield 30, 3) := by decide +kernel
theorem dX4_heightOver_9 : decode cX4_heightOver 9 = .ok (.if_icmp .ge 28, 3) := by decide +kernel
theorem dX4_heightOver_12 : decode cX4_heightOver 12 = .ok (.aload_n 0, 1) := by decide +kernel
theorem dX4_heightOver_13 : decode cX4_heightOver 13 = .ok (.iload_n 3, 1) := by decide +kernel
theorem dX4_heightOver_14 : decode cX4_heightOver 14 = .ok (.invokevirtual 48, 3) := by decide +kernel
theorem dX4_heightOver_17 : decode cX4_heightOver 17 = .ok (.ifCond .eq 14, 3) := by decide +kernel
theorem dX4_heightOver_20 : decode cX4_heightOver 20 = .ok (.iload_n 2, 1) := by decide +kernel
theorem dX4_heightOver_21 : decode cX4_heightOver 21 = .ok (.aload_n 0, 1) := by decide +kernel
theorem dX4_heightOver_22 : decode cX4_heightOver 22 = .ok (.iload_n 3, 1) := by decide +kernel
theorem dX4_heightOver_23 : decode cX4_heightOver 23 = .ok (.iload_n 1, 1) := by decide +kernel
theorem dX4_heightOver_24 : decode cX4_heightOver 24 = .ok (.invokevirtual 61, 3) := by decide +kernel
theorem dX4_heightOver_27 : decode cX4_heightOver 27 = .ok (.invokestatic 64, 3) := by decide +kernel
theorem dX4_heightOver_30 : decode cX4_heightOver 30 = .ok (.istore_n 2, 1) := by decide +kernel
theorem dX4_heightOver_31 : decode cX4_heightOver 31 = .ok (.iinc 3 1, 3) := by decide +kernel
theorem dX4_heightOver_34 : decode cX4_heightOver 34 = .ok (.goto (-30), 3) := by decide +kernel
theorem dX4_heightOver_37 : decode cX4_heightOver 37 = .ok (.iload_n 2, 1) := by decide +kernel
theorem dX4_heightOver_38 : decode cX4_heightOver 38 = .ok (.ireturn, 1) := by decide +kernel
set_option maxRecDepth 20000 in
theorem ggX4_stepsBy_X4_stepsOf : GoodIn wsX4_stepsBy wsX4_stepsOf := goodIn_r _ [5, 6, 7, 8, 4, 9, 10, 11, 12, 13, 14, 15, 16, 17, 18, 19, 20, 21, 22] (by decide +kernel) (by decide +kernel)
set_option maxRecDepth 20000 in
theorem gX4_stepsBy_X4_stepsOf : GoodIn wsX4_stepsBy (wsV RX4 69 RX4 yX4_stepsOf wsX4_stepsOf) := goodIn_app (goodIn_of _ (by decide +kernel)) ggX4_stepsBy_X4_stepsOf
theorem dX4_stepsBy_0 : decode cX4_stepsBy 0 = .ok (.aload_n 0, 1) := by decide +kernel
theorem dX4_stepsBy_1 : decode cX4_stepsBy 1 = .ok (.iload_n 1, 1) := by decide +kernel
theorem dX4_stepsBy_2 : decode cX4_stepsBy 2 = .ok (.invokevirtual 69, 3) := by decide +kernel
theorem dX4_stepsBy_5 : decode cX4_stepsBy 5 = .ok (.iconst 1, 1) := by decide +kernel
theorem dX4_stepsBy_6 : decode cX4_stepsBy 6 = .ok (.iadd, 1) := by decide +kernel
theorem dX4_stepsBy_7 : decode cX4_stepsBy 7 = .ok (.iload_n 2, 1) := by decide +kernel
theorem dX4_stepsBy_8 : decode cX4_stepsBy 8 = .ok (.iadd, 1) := by decide +kernel
theorem dX4_stepsBy_9 : decode cX4_stepsBy 9 = .ok (.ireturn, 1) := by decide +kernel
set_option maxRecDepth 20000 in
theorem ggX4_blamedFor_X4_isSpoiled : GoodIn wsX4_blamedFor wsX4_isSpoiled := goodIn_r _ [5, 6, 7, 8, 9, 4, 10, 11, 17, 18, 19, 20, 21, 22, 23] (by decide +kernel) (by decide +kernel)
set_option maxRecDepth 20000 in
theorem gX4_blamedFor_X4_isSpoiled : GoodIn wsX4_blamedFor (wsV RX4 72 RX4 yX4_isSpoiled wsX4_isSpoiled) := goodIn_app (goodIn_of _ (by decide +kernel)) ggX4_blamedFor_X4_isSpoiled
set_option maxRecDepth 20000 in
theorem ggX4_blamedFor_X4_baseOf : GoodIn wsX4_blamedFor wsX4_baseOf := goodIn_r _ [15, 16, 7, 8, 9, 4, 10, 11, 17, 18, 19, 20, 21, 22, 23] (by decide +kernel) (by decide +kernel)
set_option maxRecDepth 20000 in
theorem gX4_blamedFor_X4_baseOf : GoodIn wsX4_blamedFor (wsV RX4 51 RX4 yX4_baseOf wsX4_baseOf) := goodIn_app (goodIn_of _ (by decide +kernel)) ggX4_blamedFor_X4_baseOf
theorem dX4_blamedFor_0 : decode cX4_blamedFor 0 = .ok (.iload_n 1, 1) := by decide +kernel
theorem dX4_blamedFor_1 : decode cX4_blamedFor 1 = .ok (.istore_n 2, 1) := by decide +kernel
theorem dX4_blamedFor_2 : decode cX4_blamedFor 2 = .ok (.iconst 0, 1) := by decide +kernel
theorem dX4_blamedFor_3 : decode cX4_blamedFor 3 = .ok (.istore_n 3, 1) := by decide +kernel
theorem dX4_blamedFor_4 : decode cX4_blamedFor 4 = .ok (.iload_n 3, 1) := by decide +kernel
theorem dX4_blamedFor_5 : decode cX4_blamedFor 5 = .ok (.bipush 40, 2) := by decide +kernel
theorem dX4_blamedFor_7 : decode cX4_blamedFor 7 = .ok (.if_icmp .ge 29, 3) := by decide +kernel
theorem dX4_blamedFor_10 : decode cX4_blamedFor 10 = .ok (.iload_n 2, 1) := by decide +kernel
theorem dX4_blamedFor_11 : decode cX4_blamedFor 11 = .ok (.ifCond .lt 25, 3) := by decide +kernel
theorem dX4_blamedFor_14 : decode cX4_blamedFor 14 = .ok (.aload_n 0, 1) := by decide +kernel
theorem dX4_blamedFor_15 : decode cX4_blamedFor 15 = .ok (.iload_n 2, 1) := by decide +kernel
theorem dX4_blamedFor_16 : decode cX4_blamedFor 16 = .ok (.invokevirtual 72, 3) := by decide +kernel
theorem dX4_blamedFor_19 : decode cX4_blamedFor 19 = .ok (.ifCond .eq 5, 3) := by decide +kernel
theorem dX4_blamedFor_22 : decode cX4_blamedFor 22 = .ok (.iload_n 2, 1) := by decide +kernel
theorem dX4_blamedFor_23 : decode cX4_blamedFor 23 = .ok (.ireturn, 1) := by decide +kernel
theorem dX4_blamedFor_24 : decode cX4_blamedFor 24 = .ok (.aload_n 0, 1) := by decide +kernel
theorem dX4_blamedFor_25 : decode cX4_blamedFor 25 = .ok (.iload_n 2, 1) := by decide +kernel
theorem dX4_blamedFor_26 : decode cX4_blamedFor 26 = .ok (.invokevirtual 51, 3) := by decide +kernel
theorem dX4_blamedFor_29 : decode cX4_blamedFor 29 = .ok (.istore_n 2, 1) := by decide +kernel
theorem dX4_blamedFor_30 : decode cX4_blamedFor 30 = .ok (.iinc 3 1, 3) := by decide +kernel
theorem dX4_blamedFor_33 : decode cX4_blamedFor 33 = .ok (.goto (-29), 3) := by decide +kernel
theorem dX4_blamedFor_36 : decode cX4_blamedFor 36 = .ok (.bipush (-5), 2) := by decide +kernel
theorem dX4_blamedFor_38 : decode cX4_blamedFor 38 = .ok (.ireturn, 1) := by decide +kernel
set_option maxRecDepth 20000 in
theorem ggX4_canBeRead_X4_blamedFor : GoodIn wsX4_canBeRead wsX4_blamedFor := goodIn_r _ [5, 6, 7, 8, 4, 9, 10, 11, 12, 13, 14, 15, 16, 17, 18, 19, 20, 21, 22, 23, 24, 25, 26, 27] (by decide +kernel) (by decide +kernel)
set_option maxRecDepth 20000 in
theorem gX4_canBeRead_X4_blamedFor : GoodIn wsX4_canBeRead (wsV RX4 75 RX4 yX4_blamedFor wsX4_blamedFor) := goodIn_app (goodIn_of _ (by decide +kernel)) ggX4_canBeRead_X4_blamedFor
theorem dX4_canBeRead_0 : decode cX4_canBeRead 0 = .ok (.aload_n 0, 1) := by decide +kernel
theorem dX4_canBeRead_1 : decode cX4_canBeRead 1 = .ok (.iload_n 1, 1) := by decide +kernel
theorem dX4_canBeRead_2 : decode cX4_canBeRead 2 = .ok (.invokevirtual 75, 3) := by decide +kernel
theorem dX4_canBeRead_5 : decode cX4_canBeRead 5 = .ok (.ifCond .ge 7, 3) := by decide +kernel
theorem dX4_canBeRead_8 : decode cX4_canBeRead 8 = .ok (.iconst 1, 1) := by decide +kernel
theorem dX4_canBeRead_9 : decode cX4_canBeRead 9 = .ok (.goto 4, 3) := by decide +kernel
theorem dX4_canBeRead_12 : decode cX4_canBeRead 12 = .ok (.iconst 0, 1) := by decide +kernel
theorem dX4_canBeRead_13 : decode cX4_canBeRead 13 = .ok (.ireturn, 1) := by decide +kernel
set_option maxRecDepth 20000 in
theorem ggX4_spoiledOnWay_X4_isSpoiled : GoodIn wsX4_spoiledOnWay wsX4_isSpoiled := goodIn_r _ [5, 6, 7, 8, 9, 4, 10, 11, 17, 18, 19, 20, 21, 22, 23] (by decide +kernel) (by decide +kernel)
set_option maxRecDepth 20000 in
theorem gX4_spoiledOnWay_X4_isSpoiled : GoodIn wsX4_spoiledOnWay (wsV RX4 72 RX4 yX4_isSpoiled wsX4_isSpoiled) := goodIn_app (goodIn_of _ (by decide +kernel)) ggX4_spoiledOnWay_X4_isSpoiled
set_option maxRecDepth 20000 in
theorem ggX4_spoiledOnWay_X4_baseOf : GoodIn wsX4_spoiledOnWay wsX4_baseOf := goodIn_r _ [15, 16, 7, 8, 9, 4, 10, 11, 17, 18, 19, 20, 21, 22, 23] (by decide +kernel) (by decide +kernel)
set_option maxRecDepth 20000 in
theorem gX4_spoiledOnWay_X4_baseOf : GoodIn wsX4_spoiledOnWay (wsV RX4 51 RX4 yX4_baseOf wsX4_baseOf) := goodIn_app (goodIn_of _ (by decide +kernel)) ggX4_spoiledOnWay_X4_baseOf
theorem dX4_spoiledOnWay_0 : decode cX4_spoiledOnWay 0 = .ok (.iconst 0, 1) := by decide +kernel
theorem dX4_spoiledOnWay_1 : decode cX4_spoiledOnWay 1 = .ok (.istore_n 2, 1) := by decide +kernel
theorem dX4_spoiledOnWay_2 : decode cX4_spoiledOnWay 2 = .ok (.iload_n 1, 1) := by decide +kernel
theorem dX4_spoiledOnWay_3 : decode cX4_spoiledOnWay 3 = .ok (.istore_n 3, 1) := by decide +kernel
theorem dX4_spoiledOnWay_4 : decode cX4_spoiledOnWay 4 = .ok (.iconst 0, 1) := by decide +kernel
theorem dX4_spoiledOnWay_5 : decode cX4_spoiledOnWay 5 = .ok (.istore 4, 2) := by decide +kernel
theorem dX4_spoiledOnWay_7 : decode cX4_spoiledOnWay 7 = .ok (.iload 4, 2) := by decide +kernel
theorem dX4_spoiledOnWay_9 : decode cX4_spoiledOnWay 9 = .ok (.bipush 40, 2) := by decide +kernel
theorem dX4_spoiledOnWay_11 : decode cX4_spoiledOnWay 11 = .ok (.if_icmp .ge 30, 3) := by decide +kernel
theorem dX4_spoiledOnWay_14 : decode cX4_spoiledOnWay 14 = .ok (.iload_n 3, 1) := by decide +kernel
theorem dX4_spoiledOnWay_15 : decode cX4_spoiledOnWay 15 = .ok (.ifCond .lt 26, 3) := by decide +kernel
theorem dX4_spoiledOnWay_18 : decode cX4_spoiledOnWay 18 = .ok (.aload_n 0, 1) := by decide +kernel
theorem dX4_spoiledOnWay_19 : decode cX4_spoiledOnWay 19 = .ok (.iload_n 3, 1) := by decide +kernel
theorem dX4_spoiledOnWay_20 : decode cX4_spoiledOnWay 20 = .ok (.invokevirtual 72, 3) := by decide +kernel
theorem dX4_spoiledOnWay_23 : decode cX4_spoiledOnWay 23 = .ok (.ifCond .eq 6, 3) := by decide +kernel
theorem dX4_spoiledOnWay_26 : decode cX4_spoiledOnWay 26 = .ok (.iinc 2 1, 3) := by decide +kernel
theorem dX4_spoiledOnWay_29 : decode cX4_spoiledOnWay 29 = .ok (.aload_n 0, 1) := by decide +kernel
theorem dX4_spoiledOnWay_30 : decode cX4_spoiledOnWay 30 = .ok (.iload_n 3, 1) := by decide +kernel
theorem dX4_spoiledOnWay_31 : decode cX4_spoiledOnWay 31 = .ok (.invokevirtual 51, 3) := by decide +kernel
theorem dX4_spoiledOnWay_34 : decode cX4_spoiledOnWay 34 = .ok (.istore_n 3, 1) := by decide +kernel
theorem dX4_spoiledOnWay_35 : decode cX4_spoiledOnWay 35 = .ok (.iinc 4 1, 3) := by decide +kernel
theorem dX4_spoiledOnWay_38 : decode cX4_spoiledOnWay 38 = .ok (.goto (-31), 3) := by decide +kernel
theorem dX4_spoiledOnWay_41 : decode cX4_spoiledOnWay 41 = .ok (.iload_n 2, 1) := by decide +kernel
theorem dX4_spoiledOnWay_42 : decode cX4_spoiledOnWay 42 = .ok (.ireturn, 1) := by decide +kernel
set_option maxRecDepth 20000 in
theorem ggX4_cheapestBase_X4_heightOver : GoodIn wsX4_cheapestBase wsX4_heightOver := goodIn_r _ [6, 1, 7, 8, 9, 10, 11, 12, 13, 5, 14, 15, 16, 17, 18, 19, 20, 21, 22, 23, 24, 25, 26, 27, 28, 62, 63, 64, 65, 66, 67, 68] (by decide +kernel) (by decide +kernel)
set_option maxRecDepth 20000 in
theorem gX4_cheapestBase_X4_heightOver : GoodIn wsX4_cheapestBase (wsV RX4 78 RX4 yX4_heightOver wsX4_heightOver) := goodIn_app (goodIn_of _ (by decide +kernel)) ggX4_cheapestBase_X4_heightOver
set_option maxRecDepth 20000 in
theorem ggX4_cheapestBase_X4_isPresent : GoodIn wsX4_cheapestBase wsX4_isPresent := goodIn_r _ [14, 15, 16, 17, 18, 5, 19, 1, 62, 63, 64, 65, 66, 67, 68] (by decide +kernel) (by decide +kernel)
set_option maxRecDepth 20000 in
theorem gX4_cheapestBase_X4_isPresent : GoodIn wsX4_cheapestBase (wsV RX4 48 RX4 yX4_isPresent wsX4_isPresent) := goodIn_app (goodIn_of _ (by decide +kernel)) ggX4_cheapestBase_X4_isPresent
set_option maxRecDepth 20000 in
theorem ggX4_cheapestBase_X4_canBeRead : GoodIn wsX4_cheapestBase wsX4_canBeRead := goodIn_r _ [32, 33, 34, 35, 5, 36, 37, 38, 39, 40, 41, 16, 17, 18, 19, 1, 24, 25, 26, 27, 28, 62, 63, 64, 65, 66, 67, 68] (by decide +kernel) (by decide +kernel)
set_option maxRecDepth 20000 in
theorem gX4_cheapestBase_X4_canBeRead : GoodIn wsX4_cheapestBase (wsV RX4 81 RX4 yX4_canBeRead wsX4_canBeRead) := goodIn_app (goodIn_of _ (by decide +kernel)) ggX4_cheapestBase_X4_canBeRead
set_option maxRecDepth 20000 in
theorem ggX4_cheapestBase_X4_isOnWay : GoodIn wsX4_cheapestBase wsX4_isOnWay := goodIn_r _ [45, 20, 21, 22, 5, 23, 24, 25, 26, 27, 28, 16, 17, 18, 19, 1, 62, 63, 64, 65, 66, 67, 68] (by decide +kernel) (by decide +kernel)
set_option maxRecDepth 20000 in
theorem gX4_cheapestBase_X4_isOnWay : GoodIn wsX4_cheapestBase (wsV RX4 84 RX4 yX4_isOnWay wsX4_isOnWay) := goodIn_app (goodIn_of _ (by decide +kernel)) ggX4_cheapestBase_X4_isOnWay
set_option maxRecDepth 20000 in
theorem ggX4_cheapestBase_X4_stepsBy : GoodIn wsX4_cheapestBase wsX4_stepsBy := goodIn_r _ [49, 50, 51, 52, 5, 53, 24, 25, 26, 27, 28, 16, 17, 18, 19, 1, 62, 63, 64, 65, 66, 67, 68] (by decide +kernel) (by decide +kernel)
set_option maxRecDepth 20000 in
theorem gX4_cheapestBase_X4_stepsBy : GoodIn wsX4_cheapestBase (wsV RX4 88 RX4 yX4_stepsBy wsX4_stepsBy) := goodIn_app (goodIn_of _ (by decide +kernel)) ggX4_cheapestBase_X4_stepsBy
set_option maxRecDepth 20000 in
theorem ggX4_cheapestBase_X4_differing : GoodIn wsX4_cheapestBase wsX4_differing := goodIn_r _ [57, 58, 16, 17, 18, 5, 19, 1, 62, 63, 64, 65, 66, 67, 68] (by decide +kernel) (by decide +kernel)
set_option maxRecDepth 20000 in
theorem gX4_cheapestBase_X4_differing : GoodIn wsX4_cheapestBase (wsV RX4 55 RX4 yX4_differing wsX4_differing) := goodIn_app (goodIn_of _ (by decide +kernel)) ggX4_cheapestBase_X4_differing
set_option maxRecDepth 20000 in
theorem ggX4_cheapestBase_X4_costOfChanges : GoodIn wsX4_cheapestBase wsX4_costOfChanges := goodIn_r _ [61] (by decide +kernel) (by decide +kernel)
set_option maxRecDepth 20000 in
theorem gX4_cheapestBase_X4_costOfChanges : GoodIn wsX4_cheapestBase (va_wsS RX4 58 yX4_costOfChanges wsX4_costOfChanges) := goodIn_app (goodIn_of _ (by decide +kernel)) ggX4_cheapestBase_X4_costOfChanges
theorem dX4_cheapestBase_0 : decode cX4_cheapestBase 0 = .ok (.aload_n 0, 1) := by decide +kernel
theorem dX4_cheapestBase_1 : decode cX4_cheapestBase 1 = .ok (.iload_n 1, 1) := by decide +kernel
theorem dX4_cheapestBase_2 : decode cX4_cheapestBase 2 = .ok (.invokevirtual 78, 3) := by decide +kernel
theorem dX4_cheapestBase_5 : decode cX4_cheapestBase 5 = .ok (.istore_n 3, 1) := by decide +kernel
theorem dX4_cheapestBase_6 : decode cX4_cheapestBase 6 = .ok (.bipush (-5), 2) := by decide +kernel
theorem dX4_cheapestBase_8 : decode cX4_cheapestBase 8 = .ok (.istore 4, 2) := by decide +kernel
theorem dX4_cheapestBase_10 : decode cX4_cheapestBase 10 = .ok (.bipush 12, 2) := by decide +kernel
theorem dX4_cheapestBase_12 : decode cX4_cheapestBase 12 = .ok (.istore 5, 2) := by decide +kernel
theorem dX4_cheapestBase_14 : decode cX4_cheapestBase 14 = .ok (.iconst 0, 1) := by decide +kernel
theorem dX4_cheapestBase_15 : decode cX4_cheapestBase 15 = .ok (.istore 6, 2) := by decide +kernel
theorem dX4_cheapestBase_17 : decode cX4_cheapestBase 17 = .ok (.iload 6, 2) := by decide +kernel
theorem dX4_cheapestBase_19 : decode cX4_cheapestBase 19 = .ok (.aload_n 0, 1) := by decide +kernel
theorem dX4_cheapestBase_20 : decode cX4_cheapestBase 20 = .ok (.getfield 30, 3) := by decide +kernel
theorem dX4_cheapestBase_23 : decode cX4_cheapestBase 23 = .ok (.if_icmp .ge 92, 3) := by decide +kernel
theorem dX4_cheapestBase_26 : decode cX4_cheapestBase 26 = .ok (.aload_n 0, 1) := by decide +kernel
theorem dX4_cheapestBase_27 : decode cX4_cheapestBase 27 = .ok (.iload 6, 2) := by decide +kernel
theorem dX4_cheapestBase_29 : decode cX4_cheapestBase 29 = .ok (.invokevirtual 48, 3) := by decide +kernel
theorem dX4_cheapestBase_32 : decode cX4_cheapestBase 32 = .ok (.ifCond .eq 37, 3) := by decide +kernel
theorem dX4_cheapestBase_35 : decode cX4_cheapestBase 35 = .ok (.aload_n 0, 1) := by decide +kernel
theorem dX4_cheapestBase_36 : decode cX4_cheapestBase 36 = .ok (.iload 6, 2) := by decide +kernel
theorem dX4_cheapestBase_38 : decode cX4_cheapestBase 38 = .ok (.invokevirtual 81, 3) := by decide +kernel
theorem dX4_cheapestBase_41 : decode cX4_cheapestBase 41 = .ok (.ifCond .eq 28, 3) := by decide +kernel
theorem dX4_cheapestBase_44 : decode cX4_cheapestBase 44 = .ok (.aload_n 0, 1) := by decide +kernel
theorem dX4_cheapestBase_45 : decode cX4_cheapestBase 45 = .ok (.iload_n 1, 1) := by decide +kernel
theorem dX4_cheapestBase_46 : decode cX4_cheapestBase 46 = .ok (.iload 6, 2) := by decide +kernel
theorem dX4_cheapestBase_48 : decode cX4_cheapestBase 48 = .ok (.invokevirtual 84, 3) := by decide +kernel
theorem dX4_cheapestBase_51 : decode cX4_cheapestBase 51 = .ok (.ifCond .ne 18, 3) := by decide +kernel
theorem dX4_cheapestBase_54 : decode cX4_cheapestBase 54 = .ok (.aload_n 0, 1) := by decide +kernel
theorem dX4_cheapestBase_55 : decode cX4_cheapestBase 55 = .ok (.iload 6, 2) := by decide +kernel
theorem dX4_cheapestBase_57 : decode cX4_cheapestBase 57 = .ok (.iload_n 3, 1) := by decide +kernel
theorem dX4_cheapestBase_58 : decode cX4_cheapestBase 58 = .ok (.invokevirtual 88, 3) := by decide +kernel
theorem dX4_cheapestBase_61 : decode cX4_cheapestBase 61 = .ok (.iload_n 2, 1) := by decide +kernel
theorem dX4_cheapestBase_62 : decode cX4_cheapestBase 62 = .ok (.if_icmp .gt 7, 3) := by decide +kernel
theorem dX4_cheapestBase_65 : decode cX4_cheapestBase 65 = .ok (.iconst 1, 1) := by decide +kernel
theorem dX4_cheapestBase_66 : decode cX4_cheapestBase 66 = .ok (.goto 4, 3) := by decide +kernel
theorem dX4_cheapestBase_69 : decode cX4_cheapestBase 69 = .ok (.iconst 0, 1) := by decide +kernel
theorem dX4_cheapestBase_70 : decode cX4_cheapestBase 70 = .ok (.istore 7, 2) := by decide +kernel
theorem dX4_cheapestBase_72 : decode cX4_cheapestBase 72 = .ok (.iload 7, 2) := by decide +kernel
theorem dX4_cheapestBase_74 : decode cX4_cheapestBase 74 = .ok (.ifCond .eq 16, 3) := by decide +kernel
theorem dX4_cheapestBase_77 : decode cX4_cheapestBase 77 = .ok (.aload_n 0, 1) := by decide +kernel
theorem dX4_cheapestBase_78 : decode cX4_cheapestBase 78 = .ok (.iload_n 1, 1) := by decide +kernel
theorem dX4_cheapestBase_79 : decode cX4_cheapestBase 79 = .ok (.iload 6, 2) := by decide +kernel
theorem dX4_cheapestBase_81 : decode cX4_cheapestBase 81 = .ok (.invokevirtual 55, 3) := by decide +kernel
theorem dX4_cheapestBase_84 : decode cX4_cheapestBase 84 = .ok (.invokestatic 58, 3) := by decide +kernel
theorem dX4_cheapestBase_87 : decode cX4_cheapestBase 87 = .ok (.goto 5, 3) := by decide +kernel
theorem dX4_cheapestBase_90 : decode cX4_cheapestBase 90 = .ok (.bipush 12, 2) := by decide +kernel
theorem dX4_cheapestBase_92 : decode cX4_cheapestBase 92 = .ok (.istore 8, 2) := by decide +kernel
theorem dX4_cheapestBase_94 : decode cX4_cheapestBase 94 = .ok (.iload 8, 2) := by decide +kernel
theorem dX4_cheapestBase_96 : decode cX4_cheapestBase 96 = .ok (.iload 5, 2) := by decide +kernel
theorem dX4_cheapestBase_98 : decode cX4_cheapestBase 98 = .ok (.if_icmp .ge 11, 3) := by decide +kernel
theorem dX4_cheapestBase_101 : decode cX4_cheapestBase 101 = .ok (.iload 6, 2) := by decide +kernel
theorem dX4_cheapestBase_103 : decode cX4_cheapestBase 103 = .ok (.istore 4, 2) := by decide +kernel
theorem dX4_cheapestBase_105 : decode cX4_cheapestBase 105 = .ok (.iload 8, 2) := by decide +kernel
theorem dX4_cheapestBase_107 : decode cX4_cheapestBase 107 = .ok (.istore 5, 2) := by decide +kernel
theorem dX4_cheapestBase_109 : decode cX4_cheapestBase 109 = .ok (.iinc 6 1, 3) := by decide +kernel
theorem dX4_cheapestBase_112 : decode cX4_cheapestBase 112 = .ok (.goto (-95), 3) := by decide +kernel
theorem dX4_cheapestBase_115 : decode cX4_cheapestBase 115 = .ok (.iload 4, 2) := by decide +kernel
theorem dX4_cheapestBase_117 : decode cX4_cheapestBase 117 = .ok (.ireturn, 1) := by decide +kernel
theorem dX4_bitOf_0 : decode cX4_bitOf 0 = .ok (.iload_n 0, 1) := by decide +kernel
theorem dX4_bitOf_1 : decode cX4_bitOf 1 = .ok (.ifCond .lt 15, 3) := by decide +kernel
theorem dX4_bitOf_4 : decode cX4_bitOf 4 = .ok (.iload_n 0, 1) := by decide +kernel
theorem dX4_bitOf_5 : decode cX4_bitOf 5 = .ok (.bipush 40, 2) := by decide +kernel
theorem dX4_bitOf_7 : decode cX4_bitOf 7 = .ok (.if_icmp .ge 9, 3) := by decide +kernel
theorem dX4_bitOf_10 : decode cX4_bitOf 10 = .ok (.lconst 1, 1) := by decide +kernel
theorem dX4_bitOf_11 : decode cX4_bitOf 11 = .ok (.iload_n 0, 1) := by decide +kernel
theorem dX4_bitOf_12 : decode cX4_bitOf 12 = .ok (.lshl, 1) := by decide +kernel
theorem dX4_bitOf_13 : decode cX4_bitOf 13 = .ok (.goto 4, 3) := by decide +kernel
theorem dX4_bitOf_16 : decode cX4_bitOf 16 = .ok (.lconst 0, 1) := by decide +kernel
theorem dX4_bitOf_17 : decode cX4_bitOf 17 = .ok (.lreturn, 1) := by decide +kernel
set_option maxRecDepth 20000 in
theorem ggX4_ancestorsOf_X4_bitOf : GoodIn wsX4_ancestorsOf wsX4_bitOf := goodIn_r _ [5] (by decide +kernel) (by decide +kernel)
set_option maxRecDepth 20000 in
theorem gX4_ancestorsOf_X4_bitOf : GoodIn wsX4_ancestorsOf (va_wsS RX4 91 yX4_bitOf wsX4_bitOf) := goodIn_app (goodIn_of _ (by decide +kernel)) ggX4_ancestorsOf_X4_bitOf
set_option maxRecDepth 20000 in
theorem ggX4_ancestorsOf_X4_parentOf : GoodIn wsX4_ancestorsOf wsX4_parentOf := goodIn_r _ [9, 10, 11, 12, 13, 4, 14, 1, 20, 21, 22, 23, 24, 25, 26] (by decide +kernel) (by decide +kernel)
set_option maxRecDepth 20000 in
theorem gX4_ancestorsOf_X4_parentOf : GoodIn wsX4_ancestorsOf (wsV RX4 95 RX4 yX4_parentOf wsX4_parentOf) := goodIn_app (goodIn_of _ (by decide +kernel)) ggX4_ancestorsOf_X4_parentOf
set_option maxRecDepth 20000 in
theorem ggX4_ancestorsOf_X4_secondParentOf : GoodIn wsX4_ancestorsOf wsX4_secondParentOf := goodIn_r _ [18, 19, 11, 12, 13, 4, 14, 1, 20, 21, 22, 23, 24, 25, 26] (by decide +kernel) (by decide +kernel)
set_option maxRecDepth 20000 in
theorem gX4_ancestorsOf_X4_secondParentOf : GoodIn wsX4_ancestorsOf (wsV RX4 98 RX4 yX4_secondParentOf wsX4_secondParentOf) := goodIn_app (goodIn_of _ (by decide +kernel)) ggX4_ancestorsOf_X4_secondParentOf
theorem dX4_ancestorsOf_0 : decode cX4_ancestorsOf 0 = .ok (.iload_n 1, 1) := by decide +kernel
theorem dX4_ancestorsOf_1 : decode cX4_ancestorsOf 1 = .ok (.invokestatic 91, 3) := by decide +kernel
theorem dX4_ancestorsOf_4 : decode cX4_ancestorsOf 4 = .ok (.lstore_n 2, 1) := by decide +kernel
theorem dX4_ancestorsOf_5 : decode cX4_ancestorsOf 5 = .ok (.aload_n 0, 1) := by decide +kernel
theorem dX4_ancestorsOf_6 : decode cX4_ancestorsOf 6 = .ok (.getfield 30, 3) := by decide +kernel
theorem dX4_ancestorsOf_9 : decode cX4_ancestorsOf 9 = .ok (.iconst 1, 1) := by decide +kernel
theorem dX4_ancestorsOf_10 : decode cX4_ancestorsOf 10 = .ok (.isub, 1) := by decide +kernel
theorem dX4_ancestorsOf_11 : decode cX4_ancestorsOf 11 = .ok (.istore 4, 2) := by decide +kernel
theorem dX4_ancestorsOf_13 : decode cX4_ancestorsOf 13 = .ok (.iload 4, 2) := by decide +kernel
theorem dX4_ancestorsOf_15 : decode cX4_ancestorsOf 15 = .ok (.ifCond .lt 43, 3) := by decide +kernel
theorem dX4_ancestorsOf_18 : decode cX4_ancestorsOf 18 = .ok (.lload_n 2, 1) := by decide +kernel
theorem dX4_ancestorsOf_19 : decode cX4_ancestorsOf 19 = .ok (.iload 4, 2) := by decide +kernel
theorem dX4_ancestorsOf_21 : decode cX4_ancestorsOf 21 = .ok (.invokestatic 91, 3) := by decide +kernel
theorem dX4_ancestorsOf_24 : decode cX4_ancestorsOf 24 = .ok (.land, 1) := by decide +kernel
theorem dX4_ancestorsOf_25 : decode cX4_ancestorsOf 25 = .ok (.lconst 0, 1) := by decide +kernel
theorem dX4_ancestorsOf_26 : decode cX4_ancestorsOf 26 = .ok (.lcmp, 1) := by decide +kernel
theorem dX4_ancestorsOf_27 : decode cX4_ancestorsOf 27 = .ok (.ifCond .eq 25, 3) := by decide +kernel
theorem dX4_ancestorsOf_30 : decode cX4_ancestorsOf 30 = .ok (.lload_n 2, 1) := by decide +kernel
theorem dX4_ancestorsOf_31 : decode cX4_ancestorsOf 31 = .ok (.aload_n 0, 1) := by decide +kernel
theorem dX4_ancestorsOf_32 : decode cX4_ancestorsOf 32 = .ok (.iload 4, 2) := by decide +kernel
theorem dX4_ancestorsOf_34 : decode cX4_ancestorsOf 34 = .ok (.invokevirtual 95, 3) := by decide +kernel
theorem dX4_ancestorsOf_37 : decode cX4_ancestorsOf 37 = .ok (.invokestatic 91, 3) := by decide +kernel
theorem dX4_ancestorsOf_40 : decode cX4_ancestorsOf 40 = .ok (.aload_n 0, 1) := by decide +kernel
theorem dX4_ancestorsOf_41 : decode cX4_ancestorsOf 41 = .ok (.iload 4, 2) := by decide +kernel
theorem dX4_ancestorsOf_43 : decode cX4_ancestorsOf 43 = .ok (.invokevirtual 98, 3) := by decide +kernel
theorem dX4_ancestorsOf_46 : decode cX4_ancestorsOf 46 = .ok (.invokestatic 91, 3) := by decide +kernel
theorem dX4_ancestorsOf_49 : decode cX4_ancestorsOf 49 = .ok (.lor, 1) := by decide +kernel
theorem dX4_ancestorsOf_50 : decode cX4_ancestorsOf 50 = .ok (.lor, 1) := by decide +kernel
theorem dX4_ancestorsOf_51 : decode cX4_ancestorsOf 51 = .ok (.lstore_n 2, 1) := by decide +kernel
theorem dX4_ancestorsOf_52 : decode cX4_ancestorsOf 52 = .ok (.iinc 4 (-1), 3) := by decide +kernel
theorem dX4_ancestorsOf_55 : decode cX4_ancestorsOf 55 = .ok (.goto (-42), 3) := by decide +kernel
theorem dX4_ancestorsOf_58 : decode cX4_ancestorsOf 58 = .ok (.lload_n 2, 1) := by decide +kernel
theorem dX4_ancestorsOf_59 : decode cX4_ancestorsOf 59 = .ok (.lreturn, 1) := by decide +kernel
set_option maxRecDepth 20000 in
theorem ggX4_isAncestor_X4_ancestorsOf : GoodIn wsX4_isAncestor wsX4_ancestorsOf := goodIn_r _ [5, 6, 7, 8, 4, 9, 10, 11, 12, 13, 14, 15, 16, 17, 18, 19, 20, 21, 22, 23, 24, 25, 26, 27, 28, 29, 30] (by decide +kernel) (by decide +kernel)
set_option maxRecDepth 20000 in
theorem gX4_isAncestor_X4_ancestorsOf : GoodIn wsX4_isAncestor (wsV RX4 101 RX4 yX4_ancestorsOf wsX4_ancestorsOf) := goodIn_app (goodIn_of _ (by decide +kernel)) ggX4_isAncestor_X4_ancestorsOf
set_option maxRecDepth 20000 in
theorem ggX4_isAncestor_X4_bitOf : GoodIn wsX4_isAncestor wsX4_bitOf := goodIn_r _ [9] (by decide +kernel) (by decide +kernel)
set_option maxRecDepth 20000 in
theorem gX4_isAncestor_X4_bitOf : GoodIn wsX4_isAncestor (va_wsS RX4 91 yX4_bitOf wsX4_bitOf) := goodIn_app (goodIn_of _ (by decide +kernel)) ggX4_isAncestor_X4_bitOf
theorem dX4_isAncestor_0 : decode cX4_isAncestor 0 = .ok (.aload_n 0, 1) := by decide +kernel
theorem dX4_isAncestor_1 : decode cX4_isAncestor 1 = .ok (.iload_n 2, 1) := by decide +kernel
theorem dX4_isAncestor_2 : decode cX4_isAncestor 2 = .ok (.invokevirtual 101, 3) := by decide +kernel
theorem dX4_isAncestor_5 : decode cX4_isAncestor 5 = .ok (.iload_n 1, 1) := by decide +kernel
theorem dX4_isAncestor_6 : decode cX4_isAncestor 6 = .ok (.invokestatic 91, 3) := by decide +kernel
theorem dX4_isAncestor_9 : decode cX4_isAncestor 9 = .ok (.land, 1) := by decide +kernel
theorem dX4_isAncestor_10 : decode cX4_isAncestor 10 = .ok (.lconst 0, 1) := by decide +kernel
theorem dX4_isAncestor_11 : decode cX4_isAncestor 11 = .ok (.lcmp, 1) := by decide +kernel
theorem dX4_isAncestor_12 : decode cX4_isAncestor 12 = .ok (.ifCond .eq 7, 3) := by decide +kernel
theorem dX4_isAncestor_15 : decode cX4_isAncestor 15 = .ok (.iconst 1, 1) := by decide +kernel
theorem dX4_isAncestor_16 : decode cX4_isAncestor 16 = .ok (.goto 4, 3) := by decide +kernel
theorem dX4_isAncestor_19 : decode cX4_isAncestor 19 = .ok (.iconst 0, 1) := by decide +kernel
theorem dX4_isAncestor_20 : decode cX4_isAncestor 20 = .ok (.ireturn, 1) := by decide +kernel
set_option maxRecDepth 20000 in
theorem ggX4_commonAncestor_X4_ancestorsOf : GoodIn wsX4_commonAncestor wsX4_ancestorsOf := goodIn_r _ [6, 1, 7, 8, 5, 9, 10, 11, 12, 13, 14, 15, 16, 17, 18, 19, 20, 21, 22, 23, 47, 48, 49, 50, 51, 52, 53] (by decide +kernel) (by decide +kernel)
set_option maxRecDepth 20000 in
theorem gX4_commonAncestor_X4_ancestorsOf : GoodIn wsX4_commonAncestor (wsV RX4 101 RX4 yX4_ancestorsOf wsX4_ancestorsOf) := goodIn_app (goodIn_of _ (by decide +kernel)) ggX4_commonAncestor_X4_ancestorsOf
set_option maxRecDepth 20000 in
theorem ggX4_commonAncestor_X4_bitOf : GoodIn wsX4_commonAncestor wsX4_bitOf := goodIn_r _ [9] (by decide +kernel) (by decide +kernel)
set_option maxRecDepth 20000 in
theorem gX4_commonAncestor_X4_bitOf : GoodIn wsX4_commonAncestor (va_wsS RX4 91 yX4_bitOf wsX4_bitOf) := goodIn_app (goodIn_of _ (by decide +kernel)) ggX4_commonAncestor_X4_bitOf
set_option maxRecDepth 20000 in
theorem ggX4_commonAncestor_X4_isPresent : GoodIn wsX4_commonAncestor wsX4_isPresent := goodIn_r _ [27, 28, 15, 16, 17, 5, 18, 1, 47, 48, 49, 50, 51, 52, 53] (by decide +kernel) (by decide +kernel)
set_option maxRecDepth 20000 in
theorem gX4_commonAncestor_X4_isPresent : GoodIn wsX4_commonAncestor (wsV RX4 48 RX4 yX4_isPresent wsX4_isPresent) := goodIn_app (goodIn_of _ (by decide +kernel)) ggX4_commonAncestor_X4_isPresent
set_option maxRecDepth 20000 in
theorem ggX4_commonAncestor_X4_canBeRead : GoodIn wsX4_commonAncestor wsX4_canBeRead := goodIn_r _ [32, 33, 34, 35, 5, 36, 37, 38, 39, 40, 41, 15, 16, 17, 18, 1, 42, 43, 44, 45, 46, 47, 48, 49, 50, 51, 52, 53] (by decide +kernel) (by decide +kernel)
set_option maxRecDepth 20000 in
theorem gX4_commonAncestor_X4_canBeRead : GoodIn wsX4_commonAncestor (wsV RX4 81 RX4 yX4_canBeRead wsX4_canBeRead) := goodIn_app (goodIn_of _ (by decide +kernel)) ggX4_commonAncestor_X4_canBeRead
theorem dX4_commonAncestor_0 : decode cX4_commonAncestor 0 = .ok (.aload_n 0, 1) := by decide +kernel
theorem dX4_commonAncestor_1 : decode cX4_commonAncestor 1 = .ok (.iload_n 1, 1) := by decide +kernel
theorem dX4_commonAncestor_2 : decode cX4_commonAncestor 2 = .ok (.invokevirtual 101, 3) := by decide +kernel
theorem dX4_commonAncestor_5 : decode cX4_commonAncestor 5 = .ok (.aload_n 0, 1) := by decide +kernel
theorem dX4_commonAncestor_6 : decode cX4_commonAncestor 6 = .ok (.iload_n 2, 1) := by decide +kernel
theorem dX4_commonAncestor_7 : decode cX4_commonAncestor 7 = .ok (.invokevirtual 101, 3) := by decide +kernel
theorem dX4_commonAncestor_10 : decode cX4_commonAncestor 10 = .ok (.land, 1) := by decide +kernel
theorem dX4_commonAncestor_11 : decode cX4_commonAncestor 11 = .ok (.lstore_n 3, 1) := by decide +kernel
theorem dX4_commonAncestor_12 : decode cX4_commonAncestor 12 = .ok (.aload_n 0, 1) := by decide +kernel
theorem dX4_commonAncestor_13 : decode cX4_commonAncestor 13 = .ok (.getfield 30, 3) := by decide +kernel
theorem dX4_commonAncestor_16 : decode cX4_commonAncestor 16 = .ok (.iconst 1, 1) := by decide +kernel
theorem dX4_commonAncestor_17 : decode cX4_commonAncestor 17 = .ok (.isub, 1) := by decide +kernel
theorem dX4_commonAncestor_18 : decode cX4_commonAncestor 18 = .ok (.istore 5, 2) := by decide +kernel
theorem dX4_commonAncestor_20 : decode cX4_commonAncestor 20 = .ok (.iload 5, 2) := by decide +kernel
theorem dX4_commonAncestor_22 : decode cX4_commonAncestor 22 = .ok (.ifCond .lt 42, 3) := by decide +kernel
theorem dX4_commonAncestor_25 : decode cX4_commonAncestor 25 = .ok (.lload_n 3, 1) := by decide +kernel
theorem dX4_commonAncestor_26 : decode cX4_commonAncestor 26 = .ok (.iload 5, 2) := by decide +kernel
theorem dX4_commonAncestor_28 : decode cX4_commonAncestor 28 = .ok (.invokestatic 91, 3) := by decide +kernel
theorem dX4_commonAncestor_31 : decode cX4_commonAncestor 31 = .ok (.land, 1) := by decide +kernel
theorem dX4_commonAncestor_32 : decode cX4_commonAncestor 32 = .ok (.lconst 0, 1) := by decide +kernel
theorem dX4_commonAncestor_33 : decode cX4_commonAncestor 33 = .ok (.lcmp, 1) := by decide +kernel
theorem dX4_commonAncestor_34 : decode cX4_commonAncestor 34 = .ok (.ifCond .eq 24, 3) := by decide +kernel
theorem dX4_commonAncestor_37 : decode cX4_commonAncestor 37 = .ok (.aload_n 0, 1) := by decide +kernel
theorem dX4_commonAncestor_38 : decode cX4_commonAncestor 38 = .ok (.iload 5, 2) := by decide +kernel
theorem dX4_commonAncestor_40 : decode cX4_commonAncestor 40 = .ok (.invokevirtual 48, 3) := by decide +kernel
theorem dX4_commonAncestor_43 : decode cX4_commonAncestor 43 = .ok (.ifCond .eq 15, 3) := by decide +kernel
theorem dX4_commonAncestor_46 : decode cX4_commonAncestor 46 = .ok (.aload_n 0, 1) := by decide +kernel
theorem dX4_commonAncestor_47 : decode cX4_commonAncestor 47 = .ok (.iload 5, 2) := by decide +kernel
theorem dX4_commonAncestor_49 : decode cX4_commonAncestor 49 = .ok (.invokevirtual 81, 3) := by decide +kernel
theorem dX4_commonAncestor_52 : decode cX4_commonAncestor 52 = .ok (.ifCond .eq 6, 3) := by decide +kernel
theorem dX4_commonAncestor_55 : decode cX4_commonAncestor 55 = .ok (.iload 5, 2) := by decide +kernel
theorem dX4_commonAncestor_57 : decode cX4_commonAncestor 57 = .ok (.ireturn, 1) := by decide +kernel
theorem dX4_commonAncestor_58 : decode cX4_commonAncestor 58 = .ok (.iinc 5 (-1), 3) := by decide +kernel
theorem dX4_commonAncestor_61 : decode cX4_commonAncestor 61 = .ok (.goto (-41), 3) := by decide +kernel
theorem dX4_commonAncestor_64 : decode cX4_commonAncestor 64 = .ok (.bipush (-5), 2) := by decide +kernel
theorem dX4_commonAncestor_66 : decode cX4_commonAncestor 66 = .ok (.ireturn, 1) := by decide +kernel
set_option maxRecDepth 20000 in
theorem ggX4_mergeInto_X4_valueOf : GoodIn wsX4_mergeInto wsX4_valueOf := goodIn_r _ [5, 6, 7, 8, 9, 4, 10, 11, 12, 13, 14, 15, 16, 17, 18] (by decide +kernel) (by decide +kernel)
set_option maxRecDepth 20000 in
theorem gX4_mergeInto_X4_valueOf : GoodIn wsX4_mergeInto (wsV RX4 44 RX4 yX4_valueOf wsX4_valueOf) := goodIn_app (goodIn_of _ (by decide +kernel)) ggX4_mergeInto_X4_valueOf
theorem dX4_mergeInto_0 : decode cX4_mergeInto 0 = .ok (.iconst 0, 1) := by decide +kernel
theorem dX4_mergeInto_1 : decode cX4_mergeInto 1 = .ok (.istore 5, 2) := by decide +kernel
theorem dX4_mergeInto_3 : decode cX4_mergeInto 3 = .ok (.iconst 0, 1) := by decide +kernel
theorem dX4_mergeInto_4 : decode cX4_mergeInto 4 = .ok (.istore 6, 2) := by decide +kernel
theorem dX4_mergeInto_6 : decode cX4_mergeInto 6 = .ok (.iload 6, 2) := by decide +kernel
theorem dX4_mergeInto_8 : decode cX4_mergeInto 8 = .ok (.bipush 12, 2) := by decide +kernel
theorem dX4_mergeInto_10 : decode cX4_mergeInto 10 = .ok (.if_icmp .ge 86, 3) := by decide +kernel
theorem dX4_mergeInto_13 : decode cX4_mergeInto 13 = .ok (.iload 6, 2) := by decide +kernel
theorem dX4_mergeInto_15 : decode cX4_mergeInto 15 = .ok (.aload_n 1, 1) := by decide +kernel
theorem dX4_mergeInto_16 : decode cX4_mergeInto 16 = .ok (.arraylength, 1) := by decide +kernel
theorem dX4_mergeInto_17 : decode cX4_mergeInto 17 = .ok (.if_icmp .ge 79, 3) := by decide +kernel
theorem dX4_mergeInto_20 : decode cX4_mergeInto 20 = .ok (.aload_n 0, 1) := by decide +kernel
theorem dX4_mergeInto_21 : decode cX4_mergeInto 21 = .ok (.iload_n 2, 1) := by decide +kernel
theorem dX4_mergeInto_22 : decode cX4_mergeInto 22 = .ok (.iload 6, 2) := by decide +kernel
theorem dX4_mergeInto_24 : decode cX4_mergeInto 24 = .ok (.invokevirtual 44, 3) := by decide +kernel
theorem dX4_mergeInto_27 : decode cX4_mergeInto 27 = .ok (.istore 7, 2) := by decide +kernel
theorem dX4_mergeInto_29 : decode cX4_mergeInto 29 = .ok (.aload_n 0, 1) := by decide +kernel
theorem dX4_mergeInto_30 : decode cX4_mergeInto 30 = .ok (.iload_n 3, 1) := by decide +kernel
theorem dX4_mergeInto_31 : decode cX4_mergeInto 31 = .ok (.iload 6, 2) := by decide +kernel
theorem dX4_mergeInto_33 : decode cX4_mergeInto 33 = .ok (.invokevirtual 44, 3) := by decide +kernel
theorem dX4_mergeInto_36 : decode cX4_mergeInto 36 = .ok (.istore 8, 2) := by decide +kernel
theorem dX4_mergeInto_38 : decode cX4_mergeInto 38 = .ok (.aload_n 0, 1) := by decide +kernel
theorem dX4_mergeInto_39 : decode cX4_mergeInto 39 = .ok (.iload 4, 2) := by decide +kernel
theorem dX4_mergeInto_41 : decode cX4_mergeInto 41 = .ok (.iload 6, 2) := by decide +kernel
theorem dX4_mergeInto_43 : decode cX4_mergeInto 43 = .ok (.invokevirtual 44, 3) := by decide +kernel
theorem dX4_mergeInto_46 : decode cX4_mergeInto 46 = .ok (.istore 9, 2) := by decide +kernel
theorem dX4_mergeInto_48 : decode cX4_mergeInto 48 = .ok (.aload_n 1, 1) := by decide +kernel
theorem dX4_mergeInto_49 : decode cX4_mergeInto 49 = .ok (.iload 6, 2) := by decide +kernel
theorem dX4_mergeInto_51 : decode cX4_mergeInto 51 = .ok (.iload 7, 2) := by decide +kernel
theorem dX4_mergeInto_53 : decode cX4_mergeInto 53 = .ok (.iload 9, 2) := by decide +kernel
theorem dX4_mergeInto_55 : decode cX4_mergeInto 55 = .ok (.if_icmp .ne 8, 3) := by decide +kernel
theorem dX4_mergeInto_58 : decode cX4_mergeInto 58 = .ok (.iload 8, 2) := by decide +kernel
theorem dX4_mergeInto_60 : decode cX4_mergeInto 60 = .ok (.goto 5, 3) := by decide +kernel
theorem dX4_mergeInto_63 : decode cX4_mergeInto 63 = .ok (.iload 7, 2) := by decide +kernel
theorem dX4_mergeInto_65 : decode cX4_mergeInto 65 = .ok (.iastore, 1) := by decide +kernel
theorem dX4_mergeInto_66 : decode cX4_mergeInto 66 = .ok (.iload 7, 2) := by decide +kernel
theorem dX4_mergeInto_68 : decode cX4_mergeInto 68 = .ok (.iload 8, 2) := by decide +kernel
theorem dX4_mergeInto_70 : decode cX4_mergeInto 70 = .ok (.if_icmp .eq 20, 3) := by decide +kernel
theorem dX4_mergeInto_73 : decode cX4_mergeInto 73 = .ok (.iload 7, 2) := by decide +kernel
theorem dX4_mergeInto_75 : decode cX4_mergeInto 75 = .ok (.iload 9, 2) := by decide +kernel
theorem dX4_mergeInto_77 : decode cX4_mergeInto 77 = .ok (.if_icmp .eq 13, 3) := by decide +kernel
theorem dX4_mergeInto_80 : decode cX4_mergeInto 80 = .ok (.iload 8, 2) := by decide +kernel
theorem dX4_mergeInto_82 : decode cX4_mergeInto 82 = .ok (.iload 9, 2) := by decide +kernel
theorem dX4_mergeInto_84 : decode cX4_mergeInto 84 = .ok (.if_icmp .eq 6, 3) := by decide +kernel
theorem dX4_mergeInto_87 : decode cX4_mergeInto 87 = .ok (.iinc 5 1, 3) := by decide +kernel
theorem dX4_mergeInto_90 : decode cX4_mergeInto 90 = .ok (.iinc 6 1, 3) := by decide +kernel
theorem dX4_mergeInto_93 : decode cX4_mergeInto 93 = .ok (.goto (-87), 3) := by decide +kernel
theorem dX4_mergeInto_96 : decode cX4_mergeInto 96 = .ok (.iload 5, 2) := by decide +kernel
theorem dX4_mergeInto_98 : decode cX4_mergeInto 98 = .ok (.ireturn, 1) := by decide +kernel
set_option maxRecDepth 20000 in
theorem ggX4_ofKind_X4_kindOf : GoodIn wsX4_ofKind wsX4_kindOf := goodIn_r _ [6, 7, 8, 9, 10, 5, 11, 1, 12, 13, 14, 15, 16, 17, 18] (by decide +kernel) (by decide +kernel)
set_option maxRecDepth 20000 in
theorem gX4_ofKind_X4_kindOf : GoodIn wsX4_ofKind (wsV RX4 104 RX4 yX4_kindOf wsX4_kindOf) := goodIn_app (goodIn_of _ (by decide +kernel)) ggX4_ofKind_X4_kindOf
theorem dX4_ofKind_0 : decode cX4_ofKind 0 = .ok (.iconst 0, 1) := by decide +kernel
theorem dX4_ofKind_1 : decode cX4_ofKind 1 = .ok (.istore_n 2, 1) := by decide +kernel
theorem dX4_ofKind_2 : decode cX4_ofKind 2 = .ok (.iconst 0, 1) := by decide +kernel
theorem dX4_ofKind_3 : decode cX4_ofKind 3 = .ok (.istore_n 3, 1) := by decide +kernel
theorem dX4_ofKind_4 : decode cX4_ofKind 4 = .ok (.iload_n 3, 1) := by decide +kernel
theorem dX4_ofKind_5 : decode cX4_ofKind 5 = .ok (.aload_n 0, 1) := by decide +kernel
theorem dX4_ofKind_6 : decode cX4_ofKind 6 = .ok (.getfield 30, 3) := by decide +kernel
theorem dX4_ofKind_9 : decode cX4_ofKind 9 = .ok (.if_icmp .ge 21, 3) := by decide +kernel
theorem dX4_ofKind_12 : decode cX4_ofKind 12 = .ok (.aload_n 0, 1) := by decide +kernel
theorem dX4_ofKind_13 : decode cX4_ofKind 13 = .ok (.iload_n 3, 1) := by decide +kernel
theorem dX4_ofKind_14 : decode cX4_ofKind 14 = .ok (.invokevirtual 104, 3) := by decide +kernel
theorem dX4_ofKind_17 : decode cX4_ofKind 17 = .ok (.iload_n 1, 1) := by decide +kernel
theorem dX4_ofKind_18 : decode cX4_ofKind 18 = .ok (.if_icmp .ne 6, 3) := by decide +kernel
theorem dX4_ofKind_21 : decode cX4_ofKind 21 = .ok (.iinc 2 1, 3) := by decide +kernel
theorem dX4_ofKind_24 : decode cX4_ofKind 24 = .ok (.iinc 3 1, 3) := by decide +kernel
theorem dX4_ofKind_27 : decode cX4_ofKind 27 = .ok (.goto (-23), 3) := by decide +kernel
theorem dX4_ofKind_30 : decode cX4_ofKind 30 = .ok (.iload_n 2, 1) := by decide +kernel
theorem dX4_ofKind_31 : decode cX4_ofKind 31 = .ok (.ireturn, 1) := by decide +kernel
set_option maxRecDepth 20000 in
theorem ggX4_present_X4_ofKind : GoodIn wsX4_present wsX4_ofKind := goodIn_r _ [6, 1, 7, 8, 9, 5, 10, 11, 12, 13, 14, 15, 16, 17, 18, 19, 20, 21, 22] (by decide +kernel) (by decide +kernel)
set_option maxRecDepth 20000 in
theorem gX4_present_X4_ofKind : GoodIn wsX4_present (wsV RX4 107 RX4 yX4_ofKind wsX4_ofKind) := goodIn_app (goodIn_of _ (by decide +kernel)) ggX4_present_X4_ofKind
theorem dX4_present_0 : decode cX4_present 0 = .ok (.aload_n 0, 1) := by decide +kernel
theorem dX4_present_1 : decode cX4_present 1 = .ok (.getfield 30, 3) := by decide +kernel
theorem dX4_present_4 : decode cX4_present 4 = .ok (.aload_n 0, 1) := by decide +kernel
theorem dX4_present_5 : decode cX4_present 5 = .ok (.iconst 2, 1) := by decide +kernel
theorem dX4_present_6 : decode cX4_present 6 = .ok (.invokevirtual 107, 3) := by decide +kernel
theorem dX4_present_9 : decode cX4_present 9 = .ok (.isub, 1) := by decide +kernel
theorem dX4_present_10 : decode cX4_present 10 = .ok (.ireturn, 1) := by decide +kernel
set_option maxRecDepth 20000 in
theorem ggX4_totalCost_X4_costOf : GoodIn wsX4_totalCost wsX4_costOf := goodIn_r _ [6, 7, 8, 9, 5, 10, 11, 12, 13, 14, 15, 1, 16, 17, 18, 19, 20, 21, 22, 23, 24, 25, 26, 27, 28, 29, 30, 31, 32, 33, 34, 35] (by decide +kernel) (by decide +kernel)
set_option maxRecDepth 20000 in
theorem gX4_totalCost_X4_costOf : GoodIn wsX4_totalCost (wsV RX4 110 RX4 yX4_costOf wsX4_costOf) := goodIn_app (goodIn_of _ (by decide +kernel)) ggX4_totalCost_X4_costOf
theorem dX4_totalCost_0 : decode cX4_totalCost 0 = .ok (.iconst 0, 1) := by decide +kernel
theorem dX4_totalCost_1 : decode cX4_totalCost 1 = .ok (.istore_n 1, 1) := by decide +kernel
theorem dX4_totalCost_2 : decode cX4_totalCost 2 = .ok (.iconst 0, 1) := by decide +kernel
theorem dX4_totalCost_3 : decode cX4_totalCost 3 = .ok (.istore_n 2, 1) := by decide +kernel
theorem dX4_totalCost_4 : decode cX4_totalCost 4 = .ok (.iload_n 2, 1) := by decide +kernel
theorem dX4_totalCost_5 : decode cX4_totalCost 5 = .ok (.aload_n 0, 1) := by decide +kernel
theorem dX4_totalCost_6 : decode cX4_totalCost 6 = .ok (.getfield 30, 3) := by decide +kernel
theorem dX4_totalCost_9 : decode cX4_totalCost 9 = .ok (.if_icmp .ge 17, 3) := by decide +kernel
theorem dX4_totalCost_12 : decode cX4_totalCost 12 = .ok (.iload_n 1, 1) := by decide +kernel
theorem dX4_totalCost_13 : decode cX4_totalCost 13 = .ok (.aload_n 0, 1) := by decide +kernel
theorem dX4_totalCost_14 : decode cX4_totalCost 14 = .ok (.iload_n 2, 1) := by decide +kernel
theorem dX4_totalCost_15 : decode cX4_totalCost 15 = .ok (.invokevirtual 110, 3) := by decide +kernel
theorem dX4_totalCost_18 : decode cX4_totalCost 18 = .ok (.iadd, 1) := by decide +kernel
theorem dX4_totalCost_19 : decode cX4_totalCost 19 = .ok (.istore_n 1, 1) := by decide +kernel
theorem dX4_totalCost_20 : decode cX4_totalCost 20 = .ok (.iinc 2 1, 3) := by decide +kernel
theorem dX4_totalCost_23 : decode cX4_totalCost 23 = .ok (.goto (-19), 3) := by decide +kernel
theorem dX4_totalCost_26 : decode cX4_totalCost 26 = .ok (.iload_n 1, 1) := by decide +kernel
theorem dX4_totalCost_27 : decode cX4_totalCost 27 = .ok (.ireturn, 1) := by decide +kernel
set_option maxRecDepth 20000 in
theorem ggX4_storedWhole_X4_isPresent : GoodIn wsX4_storedWhole wsX4_isPresent := goodIn_r _ [6, 7, 8, 9, 10, 5, 11, 1, 17, 18, 19, 20, 21, 22, 23] (by decide +kernel) (by decide +kernel)
set_option maxRecDepth 20000 in
theorem gX4_storedWhole_X4_isPresent : GoodIn wsX4_storedWhole (wsV RX4 48 RX4 yX4_isPresent wsX4_isPresent) := goodIn_app (goodIn_of _ (by decide +kernel)) ggX4_storedWhole_X4_isPresent
set_option maxRecDepth 20000 in
theorem ggX4_storedWhole_X4_baseOf : GoodIn wsX4_storedWhole wsX4_baseOf := goodIn_r _ [15, 16, 8, 9, 10, 5, 11, 1, 17, 18, 19, 20, 21, 22, 23] (by decide +kernel) (by decide +kernel)
set_option maxRecDepth 20000 in
theorem gX4_storedWhole_X4_baseOf : GoodIn wsX4_storedWhole (wsV RX4 51 RX4 yX4_baseOf wsX4_baseOf) := goodIn_app (goodIn_of _ (by decide +kernel)) ggX4_storedWhole_X4_baseOf
theorem dX4_storedWhole_0 : decode cX4_storedWhole 0 = .ok (.iconst 0, 1) := by decide +kernel
theorem dX4_storedWhole_1 : decode cX4_storedWhole 1 = .ok (.istore_n 1, 1) := by decide +kernel
theorem dX4_storedWhole_2 : decode cX4_storedWhole 2 = .ok (.iconst 0, 1) := by decide +kernel
theorem dX4_storedWhole_3 : decode cX4_storedWhole 3 = .ok (.istore_n 2, 1) := by decide +kernel
theorem dX4_storedWhole_4 : decode cX4_storedWhole 4 = .ok (.iload_n 2, 1) := by decide +kernel
theorem dX4_storedWhole_5 : decode cX4_storedWhole 5 = .ok (.aload_n 0, 1) := by decide +kernel
theorem dX4_storedWhole_6 : decode cX4_storedWhole 6 = .ok (.getfield 30, 3) := by decide +kernel
theorem dX4_storedWhole_9 : decode cX4_storedWhole 9 = .ok (.if_icmp .ge 28, 3) := by decide +kernel
theorem dX4_storedWhole_12 : decode cX4_storedWhole 12 = .ok (.aload_n 0, 1) := by decide +kernel
theorem dX4_storedWhole_13 : decode cX4_storedWhole 13 = .ok (.iload_n 2, 1) := by decide +kernel
theorem dX4_storedWhole_14 : decode cX4_storedWhole 14 = .ok (.invokevirtual 48, 3) := by decide +kernel
theorem dX4_storedWhole_17 : decode cX4_storedWhole 17 = .ok (.ifCond .eq 14, 3) := by decide +kernel
theorem dX4_storedWhole_20 : decode cX4_storedWhole 20 = .ok (.aload_n 0, 1) := by decide +kernel
theorem dX4_storedWhole_21 : decode cX4_storedWhole 21 = .ok (.iload_n 2, 1) := by decide +kernel
theorem dX4_storedWhole_22 : decode cX4_storedWhole 22 = .ok (.invokevirtual 51, 3) := by decide +kernel
theorem dX4_storedWhole_25 : decode cX4_storedWhole 25 = .ok (.ifCond .ge 6, 3) := by decide +kernel
theorem dX4_storedWhole_28 : decode cX4_storedWhole 28 = .ok (.iinc 1 1, 3) := by decide +kernel
theorem dX4_storedWhole_31 : decode cX4_storedWhole 31 = .ok (.iinc 2 1, 3) := by decide +kernel
theorem dX4_storedWhole_34 : decode cX4_storedWhole 34 = .ok (.goto (-30), 3) := by decide +kernel
theorem dX4_storedWhole_37 : decode cX4_storedWhole 37 = .ok (.iload_n 1, 1) := by decide +kernel
theorem dX4_storedWhole_38 : decode cX4_storedWhole 38 = .ok (.ireturn, 1) := by decide +kernel
set_option maxRecDepth 20000 in
theorem ggX4_mostSteps_X4_isPresent : GoodIn wsX4_mostSteps wsX4_isPresent := goodIn_r _ [10, 11, 12, 13, 14, 9, 15, 1, 25, 26, 27, 28, 29, 30, 31] (by decide +kernel) (by decide +kernel)
set_option maxRecDepth 20000 in
theorem gX4_mostSteps_X4_isPresent : GoodIn wsX4_mostSteps (wsV RX4 48 RX4 yX4_isPresent wsX4_isPresent) := goodIn_app (goodIn_of _ (by decide +kernel)) ggX4_mostSteps_X4_isPresent
set_option maxRecDepth 20000 in
theorem ggX4_mostSteps_X4_stepsOf : GoodIn wsX4_mostSteps wsX4_stepsOf := goodIn_r _ [19, 20, 21, 22, 9, 23, 24, 12, 13, 14, 15, 1, 25, 26, 27, 28, 29, 30, 31] (by decide +kernel) (by decide +kernel)
set_option maxRecDepth 20000 in
theorem gX4_mostSteps_X4_stepsOf : GoodIn wsX4_mostSteps (wsV RX4 69 RX4 yX4_stepsOf wsX4_stepsOf) := goodIn_app (goodIn_of _ (by decide +kernel)) ggX4_mostSteps_X4_stepsOf
theorem dX4_mostSteps_0 : decode cX4_mostSteps 0 = .ok (.iconst 0, 1) := by decide +kernel
theorem dX4_mostSteps_1 : decode cX4_mostSteps 1 = .ok (.istore_n 1, 1) := by decide +kernel
theorem dX4_mostSteps_2 : decode cX4_mostSteps 2 = .ok (.iconst 0, 1) := by decide +kernel
theorem dX4_mostSteps_3 : decode cX4_mostSteps 3 = .ok (.istore_n 2, 1) := by decide +kernel
theorem dX4_mostSteps_4 : decode cX4_mostSteps 4 = .ok (.iload_n 2, 1) := by decide +kernel
theorem dX4_mostSteps_5 : decode cX4_mostSteps 5 = .ok (.aload_n 0, 1) := by decide +kernel
theorem dX4_mostSteps_6 : decode cX4_mostSteps 6 = .ok (.getfield 30, 3) := by decide +kernel
theorem dX4_mostSteps_9 : decode cX4_mostSteps 9 = .ok (.if_icmp .ge 27, 3) := by decide +kernel
theorem dX4_mostSteps_12 : decode cX4_mostSteps 12 = .ok (.aload_n 0, 1) := by decide +kernel
theorem dX4_mostSteps_13 : decode cX4_mostSteps 13 = .ok (.iload_n 2, 1) := by decide +kernel
theorem dX4_mostSteps_14 : decode cX4_mostSteps 14 = .ok (.invokevirtual 48, 3) := by decide +kernel
theorem dX4_mostSteps_17 : decode cX4_mostSteps 17 = .ok (.ifCond .eq 13, 3) := by decide +kernel
theorem dX4_mostSteps_20 : decode cX4_mostSteps 20 = .ok (.iload_n 1, 1) := by decide +kernel
theorem dX4_mostSteps_21 : decode cX4_mostSteps 21 = .ok (.aload_n 0, 1) := by decide +kernel
theorem dX4_mostSteps_22 : decode cX4_mostSteps 22 = .ok (.iload_n 2, 1) := by decide +kernel
theorem dX4_mostSteps_23 : decode cX4_mostSteps 23 = .ok (.invokevirtual 69, 3) := by decide +kernel
theorem dX4_mostSteps_26 : decode cX4_mostSteps 26 = .ok (.invokestatic 64, 3) := by decide +kernel
theorem dX4_mostSteps_29 : decode cX4_mostSteps 29 = .ok (.istore_n 1, 1) := by decide +kernel
theorem dX4_mostSteps_30 : decode cX4_mostSteps 30 = .ok (.iinc 2 1, 3) := by decide +kernel
theorem dX4_mostSteps_33 : decode cX4_mostSteps 33 = .ok (.goto (-29), 3) := by decide +kernel
theorem dX4_mostSteps_36 : decode cX4_mostSteps 36 = .ok (.iload_n 1, 1) := by decide +kernel
theorem dX4_mostSteps_37 : decode cX4_mostSteps 37 = .ok (.ireturn, 1) := by decide +kernel
set_option maxRecDepth 20000 in
theorem ggX4_unreadable_X4_isPresent : GoodIn wsX4_unreadable wsX4_isPresent := goodIn_r _ [6, 7, 8, 9, 10, 5, 11, 1, 30, 31, 32, 33, 34, 35, 36] (by decide +kernel) (by decide +kernel)
set_option maxRecDepth 20000 in
theorem gX4_unreadable_X4_isPresent : GoodIn wsX4_unreadable (wsV RX4 48 RX4 yX4_isPresent wsX4_isPresent) := goodIn_app (goodIn_of _ (by decide +kernel)) ggX4_unreadable_X4_isPresent
set_option maxRecDepth 20000 in
theorem ggX4_unreadable_X4_canBeRead : GoodIn wsX4_unreadable wsX4_canBeRead := goodIn_r _ [15, 16, 17, 18, 5, 19, 20, 21, 22, 23, 24, 8, 9, 10, 11, 1, 25, 26, 27, 28, 29, 30, 31, 32, 33, 34, 35, 36] (by decide +kernel) (by decide +kernel)
set_option maxRecDepth 20000 in
theorem gX4_unreadable_X4_canBeRead : GoodIn wsX4_unreadable (wsV RX4 81 RX4 yX4_canBeRead wsX4_canBeRead) := goodIn_app (goodIn_of _ (by decide +kernel)) ggX4_unreadable_X4_canBeRead
theorem dX4_unreadable_0 : decode cX4_unreadable 0 = .ok (.iconst 0, 1) := by decide +kernel
theorem dX4_unreadable_1 : decode cX4_unreadable 1 = .ok (.istore_n 1, 1) := by decide +kernel
theorem dX4_unreadable_2 : decode cX4_unreadable 2 = .ok (.iconst 0, 1) := by decide +kernel
theorem dX4_unreadable_3 : decode cX4_unreadable 3 = .ok (.istore_n 2, 1) := by decide +kernel
theorem dX4_unreadable_4 : decode cX4_unreadable 4 = .ok (.iload_n 2, 1) := by decide +kernel
theorem dX4_unreadable_5 : decode cX4_unreadable 5 = .ok (.aload_n 0, 1) := by decide +kernel
theorem dX4_unreadable_6 : decode cX4_unreadable 6 = .ok (.getfield 30, 3) := by decide +kernel
theorem dX4_unreadable_9 : decode cX4_unreadable 9 = .ok (.if_icmp .ge 28, 3) := by decide +kernel
theorem dX4_unreadable_12 : decode cX4_unreadable 12 = .ok (.aload_n 0, 1) := by decide +kernel
theorem dX4_unreadable_13 : decode cX4_unreadable 13 = .ok (.iload_n 2, 1) := by decide +kernel
theorem dX4_unreadable_14 : decode cX4_unreadable 14 = .ok (.invokevirtual 48, 3) := by decide +kernel
theorem dX4_unreadable_17 : decode cX4_unreadable 17 = .ok (.ifCond .eq 14, 3) := by decide +kernel
theorem dX4_unreadable_20 : decode cX4_unreadable 20 = .ok (.aload_n 0, 1) := by decide +kernel
theorem dX4_unreadable_21 : decode cX4_unreadable 21 = .ok (.iload_n 2, 1) := by decide +kernel
theorem dX4_unreadable_22 : decode cX4_unreadable 22 = .ok (.invokevirtual 81, 3) := by decide +kernel
theorem dX4_unreadable_25 : decode cX4_unreadable 25 = .ok (.ifCond .ne 6, 3) := by decide +kernel
theorem dX4_unreadable_28 : decode cX4_unreadable 28 = .ok (.iinc 1 1, 3) := by decide +kernel
theorem dX4_unreadable_31 : decode cX4_unreadable 31 = .ok (.iinc 2 1, 3) := by decide +kernel
theorem dX4_unreadable_34 : decode cX4_unreadable 34 = .ok (.goto (-30), 3) := by decide +kernel
theorem dX4_unreadable_37 : decode cX4_unreadable 37 = .ok (.iload_n 1, 1) := by decide +kernel
theorem dX4_unreadable_38 : decode cX4_unreadable 38 = .ok (.ireturn, 1) := by decide +kernel
set_option maxRecDepth 20000 in
theorem ggX4_add_X4_isPresent : GoodIn wsX4_add wsX4_isPresent := goodIn_r _ [16, 2, 17, 18, 19, 15, 20, 1, 44, 45, 46, 47, 48, 49, 50] (by decide +kernel) (by decide +kernel)
set_option maxRecDepth 20000 in
theorem gX4_add_X4_isPresent : GoodIn wsX4_add (wsV RX4 48 RX4 yX4_isPresent wsX4_isPresent) := goodIn_app (goodIn_of _ (by decide +kernel)) ggX4_add_X4_isPresent
set_option maxRecDepth 20000 in
theorem ggX4_add_X4_stepsBy : GoodIn wsX4_add wsX4_stepsBy := goodIn_r _ [24, 25, 26, 27, 15, 28, 29, 30, 31, 32, 5, 17, 18, 19, 20, 1, 44, 45, 46, 47, 48, 49, 50] (by decide +kernel) (by decide +kernel)
set_option maxRecDepth 20000 in
theorem gX4_add_X4_stepsBy : GoodIn wsX4_add (wsV RX4 88 RX4 yX4_stepsBy wsX4_stepsBy) := goodIn_app (goodIn_of _ (by decide +kernel)) ggX4_add_X4_stepsBy
set_option maxRecDepth 20000 in
theorem ggX4_add_X4_differingFrom : GoodIn wsX4_add wsX4_differingFrom := goodIn_r _ [36, 37, 38, 39, 15, 40, 7, 17, 18, 19, 20, 1, 44, 45, 46, 47, 48, 49, 50] (by decide +kernel) (by decide +kernel)
set_option maxRecDepth 20000 in
theorem gX4_add_X4_differingFrom : GoodIn wsX4_add (wsV RX4 113 RX4 yX4_differingFrom wsX4_differingFrom) := goodIn_app (goodIn_of _ (by decide +kernel)) ggX4_add_X4_differingFrom
set_option maxRecDepth 20000 in
theorem ggX4_add_X4_costOfChanges : GoodIn wsX4_add wsX4_costOfChanges := goodIn_r _ [43] (by decide +kernel) (by decide +kernel)
set_option maxRecDepth 20000 in
theorem gX4_add_X4_costOfChanges : GoodIn wsX4_add (va_wsS RX4 58 yX4_costOfChanges wsX4_costOfChanges) := goodIn_app (goodIn_of _ (by decide +kernel)) ggX4_add_X4_costOfChanges
theorem dX4_add_0 : decode cX4_add 0 = .ok (.aload_n 0, 1) := by decide +kernel
theorem dX4_add_1 : decode cX4_add 1 = .ok (.getfield 30, 3) := by decide +kernel
theorem dX4_add_4 : decode cX4_add 4 = .ok (.ifCond .lt 19, 3) := by decide +kernel
theorem dX4_add_7 : decode cX4_add 7 = .ok (.aload_n 0, 1) := by decide +kernel
theorem dX4_add_8 : decode cX4_add 8 = .ok (.getfield 30, 3) := by decide +kernel
theorem dX4_add_11 : decode cX4_add 11 = .ok (.bipush 40, 2) := by decide +kernel
theorem dX4_add_13 : decode cX4_add 13 = .ok (.if_icmp .ge 10, 3) := by decide +kernel
theorem dX4_add_16 : decode cX4_add 16 = .ok (.aload_n 3, 1) := by decide +kernel
theorem dX4_add_17 : decode cX4_add 17 = .ok (.arraylength, 1) := by decide +kernel
theorem dX4_add_18 : decode cX4_add 18 = .ok (.bipush 12, 2) := by decide +kernel
theorem dX4_add_20 : decode cX4_add 20 = .ok (.if_icmp .ge 6, 3) := by decide +kernel
theorem dX4_add_23 : decode cX4_add 23 = .ok (.bipush (-3), 2) := by decide +kernel
theorem dX4_add_25 : decode cX4_add 25 = .ok (.ireturn, 1) := by decide +kernel
theorem dX4_add_26 : decode cX4_add 26 = .ok (.aload_n 0, 1) := by decide +kernel
theorem dX4_add_27 : decode cX4_add 27 = .ok (.iload_n 1, 1) := by decide +kernel
theorem dX4_add_28 : decode cX4_add 28 = .ok (.invokevirtual 48, 3) := by decide +kernel
theorem dX4_add_31 : decode cX4_add 31 = .ok (.ifCond .eq 32, 3) := by decide +kernel
theorem dX4_add_34 : decode cX4_add 34 = .ok (.aload_n 0, 1) := by decide +kernel
theorem dX4_add_35 : decode cX4_add 35 = .ok (.iload_n 1, 1) := by decide +kernel
theorem dX4_add_36 : decode cX4_add 36 = .ok (.iconst 0, 1) := by decide +kernel
theorem dX4_add_37 : decode cX4_add 37 = .ok (.invokevirtual 88, 3) := by decide +kernel
theorem dX4_add_40 : decode cX4_add 40 = .ok (.iload 4, 2) := by decide +kernel
theorem dX4_add_42 : decode cX4_add 42 = .ok (.if_icmp .gt 21, 3) := by decide +kernel
theorem dX4_add_45 : decode cX4_add 45 = .ok (.aload_n 0, 1) := by decide +kernel
theorem dX4_add_46 : decode cX4_add 46 = .ok (.iload_n 1, 1) := by decide +kernel
theorem dX4_add_47 : decode cX4_add 47 = .ok (.aload_n 3, 1) := by decide +kernel
theorem dX4_add_48 : decode cX4_add 48 = .ok (.invokevirtual 113, 3) := by decide +kernel
theorem dX4_add_51 : decode cX4_add 51 = .ok (.invokestatic 58, 3) := by decide +kernel
theorem dX4_add_54 : decode cX4_add 54 = .ok (.bipush 12, 2) := by decide +kernel
theorem dX4_add_56 : decode cX4_add 56 = .ok (.if_icmp .ge 7, 3) := by decide +kernel
theorem dX4_add_59 : decode cX4_add 59 = .ok (.iconst 1, 1) := by decide +kernel
theorem dX4_add_60 : decode cX4_add 60 = .ok (.goto 4, 3) := by decide +kernel
theorem dX4_add_63 : decode cX4_add 63 = .ok (.iconst 0, 1) := by decide +kernel
theorem dX4_add_64 : decode cX4_add 64 = .ok (.istore 5, 2) := by decide +kernel
theorem dX4_add_66 : decode cX4_add 66 = .ok (.aload_n 0, 1) := by decide +kernel
theorem dX4_add_67 : decode cX4_add 67 = .ok (.getfield 30, 3) := by decide +kernel
theorem dX4_add_70 : decode cX4_add 70 = .ok (.istore 6, 2) := by decide +kernel
theorem dX4_add_72 : decode cX4_add 72 = .ok (.aload_n 0, 1) := by decide +kernel
theorem dX4_add_73 : decode cX4_add 73 = .ok (.dup, 1) := by decide +kernel
theorem dX4_add_74 : decode cX4_add 74 = .ok (.getfield 30, 3) := by decide +kernel
theorem dX4_add_77 : decode cX4_add 77 = .ok (.iconst 1, 1) := by decide +kernel
theorem dX4_add_78 : decode cX4_add 78 = .ok (.iadd, 1) := by decide +kernel
theorem dX4_add_79 : decode cX4_add 79 = .ok (.putfield 30, 3) := by decide +kernel
theorem dX4_add_82 : decode cX4_add 82 = .ok (.aload_n 0, 1) := by decide +kernel
theorem dX4_add_83 : decode cX4_add 83 = .ok (.getfield 9, 3) := by decide +kernel
theorem dX4_add_86 : decode cX4_add 86 = .ok (.iload 6, 2) := by decide +kernel
theorem dX4_add_88 : decode cX4_add 88 = .ok (.iconst 0, 1) := by decide +kernel
theorem dX4_add_89 : decode cX4_add 89 = .ok (.iastore, 1) := by decide +kernel
theorem dX4_add_90 : decode cX4_add 90 = .ok (.aload_n 0, 1) := by decide +kernel
theorem dX4_add_91 : decode cX4_add 91 = .ok (.getfield 15, 3) := by decide +kernel
theorem dX4_add_94 : decode cX4_add 94 = .ok (.iload 6, 2) := by decide +kernel
theorem dX4_add_96 : decode cX4_add 96 = .ok (.iload_n 1, 1) := by decide +kernel
theorem dX4_add_97 : decode cX4_add 97 = .ok (.iastore, 1) := by decide +kernel
theorem dX4_add_98 : decode cX4_add 98 = .ok (.aload_n 0, 1) := by decide +kernel
theorem dX4_add_99 : decode cX4_add 99 = .ok (.getfield 18, 3) := by decide +kernel
theorem dX4_add_102 : decode cX4_add 102 = .ok (.iload 6, 2) := by decide +kernel
theorem dX4_add_104 : decode cX4_add 104 = .ok (.iload_n 2, 1) := by decide +kernel
theorem dX4_add_105 : decode cX4_add 105 = .ok (.iastore, 1) := by decide +kernel
theorem dX4_add_106 : decode cX4_add 106 = .ok (.aload_n 0, 1) := by decide +kernel
theorem dX4_add_107 : decode cX4_add 107 = .ok (.getfield 21, 3) := by decide +kernel
theorem dX4_add_110 : decode cX4_add 110 = .ok (.iload 6, 2) := by decide +kernel
theorem dX4_add_112 : decode cX4_add 112 = .ok (.iload 5, 2) := by decide +kernel
theorem dX4_add_114 : decode cX4_add 114 = .ok (.ifCond .eq 7, 3) := by decide +kernel
theorem dX4_add_117 : decode cX4_add 117 = .ok (.iload_n 1, 1) := by decide +kernel
theorem dX4_add_118 : decode cX4_add 118 = .ok (.goto 5, 3) := by decide +kernel
theorem dX4_add_121 : decode cX4_add 121 = .ok (.bipush (-5), 2) := by decide +kernel
theorem dX4_add_123 : decode cX4_add 123 = .ok (.iastore, 1) := by decide +kernel
theorem dX4_add_124 : decode cX4_add 124 = .ok (.aload_n 0, 1) := by decide +kernel
theorem dX4_add_125 : decode cX4_add 125 = .ok (.getfield 24, 3) := by decide +kernel
theorem dX4_add_128 : decode cX4_add 128 = .ok (.iload 6, 2) := by decide +kernel
theorem dX4_add_130 : decode cX4_add 130 = .ok (.iconst 0, 1) := by decide +kernel
theorem dX4_add_131 : decode cX4_add 131 = .ok (.iastore, 1) := by decide +kernel
theorem dX4_add_132 : decode cX4_add 132 = .ok (.aload_n 3, 1) := by decide +kernel
theorem dX4_add_133 : decode cX4_add 133 = .ok (.iconst 0, 1) := by decide +kernel
theorem dX4_add_134 : decode cX4_add 134 = .ok (.aload_n 0, 1) := by decide +kernel
theorem dX4_add_135 : decode cX4_add 135 = .ok (.getfield 27, 3) := by decide +kernel
theorem dX4_add_138 : decode cX4_add 138 = .ok (.iload 6, 2) := by decide +kernel
theorem dX4_add_140 : decode cX4_add 140 = .ok (.bipush 12, 2) := by decide +kernel
theorem dX4_add_142 : decode cX4_add 142 = .ok (.imul, 1) := by decide +kernel
theorem dX4_add_143 : decode cX4_add 143 = .ok (.bipush 12, 2) := by decide +kernel
theorem dX4_add_145 : decode cX4_add 145 = .ok (.invokestatic 34, 3) := by decide +kernel
theorem dX4_add_148 : decode cX4_add 148 = .ok (.iload 6, 2) := by decide +kernel
theorem dX4_add_150 : decode cX4_add 150 = .ok (.ireturn, 1) := by decide +kernel
set_option maxRecDepth 20000 in
theorem ggX4_makeSpoiled_X4_isPresent : GoodIn wsX4_makeSpoiled wsX4_isPresent := goodIn_r _ [6, 7, 8, 9, 10, 5, 11, 12, 13, 14, 15, 16, 17, 18, 19] (by decide +kernel) (by decide +kernel)
set_option maxRecDepth 20000 in
theorem gX4_makeSpoiled_X4_isPresent : GoodIn wsX4_makeSpoiled (wsV RX4 48 RX4 yX4_isPresent wsX4_isPresent) := goodIn_app (goodIn_of _ (by decide +kernel)) ggX4_makeSpoiled_X4_isPresent
theorem dX4_makeSpoiled_0 : decode cX4_makeSpoiled 0 = .ok (.aload_n 0, 1) := by decide +kernel
theorem dX4_makeSpoiled_1 : decode cX4_makeSpoiled 1 = .ok (.iload_n 1, 1) := by decide +kernel
theorem dX4_makeSpoiled_2 : decode cX4_makeSpoiled 2 = .ok (.invokevirtual 48, 3) := by decide +kernel
theorem dX4_makeSpoiled_5 : decode cX4_makeSpoiled 5 = .ok (.ifCond .eq 10, 3) := by decide +kernel
theorem dX4_makeSpoiled_8 : decode cX4_makeSpoiled 8 = .ok (.aload_n 0, 1) := by decide +kernel
theorem dX4_makeSpoiled_9 : decode cX4_makeSpoiled 9 = .ok (.getfield 24, 3) := by decide +kernel
theorem dX4_makeSpoiled_12 : decode cX4_makeSpoiled 12 = .ok (.iload_n 1, 1) := by decide +kernel
theorem dX4_makeSpoiled_13 : decode cX4_makeSpoiled 13 = .ok (.iconst 1, 1) := by decide +kernel
theorem dX4_makeSpoiled_14 : decode cX4_makeSpoiled 14 = .ok (.iastore, 1) := by decide +kernel
theorem dX4_makeSpoiled_15 : decode cX4_makeSpoiled 15 = .ok (.return_, 1) := by decide +kernel
set_option maxRecDepth 20000 in
theorem ggX4_storeBy_X4_isPresent : GoodIn wsX4_storeBy wsX4_isPresent := goodIn_r _ [7, 8, 9, 10, 11, 6, 12, 13, 30, 31, 32, 33, 34, 35, 36] (by decide +kernel) (by decide +kernel)
set_option maxRecDepth 20000 in
theorem gX4_storeBy_X4_isPresent : GoodIn wsX4_storeBy (wsV RX4 48 RX4 yX4_isPresent wsX4_isPresent) := goodIn_app (goodIn_of _ (by decide +kernel)) ggX4_storeBy_X4_isPresent
set_option maxRecDepth 20000 in
theorem ggX4_storeBy_X4_release : GoodIn wsX4_storeBy wsX4_release := goodIn_r _ [17, 1, 8, 2, 18, 19, 20, 6, 21, 9, 10, 11, 12, 13, 22, 23, 24, 25, 3, 4, 5, 7, 26, 27, 28, 29, 30, 31, 32, 33, 34, 35, 36] (by decide +kernel) (by decide +kernel)
set_option maxRecDepth 20000 in
theorem gX4_storeBy_X4_release : GoodIn wsX4_storeBy (wsV RX4 117 RX4 yX4_release wsX4_release) := goodIn_app (goodIn_of _ (by decide +kernel)) ggX4_storeBy_X4_release
theorem dX4_storeBy_0 : decode cX4_storeBy 0 = .ok (.aload_n 0, 1) := by decide +kernel
theorem dX4_storeBy_1 : decode cX4_storeBy 1 = .ok (.iload_n 1, 1) := by decide +kernel
theorem dX4_storeBy_2 : decode cX4_storeBy 2 = .ok (.invokevirtual 48, 3) := by decide +kernel
theorem dX4_storeBy_5 : decode cX4_storeBy 5 = .ok (.ifCond .ne 4, 3) := by decide +kernel
theorem dX4_storeBy_8 : decode cX4_storeBy 8 = .ok (.return_, 1) := by decide +kernel
theorem dX4_storeBy_9 : decode cX4_storeBy 9 = .ok (.aload_n 0, 1) := by decide +kernel
theorem dX4_storeBy_10 : decode cX4_storeBy 10 = .ok (.getfield 21, 3) := by decide +kernel
theorem dX4_storeBy_13 : decode cX4_storeBy 13 = .ok (.iload_n 1, 1) := by decide +kernel
theorem dX4_storeBy_14 : decode cX4_storeBy 14 = .ok (.iaload, 1) := by decide +kernel
theorem dX4_storeBy_15 : decode cX4_storeBy 15 = .ok (.istore_n 3, 1) := by decide +kernel
theorem dX4_storeBy_16 : decode cX4_storeBy 16 = .ok (.aload_n 0, 1) := by decide +kernel
theorem dX4_storeBy_17 : decode cX4_storeBy 17 = .ok (.getfield 21, 3) := by decide +kernel
theorem dX4_storeBy_20 : decode cX4_storeBy 20 = .ok (.iload_n 1, 1) := by decide +kernel
theorem dX4_storeBy_21 : decode cX4_storeBy 21 = .ok (.iload_n 2, 1) := by decide +kernel
theorem dX4_storeBy_22 : decode cX4_storeBy 22 = .ok (.iastore, 1) := by decide +kernel
theorem dX4_storeBy_23 : decode cX4_storeBy 23 = .ok (.aload_n 0, 1) := by decide +kernel
theorem dX4_storeBy_24 : decode cX4_storeBy 24 = .ok (.getfield 24, 3) := by decide +kernel
theorem dX4_storeBy_27 : decode cX4_storeBy 27 = .ok (.iload_n 1, 1) := by decide +kernel
theorem dX4_storeBy_28 : decode cX4_storeBy 28 = .ok (.iconst 0, 1) := by decide +kernel
theorem dX4_storeBy_29 : decode cX4_storeBy 29 = .ok (.iastore, 1) := by decide +kernel
theorem dX4_storeBy_30 : decode cX4_storeBy 30 = .ok (.aload_n 0, 1) := by decide +kernel
theorem dX4_storeBy_31 : decode cX4_storeBy 31 = .ok (.iload_n 3, 1) := by decide +kernel
theorem dX4_storeBy_32 : decode cX4_storeBy 32 = .ok (.invokevirtual 117, 3) := by decide +kernel
theorem dX4_storeBy_35 : decode cX4_storeBy 35 = .ok (.pop, 1) := by decide +kernel
theorem dX4_storeBy_36 : decode cX4_storeBy 36 = .ok (.return_, 1) := by decide +kernel
set_option maxRecDepth 20000 in
theorem ggX4_storeAllBy_X4_isPresent : GoodIn wsX4_storeAllBy wsX4_isPresent := goodIn_r _ [8, 9, 10, 11, 12, 7, 13, 1, 30, 31, 32, 33, 34, 35, 36] (by decide +kernel) (by decide +kernel)
set_option maxRecDepth 20000 in
theorem gX4_storeAllBy_X4_isPresent : GoodIn wsX4_storeAllBy (wsV RX4 48 RX4 yX4_isPresent wsX4_isPresent) := goodIn_app (goodIn_of _ (by decide +kernel)) ggX4_storeAllBy_X4_isPresent
set_option maxRecDepth 20000 in
theorem ggX4_storeAllBy_X4_release : GoodIn wsX4_storeAllBy wsX4_release := goodIn_r _ [17, 2, 9, 3, 18, 19, 20, 7, 21, 10, 11, 12, 13, 1, 22, 23, 24, 25, 4, 5, 6, 8, 26, 27, 28, 29, 30, 31, 32, 33, 34, 35, 36] (by decide +kernel) (by decide +kernel)
set_option maxRecDepth 20000 in
theorem gX4_storeAllBy_X4_release : GoodIn wsX4_storeAllBy (wsV RX4 117 RX4 yX4_release wsX4_release) := goodIn_app (goodIn_of _ (by decide +kernel)) ggX4_storeAllBy_X4_release
theorem dX4_storeAllBy_0 : decode cX4_storeAllBy 0 = .ok (.iconst 0, 1) := by decide +kernel
theorem dX4_storeAllBy_1 : decode cX4_storeAllBy 1 = .ok (.istore_n 2, 1) := by decide +kernel
theorem dX4_storeAllBy_2 : decode cX4_storeAllBy 2 = .ok (.iload_n 2, 1) := by decide +kernel
theorem dX4_storeAllBy_3 : decode cX4_storeAllBy 3 = .ok (.aload_n 0, 1) := by decide +kernel
theorem dX4_storeAllBy_4 : decode cX4_storeAllBy 4 = .ok (.getfield 30, 3) := by decide +kernel
theorem dX4_storeAllBy_7 : decode cX4_storeAllBy 7 = .ok (.if_icmp .ge 39, 3) := by decide +kernel
theorem dX4_storeAllBy_10 : decode cX4_storeAllBy 10 = .ok (.iload_n 2, 1) := by decide +kernel
theorem dX4_storeAllBy_11 : decode cX4_storeAllBy 11 = .ok (.aload_n 1, 1) := by decide +kernel
theorem dX4_storeAllBy_12 : decode cX4_storeAllBy 12 = .ok (.arraylength, 1) := by decide +kernel
theorem dX4_storeAllBy_13 : decode cX4_storeAllBy 13 = .ok (.if_icmp .ge 33, 3) := by decide +kernel
theorem dX4_storeAllBy_16 : decode cX4_storeAllBy 16 = .ok (.aload_n 0, 1) := by decide +kernel
theorem dX4_storeAllBy_17 : decode cX4_storeAllBy 17 = .ok (.iload_n 2, 1) := by decide +kernel
theorem dX4_storeAllBy_18 : decode cX4_storeAllBy 18 = .ok (.invokevirtual 48, 3) := by decide +kernel
theorem dX4_storeAllBy_21 : decode cX4_storeAllBy 21 = .ok (.ifCond .eq 19, 3) := by decide +kernel
theorem dX4_storeAllBy_24 : decode cX4_storeAllBy 24 = .ok (.aload_n 0, 1) := by decide +kernel
theorem dX4_storeAllBy_25 : decode cX4_storeAllBy 25 = .ok (.getfield 21, 3) := by decide +kernel
theorem dX4_storeAllBy_28 : decode cX4_storeAllBy 28 = .ok (.iload_n 2, 1) := by decide +kernel
theorem dX4_storeAllBy_29 : decode cX4_storeAllBy 29 = .ok (.aload_n 1, 1) := by decide +kernel
theorem dX4_storeAllBy_30 : decode cX4_storeAllBy 30 = .ok (.iload_n 2, 1) := by decide +kernel
theorem dX4_storeAllBy_31 : decode cX4_storeAllBy 31 = .ok (.iaload, 1) := by decide +kernel
theorem dX4_storeAllBy_32 : decode cX4_storeAllBy 32 = .ok (.iastore, 1) := by decide +kernel
theorem dX4_storeAllBy_33 : decode cX4_storeAllBy 33 = .ok (.aload_n 0, 1) := by decide +kernel
theorem dX4_storeAllBy_34 : decode cX4_storeAllBy 34 = .ok (.getfield 24, 3) := by decide +kernel
theorem dX4_storeAllBy_37 : decode cX4_storeAllBy 37 = .ok (.iload_n 2, 1) := by decide +kernel
theorem dX4_storeAllBy_38 : decode cX4_storeAllBy 38 = .ok (.iconst 0, 1) := by decide +kernel
theorem dX4_storeAllBy_39 : decode cX4_storeAllBy 39 = .ok (.iastore, 1) := by decide +kernel
theorem dX4_storeAllBy_40 : decode cX4_storeAllBy 40 = .ok (.iinc 2 1, 3) := by decide +kernel
theorem dX4_storeAllBy_43 : decode cX4_storeAllBy 43 = .ok (.goto (-41), 3) := by decide +kernel
theorem dX4_storeAllBy_46 : decode cX4_storeAllBy 46 = .ok (.aload_n 0, 1) := by decide +kernel
theorem dX4_storeAllBy_47 : decode cX4_storeAllBy 47 = .ok (.getfield 30, 3) := by decide +kernel
theorem dX4_storeAllBy_50 : decode cX4_storeAllBy 50 = .ok (.iconst 1, 1) := by decide +kernel
theorem dX4_storeAllBy_51 : decode cX4_storeAllBy 51 = .ok (.isub, 1) := by decide +kernel
theorem dX4_storeAllBy_52 : decode cX4_storeAllBy 52 = .ok (.istore_n 2, 1) := by decide +kernel
theorem dX4_storeAllBy_53 : decode cX4_storeAllBy 53 = .ok (.iload_n 2, 1) := by decide +kernel
theorem dX4_storeAllBy_54 : decode cX4_storeAllBy 54 = .ok (.ifCond .lt 15, 3) := by decide +kernel
theorem dX4_storeAllBy_57 : decode cX4_storeAllBy 57 = .ok (.aload_n 0, 1) := by decide +kernel
theorem dX4_storeAllBy_58 : decode cX4_storeAllBy 58 = .ok (.iload_n 2, 1) := by decide +kernel
theorem dX4_storeAllBy_59 : decode cX4_storeAllBy 59 = .ok (.invokevirtual 117, 3) := by decide +kernel
theorem dX4_storeAllBy_62 : decode cX4_storeAllBy 62 = .ok (.pop, 1) := by decide +kernel
theorem dX4_storeAllBy_63 : decode cX4_storeAllBy 63 = .ok (.iinc 2 (-1), 3) := by decide +kernel
theorem dX4_storeAllBy_66 : decode cX4_storeAllBy 66 = .ok (.goto (-13), 3) := by decide +kernel
theorem dX4_storeAllBy_69 : decode cX4_storeAllBy 69 = .ok (.return_, 1) := by decide +kernel
set_option maxRecDepth 20000 in
theorem ggX4_discard_X4_isKept : GoodIn wsX4_discard wsX4_isKept := goodIn_r _ [6, 1, 7, 8, 9, 5, 10, 11, 34, 35, 36, 37, 38, 39, 40] (by decide +kernel) (by decide +kernel)
set_option maxRecDepth 20000 in
theorem gX4_discard_X4_isKept : GoodIn wsX4_discard (wsV RX4 120 RX4 yX4_isKept wsX4_isKept) := goodIn_app (goodIn_of _ (by decide +kernel)) ggX4_discard_X4_isKept
set_option maxRecDepth 20000 in
theorem ggX4_discard_X4_release : GoodIn wsX4_discard wsX4_release := goodIn_r _ [15, 16, 1, 17, 18, 19, 20, 5, 21, 7, 8, 9, 10, 11, 22, 23, 24, 25, 26, 27, 28, 29, 30, 31, 32, 33, 34, 35, 36, 37, 38, 39, 40] (by decide +kernel) (by decide +kernel)
set_option maxRecDepth 20000 in
theorem gX4_discard_X4_release : GoodIn wsX4_discard (wsV RX4 117 RX4 yX4_release wsX4_release) := goodIn_app (goodIn_of _ (by decide +kernel)) ggX4_discard_X4_release
theorem dX4_discard_0 : decode cX4_discard 0 = .ok (.aload_n 0, 1) := by decide +kernel
theorem dX4_discard_1 : decode cX4_discard 1 = .ok (.iload_n 1, 1) := by decide +kernel
theorem dX4_discard_2 : decode cX4_discard 2 = .ok (.invokevirtual 120, 3) := by decide +kernel
theorem dX4_discard_5 : decode cX4_discard 5 = .ok (.ifCond .ne 5, 3) := by decide +kernel
theorem dX4_discard_8 : decode cX4_discard 8 = .ok (.iconst 0, 1) := by decide +kernel
theorem dX4_discard_9 : decode cX4_discard 9 = .ok (.ireturn, 1) := by decide +kernel
theorem dX4_discard_10 : decode cX4_discard 10 = .ok (.aload_n 0, 1) := by decide +kernel
theorem dX4_discard_11 : decode cX4_discard 11 = .ok (.getfield 9, 3) := by decide +kernel
theorem dX4_discard_14 : decode cX4_discard 14 = .ok (.iload_n 1, 1) := by decide +kernel
theorem dX4_discard_15 : decode cX4_discard 15 = .ok (.iconst 1, 1) := by decide +kernel
theorem dX4_discard_16 : decode cX4_discard 16 = .ok (.iastore, 1) := by decide +kernel
theorem dX4_discard_17 : decode cX4_discard 17 = .ok (.aload_n 0, 1) := by decide +kernel
theorem dX4_discard_18 : decode cX4_discard 18 = .ok (.iload_n 1, 1) := by decide +kernel
theorem dX4_discard_19 : decode cX4_discard 19 = .ok (.invokevirtual 117, 3) := by decide +kernel
theorem dX4_discard_22 : decode cX4_discard 22 = .ok (.ireturn, 1) := by decide +kernel
set_option maxRecDepth 20000 in
theorem ggX4_release_X4_isHidden : GoodIn wsX4_release wsX4_isHidden := goodIn_r _ [8, 2, 9, 10, 11, 7, 12, 13, 26, 27, 28, 29, 30, 31, 32] (by decide +kernel) (by decide +kernel)
set_option maxRecDepth 20000 in
theorem gX4_release_X4_isHidden : GoodIn wsX4_release (wsV RX4 123 RX4 yX4_isHidden wsX4_isHidden) := goodIn_app (goodIn_of _ (by decide +kernel)) ggX4_release_X4_isHidden
set_option maxRecDepth 20000 in
theorem ggX4_release_X4_dependants : GoodIn wsX4_release wsX4_dependants := goodIn_r _ [17, 13, 18, 19, 20, 7, 21, 2, 9, 10, 11, 12, 22, 23, 24, 25, 1, 26, 27, 28, 29, 30, 31, 32] (by decide +kernel) (by decide +kernel)
set_option maxRecDepth 20000 in
theorem gX4_release_X4_dependants : GoodIn wsX4_release (wsV RX4 126 RX4 yX4_dependants wsX4_dependants) := goodIn_app (goodIn_of _ (by decide +kernel)) ggX4_release_X4_dependants
theorem dX4_release_0 : decode cX4_release 0 = .ok (.iconst 0, 1) := by decide +kernel
theorem dX4_release_1 : decode cX4_release 1 = .ok (.istore_n 2, 1) := by decide +kernel
theorem dX4_release_2 : decode cX4_release 2 = .ok (.iload_n 1, 1) := by decide +kernel
theorem dX4_release_3 : decode cX4_release 3 = .ok (.istore_n 3, 1) := by decide +kernel
theorem dX4_release_4 : decode cX4_release 4 = .ok (.iload_n 2, 1) := by decide +kernel
theorem dX4_release_5 : decode cX4_release 5 = .ok (.bipush 40, 2) := by decide +kernel
theorem dX4_release_7 : decode cX4_release 7 = .ok (.if_icmp .ge 58, 3) := by decide +kernel
theorem dX4_release_10 : decode cX4_release 10 = .ok (.aload_n 0, 1) := by decide +kernel
theorem dX4_release_11 : decode cX4_release 11 = .ok (.iload_n 3, 1) := by decide +kernel
theorem dX4_release_12 : decode cX4_release 12 = .ok (.invokevirtual 123, 3) := by decide +kernel
theorem dX4_release_15 : decode cX4_release 15 = .ok (.ifCond .eq 50, 3) := by decide +kernel
theorem dX4_release_18 : decode cX4_release 18 = .ok (.aload_n 0, 1) := by decide +kernel
theorem dX4_release_19 : decode cX4_release 19 = .ok (.iload_n 3, 1) := by decide +kernel
theorem dX4_release_20 : decode cX4_release 20 = .ok (.invokevirtual 126, 3) := by decide +kernel
theorem dX4_release_23 : decode cX4_release 23 = .ok (.ifCond .ne 42, 3) := by decide +kernel
theorem dX4_release_26 : decode cX4_release 26 = .ok (.aload_n 0, 1) := by decide +kernel
theorem dX4_release_27 : decode cX4_release 27 = .ok (.getfield 21, 3) := by decide +kernel
theorem dX4_release_30 : decode cX4_release 30 = .ok (.iload_n 3, 1) := by decide +kernel
theorem dX4_release_31 : decode cX4_release 31 = .ok (.iaload, 1) := by decide +kernel
theorem dX4_release_32 : decode cX4_release 32 = .ok (.istore 4, 2) := by decide +kernel
theorem dX4_release_34 : decode cX4_release 34 = .ok (.aload_n 0, 1) := by decide +kernel
theorem dX4_release_35 : decode cX4_release 35 = .ok (.getfield 9, 3) := by decide +kernel
theorem dX4_release_38 : decode cX4_release 38 = .ok (.iload_n 3, 1) := by decide +kernel
theorem dX4_release_39 : decode cX4_release 39 = .ok (.iconst 2, 1) := by decide +kernel
theorem dX4_release_40 : decode cX4_release 40 = .ok (.iastore, 1) := by decide +kernel
theorem dX4_release_41 : decode cX4_release 41 = .ok (.aload_n 0, 1) := by decide +kernel
theorem dX4_release_42 : decode cX4_release 42 = .ok (.getfield 21, 3) := by decide +kernel
theorem dX4_release_45 : decode cX4_release 45 = .ok (.iload_n 3, 1) := by decide +kernel
theorem dX4_release_46 : decode cX4_release 46 = .ok (.bipush (-5), 2) := by decide +kernel
theorem dX4_release_48 : decode cX4_release 48 = .ok (.iastore, 1) := by decide +kernel
theorem dX4_release_49 : decode cX4_release 49 = .ok (.aload_n 0, 1) := by decide +kernel
theorem dX4_release_50 : decode cX4_release 50 = .ok (.getfield 24, 3) := by decide +kernel
theorem dX4_release_53 : decode cX4_release 53 = .ok (.iload_n 3, 1) := by decide +kernel
theorem dX4_release_54 : decode cX4_release 54 = .ok (.iconst 0, 1) := by decide +kernel
theorem dX4_release_55 : decode cX4_release 55 = .ok (.iastore, 1) := by decide +kernel
theorem dX4_release_56 : decode cX4_release 56 = .ok (.iinc 2 1, 3) := by decide +kernel
theorem dX4_release_59 : decode cX4_release 59 = .ok (.iload 4, 2) := by decide +kernel
theorem dX4_release_61 : decode cX4_release 61 = .ok (.istore_n 3, 1) := by decide +kernel
theorem dX4_release_62 : decode cX4_release 62 = .ok (.goto (-58), 3) := by decide +kernel
theorem dX4_release_65 : decode cX4_release 65 = .ok (.iload_n 2, 1) := by decide +kernel
theorem dX4_release_66 : decode cX4_release 66 = .ok (.ireturn, 1) := by decide +kernel
set_option maxRecDepth 20000 in
theorem ggX5_init_X3_init : GoodIn wsX5_init wsX3_init := goodIn_r _ [26, 27, 2, 3, 28, 29, 30, 31, 22, 32, 33, 34, 35, 36, 37, 38, 39, 40, 41, 42, 43, 44, 45, 46, 128, 129, 130, 131, 132, 133, 134, 106, 107, 108, 109, 110, 111] (by decide +kernel) (by decide +kernel)
set_option maxRecDepth 20000 in
theorem gX5_init_X3_init_n9 : GoodIn wsX5_init (wsX3_init) := ggX5_init_X3_init
set_option maxRecDepth 20000 in
theorem ggX5_init_X1_init : GoodIn wsX5_init wsX1_init := goodIn_r _ [48, 49, 2, 3, 50, 51, 52, 53, 119, 120, 121] (by decide +kernel) (by decide +kernel)
set_option maxRecDepth 20000 in
theorem gX5_init_X1_init_n23 : GoodIn wsX5_init (wsX1_init) := ggX5_init_X1_init
set_option maxRecDepth 20000 in
theorem ggX5_init_X0_init : GoodIn wsX5_init wsX0_init := goodIn_r _ [55, 56, 2, 3, 57, 58, 22, 59, 60, 61, 122, 123, 124, 125] (by decide +kernel) (by decide +kernel)
set_option maxRecDepth 20000 in
theorem gX5_init_X0_init_n30 : GoodIn wsX5_init (wsX0_init) := ggX5_init_X0_init
set_option maxRecDepth 20000 in
theorem ggX5_init_X2_init : GoodIn wsX5_init wsX2_init := goodIn_r _ [63, 64, 2, 3, 22, 65, 66, 126, 127] (by decide +kernel) (by decide +kernel)
set_option maxRecDepth 20000 in
theorem gX5_init_X2_init_n37 : GoodIn wsX5_init (wsX2_init) := ggX5_init_X2_init
set_option maxRecDepth 20000 in
theorem ggX5_init_X4_add : GoodIn wsX5_init wsX4_add := goodIn_r _ [70, 46, 40, 41, 42, 43, 44, 45, 71, 72, 73, 74, 75, 76, 77, 30, 78, 79, 80, 81, 82, 83, 84, 85, 86, 87, 88, 89, 90, 91, 92, 93, 94, 95, 96, 97, 98, 99, 100, 101, 102, 103, 104, 105, 128, 129, 130, 131, 132, 133, 134] (by decide +kernel) (by decide +kernel)
set_option maxRecDepth 20000 in
theorem gX5_init_X4_add : GoodIn wsX5_init (wsV RX5 49 RX4 yX4_add wsX4_add) := goodIn_app (goodIn_of _ (by decide +kernel)) ggX5_init_X4_add
theorem dX5_init_0 : decode cX5_init 0 = .ok (.aload_n 0, 1) := by decide +kernel
theorem dX5_init_1 : decode cX5_init 1 = .ok (.invokespecial 1, 3) := by decide +kernel
theorem dX5_init_4 : decode cX5_init 4 = .ok (.aload_n 0, 1) := by decide +kernel
theorem dX5_init_5 : decode cX5_init 5 = .ok (.new 7, 3) := by decide +kernel
theorem dX5_init_8 : decode cX5_init 8 = .ok (.dup, 1) := by decide +kernel
theorem dX5_init_9 : decode cX5_init 9 = .ok (.invokespecial 9, 3) := by decide +kernel
theorem dX5_init_12 : decode cX5_init 12 = .ok (.putfield 10, 3) := by decide +kernel
theorem dX5_init_15 : decode cX5_init 15 = .ok (.aload_n 0, 1) := by decide +kernel
theorem dX5_init_16 : decode cX5_init 16 = .ok (.aload_n 0, 1) := by decide +kernel
theorem dX5_init_17 : decode cX5_init 17 = .ok (.getfield 10, 3) := by decide +kernel
theorem dX5_init_20 : decode cX5_init 20 = .ok (.getfield 16, 3) := by decide +kernel
theorem dX5_init_23 : decode cX5_init 23 = .ok (.putfield 20, 3) := by decide +kernel
theorem dX5_init_26 : decode cX5_init 26 = .ok (.aload_n 0, 1) := by decide +kernel
theorem dX5_init_27 : decode cX5_init 27 = .ok (.new 21, 3) := by decide +kernel
theorem dX5_init_30 : decode cX5_init 30 = .ok (.dup, 1) := by decide +kernel
theorem dX5_init_31 : decode cX5_init 31 = .ok (.invokespecial 23, 3) := by decide +kernel
theorem dX5_init_34 : decode cX5_init 34 = .ok (.putfield 24, 3) := by decide +kernel
theorem dX5_init_37 : decode cX5_init 37 = .ok (.aload_n 0, 1) := by decide +kernel
theorem dX5_init_38 : decode cX5_init 38 = .ok (.new 28, 3) := by decide +kernel
theorem dX5_init_41 : decode cX5_init 41 = .ok (.dup, 1) := by decide +kernel
theorem dX5_init_42 : decode cX5_init 42 = .ok (.invokespecial 30, 3) := by decide +kernel
theorem dX5_init_45 : decode cX5_init 45 = .ok (.putfield 31, 3) := by decide +kernel
theorem dX5_init_48 : decode cX5_init 48 = .ok (.aload_n 0, 1) := by decide +kernel
theorem dX5_init_49 : decode cX5_init 49 = .ok (.new 35, 3) := by decide +kernel
theorem dX5_init_52 : decode cX5_init 52 = .ok (.dup, 1) := by decide +kernel
theorem dX5_init_53 : decode cX5_init 53 = .ok (.invokespecial 37, 3) := by decide +kernel
theorem dX5_init_56 : decode cX5_init 56 = .ok (.putfield 38, 3) := by decide +kernel
theorem dX5_init_59 : decode cX5_init 59 = .ok (.aload_n 0, 1) := by decide +kernel
theorem dX5_init_60 : decode cX5_init 60 = .ok (.bipush 12, 2) := by decide +kernel
theorem dX5_init_62 : decode cX5_init 62 = .ok (.newarray .int, 2) := by decide +kernel
theorem dX5_init_64 : decode cX5_init 64 = .ok (.putfield 42, 3) := by decide +kernel
theorem dX5_init_67 : decode cX5_init 67 = .ok (.aload_n 0, 1) := by decide +kernel
theorem dX5_init_68 : decode cX5_init 68 = .ok (.aconst_null, 1) := by decide +kernel
theorem dX5_init_69 : decode cX5_init 69 = .ok (.putfield 46, 3) := by decide +kernel
theorem dX5_init_72 : decode cX5_init 72 = .ok (.aload_n 0, 1) := by decide +kernel
theorem dX5_init_73 : decode cX5_init 73 = .ok (.getfield 20, 3) := by decide +kernel
theorem dX5_init_76 : decode cX5_init 76 = .ok (.bipush (-5), 2) := by decide +kernel
theorem dX5_init_78 : decode cX5_init 78 = .ok (.bipush (-5), 2) := by decide +kernel
theorem dX5_init_80 : decode cX5_init 80 = .ok (.bipush 12, 2) := by decide +kernel
theorem dX5_init_82 : decode cX5_init 82 = .ok (.newarray .int, 2) := by decide +kernel
theorem dX5_init_84 : decode cX5_init 84 = .ok (.iconst 4, 1) := by decide +kernel
theorem dX5_init_85 : decode cX5_init 85 = .ok (.invokevirtual 49, 3) := by decide +kernel
theorem dX5_init_88 : decode cX5_init 88 = .ok (.pop, 1) := by decide +kernel
theorem dX5_init_89 : decode cX5_init 89 = .ok (.return_, 1) := by decide +kernel
set_option maxRecDepth 20000 in
theorem ggX5_commit_X3_isHead : GoodIn wsX5_commit wsX3_isHead := goodIn_r _ [11, 12, 175, 176, 177, 178, 179, 180] (by decide +kernel) (by decide +kernel)
set_option maxRecDepth 20000 in
theorem gX5_commit_X3_isHead : GoodIn wsX5_commit (wsV RX5 55 RX3 yX3_isHead wsX3_isHead) := goodIn_app (goodIn_of _ (by decide +kernel)) ggX5_commit_X3_isHead
set_option maxRecDepth 20000 in
theorem ggX5_commit_X0_readEdits : GoodIn wsX5_commit wsX0_readEdits := goodIn_r _ [17, 18, 19, 20, 21, 22, 23, 24, 25, 26, 27, 16, 28, 29, 30, 31, 32, 33, 34, 35, 36, 37, 38, 39, 40, 41, 181, 182, 183, 184] (by decide +kernel) (by decide +kernel)
set_option maxRecDepth 20000 in
theorem gX5_commit_X0_readEdits : GoodIn wsX5_commit (wsV RX5 59 RX0 yX0_readEdits wsX0_readEdits) := goodIn_app (goodIn_of _ (by decide +kernel)) ggX5_commit_X0_readEdits
set_option maxRecDepth 20000 in
theorem ggX5_commit_X3_placeOf : GoodIn wsX5_commit wsX3_placeOf := goodIn_r _ [45, 46, 47, 8, 9, 10, 11, 12, 175, 176, 177, 178, 179, 180] (by decide +kernel) (by decide +kernel)
set_option maxRecDepth 20000 in
theorem gX5_commit_X3_placeOf : GoodIn wsX5_commit (wsV RX5 63 RX3 yX3_placeOf wsX3_placeOf) := goodIn_app (goodIn_of _ (by decide +kernel)) ggX5_commit_X3_placeOf
set_option maxRecDepth 20000 in
theorem ggX5_commit_X4_canBeRead : GoodIn wsX5_commit wsX4_canBeRead := goodIn_r _ [52, 53, 54, 55, 51, 56, 57, 58, 59, 60, 61, 62, 63, 64, 65, 66, 67, 68, 69, 70, 71, 168, 169, 170, 171, 172, 173, 174] (by decide +kernel) (by decide +kernel)
set_option maxRecDepth 20000 in
theorem gX5_commit_X4_canBeRead : GoodIn wsX5_commit (wsV RX5 67 RX4 yX4_canBeRead wsX4_canBeRead) := goodIn_app (goodIn_of _ (by decide +kernel)) ggX5_commit_X4_canBeRead
set_option maxRecDepth 20000 in
theorem ggX5_commit_X0_propose : GoodIn wsX5_commit wsX0_propose := goodIn_r _ [75, 18, 76, 77, 78, 51, 79, 80, 62, 63, 64, 65, 66, 181, 182, 183, 184, 168, 169, 170, 171, 172, 173, 174] (by decide +kernel) (by decide +kernel)
set_option maxRecDepth 20000 in
theorem gX5_commit_X0_propose : GoodIn wsX5_commit (wsV RX5 74 RX0 yX0_propose wsX0_propose) := goodIn_app (goodIn_of _ (by decide +kernel)) ggX5_commit_X0_propose
set_option maxRecDepth 20000 in
theorem ggX5_commit_X4_differingFrom : GoodIn wsX5_commit wsX4_differingFrom := goodIn_r _ [84, 85, 77, 78, 51, 79, 80, 62, 63, 64, 65, 66, 168, 169, 170, 171, 172, 173, 174] (by decide +kernel) (by decide +kernel)
set_option maxRecDepth 20000 in
theorem gX5_commit_X4_differingFrom : GoodIn wsX5_commit (wsV RX5 78 RX4 yX4_differingFrom wsX4_differingFrom) := goodIn_app (goodIn_of _ (by decide +kernel)) ggX5_commit_X4_differingFrom
set_option maxRecDepth 20000 in
theorem ggX5_commit_X1_push : GoodIn wsX5_commit wsX1_push := goodIn_r _ [90, 91, 92, 93, 94, 10, 95, 96, 97, 98, 99, 100, 101, 102, 103, 104, 105, 106, 51, 107, 108, 46, 12, 109, 110, 111, 112, 113, 114, 115, 116, 117, 71, 61, 80, 66, 118, 119, 120, 121, 122, 123, 124, 125, 126, 127, 128, 129, 130, 185, 186, 187, 175, 176, 177, 178, 179, 180, 168, 169, 170, 171, 172, 173, 174] (by decide +kernel) (by decide +kernel)
set_option maxRecDepth 20000 in
theorem gX5_commit_X1_push : GoodIn wsX5_commit (wsV RX5 82 RX1 yX1_push wsX1_push) := goodIn_app (goodIn_of _ (by decide +kernel)) ggX5_commit_X1_push
set_option maxRecDepth 20000 in
theorem ggX5_commit_X5_addAtHead : GoodIn wsX5_commit wsX5_addAtHead := goodIn_r _ [135, 1, 3, 5, 136, 42, 43, 44, 10, 45, 46, 47, 8, 9, 11, 12, 137, 138, 139, 51, 140, 66, 115, 116, 117, 71, 61, 80, 130, 123, 124, 125, 141, 142, 143, 144, 62, 63, 64, 65, 145, 146, 147, 148, 149, 150, 151, 152, 67, 68, 69, 70, 153, 82, 83, 84, 85, 77, 78, 79, 154, 155, 156, 157, 158, 159, 160, 161, 162, 163, 164, 165, 166, 167, 175, 176, 177, 178, 179, 180, 168, 169, 170, 171, 172, 173, 174] (by decide +kernel) (by decide +kernel)
set_option maxRecDepth 20000 in
theorem gX5_commit_X5_addAtHead : GoodIn wsX5_commit (wsV RX5 86 RX5 yX5_addAtHead wsX5_addAtHead) := goodIn_app (goodIn_of _ (by decide +kernel)) ggX5_commit_X5_addAtHead
theorem dX5_commit_0 : decode cX5_commit 0 = .ok (.aload_n 0, 1) := by decide +kernel
theorem dX5_commit_1 : decode cX5_commit 1 = .ok (.getfield 10, 3) := by decide +kernel
theorem dX5_commit_4 : decode cX5_commit 4 = .ok (.iload_n 1, 1) := by decide +kernel
theorem dX5_commit_5 : decode cX5_commit 5 = .ok (.invokevirtual 55, 3) := by decide +kernel
theorem dX5_commit_8 : decode cX5_commit 8 = .ok (.ifCond .ne 5, 3) := by decide +kernel
theorem dX5_commit_11 : decode cX5_commit 11 = .ok (.iconst (-1), 1) := by decide +kernel
theorem dX5_commit_12 : decode cX5_commit 12 = .ok (.ireturn, 1) := by decide +kernel
theorem dX5_commit_13 : decode cX5_commit 13 = .ok (.aload_n 0, 1) := by decide +kernel
theorem dX5_commit_14 : decode cX5_commit 14 = .ok (.getfield 31, 3) := by decide +kernel
theorem dX5_commit_17 : decode cX5_commit 17 = .ok (.invokevirtual 59, 3) := by decide +kernel
theorem dX5_commit_20 : decode cX5_commit 20 = .ok (.istore_n 2, 1) := by decide +kernel
theorem dX5_commit_21 : decode cX5_commit 21 = .ok (.iload_n 2, 1) := by decide +kernel
theorem dX5_commit_22 : decode cX5_commit 22 = .ok (.ifCond .lt 8, 3) := by decide +kernel
theorem dX5_commit_25 : decode cX5_commit 25 = .ok (.bipush (-100), 2) := by decide +kernel
theorem dX5_commit_27 : decode cX5_commit 27 = .ok (.iload_n 2, 1) := by decide +kernel
theorem dX5_commit_28 : decode cX5_commit 28 = .ok (.isub, 1) := by decide +kernel
theorem dX5_commit_29 : decode cX5_commit 29 = .ok (.ireturn, 1) := by decide +kernel
theorem dX5_commit_30 : decode cX5_commit 30 = .ok (.aload_n 0, 1) := by decide +kernel
theorem dX5_commit_31 : decode cX5_commit 31 = .ok (.getfield 10, 3) := by decide +kernel
theorem dX5_commit_34 : decode cX5_commit 34 = .ok (.iload_n 1, 1) := by decide +kernel
theorem dX5_commit_35 : decode cX5_commit 35 = .ok (.invokevirtual 63, 3) := by decide +kernel
theorem dX5_commit_38 : decode cX5_commit 38 = .ok (.istore_n 3, 1) := by decide +kernel
theorem dX5_commit_39 : decode cX5_commit 39 = .ok (.aload_n 0, 1) := by decide +kernel
theorem dX5_commit_40 : decode cX5_commit 40 = .ok (.getfield 20, 3) := by decide +kernel
theorem dX5_commit_43 : decode cX5_commit 43 = .ok (.iload_n 3, 1) := by decide +kernel
theorem dX5_commit_44 : decode cX5_commit 44 = .ok (.invokevirtual 67, 3) := by decide +kernel
theorem dX5_commit_47 : decode cX5_commit 47 = .ok (.ifCond .ne 6, 3) := by decide +kernel
theorem dX5_commit_50 : decode cX5_commit 50 = .ok (.bipush (-6), 2) := by decide +kernel
theorem dX5_commit_52 : decode cX5_commit 52 = .ok (.ireturn, 1) := by decide +kernel
theorem dX5_commit_53 : decode cX5_commit 53 = .ok (.aload_n 0, 1) := by decide +kernel
theorem dX5_commit_54 : decode cX5_commit 54 = .ok (.getfield 20, 3) := by decide +kernel
theorem dX5_commit_57 : decode cX5_commit 57 = .ok (.getfield 70, 3) := by decide +kernel
theorem dX5_commit_60 : decode cX5_commit 60 = .ok (.bipush 40, 2) := by decide +kernel
theorem dX5_commit_62 : decode cX5_commit 62 = .ok (.if_icmp .lt 6, 3) := by decide +kernel
theorem dX5_commit_65 : decode cX5_commit 65 = .ok (.bipush (-3), 2) := by decide +kernel
theorem dX5_commit_67 : decode cX5_commit 67 = .ok (.ireturn, 1) := by decide +kernel
theorem dX5_commit_68 : decode cX5_commit 68 = .ok (.aload_n 0, 1) := by decide +kernel
theorem dX5_commit_69 : decode cX5_commit 69 = .ok (.getfield 31, 3) := by decide +kernel
theorem dX5_commit_72 : decode cX5_commit 72 = .ok (.aload_n 0, 1) := by decide +kernel
theorem dX5_commit_73 : decode cX5_commit 73 = .ok (.getfield 20, 3) := by decide +kernel
theorem dX5_commit_76 : decode cX5_commit 76 = .ok (.iload_n 3, 1) := by decide +kernel
theorem dX5_commit_77 : decode cX5_commit 77 = .ok (.aload_n 0, 1) := by decide +kernel
theorem dX5_commit_78 : decode cX5_commit 78 = .ok (.getfield 42, 3) := by decide +kernel
theorem dX5_commit_81 : decode cX5_commit 81 = .ok (.invokevirtual 74, 3) := by decide +kernel
theorem dX5_commit_84 : decode cX5_commit 84 = .ok (.aload_n 0, 1) := by decide +kernel
theorem dX5_commit_85 : decode cX5_commit 85 = .ok (.getfield 20, 3) := by decide +kernel
theorem dX5_commit_88 : decode cX5_commit 88 = .ok (.iload_n 3, 1) := by decide +kernel
theorem dX5_commit_89 : decode cX5_commit 89 = .ok (.aload_n 0, 1) := by decide +kernel
theorem dX5_commit_90 : decode cX5_commit 90 = .ok (.getfield 42, 3) := by decide +kernel
theorem dX5_commit_93 : decode cX5_commit 93 = .ok (.invokevirtual 78, 3) := by decide +kernel
theorem dX5_commit_96 : decode cX5_commit 96 = .ok (.ifCond .ne 6, 3) := by decide +kernel
theorem dX5_commit_99 : decode cX5_commit 99 = .ok (.bipush (-5), 2) := by decide +kernel
theorem dX5_commit_101 : decode cX5_commit 101 = .ok (.ireturn, 1) := by decide +kernel
theorem dX5_commit_102 : decode cX5_commit 102 = .ok (.aload_n 0, 1) := by decide +kernel
theorem dX5_commit_103 : decode cX5_commit 103 = .ok (.getfield 24, 3) := by decide +kernel
theorem dX5_commit_106 : decode cX5_commit 106 = .ok (.aload_n 0, 1) := by decide +kernel
theorem dX5_commit_107 : decode cX5_commit 107 = .ok (.getfield 10, 3) := by decide +kernel
theorem dX5_commit_110 : decode cX5_commit 110 = .ok (.invokevirtual 82, 3) := by decide +kernel
theorem dX5_commit_113 : decode cX5_commit 113 = .ok (.aload_n 0, 1) := by decide +kernel
theorem dX5_commit_114 : decode cX5_commit 114 = .ok (.iload_n 1, 1) := by decide +kernel
theorem dX5_commit_115 : decode cX5_commit 115 = .ok (.bipush (-5), 2) := by decide +kernel
theorem dX5_commit_117 : decode cX5_commit 117 = .ok (.invokevirtual 86, 3) := by decide +kernel
theorem dX5_commit_120 : decode cX5_commit 120 = .ok (.ireturn, 1) := by decide +kernel
set_option maxRecDepth 20000 in
theorem ggX5_fork_X4_isKept : GoodIn wsX5_fork wsX4_isKept := goodIn_r _ [9, 10, 11, 12, 13, 8, 14, 15, 91, 92, 93, 94, 95, 96, 97] (by decide +kernel) (by decide +kernel)
set_option maxRecDepth 20000 in
theorem gX5_fork_X4_isKept : GoodIn wsX5_fork (wsV RX5 90 RX4 yX4_isKept wsX4_isKept) := goodIn_app (goodIn_of _ (by decide +kernel)) ggX5_fork_X4_isKept
set_option maxRecDepth 20000 in
theorem ggX5_fork_X1_push : GoodIn wsX5_fork wsX1_push := goodIn_r _ [20, 21, 22, 23, 24, 25, 26, 27, 28, 29, 30, 31, 32, 33, 34, 35, 36, 37, 8, 38, 39, 40, 41, 42, 43, 44, 45, 46, 47, 10, 48, 49, 50, 51, 52, 15, 53, 54, 55, 56, 57, 58, 59, 60, 61, 62, 63, 64, 65, 98, 99, 100, 85, 86, 87, 88, 89, 90, 91, 92, 93, 94, 95, 96, 97] (by decide +kernel) (by decide +kernel)
set_option maxRecDepth 20000 in
theorem gX5_fork_X1_push : GoodIn wsX5_fork (wsV RX5 82 RX1 yX1_push wsX1_push) := goodIn_app (goodIn_of _ (by decide +kernel)) ggX5_fork_X1_push
set_option maxRecDepth 20000 in
theorem ggX5_fork_X3_addHead : GoodIn wsX5_fork wsX3_addHead := goodIn_r _ [69, 41, 70, 71, 72, 25, 73, 40, 74, 75, 76, 77, 85, 86, 87, 88, 89, 90] (by decide +kernel) (by decide +kernel)
set_option maxRecDepth 20000 in
theorem gX5_fork_X3_addHead : GoodIn wsX5_fork (wsV RX5 96 RX3 yX3_addHead wsX3_addHead) := goodIn_app (goodIn_of _ (by decide +kernel)) ggX5_fork_X3_addHead
theorem dX5_fork_0 : decode cX5_fork 0 = .ok (.aload_n 0, 1) := by decide +kernel
theorem dX5_fork_1 : decode cX5_fork 1 = .ok (.getfield 20, 3) := by decide +kernel
theorem dX5_fork_4 : decode cX5_fork 4 = .ok (.iload_n 1, 1) := by decide +kernel
theorem dX5_fork_5 : decode cX5_fork 5 = .ok (.invokevirtual 90, 3) := by decide +kernel
theorem dX5_fork_8 : decode cX5_fork 8 = .ok (.ifCond .ne 5, 3) := by decide +kernel
theorem dX5_fork_11 : decode cX5_fork 11 = .ok (.iconst (-1), 1) := by decide +kernel
theorem dX5_fork_12 : decode cX5_fork 12 = .ok (.ireturn, 1) := by decide +kernel
theorem dX5_fork_13 : decode cX5_fork 13 = .ok (.aload_n 0, 1) := by decide +kernel
theorem dX5_fork_14 : decode cX5_fork 14 = .ok (.getfield 10, 3) := by decide +kernel
theorem dX5_fork_17 : decode cX5_fork 17 = .ok (.getfield 93, 3) := by decide +kernel
theorem dX5_fork_20 : decode cX5_fork 20 = .ok (.iconst 4, 1) := by decide +kernel
theorem dX5_fork_21 : decode cX5_fork 21 = .ok (.if_icmp .lt 6, 3) := by decide +kernel
theorem dX5_fork_24 : decode cX5_fork 24 = .ok (.bipush (-3), 2) := by decide +kernel
theorem dX5_fork_26 : decode cX5_fork 26 = .ok (.ireturn, 1) := by decide +kernel
theorem dX5_fork_27 : decode cX5_fork 27 = .ok (.aload_n 0, 1) := by decide +kernel
theorem dX5_fork_28 : decode cX5_fork 28 = .ok (.getfield 24, 3) := by decide +kernel
theorem dX5_fork_31 : decode cX5_fork 31 = .ok (.aload_n 0, 1) := by decide +kernel
theorem dX5_fork_32 : decode cX5_fork 32 = .ok (.getfield 10, 3) := by decide +kernel
theorem dX5_fork_35 : decode cX5_fork 35 = .ok (.invokevirtual 82, 3) := by decide +kernel
theorem dX5_fork_38 : decode cX5_fork 38 = .ok (.aload_n 0, 1) := by decide +kernel
theorem dX5_fork_39 : decode cX5_fork 39 = .ok (.getfield 10, 3) := by decide +kernel
theorem dX5_fork_42 : decode cX5_fork 42 = .ok (.iload_n 1, 1) := by decide +kernel
theorem dX5_fork_43 : decode cX5_fork 43 = .ok (.invokevirtual 96, 3) := by decide +kernel
theorem dX5_fork_46 : decode cX5_fork 46 = .ok (.ireturn, 1) := by decide +kernel
set_option maxRecDepth 20000 in
theorem ggX5_moveHead_X3_isHead : GoodIn wsX5_moveHead wsX3_isHead := goodIn_r _ [8, 9, 85, 86, 87, 88, 89, 90] (by decide +kernel) (by decide +kernel)
set_option maxRecDepth 20000 in
theorem gX5_moveHead_X3_isHead : GoodIn wsX5_moveHead (wsV RX5 55 RX3 yX3_isHead wsX3_isHead) := goodIn_app (goodIn_of _ (by decide +kernel)) ggX5_moveHead_X3_isHead
set_option maxRecDepth 20000 in
theorem ggX5_moveHead_X4_isKept : GoodIn wsX5_moveHead wsX4_isKept := goodIn_r _ [14, 15, 16, 17, 18, 13, 19, 20, 91, 92, 93, 94, 95, 96, 97] (by decide +kernel) (by decide +kernel)
set_option maxRecDepth 20000 in
theorem gX5_moveHead_X4_isKept : GoodIn wsX5_moveHead (wsV RX5 90 RX4 yX4_isKept wsX4_isKept) := goodIn_app (goodIn_of _ (by decide +kernel)) ggX5_moveHead_X4_isKept
set_option maxRecDepth 20000 in
theorem ggX5_moveHead_X3_placeOf : GoodIn wsX5_moveHead wsX3_placeOf := goodIn_r _ [24, 25, 26, 5, 6, 7, 8, 9, 85, 86, 87, 88, 89, 90] (by decide +kernel) (by decide +kernel)
set_option maxRecDepth 20000 in
theorem gX5_moveHead_X3_placeOf : GoodIn wsX5_moveHead (wsV RX5 63 RX3 yX3_placeOf wsX3_placeOf) := goodIn_app (goodIn_of _ (by decide +kernel)) ggX5_moveHead_X3_placeOf
set_option maxRecDepth 20000 in
theorem ggX5_moveHead_X1_push : GoodIn wsX5_moveHead wsX1_push := goodIn_r _ [31, 32, 33, 34, 35, 7, 36, 37, 38, 39, 40, 41, 42, 43, 44, 45, 46, 47, 13, 48, 49, 25, 9, 50, 51, 52, 53, 54, 55, 15, 56, 57, 58, 59, 60, 20, 61, 62, 63, 64, 65, 66, 67, 68, 69, 70, 71, 72, 73, 98, 99, 100, 85, 86, 87, 88, 89, 90, 91, 92, 93, 94, 95, 96, 97] (by decide +kernel) (by decide +kernel)
set_option maxRecDepth 20000 in
theorem gX5_moveHead_X1_push : GoodIn wsX5_moveHead (wsV RX5 82 RX1 yX1_push wsX1_push) := goodIn_app (goodIn_of _ (by decide +kernel)) ggX5_moveHead_X1_push
set_option maxRecDepth 20000 in
theorem ggX5_moveHead_X3_place : GoodIn wsX5_moveHead wsX3_place := goodIn_r _ [77, 25, 26, 5, 6, 7, 8, 9, 85, 86, 87, 88, 89, 90] (by decide +kernel) (by decide +kernel)
set_option maxRecDepth 20000 in
theorem gX5_moveHead_X3_place : GoodIn wsX5_moveHead (wsV RX5 99 RX3 yX3_place wsX3_place) := goodIn_app (goodIn_of _ (by decide +kernel)) ggX5_moveHead_X3_place
theorem dX5_moveHead_0 : decode cX5_moveHead 0 = .ok (.aload_n 0, 1) := by decide +kernel
theorem dX5_moveHead_1 : decode cX5_moveHead 1 = .ok (.getfield 10, 3) := by decide +kernel
theorem dX5_moveHead_4 : decode cX5_moveHead 4 = .ok (.iload_n 1, 1) := by decide +kernel
theorem dX5_moveHead_5 : decode cX5_moveHead 5 = .ok (.invokevirtual 55, 3) := by decide +kernel
theorem dX5_moveHead_8 : decode cX5_moveHead 8 = .ok (.ifCond .eq 14, 3) := by decide +kernel
theorem dX5_moveHead_11 : decode cX5_moveHead 11 = .ok (.aload_n 0, 1) := by decide +kernel
theorem dX5_moveHead_12 : decode cX5_moveHead 12 = .ok (.getfield 20, 3) := by decide +kernel
theorem dX5_moveHead_15 : decode cX5_moveHead 15 = .ok (.iload_n 2, 1) := by decide +kernel
theorem dX5_moveHead_16 : decode cX5_moveHead 16 = .ok (.invokevirtual 90, 3) := by decide +kernel
theorem dX5_moveHead_19 : decode cX5_moveHead 19 = .ok (.ifCond .ne 5, 3) := by decide +kernel
theorem dX5_moveHead_22 : decode cX5_moveHead 22 = .ok (.iconst (-1), 1) := by decide +kernel
theorem dX5_moveHead_23 : decode cX5_moveHead 23 = .ok (.ireturn, 1) := by decide +kernel
theorem dX5_moveHead_24 : decode cX5_moveHead 24 = .ok (.aload_n 0, 1) := by decide +kernel
theorem dX5_moveHead_25 : decode cX5_moveHead 25 = .ok (.getfield 10, 3) := by decide +kernel
theorem dX5_moveHead_28 : decode cX5_moveHead 28 = .ok (.iload_n 1, 1) := by decide +kernel
theorem dX5_moveHead_29 : decode cX5_moveHead 29 = .ok (.invokevirtual 63, 3) := by decide +kernel
theorem dX5_moveHead_32 : decode cX5_moveHead 32 = .ok (.istore_n 3, 1) := by decide +kernel
theorem dX5_moveHead_33 : decode cX5_moveHead 33 = .ok (.iload_n 3, 1) := by decide +kernel
theorem dX5_moveHead_34 : decode cX5_moveHead 34 = .ok (.iload_n 2, 1) := by decide +kernel
theorem dX5_moveHead_35 : decode cX5_moveHead 35 = .ok (.if_icmp .ne 6, 3) := by decide +kernel
theorem dX5_moveHead_38 : decode cX5_moveHead 38 = .ok (.bipush (-5), 2) := by decide +kernel
theorem dX5_moveHead_40 : decode cX5_moveHead 40 = .ok (.ireturn, 1) := by decide +kernel
theorem dX5_moveHead_41 : decode cX5_moveHead 41 = .ok (.aload_n 0, 1) := by decide +kernel
theorem dX5_moveHead_42 : decode cX5_moveHead 42 = .ok (.getfield 24, 3) := by decide +kernel
theorem dX5_moveHead_45 : decode cX5_moveHead 45 = .ok (.aload_n 0, 1) := by decide +kernel
theorem dX5_moveHead_46 : decode cX5_moveHead 46 = .ok (.getfield 10, 3) := by decide +kernel
theorem dX5_moveHead_49 : decode cX5_moveHead 49 = .ok (.invokevirtual 82, 3) := by decide +kernel
theorem dX5_moveHead_52 : decode cX5_moveHead 52 = .ok (.aload_n 0, 1) := by decide +kernel
theorem dX5_moveHead_53 : decode cX5_moveHead 53 = .ok (.getfield 10, 3) := by decide +kernel
theorem dX5_moveHead_56 : decode cX5_moveHead 56 = .ok (.iload_n 1, 1) := by decide +kernel
theorem dX5_moveHead_57 : decode cX5_moveHead 57 = .ok (.iload_n 2, 1) := by decide +kernel
theorem dX5_moveHead_58 : decode cX5_moveHead 58 = .ok (.invokevirtual 99, 3) := by decide +kernel
theorem dX5_moveHead_61 : decode cX5_moveHead 61 = .ok (.iload_n 3, 1) := by decide +kernel
theorem dX5_moveHead_62 : decode cX5_moveHead 62 = .ok (.ireturn, 1) := by decide +kernel
set_option maxRecDepth 20000 in
theorem ggX5_merge_X3_isHead : GoodIn wsX5_merge wsX3_isHead := goodIn_r _ [12, 13, 169, 170, 171, 172, 173, 174] (by decide +kernel) (by decide +kernel)
set_option maxRecDepth 20000 in
theorem gX5_merge_X3_isHead : GoodIn wsX5_merge (wsV RX5 55 RX3 yX3_isHead wsX3_isHead) := goodIn_app (goodIn_of _ (by decide +kernel)) ggX5_merge_X3_isHead
set_option maxRecDepth 20000 in
theorem ggX5_merge_X3_placeOf : GoodIn wsX5_merge wsX3_placeOf := goodIn_r _ [17, 18, 19, 9, 10, 11, 12, 13, 169, 170, 171, 172, 173, 174] (by decide +kernel) (by decide +kernel)
set_option maxRecDepth 20000 in
theorem gX5_merge_X3_placeOf : GoodIn wsX5_merge (wsV RX5 63 RX3 yX3_placeOf wsX3_placeOf) := goodIn_app (goodIn_of _ (by decide +kernel)) ggX5_merge_X3_placeOf
set_option maxRecDepth 20000 in
theorem ggX5_merge_X4_canBeRead : GoodIn wsX5_merge wsX4_canBeRead := goodIn_r _ [24, 25, 26, 27, 23, 28, 29, 30, 31, 32, 33, 34, 35, 36, 37, 38, 39, 40, 41, 42, 43, 162, 163, 164, 165, 166, 167, 168] (by decide +kernel) (by decide +kernel)
set_option maxRecDepth 20000 in
theorem gX5_merge_X4_canBeRead : GoodIn wsX5_merge (wsV RX5 67 RX4 yX4_canBeRead wsX4_canBeRead) := goodIn_app (goodIn_of _ (by decide +kernel)) ggX5_merge_X4_canBeRead
set_option maxRecDepth 20000 in
theorem ggX5_merge_X4_commonAncestor : GoodIn wsX5_merge wsX4_commonAncestor := goodIn_r _ [47, 38, 48, 49, 50, 23, 51, 52, 53, 54, 55, 56, 57, 58, 59, 34, 35, 36, 37, 60, 61, 62, 63, 64, 65, 66, 67, 68, 69, 70, 21, 22, 24, 25, 26, 27, 28, 29, 30, 31, 32, 33, 39, 40, 41, 42, 43, 162, 163, 164, 165, 166, 167, 168] (by decide +kernel) (by decide +kernel)
set_option maxRecDepth 20000 in
theorem gX5_merge_X4_commonAncestor : GoodIn wsX5_merge (wsV RX5 103 RX4 yX4_commonAncestor wsX4_commonAncestor) := goodIn_app (goodIn_of _ (by decide +kernel)) ggX5_merge_X4_commonAncestor
set_option maxRecDepth 20000 in
theorem ggX5_merge_X4_isAncestor : GoodIn wsX5_merge wsX4_isAncestor := goodIn_r _ [74, 48, 49, 50, 23, 51, 38, 52, 53, 54, 55, 56, 57, 58, 59, 34, 35, 36, 37, 60, 61, 62, 63, 64, 162, 163, 164, 165, 166, 167, 168] (by decide +kernel) (by decide +kernel)
set_option maxRecDepth 20000 in
theorem gX5_merge_X4_isAncestor : GoodIn wsX5_merge (wsV RX5 106 RX4 yX4_isAncestor wsX4_isAncestor) := goodIn_app (goodIn_of _ (by decide +kernel)) ggX5_merge_X4_isAncestor
set_option maxRecDepth 20000 in
theorem ggX5_merge_X1_push : GoodIn wsX5_merge wsX1_push := goodIn_r _ [79, 80, 81, 82, 83, 11, 84, 85, 86, 87, 88, 89, 90, 91, 92, 93, 94, 95, 23, 96, 97, 18, 13, 98, 99, 100, 101, 102, 103, 69, 59, 64, 43, 33, 104, 38, 105, 106, 107, 108, 109, 110, 111, 112, 113, 114, 115, 116, 117, 175, 176, 177, 169, 170, 171, 172, 173, 174, 162, 163, 164, 165, 166, 167, 168] (by decide +kernel) (by decide +kernel)
set_option maxRecDepth 20000 in
theorem gX5_merge_X1_push : GoodIn wsX5_merge (wsV RX5 82 RX1 yX1_push wsX1_push) := goodIn_app (goodIn_of _ (by decide +kernel)) ggX5_merge_X1_push
set_option maxRecDepth 20000 in
theorem ggX5_merge_X4_mergeInto : GoodIn wsX5_merge wsX4_mergeInto := goodIn_r _ [121, 122, 123, 124, 23, 125, 104, 34, 35, 36, 37, 38, 162, 163, 164, 165, 166, 167, 168] (by decide +kernel) (by decide +kernel)
set_option maxRecDepth 20000 in
theorem gX5_merge_X4_mergeInto : GoodIn wsX5_merge (wsV RX5 110 RX4 yX4_mergeInto wsX4_mergeInto) := goodIn_app (goodIn_of _ (by decide +kernel)) ggX5_merge_X4_mergeInto
set_option maxRecDepth 20000 in
theorem ggX5_merge_X5_addAtHead : GoodIn wsX5_merge wsX5_addAtHead := goodIn_r _ [130, 1, 2, 5, 131, 14, 15, 16, 11, 17, 18, 19, 9, 10, 12, 13, 132, 133, 134, 23, 135, 38, 69, 59, 64, 43, 33, 104, 117, 110, 111, 112, 65, 66, 67, 68, 34, 35, 36, 37, 136, 137, 138, 139, 140, 141, 142, 143, 39, 40, 41, 42, 144, 145, 146, 147, 122, 123, 124, 125, 148, 149, 150, 151, 152, 153, 154, 155, 156, 157, 158, 159, 160, 161, 169, 170, 171, 172, 173, 174, 162, 163, 164, 165, 166, 167, 168] (by decide +kernel) (by decide +kernel)
set_option maxRecDepth 20000 in
theorem gX5_merge_X5_addAtHead : GoodIn wsX5_merge (wsV RX5 86 RX5 yX5_addAtHead wsX5_addAtHead) := goodIn_app (goodIn_of _ (by decide +kernel)) ggX5_merge_X5_addAtHead
theorem dX5_merge_0 : decode cX5_merge 0 = .ok (.aload_n 0, 1) := by decide +kernel
theorem dX5_merge_1 : decode cX5_merge 1 = .ok (.getfield 10, 3) := by decide +kernel
theorem dX5_merge_4 : decode cX5_merge 4 = .ok (.iload_n 1, 1) := by decide +kernel
theorem dX5_merge_5 : decode cX5_merge 5 = .ok (.invokevirtual 55, 3) := by decide +kernel
theorem dX5_merge_8 : decode cX5_merge 8 = .ok (.ifCond .eq 14, 3) := by decide +kernel
theorem dX5_merge_11 : decode cX5_merge 11 = .ok (.aload_n 0, 1) := by decide +kernel
theorem dX5_merge_12 : decode cX5_merge 12 = .ok (.getfield 10, 3) := by decide +kernel
theorem dX5_merge_15 : decode cX5_merge 15 = .ok (.iload_n 2, 1) := by decide +kernel
theorem dX5_merge_16 : decode cX5_merge 16 = .ok (.invokevirtual 55, 3) := by decide +kernel
theorem dX5_merge_19 : decode cX5_merge 19 = .ok (.ifCond .ne 5, 3) := by decide +kernel
theorem dX5_merge_22 : decode cX5_merge 22 = .ok (.iconst (-1), 1) := by decide +kernel
theorem dX5_merge_23 : decode cX5_merge 23 = .ok (.ireturn, 1) := by decide +kernel
theorem dX5_merge_24 : decode cX5_merge 24 = .ok (.iload_n 1, 1) := by decide +kernel
theorem dX5_merge_25 : decode cX5_merge 25 = .ok (.iload_n 2, 1) := by decide +kernel
theorem dX5_merge_26 : decode cX5_merge 26 = .ok (.if_icmp .ne 6, 3) := by decide +kernel
theorem dX5_merge_29 : decode cX5_merge 29 = .ok (.bipush (-2), 2) := by decide +kernel
theorem dX5_merge_31 : decode cX5_merge 31 = .ok (.ireturn, 1) := by decide +kernel
theorem dX5_merge_32 : decode cX5_merge 32 = .ok (.aload_n 0, 1) := by decide +kernel
theorem dX5_merge_33 : decode cX5_merge 33 = .ok (.getfield 10, 3) := by decide +kernel
theorem dX5_merge_36 : decode cX5_merge 36 = .ok (.iload_n 1, 1) := by decide +kernel
theorem dX5_merge_37 : decode cX5_merge 37 = .ok (.invokevirtual 63, 3) := by decide +kernel
theorem dX5_merge_40 : decode cX5_merge 40 = .ok (.istore_n 3, 1) := by decide +kernel
theorem dX5_merge_41 : decode cX5_merge 41 = .ok (.aload_n 0, 1) := by decide +kernel
theorem dX5_merge_42 : decode cX5_merge 42 = .ok (.getfield 10, 3) := by decide +kernel
theorem dX5_merge_45 : decode cX5_merge 45 = .ok (.iload_n 2, 1) := by decide +kernel
theorem dX5_merge_46 : decode cX5_merge 46 = .ok (.invokevirtual 63, 3) := by decide +kernel
theorem dX5_merge_49 : decode cX5_merge 49 = .ok (.istore 4, 2) := by decide +kernel
theorem dX5_merge_51 : decode cX5_merge 51 = .ok (.aload_n 0, 1) := by decide +kernel
theorem dX5_merge_52 : decode cX5_merge 52 = .ok (.getfield 20, 3) := by decide +kernel
theorem dX5_merge_55 : decode cX5_merge 55 = .ok (.iload_n 3, 1) := by decide +kernel
theorem dX5_merge_56 : decode cX5_merge 56 = .ok (.invokevirtual 67, 3) := by decide +kernel
theorem dX5_merge_59 : decode cX5_merge 59 = .ok (.ifCond .eq 15, 3) := by decide +kernel
theorem dX5_merge_62 : decode cX5_merge 62 = .ok (.aload_n 0, 1) := by decide +kernel
theorem dX5_merge_63 : decode cX5_merge 63 = .ok (.getfield 20, 3) := by decide +kernel
theorem dX5_merge_66 : decode cX5_merge 66 = .ok (.iload 4, 2) := by decide +kernel
theorem dX5_merge_68 : decode cX5_merge 68 = .ok (.invokevirtual 67, 3) := by decide +kernel
theorem dX5_merge_71 : decode cX5_merge 71 = .ok (.ifCond .ne 6, 3) := by decide +kernel
theorem dX5_merge_74 : decode cX5_merge 74 = .ok (.bipush (-6), 2) := by decide +kernel
theorem dX5_merge_76 : decode cX5_merge 76 = .ok (.ireturn, 1) := by decide +kernel
theorem dX5_merge_77 : decode cX5_merge 77 = .ok (.aload_n 0, 1) := by decide +kernel
theorem dX5_merge_78 : decode cX5_merge 78 = .ok (.getfield 20, 3) := by decide +kernel
theorem dX5_merge_81 : decode cX5_merge 81 = .ok (.iload_n 3, 1) := by decide +kernel
theorem dX5_merge_82 : decode cX5_merge 82 = .ok (.iload 4, 2) := by decide +kernel
theorem dX5_merge_84 : decode cX5_merge 84 = .ok (.invokevirtual 103, 3) := by decide +kernel
theorem dX5_merge_87 : decode cX5_merge 87 = .ok (.istore 5, 2) := by decide +kernel
theorem dX5_merge_89 : decode cX5_merge 89 = .ok (.iload 5, 2) := by decide +kernel
theorem dX5_merge_91 : decode cX5_merge 91 = .ok (.ifCond .ge 6, 3) := by decide +kernel
theorem dX5_merge_94 : decode cX5_merge 94 = .ok (.bipush (-4), 2) := by decide +kernel
theorem dX5_merge_96 : decode cX5_merge 96 = .ok (.ireturn, 1) := by decide +kernel
theorem dX5_merge_97 : decode cX5_merge 97 = .ok (.aload_n 0, 1) := by decide +kernel
theorem dX5_merge_98 : decode cX5_merge 98 = .ok (.getfield 20, 3) := by decide +kernel
theorem dX5_merge_101 : decode cX5_merge 101 = .ok (.getfield 70, 3) := by decide +kernel
theorem dX5_merge_104 : decode cX5_merge 104 = .ok (.bipush 40, 2) := by decide +kernel
theorem dX5_merge_106 : decode cX5_merge 106 = .ok (.if_icmp .lt 6, 3) := by decide +kernel
theorem dX5_merge_109 : decode cX5_merge 109 = .ok (.bipush (-3), 2) := by decide +kernel
theorem dX5_merge_111 : decode cX5_merge 111 = .ok (.ireturn, 1) := by decide +kernel
theorem dX5_merge_112 : decode cX5_merge 112 = .ok (.aload_n 0, 1) := by decide +kernel
theorem dX5_merge_113 : decode cX5_merge 113 = .ok (.getfield 20, 3) := by decide +kernel
theorem dX5_merge_116 : decode cX5_merge 116 = .ok (.iload 4, 2) := by decide +kernel
theorem dX5_merge_118 : decode cX5_merge 118 = .ok (.iload_n 3, 1) := by decide +kernel
theorem dX5_merge_119 : decode cX5_merge 119 = .ok (.invokevirtual 106, 3) := by decide +kernel
theorem dX5_merge_122 : decode cX5_merge 122 = .ok (.ifCond .eq 6, 3) := by decide +kernel
theorem dX5_merge_125 : decode cX5_merge 125 = .ok (.bipush (-5), 2) := by decide +kernel
theorem dX5_merge_127 : decode cX5_merge 127 = .ok (.ireturn, 1) := by decide +kernel
theorem dX5_merge_128 : decode cX5_merge 128 = .ok (.aload_n 0, 1) := by decide +kernel
theorem dX5_merge_129 : decode cX5_merge 129 = .ok (.getfield 24, 3) := by decide +kernel
theorem dX5_merge_132 : decode cX5_merge 132 = .ok (.aload_n 0, 1) := by decide +kernel
theorem dX5_merge_133 : decode cX5_merge 133 = .ok (.getfield 10, 3) := by decide +kernel
theorem dX5_merge_136 : decode cX5_merge 136 = .ok (.invokevirtual 82, 3) := by decide +kernel
theorem dX5_merge_139 : decode cX5_merge 139 = .ok (.aload_n 0, 1) := by decide +kernel
theorem dX5_merge_140 : decode cX5_merge 140 = .ok (.getfield 20, 3) := by decide +kernel
theorem dX5_merge_143 : decode cX5_merge 143 = .ok (.aload_n 0, 1) := by decide +kernel
theorem dX5_merge_144 : decode cX5_merge 144 = .ok (.getfield 42, 3) := by decide +kernel
theorem dX5_merge_147 : decode cX5_merge 147 = .ok (.iload_n 3, 1) := by decide +kernel
theorem dX5_merge_148 : decode cX5_merge 148 = .ok (.iload 4, 2) := by decide +kernel
theorem dX5_merge_150 : decode cX5_merge 150 = .ok (.iload 5, 2) := by decide +kernel
theorem dX5_merge_152 : decode cX5_merge 152 = .ok (.invokevirtual 110, 3) := by decide +kernel
theorem dX5_merge_155 : decode cX5_merge 155 = .ok (.istore 6, 2) := by decide +kernel
theorem dX5_merge_157 : decode cX5_merge 157 = .ok (.aload_n 0, 1) := by decide +kernel
theorem dX5_merge_158 : decode cX5_merge 158 = .ok (.iload_n 1, 1) := by decide +kernel
theorem dX5_merge_159 : decode cX5_merge 159 = .ok (.iload 4, 2) := by decide +kernel
theorem dX5_merge_161 : decode cX5_merge 161 = .ok (.invokevirtual 86, 3) := by decide +kernel
theorem dX5_merge_164 : decode cX5_merge 164 = .ok (.pop, 1) := by decide +kernel
theorem dX5_merge_165 : decode cX5_merge 165 = .ok (.aload_n 0, 1) := by decide +kernel
theorem dX5_merge_166 : decode cX5_merge 166 = .ok (.getfield 10, 3) := by decide +kernel
theorem dX5_merge_169 : decode cX5_merge 169 = .ok (.dup, 1) := by decide +kernel
theorem dX5_merge_170 : decode cX5_merge 170 = .ok (.getfield 114, 3) := by decide +kernel
theorem dX5_merge_173 : decode cX5_merge 173 = .ok (.iconst 1, 1) := by decide +kernel
theorem dX5_merge_174 : decode cX5_merge 174 = .ok (.iadd, 1) := by decide +kernel
theorem dX5_merge_175 : decode cX5_merge 175 = .ok (.putfield 114, 3) := by decide +kernel
theorem dX5_merge_178 : decode cX5_merge 178 = .ok (.aload_n 0, 1) := by decide +kernel
theorem dX5_merge_179 : decode cX5_merge 179 = .ok (.getfield 10, 3) := by decide +kernel
theorem dX5_merge_182 : decode cX5_merge 182 = .ok (.dup, 1) := by decide +kernel
theorem dX5_merge_183 : decode cX5_merge 183 = .ok (.getfield 117, 3) := by decide +kernel
theorem dX5_merge_186 : decode cX5_merge 186 = .ok (.iload 6, 2) := by decide +kernel
theorem dX5_merge_188 : decode cX5_merge 188 = .ok (.iadd, 1) := by decide +kernel
theorem dX5_merge_189 : decode cX5_merge 189 = .ok (.putfield 117, 3) := by decide +kernel
theorem dX5_merge_192 : decode cX5_merge 192 = .ok (.iload 6, 2) := by decide +kernel
theorem dX5_merge_194 : decode cX5_merge 194 = .ok (.ireturn, 1) := by decide +kernel
set_option maxRecDepth 20000 in
theorem ggX5_drop_X4_isKept : GoodIn wsX5_drop wsX4_isKept := goodIn_r _ [8, 9, 10, 11, 12, 7, 13, 14, 109, 110, 111, 112, 113, 114, 115] (by decide +kernel) (by decide +kernel)
set_option maxRecDepth 20000 in
theorem gX5_drop_X4_isKept : GoodIn wsX5_drop (wsV RX5 90 RX4 yX4_isKept wsX4_isKept) := goodIn_app (goodIn_of _ (by decide +kernel)) ggX5_drop_X4_isKept
set_option maxRecDepth 20000 in
theorem ggX5_drop_X3_hasHeadAt : GoodIn wsX5_drop wsX3_hasHeadAt := goodIn_r _ [19, 20, 21, 22, 23, 18, 24, 25, 26, 27, 28, 29, 116, 117, 118, 119, 120, 121] (by decide +kernel) (by decide +kernel)
set_option maxRecDepth 20000 in
theorem gX5_drop_X3_hasHeadAt : GoodIn wsX5_drop (wsV RX5 120 RX3 yX3_hasHeadAt wsX3_hasHeadAt) := goodIn_app (goodIn_of _ (by decide +kernel)) ggX5_drop_X3_hasHeadAt
set_option maxRecDepth 20000 in
theorem ggX5_drop_X1_push : GoodIn wsX5_drop wsX1_push := goodIn_r _ [34, 35, 36, 37, 38, 18, 39, 40, 41, 42, 43, 44, 45, 46, 47, 48, 49, 50, 7, 51, 52, 25, 20, 53, 54, 55, 56, 57, 58, 9, 59, 60, 61, 62, 63, 14, 64, 65, 66, 67, 68, 69, 70, 71, 72, 73, 74, 75, 76, 122, 123, 124, 116, 117, 118, 119, 120, 121, 109, 110, 111, 112, 113, 114, 115] (by decide +kernel) (by decide +kernel)
set_option maxRecDepth 20000 in
theorem gX5_drop_X1_push : GoodIn wsX5_drop (wsV RX5 82 RX1 yX1_push wsX1_push) := goodIn_app (goodIn_of _ (by decide +kernel)) ggX5_drop_X1_push
set_option maxRecDepth 20000 in
theorem ggX5_drop_X4_discard : GoodIn wsX5_drop wsX4_discard := goodIn_r _ [80, 9, 81, 5, 6, 7, 8, 10, 11, 12, 13, 14, 82, 83, 84, 85, 61, 62, 86, 87, 88, 89, 90, 91, 92, 93, 94, 95, 96, 97, 98, 99, 100, 101, 109, 110, 111, 112, 113, 114, 115] (by decide +kernel) (by decide +kernel)
set_option maxRecDepth 20000 in
theorem gX5_drop_X4_discard : GoodIn wsX5_drop (wsV RX5 123 RX4 yX4_discard wsX4_discard) := goodIn_app (goodIn_of _ (by decide +kernel)) ggX5_drop_X4_discard
theorem dX5_drop_0 : decode cX5_drop 0 = .ok (.aload_n 0, 1) := by decide +kernel
theorem dX5_drop_1 : decode cX5_drop 1 = .ok (.getfield 20, 3) := by decide +kernel
theorem dX5_drop_4 : decode cX5_drop 4 = .ok (.iload_n 1, 1) := by decide +kernel
theorem dX5_drop_5 : decode cX5_drop 5 = .ok (.invokevirtual 90, 3) := by decide +kernel
theorem dX5_drop_8 : decode cX5_drop 8 = .ok (.ifCond .ne 5, 3) := by decide +kernel
theorem dX5_drop_11 : decode cX5_drop 11 = .ok (.iconst (-1), 1) := by decide +kernel
theorem dX5_drop_12 : decode cX5_drop 12 = .ok (.ireturn, 1) := by decide +kernel
theorem dX5_drop_13 : decode cX5_drop 13 = .ok (.aload_n 0, 1) := by decide +kernel
theorem dX5_drop_14 : decode cX5_drop 14 = .ok (.getfield 10, 3) := by decide +kernel
theorem dX5_drop_17 : decode cX5_drop 17 = .ok (.iload_n 1, 1) := by decide +kernel
theorem dX5_drop_18 : decode cX5_drop 18 = .ok (.invokevirtual 120, 3) := by decide +kernel
theorem dX5_drop_21 : decode cX5_drop 21 = .ok (.ifCond .eq 6, 3) := by decide +kernel
theorem dX5_drop_24 : decode cX5_drop 24 = .ok (.bipush (-4), 2) := by decide +kernel
theorem dX5_drop_26 : decode cX5_drop 26 = .ok (.ireturn, 1) := by decide +kernel
theorem dX5_drop_27 : decode cX5_drop 27 = .ok (.aload_n 0, 1) := by decide +kernel
theorem dX5_drop_28 : decode cX5_drop 28 = .ok (.getfield 24, 3) := by decide +kernel
theorem dX5_drop_31 : decode cX5_drop 31 = .ok (.aload_n 0, 1) := by decide +kernel
theorem dX5_drop_32 : decode cX5_drop 32 = .ok (.getfield 10, 3) := by decide +kernel
theorem dX5_drop_35 : decode cX5_drop 35 = .ok (.invokevirtual 82, 3) := by decide +kernel
theorem dX5_drop_38 : decode cX5_drop 38 = .ok (.aload_n 0, 1) := by decide +kernel
theorem dX5_drop_39 : decode cX5_drop 39 = .ok (.getfield 20, 3) := by decide +kernel
theorem dX5_drop_42 : decode cX5_drop 42 = .ok (.iload_n 1, 1) := by decide +kernel
theorem dX5_drop_43 : decode cX5_drop 43 = .ok (.invokevirtual 123, 3) := by decide +kernel
theorem dX5_drop_46 : decode cX5_drop 46 = .ok (.ireturn, 1) := by decide +kernel
set_option maxRecDepth 20000 in
theorem ggX5_storeWhole_X4_isPresent : GoodIn wsX5_storeWhole wsX4_isPresent := goodIn_r _ [8, 9, 10, 11, 12, 7, 13, 14, 121, 122, 123, 124, 125, 126, 127] (by decide +kernel) (by decide +kernel)
set_option maxRecDepth 20000 in
theorem gX5_storeWhole_X4_isPresent : GoodIn wsX5_storeWhole (wsV RX5 126 RX4 yX4_isPresent wsX4_isPresent) := goodIn_app (goodIn_of _ (by decide +kernel)) ggX5_storeWhole_X4_isPresent
set_option maxRecDepth 20000 in
theorem ggX5_storeWhole_X4_canBeRead : GoodIn wsX5_storeWhole wsX4_canBeRead := goodIn_r _ [18, 19, 20, 21, 7, 22, 23, 24, 25, 26, 27, 10, 11, 12, 13, 14, 28, 29, 30, 31, 32, 121, 122, 123, 124, 125, 126, 127] (by decide +kernel) (by decide +kernel)
set_option maxRecDepth 20000 in
theorem gX5_storeWhole_X4_canBeRead : GoodIn wsX5_storeWhole (wsV RX5 67 RX4 yX4_canBeRead wsX4_canBeRead) := goodIn_app (goodIn_of _ (by decide +kernel)) ggX5_storeWhole_X4_canBeRead
set_option maxRecDepth 20000 in
theorem ggX5_storeWhole_X4_baseOf : GoodIn wsX5_storeWhole wsX4_baseOf := goodIn_r _ [31, 32, 10, 11, 12, 7, 13, 14, 121, 122, 123, 124, 125, 126, 127] (by decide +kernel) (by decide +kernel)
set_option maxRecDepth 20000 in
theorem gX5_storeWhole_X4_baseOf : GoodIn wsX5_storeWhole (wsV RX5 129 RX4 yX4_baseOf wsX4_baseOf) := goodIn_app (goodIn_of _ (by decide +kernel)) ggX5_storeWhole_X4_baseOf
set_option maxRecDepth 20000 in
theorem ggX5_storeWhole_X1_push : GoodIn wsX5_storeWhole wsX1_push := goodIn_r _ [38, 39, 40, 41, 42, 43, 44, 45, 46, 47, 48, 49, 50, 51, 52, 53, 54, 55, 7, 56, 57, 58, 59, 60, 61, 62, 63, 64, 65, 9, 66, 67, 32, 27, 68, 14, 69, 70, 71, 72, 73, 74, 75, 76, 77, 78, 79, 80, 81, 128, 129, 130, 131, 132, 133, 134, 135, 136, 121, 122, 123, 124, 125, 126, 127] (by decide +kernel) (by decide +kernel)
set_option maxRecDepth 20000 in
theorem gX5_storeWhole_X1_push : GoodIn wsX5_storeWhole (wsV RX5 82 RX1 yX1_push wsX1_push) := goodIn_app (goodIn_of _ (by decide +kernel)) ggX5_storeWhole_X1_push
set_option maxRecDepth 20000 in
theorem ggX5_storeWhole_X4_totalCost : GoodIn wsX5_storeWhole wsX4_totalCost := goodIn_r _ [85, 14, 86, 87, 88, 7, 89, 90, 5, 6, 8, 9, 10, 11, 12, 13, 28, 29, 30, 31, 32, 91, 92, 93, 94, 68, 95, 96, 97, 121, 122, 123, 124, 125, 126, 127] (by decide +kernel) (by decide +kernel)
set_option maxRecDepth 20000 in
theorem gX5_storeWhole_X4_totalCost : GoodIn wsX5_storeWhole (wsV RX5 132 RX4 yX4_totalCost wsX4_totalCost) := goodIn_app (goodIn_of _ (by decide +kernel)) ggX5_storeWhole_X4_totalCost
set_option maxRecDepth 20000 in
theorem ggX5_storeWhole_X4_storeBy : GoodIn wsX5_storeWhole wsX4_storeBy := goodIn_r _ [101, 32, 27, 90, 5, 6, 7, 8, 9, 10, 11, 12, 13, 14, 102, 103, 104, 105, 106, 107, 108, 109, 110, 111, 112, 113, 28, 29, 30, 31, 121, 122, 123, 124, 125, 126, 127] (by decide +kernel) (by decide +kernel)
set_option maxRecDepth 20000 in
theorem gX5_storeWhole_X4_storeBy : GoodIn wsX5_storeWhole (wsV RX5 135 RX4 yX4_storeBy wsX4_storeBy) := goodIn_app (goodIn_of _ (by decide +kernel)) ggX5_storeWhole_X4_storeBy
theorem dX5_storeWhole_0 : decode cX5_storeWhole 0 = .ok (.aload_n 0, 1) := by decide +kernel
theorem dX5_storeWhole_1 : decode cX5_storeWhole 1 = .ok (.getfield 20, 3) := by decide +kernel
theorem dX5_storeWhole_4 : decode cX5_storeWhole 4 = .ok (.iload_n 1, 1) := by decide +kernel
theorem dX5_storeWhole_5 : decode cX5_storeWhole 5 = .ok (.invokevirtual 126, 3) := by decide +kernel
theorem dX5_storeWhole_8 : decode cX5_storeWhole 8 = .ok (.ifCond .ne 5, 3) := by decide +kernel
theorem dX5_storeWhole_11 : decode cX5_storeWhole 11 = .ok (.iconst (-1), 1) := by decide +kernel
theorem dX5_storeWhole_12 : decode cX5_storeWhole 12 = .ok (.ireturn, 1) := by decide +kernel
theorem dX5_storeWhole_13 : decode cX5_storeWhole 13 = .ok (.aload_n 0, 1) := by decide +kernel
theorem dX5_storeWhole_14 : decode cX5_storeWhole 14 = .ok (.getfield 20, 3) := by decide +kernel
theorem dX5_storeWhole_17 : decode cX5_storeWhole 17 = .ok (.iload_n 1, 1) := by decide +kernel
theorem dX5_storeWhole_18 : decode cX5_storeWhole 18 = .ok (.invokevirtual 67, 3) := by decide +kernel
theorem dX5_storeWhole_21 : decode cX5_storeWhole 21 = .ok (.ifCond .ne 6, 3) := by decide +kernel
theorem dX5_storeWhole_24 : decode cX5_storeWhole 24 = .ok (.bipush (-6), 2) := by decide +kernel
theorem dX5_storeWhole_26 : decode cX5_storeWhole 26 = .ok (.ireturn, 1) := by decide +kernel
theorem dX5_storeWhole_27 : decode cX5_storeWhole 27 = .ok (.aload_n 0, 1) := by decide +kernel
theorem dX5_storeWhole_28 : decode cX5_storeWhole 28 = .ok (.getfield 20, 3) := by decide +kernel
theorem dX5_storeWhole_31 : decode cX5_storeWhole 31 = .ok (.iload_n 1, 1) := by decide +kernel
theorem dX5_storeWhole_32 : decode cX5_storeWhole 32 = .ok (.invokevirtual 129, 3) := by decide +kernel
theorem dX5_storeWhole_35 : decode cX5_storeWhole 35 = .ok (.ifCond .ge 6, 3) := by decide +kernel
theorem dX5_storeWhole_38 : decode cX5_storeWhole 38 = .ok (.bipush (-5), 2) := by decide +kernel
theorem dX5_storeWhole_40 : decode cX5_storeWhole 40 = .ok (.ireturn, 1) := by decide +kernel
theorem dX5_storeWhole_41 : decode cX5_storeWhole 41 = .ok (.aload_n 0, 1) := by decide +kernel
theorem dX5_storeWhole_42 : decode cX5_storeWhole 42 = .ok (.getfield 24, 3) := by decide +kernel
theorem dX5_storeWhole_45 : decode cX5_storeWhole 45 = .ok (.aload_n 0, 1) := by decide +kernel
theorem dX5_storeWhole_46 : decode cX5_storeWhole 46 = .ok (.getfield 10, 3) := by decide +kernel
theorem dX5_storeWhole_49 : decode cX5_storeWhole 49 = .ok (.invokevirtual 82, 3) := by decide +kernel
theorem dX5_storeWhole_52 : decode cX5_storeWhole 52 = .ok (.aload_n 0, 1) := by decide +kernel
theorem dX5_storeWhole_53 : decode cX5_storeWhole 53 = .ok (.getfield 20, 3) := by decide +kernel
theorem dX5_storeWhole_56 : decode cX5_storeWhole 56 = .ok (.invokevirtual 132, 3) := by decide +kernel
theorem dX5_storeWhole_59 : decode cX5_storeWhole 59 = .ok (.istore_n 2, 1) := by decide +kernel
theorem dX5_storeWhole_60 : decode cX5_storeWhole 60 = .ok (.aload_n 0, 1) := by decide +kernel
theorem dX5_storeWhole_61 : decode cX5_storeWhole 61 = .ok (.getfield 20, 3) := by decide +kernel
theorem dX5_storeWhole_64 : decode cX5_storeWhole 64 = .ok (.iload_n 1, 1) := by decide +kernel
theorem dX5_storeWhole_65 : decode cX5_storeWhole 65 = .ok (.bipush (-5), 2) := by decide +kernel
theorem dX5_storeWhole_67 : decode cX5_storeWhole 67 = .ok (.invokevirtual 135, 3) := by decide +kernel
theorem dX5_storeWhole_70 : decode cX5_storeWhole 70 = .ok (.sipush 1000, 3) := by decide +kernel
theorem dX5_storeWhole_73 : decode cX5_storeWhole 73 = .ok (.iload_n 2, 1) := by decide +kernel
theorem dX5_storeWhole_74 : decode cX5_storeWhole 74 = .ok (.iadd, 1) := by decide +kernel
theorem dX5_storeWhole_75 : decode cX5_storeWhole 75 = .ok (.aload_n 0, 1) := by decide +kernel
theorem dX5_storeWhole_76 : decode cX5_storeWhole 76 = .ok (.getfield 20, 3) := by decide +kernel
theorem dX5_storeWhole_79 : decode cX5_storeWhole 79 = .ok (.invokevirtual 132, 3) := by decide +kernel
theorem dX5_storeWhole_82 : decode cX5_storeWhole 82 = .ok (.isub, 1) := by decide +kernel
theorem dX5_storeWhole_83 : decode cX5_storeWhole 83 = .ok (.ireturn, 1) := by decide +kernel
set_option maxRecDepth 20000 in
theorem ggX5_rebase_X4_isPresent : GoodIn wsX5_rebase wsX4_isPresent := goodIn_r _ [9, 10, 11, 12, 13, 8, 14, 15, 147, 148, 149, 150, 151, 152, 153] (by decide +kernel) (by decide +kernel)
set_option maxRecDepth 20000 in
theorem gX5_rebase_X4_isPresent : GoodIn wsX5_rebase (wsV RX5 126 RX4 yX4_isPresent wsX4_isPresent) := goodIn_app (goodIn_of _ (by decide +kernel)) ggX5_rebase_X4_isPresent
set_option maxRecDepth 20000 in
theorem ggX5_rebase_X4_canBeRead : GoodIn wsX5_rebase wsX4_canBeRead := goodIn_r _ [19, 20, 21, 22, 8, 23, 24, 25, 26, 27, 28, 11, 12, 13, 14, 15, 29, 30, 31, 32, 33, 147, 148, 149, 150, 151, 152, 153] (by decide +kernel) (by decide +kernel)
set_option maxRecDepth 20000 in
theorem gX5_rebase_X4_canBeRead : GoodIn wsX5_rebase (wsV RX5 67 RX4 yX4_canBeRead wsX4_canBeRead) := goodIn_app (goodIn_of _ (by decide +kernel)) ggX5_rebase_X4_canBeRead
set_option maxRecDepth 20000 in
theorem ggX5_rebase_X4_isOnWay : GoodIn wsX5_rebase wsX4_isOnWay := goodIn_r _ [37, 38, 39, 40, 8, 41, 29, 30, 31, 32, 33, 11, 12, 13, 14, 15, 147, 148, 149, 150, 151, 152, 153] (by decide +kernel) (by decide +kernel)
set_option maxRecDepth 20000 in
theorem gX5_rebase_X4_isOnWay : GoodIn wsX5_rebase (wsV RX5 138 RX4 yX4_isOnWay wsX4_isOnWay) := goodIn_app (goodIn_of _ (by decide +kernel)) ggX5_rebase_X4_isOnWay
set_option maxRecDepth 20000 in
theorem ggX5_rebase_X4_heightOver : GoodIn wsX5_rebase wsX4_heightOver := goodIn_r _ [45, 15, 46, 47, 48, 49, 50, 6, 7, 8, 9, 10, 11, 12, 13, 14, 38, 39, 40, 41, 29, 30, 31, 32, 33, 147, 148, 149, 150, 151, 152, 153] (by decide +kernel) (by decide +kernel)
set_option maxRecDepth 20000 in
theorem gX5_rebase_X4_heightOver : GoodIn wsX5_rebase (wsV RX5 141 RX4 yX4_heightOver wsX4_heightOver) := goodIn_app (goodIn_of _ (by decide +kernel)) ggX5_rebase_X4_heightOver
set_option maxRecDepth 20000 in
theorem ggX5_rebase_X4_stepsBy : GoodIn wsX5_rebase wsX4_stepsBy := goodIn_r _ [54, 55, 56, 57, 8, 58, 29, 30, 31, 32, 33, 11, 12, 13, 14, 15, 147, 148, 149, 150, 151, 152, 153] (by decide +kernel) (by decide +kernel)
set_option maxRecDepth 20000 in
theorem gX5_rebase_X4_stepsBy : GoodIn wsX5_rebase (wsV RX5 144 RX4 yX4_stepsBy wsX4_stepsBy) := goodIn_app (goodIn_of _ (by decide +kernel)) ggX5_rebase_X4_stepsBy
set_option maxRecDepth 20000 in
theorem ggX5_rebase_X4_baseOf : GoodIn wsX5_rebase wsX4_baseOf := goodIn_r _ [32, 33, 11, 12, 13, 8, 14, 15, 147, 148, 149, 150, 151, 152, 153] (by decide +kernel) (by decide +kernel)
set_option maxRecDepth 20000 in
theorem gX5_rebase_X4_baseOf : GoodIn wsX5_rebase (wsV RX5 129 RX4 yX4_baseOf wsX4_baseOf) := goodIn_app (goodIn_of _ (by decide +kernel)) ggX5_rebase_X4_baseOf
set_option maxRecDepth 20000 in
theorem ggX5_rebase_X1_push : GoodIn wsX5_rebase wsX1_push := goodIn_r _ [64, 65, 66, 67, 68, 69, 70, 71, 72, 48, 73, 74, 75, 76, 77, 78, 79, 80, 8, 81, 82, 83, 84, 85, 86, 87, 88, 89, 90, 10, 91, 92, 33, 28, 93, 15, 94, 95, 96, 97, 98, 99, 100, 101, 102, 103, 104, 105, 106, 154, 155, 156, 141, 142, 143, 144, 145, 146, 147, 148, 149, 150, 151, 152, 153] (by decide +kernel) (by decide +kernel)
set_option maxRecDepth 20000 in
theorem gX5_rebase_X1_push : GoodIn wsX5_rebase (wsV RX5 82 RX1 yX1_push wsX1_push) := goodIn_app (goodIn_of _ (by decide +kernel)) ggX5_rebase_X1_push
set_option maxRecDepth 20000 in
theorem ggX5_rebase_X4_storeBy : GoodIn wsX5_rebase wsX4_storeBy := goodIn_r _ [110, 33, 28, 50, 6, 7, 8, 9, 10, 11, 12, 13, 14, 15, 111, 112, 113, 114, 115, 116, 117, 118, 119, 120, 121, 122, 29, 30, 31, 32, 147, 148, 149, 150, 151, 152, 153] (by decide +kernel) (by decide +kernel)
set_option maxRecDepth 20000 in
theorem gX5_rebase_X4_storeBy : GoodIn wsX5_rebase (wsV RX5 135 RX4 yX4_storeBy wsX4_storeBy) := goodIn_app (goodIn_of _ (by decide +kernel)) ggX5_rebase_X4_storeBy
set_option maxRecDepth 20000 in
theorem ggX5_rebase_X4_costOf : GoodIn wsX5_rebase wsX4_costOf := goodIn_r _ [126, 50, 6, 7, 8, 9, 10, 11, 12, 13, 14, 15, 29, 30, 31, 32, 33, 127, 128, 129, 130, 93, 131, 132, 133, 147, 148, 149, 150, 151, 152, 153] (by decide +kernel) (by decide +kernel)
set_option maxRecDepth 20000 in
theorem gX5_rebase_X4_costOf : GoodIn wsX5_rebase (wsV RX5 150 RX4 yX4_costOf wsX4_costOf) := goodIn_app (goodIn_of _ (by decide +kernel)) ggX5_rebase_X4_costOf
theorem dX5_rebase_0 : decode cX5_rebase 0 = .ok (.aload_n 0, 1) := by decide +kernel
theorem dX5_rebase_1 : decode cX5_rebase 1 = .ok (.getfield 20, 3) := by decide +kernel
theorem dX5_rebase_4 : decode cX5_rebase 4 = .ok (.iload_n 1, 1) := by decide +kernel
theorem dX5_rebase_5 : decode cX5_rebase 5 = .ok (.invokevirtual 126, 3) := by decide +kernel
theorem dX5_rebase_8 : decode cX5_rebase 8 = .ok (.ifCond .eq 14, 3) := by decide +kernel
theorem dX5_rebase_11 : decode cX5_rebase 11 = .ok (.aload_n 0, 1) := by decide +kernel
theorem dX5_rebase_12 : decode cX5_rebase 12 = .ok (.getfield 20, 3) := by decide +kernel
theorem dX5_rebase_15 : decode cX5_rebase 15 = .ok (.iload_n 2, 1) := by decide +kernel
theorem dX5_rebase_16 : decode cX5_rebase 16 = .ok (.invokevirtual 126, 3) := by decide +kernel
theorem dX5_rebase_19 : decode cX5_rebase 19 = .ok (.ifCond .ne 5, 3) := by decide +kernel
theorem dX5_rebase_22 : decode cX5_rebase 22 = .ok (.iconst (-1), 1) := by decide +kernel
theorem dX5_rebase_23 : decode cX5_rebase 23 = .ok (.ireturn, 1) := by decide +kernel
theorem dX5_rebase_24 : decode cX5_rebase 24 = .ok (.iload_n 1, 1) := by decide +kernel
theorem dX5_rebase_25 : decode cX5_rebase 25 = .ok (.iload_n 2, 1) := by decide +kernel
theorem dX5_rebase_26 : decode cX5_rebase 26 = .ok (.if_icmp .ne 6, 3) := by decide +kernel
theorem dX5_rebase_29 : decode cX5_rebase 29 = .ok (.bipush (-2), 2) := by decide +kernel
theorem dX5_rebase_31 : decode cX5_rebase 31 = .ok (.ireturn, 1) := by decide +kernel
theorem dX5_rebase_32 : decode cX5_rebase 32 = .ok (.aload_n 0, 1) := by decide +kernel
theorem dX5_rebase_33 : decode cX5_rebase 33 = .ok (.getfield 20, 3) := by decide +kernel
theorem dX5_rebase_36 : decode cX5_rebase 36 = .ok (.iload_n 1, 1) := by decide +kernel
theorem dX5_rebase_37 : decode cX5_rebase 37 = .ok (.invokevirtual 67, 3) := by decide +kernel
theorem dX5_rebase_40 : decode cX5_rebase 40 = .ok (.ifCond .eq 14, 3) := by decide +kernel
theorem dX5_rebase_43 : decode cX5_rebase 43 = .ok (.aload_n 0, 1) := by decide +kernel
theorem dX5_rebase_44 : decode cX5_rebase 44 = .ok (.getfield 20, 3) := by decide +kernel
theorem dX5_rebase_47 : decode cX5_rebase 47 = .ok (.iload_n 2, 1) := by decide +kernel
theorem dX5_rebase_48 : decode cX5_rebase 48 = .ok (.invokevirtual 67, 3) := by decide +kernel
theorem dX5_rebase_51 : decode cX5_rebase 51 = .ok (.ifCond .ne 6, 3) := by decide +kernel
theorem dX5_rebase_54 : decode cX5_rebase 54 = .ok (.bipush (-6), 2) := by decide +kernel
theorem dX5_rebase_56 : decode cX5_rebase 56 = .ok (.ireturn, 1) := by decide +kernel
theorem dX5_rebase_57 : decode cX5_rebase 57 = .ok (.aload_n 0, 1) := by decide +kernel
theorem dX5_rebase_58 : decode cX5_rebase 58 = .ok (.getfield 20, 3) := by decide +kernel
theorem dX5_rebase_61 : decode cX5_rebase 61 = .ok (.iload_n 1, 1) := by decide +kernel
theorem dX5_rebase_62 : decode cX5_rebase 62 = .ok (.iload_n 2, 1) := by decide +kernel
theorem dX5_rebase_63 : decode cX5_rebase 63 = .ok (.invokevirtual 138, 3) := by decide +kernel
theorem dX5_rebase_66 : decode cX5_rebase 66 = .ok (.ifCond .eq 6, 3) := by decide +kernel
theorem dX5_rebase_69 : decode cX5_rebase 69 = .ok (.bipush (-4), 2) := by decide +kernel
theorem dX5_rebase_71 : decode cX5_rebase 71 = .ok (.ireturn, 1) := by decide +kernel
theorem dX5_rebase_72 : decode cX5_rebase 72 = .ok (.aload_n 0, 1) := by decide +kernel
theorem dX5_rebase_73 : decode cX5_rebase 73 = .ok (.getfield 20, 3) := by decide +kernel
theorem dX5_rebase_76 : decode cX5_rebase 76 = .ok (.iload_n 2, 1) := by decide +kernel
theorem dX5_rebase_77 : decode cX5_rebase 77 = .ok (.aload_n 0, 1) := by decide +kernel
theorem dX5_rebase_78 : decode cX5_rebase 78 = .ok (.getfield 20, 3) := by decide +kernel
theorem dX5_rebase_81 : decode cX5_rebase 81 = .ok (.iload_n 1, 1) := by decide +kernel
theorem dX5_rebase_82 : decode cX5_rebase 82 = .ok (.invokevirtual 141, 3) := by decide +kernel
theorem dX5_rebase_85 : decode cX5_rebase 85 = .ok (.invokevirtual 144, 3) := by decide +kernel
theorem dX5_rebase_88 : decode cX5_rebase 88 = .ok (.aload_n 0, 1) := by decide +kernel
theorem dX5_rebase_89 : decode cX5_rebase 89 = .ok (.getfield 10, 3) := by decide +kernel
theorem dX5_rebase_92 : decode cX5_rebase 92 = .ok (.getfield 147, 3) := by decide +kernel
theorem dX5_rebase_95 : decode cX5_rebase 95 = .ok (.if_icmp .le 6, 3) := by decide +kernel
theorem dX5_rebase_98 : decode cX5_rebase 98 = .ok (.bipush (-7), 2) := by decide +kernel
theorem dX5_rebase_100 : decode cX5_rebase 100 = .ok (.ireturn, 1) := by decide +kernel
theorem dX5_rebase_101 : decode cX5_rebase 101 = .ok (.aload_n 0, 1) := by decide +kernel
theorem dX5_rebase_102 : decode cX5_rebase 102 = .ok (.getfield 20, 3) := by decide +kernel
theorem dX5_rebase_105 : decode cX5_rebase 105 = .ok (.iload_n 1, 1) := by decide +kernel
theorem dX5_rebase_106 : decode cX5_rebase 106 = .ok (.invokevirtual 129, 3) := by decide +kernel
theorem dX5_rebase_109 : decode cX5_rebase 109 = .ok (.iload_n 2, 1) := by decide +kernel
theorem dX5_rebase_110 : decode cX5_rebase 110 = .ok (.if_icmp .ne 6, 3) := by decide +kernel
theorem dX5_rebase_113 : decode cX5_rebase 113 = .ok (.bipush (-5), 2) := by decide +kernel
theorem dX5_rebase_115 : decode cX5_rebase 115 = .ok (.ireturn, 1) := by decide +kernel
theorem dX5_rebase_116 : decode cX5_rebase 116 = .ok (.aload_n 0, 1) := by decide +kernel
theorem dX5_rebase_117 : decode cX5_rebase 117 = .ok (.getfield 24, 3) := by decide +kernel
theorem dX5_rebase_120 : decode cX5_rebase 120 = .ok (.aload_n 0, 1) := by decide +kernel
theorem dX5_rebase_121 : decode cX5_rebase 121 = .ok (.getfield 10, 3) := by decide +kernel
theorem dX5_rebase_124 : decode cX5_rebase 124 = .ok (.invokevirtual 82, 3) := by decide +kernel
theorem dX5_rebase_127 : decode cX5_rebase 127 = .ok (.aload_n 0, 1) := by decide +kernel
theorem dX5_rebase_128 : decode cX5_rebase 128 = .ok (.getfield 20, 3) := by decide +kernel
theorem dX5_rebase_131 : decode cX5_rebase 131 = .ok (.iload_n 1, 1) := by decide +kernel
theorem dX5_rebase_132 : decode cX5_rebase 132 = .ok (.iload_n 2, 1) := by decide +kernel
theorem dX5_rebase_133 : decode cX5_rebase 133 = .ok (.invokevirtual 135, 3) := by decide +kernel
theorem dX5_rebase_136 : decode cX5_rebase 136 = .ok (.aload_n 0, 1) := by decide +kernel
theorem dX5_rebase_137 : decode cX5_rebase 137 = .ok (.getfield 20, 3) := by decide +kernel
theorem dX5_rebase_140 : decode cX5_rebase 140 = .ok (.iload_n 1, 1) := by decide +kernel
theorem dX5_rebase_141 : decode cX5_rebase 141 = .ok (.invokevirtual 150, 3) := by decide +kernel
theorem dX5_rebase_144 : decode cX5_rebase 144 = .ok (.ireturn, 1) := by decide +kernel
set_option maxRecDepth 20000 in
theorem ggX5_setLimit_X4_mostSteps : GoodIn wsX5_setLimit wsX4_mostSteps := goodIn_r _ [9, 10, 11, 12, 13, 14, 15, 16, 17, 8, 18, 19, 20, 21, 22, 23, 24, 25, 26, 27, 28, 29, 30, 31, 32, 94, 95, 96, 97, 98, 99, 100] (by decide +kernel) (by decide +kernel)
set_option maxRecDepth 20000 in
theorem gX5_setLimit_X4_mostSteps : GoodIn wsX5_setLimit (wsV RX5 153 RX4 yX4_mostSteps wsX4_mostSteps) := goodIn_app (goodIn_of _ (by decide +kernel)) ggX5_setLimit_X4_mostSteps
set_option maxRecDepth 20000 in
theorem ggX5_setLimit_X1_push : GoodIn wsX5_setLimit wsX1_push := goodIn_r _ [37, 38, 39, 40, 41, 42, 43, 44, 45, 13, 46, 47, 48, 49, 50, 51, 52, 53, 8, 54, 55, 56, 57, 58, 59, 60, 61, 62, 63, 19, 64, 65, 32, 66, 67, 10, 68, 69, 70, 71, 72, 73, 74, 75, 76, 77, 78, 79, 80, 101, 102, 103, 88, 89, 90, 91, 92, 93, 94, 95, 96, 97, 98, 99, 100] (by decide +kernel) (by decide +kernel)
set_option maxRecDepth 20000 in
theorem gX5_setLimit_X1_push : GoodIn wsX5_setLimit (wsV RX5 82 RX1 yX1_push wsX1_push) := goodIn_app (goodIn_of _ (by decide +kernel)) ggX5_setLimit_X1_push
theorem dX5_setLimit_0 : decode cX5_setLimit 0 = .ok (.iload_n 1, 1) := by decide +kernel
theorem dX5_setLimit_1 : decode cX5_setLimit 1 = .ok (.iconst 1, 1) := by decide +kernel
theorem dX5_setLimit_2 : decode cX5_setLimit 2 = .ok (.if_icmp .lt 9, 3) := by decide +kernel
theorem dX5_setLimit_5 : decode cX5_setLimit 5 = .ok (.iload_n 1, 1) := by decide +kernel
theorem dX5_setLimit_6 : decode cX5_setLimit 6 = .ok (.bipush 8, 2) := by decide +kernel
theorem dX5_setLimit_8 : decode cX5_setLimit 8 = .ok (.if_icmp .le 6, 3) := by decide +kernel
theorem dX5_setLimit_11 : decode cX5_setLimit 11 = .ok (.bipush (-2), 2) := by decide +kernel
theorem dX5_setLimit_13 : decode cX5_setLimit 13 = .ok (.ireturn, 1) := by decide +kernel
theorem dX5_setLimit_14 : decode cX5_setLimit 14 = .ok (.aload_n 0, 1) := by decide +kernel
theorem dX5_setLimit_15 : decode cX5_setLimit 15 = .ok (.getfield 20, 3) := by decide +kernel
theorem dX5_setLimit_18 : decode cX5_setLimit 18 = .ok (.invokevirtual 153, 3) := by decide +kernel
theorem dX5_setLimit_21 : decode cX5_setLimit 21 = .ok (.iload_n 1, 1) := by decide +kernel
theorem dX5_setLimit_22 : decode cX5_setLimit 22 = .ok (.if_icmp .le 6, 3) := by decide +kernel
theorem dX5_setLimit_25 : decode cX5_setLimit 25 = .ok (.bipush (-7), 2) := by decide +kernel
theorem dX5_setLimit_27 : decode cX5_setLimit 27 = .ok (.ireturn, 1) := by decide +kernel
theorem dX5_setLimit_28 : decode cX5_setLimit 28 = .ok (.aload_n 0, 1) := by decide +kernel
theorem dX5_setLimit_29 : decode cX5_setLimit 29 = .ok (.getfield 10, 3) := by decide +kernel
theorem dX5_setLimit_32 : decode cX5_setLimit 32 = .ok (.getfield 147, 3) := by decide +kernel
theorem dX5_setLimit_35 : decode cX5_setLimit 35 = .ok (.istore_n 2, 1) := by decide +kernel
theorem dX5_setLimit_36 : decode cX5_setLimit 36 = .ok (.iload_n 2, 1) := by decide +kernel
theorem dX5_setLimit_37 : decode cX5_setLimit 37 = .ok (.iload_n 1, 1) := by decide +kernel
theorem dX5_setLimit_38 : decode cX5_setLimit 38 = .ok (.if_icmp .ne 6, 3) := by decide +kernel
theorem dX5_setLimit_41 : decode cX5_setLimit 41 = .ok (.bipush (-5), 2) := by decide +kernel
theorem dX5_setLimit_43 : decode cX5_setLimit 43 = .ok (.ireturn, 1) := by decide +kernel
theorem dX5_setLimit_44 : decode cX5_setLimit 44 = .ok (.aload_n 0, 1) := by decide +kernel
theorem dX5_setLimit_45 : decode cX5_setLimit 45 = .ok (.getfield 24, 3) := by decide +kernel
theorem dX5_setLimit_48 : decode cX5_setLimit 48 = .ok (.aload_n 0, 1) := by decide +kernel
theorem dX5_setLimit_49 : decode cX5_setLimit 49 = .ok (.getfield 10, 3) := by decide +kernel
theorem dX5_setLimit_52 : decode cX5_setLimit 52 = .ok (.invokevirtual 82, 3) := by decide +kernel
theorem dX5_setLimit_55 : decode cX5_setLimit 55 = .ok (.aload_n 0, 1) := by decide +kernel
theorem dX5_setLimit_56 : decode cX5_setLimit 56 = .ok (.getfield 10, 3) := by decide +kernel
theorem dX5_setLimit_59 : decode cX5_setLimit 59 = .ok (.iload_n 1, 1) := by decide +kernel
theorem dX5_setLimit_60 : decode cX5_setLimit 60 = .ok (.putfield 147, 3) := by decide +kernel
theorem dX5_setLimit_63 : decode cX5_setLimit 63 = .ok (.iload_n 2, 1) := by decide +kernel
theorem dX5_setLimit_64 : decode cX5_setLimit 64 = .ok (.ireturn, 1) := by decide +kernel
set_option maxRecDepth 20000 in
theorem ggX5_optimize_X4_unreadable : GoodIn wsX5_optimize wsX4_unreadable := goodIn_r _ [11, 12, 13, 14, 15, 10, 16, 17, 18, 19, 20, 21, 22, 23, 24, 25, 26, 27, 28, 29, 30, 31, 32, 33, 34, 35, 36, 37, 38, 39, 154, 155, 156, 157, 158, 159, 160] (by decide +kernel) (by decide +kernel)
set_option maxRecDepth 20000 in
theorem gX5_optimize_X4_unreadable : GoodIn wsX5_optimize (wsV RX5 156 RX4 yX4_unreadable wsX4_unreadable) := goodIn_app (goodIn_of _ (by decide +kernel)) ggX5_optimize_X4_unreadable
set_option maxRecDepth 20000 in
theorem ggX5_optimize_X2_makeFor : GoodIn wsX5_optimize wsX2_makeFor := goodIn_r _ [44, 45, 46, 47, 48, 14, 15, 10, 16, 17, 18, 19, 20, 21, 12, 49, 50, 51, 43, 52, 53, 54, 55, 56, 57, 58, 59, 60, 154, 155, 156, 157, 158, 159, 160, 152, 153] (by decide +kernel) (by decide +kernel)
set_option maxRecDepth 20000 in
theorem gX5_optimize_X2_makeFor : GoodIn wsX5_optimize (wsV RX5 159 RX2 yX2_makeFor wsX2_makeFor) := goodIn_app (goodIn_of _ (by decide +kernel)) ggX5_optimize_X2_makeFor
set_option maxRecDepth 20000 in
theorem ggX5_optimize_X2_isAsStored : GoodIn wsX5_optimize wsX2_isAsStored := goodIn_r _ [64, 45, 46, 65, 36, 37, 10, 38, 39, 18, 19, 20, 21, 12, 154, 155, 156, 157, 158, 159, 160, 152, 153] (by decide +kernel) (by decide +kernel)
set_option maxRecDepth 20000 in
theorem gX5_optimize_X2_isAsStored : GoodIn wsX5_optimize (wsV RX5 163 RX2 yX2_isAsStored wsX2_isAsStored) := goodIn_app (goodIn_of _ (by decide +kernel)) ggX5_optimize_X2_isAsStored
set_option maxRecDepth 20000 in
theorem ggX5_optimize_X1_push : GoodIn wsX5_optimize wsX1_push := goodIn_r _ [70, 71, 72, 73, 74, 75, 76, 77, 78, 79, 80, 81, 82, 83, 84, 85, 86, 87, 10, 88, 89, 90, 91, 92, 93, 94, 95, 96, 97, 17, 98, 99, 39, 34, 57, 12, 100, 101, 102, 103, 104, 105, 106, 107, 108, 109, 110, 111, 112, 161, 162, 163, 146, 147, 148, 149, 150, 151, 154, 155, 156, 157, 158, 159, 160] (by decide +kernel) (by decide +kernel)
set_option maxRecDepth 20000 in
theorem gX5_optimize_X1_push : GoodIn wsX5_optimize (wsV RX5 82 RX1 yX1_push wsX1_push) := goodIn_app (goodIn_of _ (by decide +kernel)) ggX5_optimize_X1_push
set_option maxRecDepth 20000 in
theorem ggX5_optimize_X4_totalCost : GoodIn wsX5_optimize wsX4_totalCost := goodIn_r _ [116, 12, 117, 118, 119, 10, 120, 13, 14, 15, 16, 17, 18, 19, 20, 21, 35, 36, 37, 38, 39, 121, 54, 55, 56, 57, 122, 59, 60, 154, 155, 156, 157, 158, 159, 160] (by decide +kernel) (by decide +kernel)
set_option maxRecDepth 20000 in
theorem gX5_optimize_X4_totalCost : GoodIn wsX5_optimize (wsV RX5 132 RX4 yX4_totalCost wsX4_totalCost) := goodIn_app (goodIn_of _ (by decide +kernel)) ggX5_optimize_X4_totalCost
set_option maxRecDepth 20000 in
theorem ggX5_optimize_X4_storeAllBy : GoodIn wsX5_optimize wsX4_storeAllBy := goodIn_r _ [126, 12, 39, 34, 13, 14, 15, 10, 16, 17, 18, 19, 20, 21, 127, 128, 129, 130, 131, 132, 133, 134, 135, 136, 137, 138, 35, 36, 37, 38, 154, 155, 156, 157, 158, 159, 160] (by decide +kernel) (by decide +kernel)
set_option maxRecDepth 20000 in
theorem gX5_optimize_X4_storeAllBy : GoodIn wsX5_optimize (wsV RX5 170 RX4 yX4_storeAllBy wsX4_storeAllBy) := goodIn_app (goodIn_of _ (by decide +kernel)) ggX5_optimize_X4_storeAllBy
theorem dX5_optimize_0 : decode cX5_optimize 0 = .ok (.aload_n 0, 1) := by decide +kernel
theorem dX5_optimize_1 : decode cX5_optimize 1 = .ok (.getfield 20, 3) := by decide +kernel
theorem dX5_optimize_4 : decode cX5_optimize 4 = .ok (.invokevirtual 156, 3) := by decide +kernel
theorem dX5_optimize_7 : decode cX5_optimize 7 = .ok (.ifCond .le 6, 3) := by decide +kernel
theorem dX5_optimize_10 : decode cX5_optimize 10 = .ok (.bipush (-6), 2) := by decide +kernel
theorem dX5_optimize_12 : decode cX5_optimize 12 = .ok (.ireturn, 1) := by decide +kernel
theorem dX5_optimize_13 : decode cX5_optimize 13 = .ok (.aload_n 0, 1) := by decide +kernel
theorem dX5_optimize_14 : decode cX5_optimize 14 = .ok (.getfield 38, 3) := by decide +kernel
theorem dX5_optimize_17 : decode cX5_optimize 17 = .ok (.aload_n 0, 1) := by decide +kernel
theorem dX5_optimize_18 : decode cX5_optimize 18 = .ok (.getfield 20, 3) := by decide +kernel
theorem dX5_optimize_21 : decode cX5_optimize 21 = .ok (.aload_n 0, 1) := by decide +kernel
theorem dX5_optimize_22 : decode cX5_optimize 22 = .ok (.getfield 10, 3) := by decide +kernel
theorem dX5_optimize_25 : decode cX5_optimize 25 = .ok (.getfield 147, 3) := by decide +kernel
theorem dX5_optimize_28 : decode cX5_optimize 28 = .ok (.invokevirtual 159, 3) := by decide +kernel
theorem dX5_optimize_31 : decode cX5_optimize 31 = .ok (.aload_n 0, 1) := by decide +kernel
theorem dX5_optimize_32 : decode cX5_optimize 32 = .ok (.getfield 38, 3) := by decide +kernel
theorem dX5_optimize_35 : decode cX5_optimize 35 = .ok (.aload_n 0, 1) := by decide +kernel
theorem dX5_optimize_36 : decode cX5_optimize 36 = .ok (.getfield 20, 3) := by decide +kernel
theorem dX5_optimize_39 : decode cX5_optimize 39 = .ok (.invokevirtual 163, 3) := by decide +kernel
theorem dX5_optimize_42 : decode cX5_optimize 42 = .ok (.ifCond .eq 6, 3) := by decide +kernel
theorem dX5_optimize_45 : decode cX5_optimize 45 = .ok (.bipush (-5), 2) := by decide +kernel
theorem dX5_optimize_47 : decode cX5_optimize 47 = .ok (.ireturn, 1) := by decide +kernel
theorem dX5_optimize_48 : decode cX5_optimize 48 = .ok (.aload_n 0, 1) := by decide +kernel
theorem dX5_optimize_49 : decode cX5_optimize 49 = .ok (.getfield 24, 3) := by decide +kernel
theorem dX5_optimize_52 : decode cX5_optimize 52 = .ok (.aload_n 0, 1) := by decide +kernel
theorem dX5_optimize_53 : decode cX5_optimize 53 = .ok (.getfield 10, 3) := by decide +kernel
theorem dX5_optimize_56 : decode cX5_optimize 56 = .ok (.invokevirtual 82, 3) := by decide +kernel
theorem dX5_optimize_59 : decode cX5_optimize 59 = .ok (.aload_n 0, 1) := by decide +kernel
theorem dX5_optimize_60 : decode cX5_optimize 60 = .ok (.getfield 20, 3) := by decide +kernel
theorem dX5_optimize_63 : decode cX5_optimize 63 = .ok (.invokevirtual 132, 3) := by decide +kernel
theorem dX5_optimize_66 : decode cX5_optimize 66 = .ok (.istore_n 1, 1) := by decide +kernel
theorem dX5_optimize_67 : decode cX5_optimize 67 = .ok (.aload_n 0, 1) := by decide +kernel
theorem dX5_optimize_68 : decode cX5_optimize 68 = .ok (.getfield 20, 3) := by decide +kernel
theorem dX5_optimize_71 : decode cX5_optimize 71 = .ok (.aload_n 0, 1) := by decide +kernel
theorem dX5_optimize_72 : decode cX5_optimize 72 = .ok (.getfield 38, 3) := by decide +kernel
theorem dX5_optimize_75 : decode cX5_optimize 75 = .ok (.getfield 167, 3) := by decide +kernel
theorem dX5_optimize_78 : decode cX5_optimize 78 = .ok (.invokevirtual 170, 3) := by decide +kernel
theorem dX5_optimize_81 : decode cX5_optimize 81 = .ok (.sipush 1000, 3) := by decide +kernel
theorem dX5_optimize_84 : decode cX5_optimize 84 = .ok (.iload_n 1, 1) := by decide +kernel
theorem dX5_optimize_85 : decode cX5_optimize 85 = .ok (.iadd, 1) := by decide +kernel
theorem dX5_optimize_86 : decode cX5_optimize 86 = .ok (.aload_n 0, 1) := by decide +kernel
theorem dX5_optimize_87 : decode cX5_optimize 87 = .ok (.getfield 20, 3) := by decide +kernel
theorem dX5_optimize_90 : decode cX5_optimize 90 = .ok (.invokevirtual 132, 3) := by decide +kernel
theorem dX5_optimize_93 : decode cX5_optimize 93 = .ok (.isub, 1) := by decide +kernel
theorem dX5_optimize_94 : decode cX5_optimize 94 = .ok (.ireturn, 1) := by decide +kernel
set_option maxRecDepth 20000 in
theorem ggX5_spoil_X4_isPresent : GoodIn wsX5_spoil wsX4_isPresent := goodIn_r _ [8, 9, 10, 11, 12, 7, 13, 14, 98, 99, 100, 101, 102, 103, 104] (by decide +kernel) (by decide +kernel)
set_option maxRecDepth 20000 in
theorem gX5_spoil_X4_isPresent : GoodIn wsX5_spoil (wsV RX5 126 RX4 yX4_isPresent wsX4_isPresent) := goodIn_app (goodIn_of _ (by decide +kernel)) ggX5_spoil_X4_isPresent
set_option maxRecDepth 20000 in
theorem ggX5_spoil_X4_isSpoiled : GoodIn wsX5_spoil wsX4_isSpoiled := goodIn_r _ [18, 19, 10, 11, 12, 7, 13, 14, 98, 99, 100, 101, 102, 103, 104] (by decide +kernel) (by decide +kernel)
set_option maxRecDepth 20000 in
theorem gX5_spoil_X4_isSpoiled : GoodIn wsX5_spoil (wsV RX5 174 RX4 yX4_isSpoiled wsX4_isSpoiled) := goodIn_app (goodIn_of _ (by decide +kernel)) ggX5_spoil_X4_isSpoiled
set_option maxRecDepth 20000 in
theorem ggX5_spoil_X1_push : GoodIn wsX5_spoil wsX1_push := goodIn_r _ [24, 25, 26, 27, 28, 29, 30, 31, 32, 33, 34, 35, 36, 37, 38, 39, 40, 41, 7, 42, 43, 44, 45, 46, 47, 48, 49, 50, 51, 9, 52, 53, 54, 19, 55, 14, 56, 57, 58, 59, 60, 61, 62, 63, 64, 65, 66, 67, 68, 105, 106, 107, 108, 109, 110, 111, 112, 113, 98, 99, 100, 101, 102, 103, 104] (by decide +kernel) (by decide +kernel)
set_option maxRecDepth 20000 in
theorem gX5_spoil_X1_push : GoodIn wsX5_spoil (wsV RX5 82 RX1 yX1_push wsX1_push) := goodIn_app (goodIn_of _ (by decide +kernel)) ggX5_spoil_X1_push
set_option maxRecDepth 20000 in
theorem ggX5_spoil_X4_makeSpoiled : GoodIn wsX5_spoil wsX4_makeSpoiled := goodIn_r _ [72, 19, 73, 5, 6, 7, 8, 9, 10, 11, 12, 13, 14, 98, 99, 100, 101, 102, 103, 104] (by decide +kernel) (by decide +kernel)
set_option maxRecDepth 20000 in
theorem gX5_spoil_X4_makeSpoiled : GoodIn wsX5_spoil (wsV RX5 177 RX4 yX4_makeSpoiled wsX4_makeSpoiled) := goodIn_app (goodIn_of _ (by decide +kernel)) ggX5_spoil_X4_makeSpoiled
set_option maxRecDepth 20000 in
theorem ggX5_spoil_X4_unreadable : GoodIn wsX5_spoil wsX4_unreadable := goodIn_r _ [77, 14, 73, 5, 6, 7, 8, 9, 10, 11, 12, 13, 78, 79, 80, 81, 82, 83, 84, 85, 86, 16, 17, 18, 19, 87, 88, 89, 90, 54, 98, 99, 100, 101, 102, 103, 104] (by decide +kernel) (by decide +kernel)
set_option maxRecDepth 20000 in
theorem gX5_spoil_X4_unreadable : GoodIn wsX5_spoil (wsV RX5 156 RX4 yX4_unreadable wsX4_unreadable) := goodIn_app (goodIn_of _ (by decide +kernel)) ggX5_spoil_X4_unreadable
theorem dX5_spoil_0 : decode cX5_spoil 0 = .ok (.aload_n 0, 1) := by decide +kernel
theorem dX5_spoil_1 : decode cX5_spoil 1 = .ok (.getfield 20, 3) := by decide +kernel
theorem dX5_spoil_4 : decode cX5_spoil 4 = .ok (.iload_n 1, 1) := by decide +kernel
theorem dX5_spoil_5 : decode cX5_spoil 5 = .ok (.invokevirtual 126, 3) := by decide +kernel
theorem dX5_spoil_8 : decode cX5_spoil 8 = .ok (.ifCond .ne 5, 3) := by decide +kernel
theorem dX5_spoil_11 : decode cX5_spoil 11 = .ok (.iconst (-1), 1) := by decide +kernel
theorem dX5_spoil_12 : decode cX5_spoil 12 = .ok (.ireturn, 1) := by decide +kernel
theorem dX5_spoil_13 : decode cX5_spoil 13 = .ok (.aload_n 0, 1) := by decide +kernel
theorem dX5_spoil_14 : decode cX5_spoil 14 = .ok (.getfield 20, 3) := by decide +kernel
theorem dX5_spoil_17 : decode cX5_spoil 17 = .ok (.iload_n 1, 1) := by decide +kernel
theorem dX5_spoil_18 : decode cX5_spoil 18 = .ok (.invokevirtual 174, 3) := by decide +kernel
theorem dX5_spoil_21 : decode cX5_spoil 21 = .ok (.ifCond .eq 6, 3) := by decide +kernel
theorem dX5_spoil_24 : decode cX5_spoil 24 = .ok (.bipush (-5), 2) := by decide +kernel
theorem dX5_spoil_26 : decode cX5_spoil 26 = .ok (.ireturn, 1) := by decide +kernel
theorem dX5_spoil_27 : decode cX5_spoil 27 = .ok (.aload_n 0, 1) := by decide +kernel
theorem dX5_spoil_28 : decode cX5_spoil 28 = .ok (.getfield 24, 3) := by decide +kernel
theorem dX5_spoil_31 : decode cX5_spoil 31 = .ok (.aload_n 0, 1) := by decide +kernel
theorem dX5_spoil_32 : decode cX5_spoil 32 = .ok (.getfield 10, 3) := by decide +kernel
theorem dX5_spoil_35 : decode cX5_spoil 35 = .ok (.invokevirtual 82, 3) := by decide +kernel
theorem dX5_spoil_38 : decode cX5_spoil 38 = .ok (.aload_n 0, 1) := by decide +kernel
theorem dX5_spoil_39 : decode cX5_spoil 39 = .ok (.getfield 20, 3) := by decide +kernel
theorem dX5_spoil_42 : decode cX5_spoil 42 = .ok (.iload_n 1, 1) := by decide +kernel
theorem dX5_spoil_43 : decode cX5_spoil 43 = .ok (.invokevirtual 177, 3) := by decide +kernel
theorem dX5_spoil_46 : decode cX5_spoil 46 = .ok (.aload_n 0, 1) := by decide +kernel
theorem dX5_spoil_47 : decode cX5_spoil 47 = .ok (.getfield 20, 3) := by decide +kernel
theorem dX5_spoil_50 : decode cX5_spoil 50 = .ok (.invokevirtual 156, 3) := by decide +kernel
theorem dX5_spoil_53 : decode cX5_spoil 53 = .ok (.ireturn, 1) := by decide +kernel
set_option maxRecDepth 20000 in
theorem ggX5_mend_X4_isPresent : GoodIn wsX5_mend wsX4_isPresent := goodIn_r _ [10, 11, 12, 13, 14, 9, 15, 16, 155, 156, 157, 158, 159, 160, 161] (by decide +kernel) (by decide +kernel)
set_option maxRecDepth 20000 in
theorem gX5_mend_X4_isPresent : GoodIn wsX5_mend (wsV RX5 126 RX4 yX4_isPresent wsX4_isPresent) := goodIn_app (goodIn_of _ (by decide +kernel)) ggX5_mend_X4_isPresent
set_option maxRecDepth 20000 in
theorem ggX5_mend_X0_readEdits : GoodIn wsX5_mend wsX0_readEdits := goodIn_r _ [21, 22, 23, 24, 25, 26, 27, 28, 29, 30, 31, 20, 32, 33, 34, 35, 36, 37, 38, 39, 40, 41, 42, 43, 44, 45, 162, 163, 164, 165] (by decide +kernel) (by decide +kernel)
set_option maxRecDepth 20000 in
theorem gX5_mend_X0_readEdits : GoodIn wsX5_mend (wsV RX5 59 RX0 yX0_readEdits wsX0_readEdits) := goodIn_app (goodIn_of _ (by decide +kernel)) ggX5_mend_X0_readEdits
set_option maxRecDepth 20000 in
theorem ggX5_mend_X4_canBeRead : GoodIn wsX5_mend wsX4_canBeRead := goodIn_r _ [49, 50, 51, 52, 9, 53, 54, 55, 56, 57, 58, 12, 13, 14, 15, 16, 59, 60, 61, 62, 63, 155, 156, 157, 158, 159, 160, 161] (by decide +kernel) (by decide +kernel)
set_option maxRecDepth 20000 in
theorem gX5_mend_X4_canBeRead : GoodIn wsX5_mend (wsV RX5 67 RX4 yX4_canBeRead wsX4_canBeRead) := goodIn_app (goodIn_of _ (by decide +kernel)) ggX5_mend_X4_canBeRead
set_option maxRecDepth 20000 in
theorem ggX5_mend_X0_propose : GoodIn wsX5_mend wsX0_propose := goodIn_r _ [67, 22, 68, 69, 70, 9, 71, 72, 12, 13, 14, 15, 16, 162, 163, 164, 165, 155, 156, 157, 158, 159, 160, 161] (by decide +kernel) (by decide +kernel)
set_option maxRecDepth 20000 in
theorem gX5_mend_X0_propose : GoodIn wsX5_mend (wsV RX5 74 RX0 yX0_propose wsX0_propose) := goodIn_app (goodIn_of _ (by decide +kernel)) ggX5_mend_X0_propose
set_option maxRecDepth 20000 in
theorem ggX5_mend_X4_differingFrom : GoodIn wsX5_mend wsX4_differingFrom := goodIn_r _ [76, 77, 69, 70, 9, 71, 72, 12, 13, 14, 15, 16, 155, 156, 157, 158, 159, 160, 161] (by decide +kernel) (by decide +kernel)
set_option maxRecDepth 20000 in
theorem gX5_mend_X4_differingFrom : GoodIn wsX5_mend (wsV RX5 78 RX4 yX4_differingFrom wsX4_differingFrom) := goodIn_app (goodIn_of _ (by decide +kernel)) ggX5_mend_X4_differingFrom
set_option maxRecDepth 20000 in
theorem ggX5_mend_X4_isSpoiled : GoodIn wsX5_mend wsX4_isSpoiled := goodIn_r _ [57, 58, 12, 13, 14, 9, 15, 16, 155, 156, 157, 158, 159, 160, 161] (by decide +kernel) (by decide +kernel)
set_option maxRecDepth 20000 in
theorem gX5_mend_X4_isSpoiled : GoodIn wsX5_mend (wsV RX5 174 RX4 yX4_isSpoiled wsX4_isSpoiled) := goodIn_app (goodIn_of _ (by decide +kernel)) ggX5_mend_X4_isSpoiled
set_option maxRecDepth 20000 in
theorem ggX5_mend_X1_push : GoodIn wsX5_mend wsX1_push := goodIn_r _ [83, 84, 85, 86, 87, 88, 89, 90, 91, 92, 93, 94, 95, 96, 97, 98, 99, 100, 9, 101, 102, 103, 104, 105, 106, 107, 108, 109, 110, 11, 111, 112, 63, 58, 72, 16, 113, 114, 115, 116, 117, 118, 119, 120, 121, 122, 123, 124, 125, 166, 167, 168, 169, 170, 171, 172, 173, 174, 155, 156, 157, 158, 159, 160, 161] (by decide +kernel) (by decide +kernel)
set_option maxRecDepth 20000 in
theorem gX5_mend_X1_push : GoodIn wsX5_mend (wsV RX5 82 RX1 yX1_push wsX1_push) := goodIn_app (goodIn_of _ (by decide +kernel)) ggX5_mend_X1_push
set_option maxRecDepth 20000 in
theorem ggX5_mend_X4_storeBy : GoodIn wsX5_mend wsX4_storeBy := goodIn_r _ [129, 63, 58, 130, 7, 8, 9, 10, 11, 12, 13, 14, 15, 16, 131, 132, 133, 134, 135, 136, 137, 138, 139, 140, 141, 142, 59, 60, 61, 62, 155, 156, 157, 158, 159, 160, 161] (by decide +kernel) (by decide +kernel)
set_option maxRecDepth 20000 in
theorem gX5_mend_X4_storeBy : GoodIn wsX5_mend (wsV RX5 135 RX4 yX4_storeBy wsX4_storeBy) := goodIn_app (goodIn_of _ (by decide +kernel)) ggX5_mend_X4_storeBy
set_option maxRecDepth 20000 in
theorem ggX5_mend_X4_unreadable : GoodIn wsX5_mend wsX4_unreadable := goodIn_r _ [146, 16, 130, 7, 8, 9, 10, 11, 12, 13, 14, 15, 147, 47, 48, 49, 50, 51, 52, 53, 54, 55, 56, 57, 58, 59, 60, 61, 62, 63, 155, 156, 157, 158, 159, 160, 161] (by decide +kernel) (by decide +kernel)
set_option maxRecDepth 20000 in
theorem gX5_mend_X4_unreadable : GoodIn wsX5_mend (wsV RX5 156 RX4 yX4_unreadable wsX4_unreadable) := goodIn_app (goodIn_of _ (by decide +kernel)) ggX5_mend_X4_unreadable
theorem dX5_mend_0 : decode cX5_mend 0 = .ok (.aload_n 0, 1) := by decide +kernel
theorem dX5_mend_1 : decode cX5_mend 1 = .ok (.getfield 20, 3) := by decide +kernel
theorem dX5_mend_4 : decode cX5_mend 4 = .ok (.iload_n 1, 1) := by decide +kernel
theorem dX5_mend_5 : decode cX5_mend 5 = .ok (.invokevirtual 126, 3) := by decide +kernel
theorem dX5_mend_8 : decode cX5_mend 8 = .ok (.ifCond .eq 14, 3) := by decide +kernel
theorem dX5_mend_11 : decode cX5_mend 11 = .ok (.aload_n 0, 1) := by decide +kernel
theorem dX5_mend_12 : decode cX5_mend 12 = .ok (.getfield 20, 3) := by decide +kernel
theorem dX5_mend_15 : decode cX5_mend 15 = .ok (.iload_n 2, 1) := by decide +kernel
theorem dX5_mend_16 : decode cX5_mend 16 = .ok (.invokevirtual 126, 3) := by decide +kernel
theorem dX5_mend_19 : decode cX5_mend 19 = .ok (.ifCond .ne 5, 3) := by decide +kernel
theorem dX5_mend_22 : decode cX5_mend 22 = .ok (.iconst (-1), 1) := by decide +kernel
theorem dX5_mend_23 : decode cX5_mend 23 = .ok (.ireturn, 1) := by decide +kernel
theorem dX5_mend_24 : decode cX5_mend 24 = .ok (.iload_n 1, 1) := by decide +kernel
theorem dX5_mend_25 : decode cX5_mend 25 = .ok (.iload_n 2, 1) := by decide +kernel
theorem dX5_mend_26 : decode cX5_mend 26 = .ok (.if_icmp .ne 6, 3) := by decide +kernel
theorem dX5_mend_29 : decode cX5_mend 29 = .ok (.bipush (-2), 2) := by decide +kernel
theorem dX5_mend_31 : decode cX5_mend 31 = .ok (.ireturn, 1) := by decide +kernel
theorem dX5_mend_32 : decode cX5_mend 32 = .ok (.aload_n 0, 1) := by decide +kernel
theorem dX5_mend_33 : decode cX5_mend 33 = .ok (.getfield 31, 3) := by decide +kernel
theorem dX5_mend_36 : decode cX5_mend 36 = .ok (.invokevirtual 59, 3) := by decide +kernel
theorem dX5_mend_39 : decode cX5_mend 39 = .ok (.istore_n 3, 1) := by decide +kernel
theorem dX5_mend_40 : decode cX5_mend 40 = .ok (.iload_n 3, 1) := by decide +kernel
theorem dX5_mend_41 : decode cX5_mend 41 = .ok (.ifCond .lt 8, 3) := by decide +kernel
theorem dX5_mend_44 : decode cX5_mend 44 = .ok (.bipush (-100), 2) := by decide +kernel
theorem dX5_mend_46 : decode cX5_mend 46 = .ok (.iload_n 3, 1) := by decide +kernel
theorem dX5_mend_47 : decode cX5_mend 47 = .ok (.isub, 1) := by decide +kernel
theorem dX5_mend_48 : decode cX5_mend 48 = .ok (.ireturn, 1) := by decide +kernel
theorem dX5_mend_49 : decode cX5_mend 49 = .ok (.aload_n 0, 1) := by decide +kernel
theorem dX5_mend_50 : decode cX5_mend 50 = .ok (.getfield 20, 3) := by decide +kernel
theorem dX5_mend_53 : decode cX5_mend 53 = .ok (.iload_n 2, 1) := by decide +kernel
theorem dX5_mend_54 : decode cX5_mend 54 = .ok (.invokevirtual 67, 3) := by decide +kernel
theorem dX5_mend_57 : decode cX5_mend 57 = .ok (.ifCond .ne 6, 3) := by decide +kernel
theorem dX5_mend_60 : decode cX5_mend 60 = .ok (.bipush (-6), 2) := by decide +kernel
theorem dX5_mend_62 : decode cX5_mend 62 = .ok (.ireturn, 1) := by decide +kernel
theorem dX5_mend_63 : decode cX5_mend 63 = .ok (.aload_n 0, 1) := by decide +kernel
theorem dX5_mend_64 : decode cX5_mend 64 = .ok (.getfield 31, 3) := by decide +kernel
theorem dX5_mend_67 : decode cX5_mend 67 = .ok (.aload_n 0, 1) := by decide +kernel
theorem dX5_mend_68 : decode cX5_mend 68 = .ok (.getfield 20, 3) := by decide +kernel
theorem dX5_mend_71 : decode cX5_mend 71 = .ok (.iload_n 2, 1) := by decide +kernel
theorem dX5_mend_72 : decode cX5_mend 72 = .ok (.aload_n 0, 1) := by decide +kernel
theorem dX5_mend_73 : decode cX5_mend 73 = .ok (.getfield 42, 3) := by decide +kernel
theorem dX5_mend_76 : decode cX5_mend 76 = .ok (.invokevirtual 74, 3) := by decide +kernel
theorem dX5_mend_79 : decode cX5_mend 79 = .ok (.aload_n 0, 1) := by decide +kernel
theorem dX5_mend_80 : decode cX5_mend 80 = .ok (.getfield 20, 3) := by decide +kernel
theorem dX5_mend_83 : decode cX5_mend 83 = .ok (.iload_n 1, 1) := by decide +kernel
theorem dX5_mend_84 : decode cX5_mend 84 = .ok (.aload_n 0, 1) := by decide +kernel
theorem dX5_mend_85 : decode cX5_mend 85 = .ok (.getfield 42, 3) := by decide +kernel
theorem dX5_mend_88 : decode cX5_mend 88 = .ok (.invokevirtual 78, 3) := by decide +kernel
theorem dX5_mend_91 : decode cX5_mend 91 = .ok (.ifCond .le 6, 3) := by decide +kernel
theorem dX5_mend_94 : decode cX5_mend 94 = .ok (.bipush (-4), 2) := by decide +kernel
theorem dX5_mend_96 : decode cX5_mend 96 = .ok (.ireturn, 1) := by decide +kernel
theorem dX5_mend_97 : decode cX5_mend 97 = .ok (.aload_n 0, 1) := by decide +kernel
theorem dX5_mend_98 : decode cX5_mend 98 = .ok (.getfield 20, 3) := by decide +kernel
theorem dX5_mend_101 : decode cX5_mend 101 = .ok (.iload_n 1, 1) := by decide +kernel
theorem dX5_mend_102 : decode cX5_mend 102 = .ok (.invokevirtual 174, 3) := by decide +kernel
theorem dX5_mend_105 : decode cX5_mend 105 = .ok (.ifCond .ne 6, 3) := by decide +kernel
theorem dX5_mend_108 : decode cX5_mend 108 = .ok (.bipush (-5), 2) := by decide +kernel
theorem dX5_mend_110 : decode cX5_mend 110 = .ok (.ireturn, 1) := by decide +kernel
theorem dX5_mend_111 : decode cX5_mend 111 = .ok (.aload_n 0, 1) := by decide +kernel
theorem dX5_mend_112 : decode cX5_mend 112 = .ok (.getfield 24, 3) := by decide +kernel
theorem dX5_mend_115 : decode cX5_mend 115 = .ok (.aload_n 0, 1) := by decide +kernel
theorem dX5_mend_116 : decode cX5_mend 116 = .ok (.getfield 10, 3) := by decide +kernel
theorem dX5_mend_119 : decode cX5_mend 119 = .ok (.invokevirtual 82, 3) := by decide +kernel
theorem dX5_mend_122 : decode cX5_mend 122 = .ok (.aload_n 0, 1) := by decide +kernel
theorem dX5_mend_123 : decode cX5_mend 123 = .ok (.getfield 20, 3) := by decide +kernel
theorem dX5_mend_126 : decode cX5_mend 126 = .ok (.iload_n 1, 1) := by decide +kernel
theorem dX5_mend_127 : decode cX5_mend 127 = .ok (.bipush (-5), 2) := by decide +kernel
theorem dX5_mend_129 : decode cX5_mend 129 = .ok (.invokevirtual 135, 3) := by decide +kernel
theorem dX5_mend_132 : decode cX5_mend 132 = .ok (.aload_n 0, 1) := by decide +kernel
theorem dX5_mend_133 : decode cX5_mend 133 = .ok (.getfield 20, 3) := by decide +kernel
theorem dX5_mend_136 : decode cX5_mend 136 = .ok (.invokevirtual 156, 3) := by decide +kernel
theorem dX5_mend_139 : decode cX5_mend 139 = .ok (.ireturn, 1) := by decide +kernel
set_option maxRecDepth 20000 in
theorem ggX5_type_X0_append : GoodIn wsX5_type wsX0_append := goodIn_r _ [7, 8, 9, 17, 18, 19, 20] (by decide +kernel) (by decide +kernel)
set_option maxRecDepth 20000 in
theorem gX5_type_X0_append : GoodIn wsX5_type (wsV RX5 184 RX0 yX0_append wsX0_append) := goodIn_app (goodIn_of _ (by decide +kernel)) ggX5_type_X0_append
theorem dX5_type_0 : decode cX5_type 0 = .ok (.aload_n 0, 1) := by decide +kernel
theorem dX5_type_1 : decode cX5_type 1 = .ok (.getfield 31, 3) := by decide +kernel
theorem dX5_type_4 : decode cX5_type 4 = .ok (.getfield 181, 3) := by decide +kernel
theorem dX5_type_7 : decode cX5_type 7 = .ok (.bipush 60, 2) := by decide +kernel
theorem dX5_type_9 : decode cX5_type 9 = .ok (.if_icmp .lt 6, 3) := by decide +kernel
theorem dX5_type_12 : decode cX5_type 12 = .ok (.bipush (-3), 2) := by decide +kernel
theorem dX5_type_14 : decode cX5_type 14 = .ok (.ireturn, 1) := by decide +kernel
theorem dX5_type_15 : decode cX5_type 15 = .ok (.aload_n 0, 1) := by decide +kernel
theorem dX5_type_16 : decode cX5_type 16 = .ok (.getfield 31, 3) := by decide +kernel
theorem dX5_type_19 : decode cX5_type 19 = .ok (.iload_n 1, 1) := by decide +kernel
theorem dX5_type_20 : decode cX5_type 20 = .ok (.invokevirtual 184, 3) := by decide +kernel
theorem dX5_type_23 : decode cX5_type 23 = .ok (.aload_n 0, 1) := by decide +kernel
theorem dX5_type_24 : decode cX5_type 24 = .ok (.getfield 31, 3) := by decide +kernel
theorem dX5_type_27 : decode cX5_type 27 = .ok (.getfield 181, 3) := by decide +kernel
theorem dX5_type_30 : decode cX5_type 30 = .ok (.ireturn, 1) := by decide +kernel
set_option maxRecDepth 20000 in
theorem ggX5_clearText_X0_empty : GoodIn wsX5_clearText wsX0_empty := goodIn_r _ [6, 7, 15, 16, 17, 18] (by decide +kernel) (by decide +kernel)
set_option maxRecDepth 20000 in
theorem gX5_clearText_X0_empty : GoodIn wsX5_clearText (wsV RX5 188 RX0 yX0_empty wsX0_empty) := goodIn_app (goodIn_of _ (by decide +kernel)) ggX5_clearText_X0_empty
theorem dX5_clearText_0 : decode cX5_clearText 0 = .ok (.aload_n 0, 1) := by decide +kernel
theorem dX5_clearText_1 : decode cX5_clearText 1 = .ok (.getfield 31, 3) := by decide +kernel
theorem dX5_clearText_4 : decode cX5_clearText 4 = .ok (.invokevirtual 188, 3) := by decide +kernel
theorem dX5_clearText_7 : decode cX5_clearText 7 = .ok (.ireturn, 1) := by decide +kernel
set_option maxRecDepth 20000 in
theorem ggX5_undo_X1_popInto : GoodIn wsX5_undo wsX1_popInto := goodIn_r _ [8, 9, 10, 11, 12, 13, 14, 15, 16, 17, 18, 19, 20, 21, 22, 23, 24, 25, 26, 27, 28, 29, 30, 31, 32, 33, 34, 35, 36, 37, 38, 39, 47, 48, 49, 50, 51, 52, 53, 54, 55, 56, 57, 58, 59, 60, 61, 62] (by decide +kernel) (by decide +kernel)
set_option maxRecDepth 20000 in
theorem gX5_undo_X1_popInto : GoodIn wsX5_undo (wsV RX5 194 RX1 yX1_popInto wsX1_popInto) := goodIn_app (goodIn_of _ (by decide +kernel)) ggX5_undo_X1_popInto
theorem dX5_undo_0 : decode cX5_undo 0 = .ok (.aload_n 0, 1) := by decide +kernel
theorem dX5_undo_1 : decode cX5_undo 1 = .ok (.getfield 24, 3) := by decide +kernel
theorem dX5_undo_4 : decode cX5_undo 4 = .ok (.getfield 191, 3) := by decide +kernel
theorem dX5_undo_7 : decode cX5_undo 7 = .ok (.ifCond .ne 6, 3) := by decide +kernel
theorem dX5_undo_10 : decode cX5_undo 10 = .ok (.bipush (-5), 2) := by decide +kernel
theorem dX5_undo_12 : decode cX5_undo 12 = .ok (.ireturn, 1) := by decide +kernel
theorem dX5_undo_13 : decode cX5_undo 13 = .ok (.aload_n 0, 1) := by decide +kernel
theorem dX5_undo_14 : decode cX5_undo 14 = .ok (.getfield 24, 3) := by decide +kernel
theorem dX5_undo_17 : decode cX5_undo 17 = .ok (.aload_n 0, 1) := by decide +kernel
theorem dX5_undo_18 : decode cX5_undo 18 = .ok (.getfield 10, 3) := by decide +kernel
theorem dX5_undo_21 : decode cX5_undo 21 = .ok (.invokevirtual 194, 3) := by decide +kernel
theorem dX5_undo_24 : decode cX5_undo 24 = .ok (.aload_n 0, 1) := by decide +kernel
theorem dX5_undo_25 : decode cX5_undo 25 = .ok (.getfield 24, 3) := by decide +kernel
theorem dX5_undo_28 : decode cX5_undo 28 = .ok (.getfield 191, 3) := by decide +kernel
theorem dX5_undo_31 : decode cX5_undo 31 = .ok (.ireturn, 1) := by decide +kernel
set_option maxRecDepth 20000 in
theorem ggX5_restore_X1_push : GoodIn wsX5_restore wsX1_push := goodIn_r _ [9, 10, 11, 12, 13, 14, 15, 16, 17, 18, 19, 20, 21, 22, 23, 24, 25, 26, 27, 28, 29, 30, 31, 32, 33, 34, 35, 36, 37, 38, 39, 40, 41, 42, 43, 44, 45, 46, 47, 48, 49, 50, 51, 52, 53, 54, 55, 56, 57, 82, 83, 84, 85, 86, 87, 88, 89, 90, 91, 92, 93, 94, 95, 96, 97] (by decide +kernel) (by decide +kernel)
set_option maxRecDepth 20000 in
theorem gX5_restore_X1_push : GoodIn wsX5_restore (wsV RX5 82 RX1 yX1_push wsX1_push) := goodIn_app (goodIn_of _ (by decide +kernel)) ggX5_restore_X1_push
set_option maxRecDepth 20000 in
theorem ggX5_restore_X3_copyFrom : GoodIn wsX5_restore wsX3_copyFrom := goodIn_r _ [48, 28, 30, 49, 50, 51, 52, 31, 32, 33, 34, 53, 54, 55, 27, 56, 38, 57, 39, 40, 41, 42, 43, 44, 85, 86, 87, 88, 89, 90, 91, 92, 93, 94, 95, 96, 97] (by decide +kernel) (by decide +kernel)
set_option maxRecDepth 20000 in
theorem gX5_restore_X3_copyFrom : GoodIn wsX5_restore (wsV RX5 197 RX3 yX3_copyFrom wsX3_copyFrom) := goodIn_app (goodIn_of _ (by decide +kernel)) ggX5_restore_X3_copyFrom
set_option maxRecDepth 20000 in
theorem ggX5_restore_X4_present : GoodIn wsX5_restore wsX4_present := goodIn_r _ [62, 44, 63, 64, 65, 27, 66, 67, 68, 69, 70, 38, 71, 72, 73, 74, 91, 92, 93, 94, 95, 96, 97] (by decide +kernel) (by decide +kernel)
set_option maxRecDepth 20000 in
theorem gX5_restore_X4_present : GoodIn wsX5_restore (wsV RX5 200 RX4 yX4_present wsX4_present) := goodIn_app (goodIn_of _ (by decide +kernel)) ggX5_restore_X4_present
theorem dX5_restore_0 : decode cX5_restore 0 = .ok (.aload_n 0, 1) := by decide +kernel
theorem dX5_restore_1 : decode cX5_restore 1 = .ok (.getfield 46, 3) := by decide +kernel
theorem dX5_restore_4 : decode cX5_restore 4 = .ok (.ifnonnull 6, 3) := by decide +kernel
theorem dX5_restore_7 : decode cX5_restore 7 = .ok (.bipush (-5), 2) := by decide +kernel
theorem dX5_restore_9 : decode cX5_restore 9 = .ok (.ireturn, 1) := by decide +kernel
theorem dX5_restore_10 : decode cX5_restore 10 = .ok (.aload_n 0, 1) := by decide +kernel
theorem dX5_restore_11 : decode cX5_restore 11 = .ok (.getfield 24, 3) := by decide +kernel
theorem dX5_restore_14 : decode cX5_restore 14 = .ok (.aload_n 0, 1) := by decide +kernel
theorem dX5_restore_15 : decode cX5_restore 15 = .ok (.getfield 10, 3) := by decide +kernel
theorem dX5_restore_18 : decode cX5_restore 18 = .ok (.invokevirtual 82, 3) := by decide +kernel
theorem dX5_restore_21 : decode cX5_restore 21 = .ok (.aload_n 0, 1) := by decide +kernel
theorem dX5_restore_22 : decode cX5_restore 22 = .ok (.getfield 10, 3) := by decide +kernel
theorem dX5_restore_25 : decode cX5_restore 25 = .ok (.aload_n 0, 1) := by decide +kernel
theorem dX5_restore_26 : decode cX5_restore 26 = .ok (.getfield 46, 3) := by decide +kernel
theorem dX5_restore_29 : decode cX5_restore 29 = .ok (.invokevirtual 197, 3) := by decide +kernel
theorem dX5_restore_32 : decode cX5_restore 32 = .ok (.aload_n 0, 1) := by decide +kernel
theorem dX5_restore_33 : decode cX5_restore 33 = .ok (.getfield 20, 3) := by decide +kernel
theorem dX5_restore_36 : decode cX5_restore 36 = .ok (.invokevirtual 200, 3) := by decide +kernel
theorem dX5_restore_39 : decode cX5_restore 39 = .ok (.ireturn, 1) := by decide +kernel
set_option maxRecDepth 20000 in
theorem ggX5_read_X4_isKept : GoodIn wsX5_read wsX4_isKept := goodIn_r _ [6, 7, 8, 9, 10, 5, 11, 12, 43, 44, 45, 46, 47, 48, 49] (by decide +kernel) (by decide +kernel)
set_option maxRecDepth 20000 in
theorem gX5_read_X4_isKept : GoodIn wsX5_read (wsV RX5 90 RX4 yX4_isKept wsX4_isKept) := goodIn_app (goodIn_of _ (by decide +kernel)) ggX5_read_X4_isKept
set_option maxRecDepth 20000 in
theorem ggX5_read_X4_canBeRead : GoodIn wsX5_read wsX4_canBeRead := goodIn_r _ [16, 17, 18, 19, 5, 20, 21, 22, 23, 24, 25, 8, 9, 10, 11, 12, 26, 27, 28, 29, 30, 43, 44, 45, 46, 47, 48, 49] (by decide +kernel) (by decide +kernel)
set_option maxRecDepth 20000 in
theorem gX5_read_X4_canBeRead : GoodIn wsX5_read (wsV RX5 67 RX4 yX4_canBeRead wsX4_canBeRead) := goodIn_app (goodIn_of _ (by decide +kernel)) ggX5_read_X4_canBeRead
set_option maxRecDepth 20000 in
theorem ggX5_read_X4_valueOf : GoodIn wsX5_read wsX4_valueOf := goodIn_r _ [34, 35, 8, 9, 10, 5, 11, 12, 43, 44, 45, 46, 47, 48, 49] (by decide +kernel) (by decide +kernel)
set_option maxRecDepth 20000 in
theorem gX5_read_X4_valueOf : GoodIn wsX5_read (wsV RX5 203 RX4 yX4_valueOf wsX4_valueOf) := goodIn_app (goodIn_of _ (by decide +kernel)) ggX5_read_X4_valueOf
theorem dX5_read_0 : decode cX5_read 0 = .ok (.aload_n 0, 1) := by decide +kernel
theorem dX5_read_1 : decode cX5_read 1 = .ok (.getfield 20, 3) := by decide +kernel
theorem dX5_read_4 : decode cX5_read 4 = .ok (.iload_n 1, 1) := by decide +kernel
theorem dX5_read_5 : decode cX5_read 5 = .ok (.invokevirtual 90, 3) := by decide +kernel
theorem dX5_read_8 : decode cX5_read 8 = .ok (.ifCond .eq 13, 3) := by decide +kernel
theorem dX5_read_11 : decode cX5_read 11 = .ok (.iload_n 2, 1) := by decide +kernel
theorem dX5_read_12 : decode cX5_read 12 = .ok (.ifCond .lt 9, 3) := by decide +kernel
theorem dX5_read_15 : decode cX5_read 15 = .ok (.iload_n 2, 1) := by decide +kernel
theorem dX5_read_16 : decode cX5_read 16 = .ok (.bipush 12, 2) := by decide +kernel
theorem dX5_read_18 : decode cX5_read 18 = .ok (.if_icmp .lt 5, 3) := by decide +kernel
theorem dX5_read_21 : decode cX5_read 21 = .ok (.iconst (-1), 1) := by decide +kernel
theorem dX5_read_22 : decode cX5_read 22 = .ok (.ireturn, 1) := by decide +kernel
theorem dX5_read_23 : decode cX5_read 23 = .ok (.aload_n 0, 1) := by decide +kernel
theorem dX5_read_24 : decode cX5_read 24 = .ok (.getfield 20, 3) := by decide +kernel
theorem dX5_read_27 : decode cX5_read 27 = .ok (.iload_n 1, 1) := by decide +kernel
theorem dX5_read_28 : decode cX5_read 28 = .ok (.invokevirtual 67, 3) := by decide +kernel
theorem dX5_read_31 : decode cX5_read 31 = .ok (.ifCond .eq 15, 3) := by decide +kernel
theorem dX5_read_34 : decode cX5_read 34 = .ok (.aload_n 0, 1) := by decide +kernel
theorem dX5_read_35 : decode cX5_read 35 = .ok (.getfield 20, 3) := by decide +kernel
theorem dX5_read_38 : decode cX5_read 38 = .ok (.iload_n 1, 1) := by decide +kernel
theorem dX5_read_39 : decode cX5_read 39 = .ok (.iload_n 2, 1) := by decide +kernel
theorem dX5_read_40 : decode cX5_read 40 = .ok (.invokevirtual 203, 3) := by decide +kernel
theorem dX5_read_43 : decode cX5_read 43 = .ok (.goto 5, 3) := by decide +kernel
theorem dX5_read_46 : decode cX5_read 46 = .ok (.bipush (-6), 2) := by decide +kernel
theorem dX5_read_48 : decode cX5_read 48 = .ok (.ireturn, 1) := by decide +kernel
set_option maxRecDepth 20000 in
theorem ggX5_version_X4_isNumber : GoodIn wsX5_version wsX4_isNumber := goodIn_r _ [6, 7, 67, 68, 69, 70, 71, 72, 73] (by decide +kernel) (by decide +kernel)
set_option maxRecDepth 20000 in
theorem gX5_version_X4_isNumber : GoodIn wsX5_version (wsV RX5 206 RX4 yX4_isNumber wsX4_isNumber) := goodIn_app (goodIn_of _ (by decide +kernel)) ggX5_version_X4_isNumber
set_option maxRecDepth 20000 in
theorem ggX5_version_X4_kindOf : GoodIn wsX5_version wsX4_kindOf := goodIn_r _ [11, 12, 13, 3, 4, 5, 6, 7, 67, 68, 69, 70, 71, 72, 73] (by decide +kernel) (by decide +kernel)
set_option maxRecDepth 20000 in
theorem gX5_version_X4_kindOf : GoodIn wsX5_version (wsV RX5 209 RX4 yX4_kindOf wsX4_kindOf) := goodIn_app (goodIn_of _ (by decide +kernel)) ggX5_version_X4_kindOf
set_option maxRecDepth 20000 in
theorem ggX5_version_X4_parentOf : GoodIn wsX5_version wsX4_parentOf := goodIn_r _ [17, 18, 13, 3, 4, 5, 6, 7, 67, 68, 69, 70, 71, 72, 73] (by decide +kernel) (by decide +kernel)
set_option maxRecDepth 20000 in
theorem gX5_version_X4_parentOf : GoodIn wsX5_version (wsV RX5 212 RX4 yX4_parentOf wsX4_parentOf) := goodIn_app (goodIn_of _ (by decide +kernel)) ggX5_version_X4_parentOf
set_option maxRecDepth 20000 in
theorem ggX5_version_X4_secondParentOf : GoodIn wsX5_version wsX4_secondParentOf := goodIn_r _ [22, 23, 13, 3, 4, 5, 6, 7, 67, 68, 69, 70, 71, 72, 73] (by decide +kernel) (by decide +kernel)
set_option maxRecDepth 20000 in
theorem gX5_version_X4_secondParentOf : GoodIn wsX5_version (wsV RX5 215 RX4 yX4_secondParentOf wsX4_secondParentOf) := goodIn_app (goodIn_of _ (by decide +kernel)) ggX5_version_X4_secondParentOf
set_option maxRecDepth 20000 in
theorem ggX5_version_X4_baseOf : GoodIn wsX5_version wsX4_baseOf := goodIn_r _ [27, 28, 13, 3, 4, 5, 6, 7, 67, 68, 69, 70, 71, 72, 73] (by decide +kernel) (by decide +kernel)
set_option maxRecDepth 20000 in
theorem gX5_version_X4_baseOf : GoodIn wsX5_version (wsV RX5 129 RX4 yX4_baseOf wsX4_baseOf) := goodIn_app (goodIn_of _ (by decide +kernel)) ggX5_version_X4_baseOf
set_option maxRecDepth 20000 in
theorem ggX5_version_X4_isPresent : GoodIn wsX5_version wsX4_isPresent := goodIn_r _ [32, 12, 13, 3, 4, 5, 6, 7, 67, 68, 69, 70, 71, 72, 73] (by decide +kernel) (by decide +kernel)
set_option maxRecDepth 20000 in
theorem gX5_version_X4_isPresent : GoodIn wsX5_version (wsV RX5 126 RX4 yX4_isPresent wsX4_isPresent) := goodIn_app (goodIn_of _ (by decide +kernel)) ggX5_version_X4_isPresent
set_option maxRecDepth 20000 in
theorem ggX5_version_X4_stepsOf : GoodIn wsX5_version wsX4_stepsOf := goodIn_r _ [36, 37, 25, 26, 5, 27, 28, 13, 3, 4, 6, 7, 67, 68, 69, 70, 71, 72, 73] (by decide +kernel) (by decide +kernel)
set_option maxRecDepth 20000 in
theorem gX5_version_X4_stepsOf : GoodIn wsX5_version (wsV RX5 218 RX4 yX4_stepsOf wsX4_stepsOf) := goodIn_app (goodIn_of _ (by decide +kernel)) ggX5_version_X4_stepsOf
set_option maxRecDepth 20000 in
theorem ggX5_version_X4_costOf : GoodIn wsX5_version wsX4_costOf := goodIn_r _ [41, 42, 30, 31, 5, 32, 12, 13, 3, 4, 6, 7, 37, 25, 26, 27, 28, 43, 44, 45, 46, 47, 48, 49, 50, 67, 68, 69, 70, 71, 72, 73] (by decide +kernel) (by decide +kernel)
set_option maxRecDepth 20000 in
theorem gX5_version_X4_costOf : GoodIn wsX5_version (wsV RX5 150 RX4 yX4_costOf wsX4_costOf) := goodIn_app (goodIn_of _ (by decide +kernel)) ggX5_version_X4_costOf
set_option maxRecDepth 20000 in
theorem ggX5_version_X4_dependants : GoodIn wsX5_version wsX4_dependants := goodIn_r _ [54, 7, 42, 30, 31, 5, 32, 12, 13, 3, 4, 6, 37, 25, 26, 27, 28, 67, 68, 69, 70, 71, 72, 73] (by decide +kernel) (by decide +kernel)
set_option maxRecDepth 20000 in
theorem gX5_version_X4_dependants : GoodIn wsX5_version (wsV RX5 221 RX4 yX4_dependants wsX4_dependants) := goodIn_app (goodIn_of _ (by decide +kernel)) ggX5_version_X4_dependants
set_option maxRecDepth 20000 in
theorem ggX5_version_X4_isSpoiled : GoodIn wsX5_version wsX4_isSpoiled := goodIn_r _ [58, 59, 13, 3, 4, 5, 6, 7, 67, 68, 69, 70, 71, 72, 73] (by decide +kernel) (by decide +kernel)
set_option maxRecDepth 20000 in
theorem gX5_version_X4_isSpoiled : GoodIn wsX5_version (wsV RX5 174 RX4 yX4_isSpoiled wsX4_isSpoiled) := goodIn_app (goodIn_of _ (by decide +kernel)) ggX5_version_X4_isSpoiled
theorem dX5_version_0 : decode cX5_version 0 = .ok (.aload_n 0, 1) := by decide +kernel
theorem dX5_version_1 : decode cX5_version 1 = .ok (.getfield 20, 3) := by decide +kernel
theorem dX5_version_4 : decode cX5_version 4 = .ok (.iload_n 1, 1) := by decide +kernel
theorem dX5_version_5 : decode cX5_version 5 = .ok (.invokevirtual 206, 3) := by decide +kernel
theorem dX5_version_8 : decode cX5_version 8 = .ok (.ifCond .ne 5, 3) := by decide +kernel
theorem dX5_version_11 : decode cX5_version 11 = .ok (.iconst (-1), 1) := by decide +kernel
theorem dX5_version_12 : decode cX5_version 12 = .ok (.ireturn, 1) := by decide +kernel
theorem dX5_version_13 : decode cX5_version 13 = .ok (.iload_n 2, 1) := by decide +kernel
theorem dX5_version_14 : decode cX5_version 14 = .ok (.tableswitch 142 0 7 #[46, 55, 64, 73, 82, 107, 116, 125], 46) := by decide +kernel
theorem dX5_version_60 : decode cX5_version 60 = .ok (.aload_n 0, 1) := by decide +kernel
theorem dX5_version_61 : decode cX5_version 61 = .ok (.getfield 20, 3) := by decide +kernel
theorem dX5_version_64 : decode cX5_version 64 = .ok (.iload_n 1, 1) := by decide +kernel
theorem dX5_version_65 : decode cX5_version 65 = .ok (.invokevirtual 209, 3) := by decide +kernel
theorem dX5_version_68 : decode cX5_version 68 = .ok (.ireturn, 1) := by decide +kernel
theorem dX5_version_69 : decode cX5_version 69 = .ok (.aload_n 0, 1) := by decide +kernel
theorem dX5_version_70 : decode cX5_version 70 = .ok (.getfield 20, 3) := by decide +kernel
theorem dX5_version_73 : decode cX5_version 73 = .ok (.iload_n 1, 1) := by decide +kernel
theorem dX5_version_74 : decode cX5_version 74 = .ok (.invokevirtual 212, 3) := by decide +kernel
theorem dX5_version_77 : decode cX5_version 77 = .ok (.ireturn, 1) := by decide +kernel
theorem dX5_version_78 : decode cX5_version 78 = .ok (.aload_n 0, 1) := by decide +kernel
theorem dX5_version_79 : decode cX5_version 79 = .ok (.getfield 20, 3) := by decide +kernel
theorem dX5_version_82 : decode cX5_version 82 = .ok (.iload_n 1, 1) := by decide +kernel
theorem dX5_version_83 : decode cX5_version 83 = .ok (.invokevirtual 215, 3) := by decide +kernel
theorem dX5_version_86 : decode cX5_version 86 = .ok (.ireturn, 1) := by decide +kernel
theorem dX5_version_87 : decode cX5_version 87 = .ok (.aload_n 0, 1) := by decide +kernel
theorem dX5_version_88 : decode cX5_version 88 = .ok (.getfield 20, 3) := by decide +kernel
theorem dX5_version_91 : decode cX5_version 91 = .ok (.iload_n 1, 1) := by decide +kernel
theorem dX5_version_92 : decode cX5_version 92 = .ok (.invokevirtual 129, 3) := by decide +kernel
theorem dX5_version_95 : decode cX5_version 95 = .ok (.ireturn, 1) := by decide +kernel
theorem dX5_version_96 : decode cX5_version 96 = .ok (.aload_n 0, 1) := by decide +kernel
theorem dX5_version_97 : decode cX5_version 97 = .ok (.getfield 20, 3) := by decide +kernel
theorem dX5_version_100 : decode cX5_version 100 = .ok (.iload_n 1, 1) := by decide +kernel
theorem dX5_version_101 : decode cX5_version 101 = .ok (.invokevirtual 126, 3) := by decide +kernel
theorem dX5_version_104 : decode cX5_version 104 = .ok (.ifCond .eq 14, 3) := by decide +kernel
theorem dX5_version_107 : decode cX5_version 107 = .ok (.aload_n 0, 1) := by decide +kernel
theorem dX5_version_108 : decode cX5_version 108 = .ok (.getfield 20, 3) := by decide +kernel
theorem dX5_version_111 : decode cX5_version 111 = .ok (.iload_n 1, 1) := by decide +kernel
theorem dX5_version_112 : decode cX5_version 112 = .ok (.invokevirtual 218, 3) := by decide +kernel
theorem dX5_version_115 : decode cX5_version 115 = .ok (.goto 5, 3) := by decide +kernel
theorem dX5_version_118 : decode cX5_version 118 = .ok (.bipush (-5), 2) := by decide +kernel
theorem dX5_version_120 : decode cX5_version 120 = .ok (.ireturn, 1) := by decide +kernel
theorem dX5_version_121 : decode cX5_version 121 = .ok (.aload_n 0, 1) := by decide +kernel
theorem dX5_version_122 : decode cX5_version 122 = .ok (.getfield 20, 3) := by decide +kernel
theorem dX5_version_125 : decode cX5_version 125 = .ok (.iload_n 1, 1) := by decide +kernel
theorem dX5_version_126 : decode cX5_version 126 = .ok (.invokevirtual 150, 3) := by decide +kernel
theorem dX5_version_129 : decode cX5_version 129 = .ok (.ireturn, 1) := by decide +kernel
theorem dX5_version_130 : decode cX5_version 130 = .ok (.aload_n 0, 1) := by decide +kernel
theorem dX5_version_131 : decode cX5_version 131 = .ok (.getfield 20, 3) := by decide +kernel
theorem dX5_version_134 : decode cX5_version 134 = .ok (.iload_n 1, 1) := by decide +kernel
theorem dX5_version_135 : decode cX5_version 135 = .ok (.invokevirtual 221, 3) := by decide +kernel
theorem dX5_version_138 : decode cX5_version 138 = .ok (.ireturn, 1) := by decide +kernel
theorem dX5_version_139 : decode cX5_version 139 = .ok (.aload_n 0, 1) := by decide +kernel
theorem dX5_version_140 : decode cX5_version 140 = .ok (.getfield 20, 3) := by decide +kernel
theorem dX5_version_143 : decode cX5_version 143 = .ok (.iload_n 1, 1) := by decide +kernel
theorem dX5_version_144 : decode cX5_version 144 = .ok (.invokevirtual 174, 3) := by decide +kernel
theorem dX5_version_147 : decode cX5_version 147 = .ok (.ifCond .eq 7, 3) := by decide +kernel
theorem dX5_version_150 : decode cX5_version 150 = .ok (.iconst 1, 1) := by decide +kernel
theorem dX5_version_151 : decode cX5_version 151 = .ok (.goto 4, 3) := by decide +kernel
theorem dX5_version_154 : decode cX5_version 154 = .ok (.iconst 0, 1) := by decide +kernel
theorem dX5_version_155 : decode cX5_version 155 = .ok (.ireturn, 1) := by decide +kernel
theorem dX5_version_156 : decode cX5_version 156 = .ok (.bipush (-2), 2) := by decide +kernel
theorem dX5_version_158 : decode cX5_version 158 = .ok (.ireturn, 1) := by decide +kernel
set_option maxRecDepth 20000 in
theorem ggX5_why_X4_isPresent : GoodIn wsX5_why wsX4_isPresent := goodIn_r _ [6, 7, 8, 9, 10, 5, 11, 12, 42, 43, 44, 45, 46, 47, 48] (by decide +kernel) (by decide +kernel)
set_option maxRecDepth 20000 in
theorem gX5_why_X4_isPresent : GoodIn wsX5_why (wsV RX5 126 RX4 yX4_isPresent wsX4_isPresent) := goodIn_app (goodIn_of _ (by decide +kernel)) ggX5_why_X4_isPresent
set_option maxRecDepth 20000 in
theorem ggX5_why_X4_blamedFor : GoodIn wsX5_why wsX4_blamedFor := goodIn_r _ [16, 17, 18, 19, 5, 20, 21, 8, 9, 10, 11, 12, 22, 23, 24, 25, 26, 42, 43, 44, 45, 46, 47, 48] (by decide +kernel) (by decide +kernel)
set_option maxRecDepth 20000 in
theorem gX5_why_X4_blamedFor : GoodIn wsX5_why (wsV RX5 224 RX4 yX4_blamedFor wsX4_blamedFor) := goodIn_app (goodIn_of _ (by decide +kernel)) ggX5_why_X4_blamedFor
set_option maxRecDepth 20000 in
theorem ggX5_why_X4_distance : GoodIn wsX5_why wsX4_distance := goodIn_r _ [30, 22, 23, 24, 5, 25, 26, 8, 9, 10, 11, 12, 42, 43, 44, 45, 46, 47, 48] (by decide +kernel) (by decide +kernel)
set_option maxRecDepth 20000 in
theorem gX5_why_X4_distance : GoodIn wsX5_why (wsV RX5 227 RX4 yX4_distance wsX4_distance) := goodIn_app (goodIn_of _ (by decide +kernel)) ggX5_why_X4_distance
set_option maxRecDepth 20000 in
theorem ggX5_why_X4_spoiledOnWay : GoodIn wsX5_why wsX4_spoiledOnWay := goodIn_r _ [34, 17, 18, 19, 5, 20, 21, 8, 9, 10, 11, 12, 22, 23, 24, 25, 26, 42, 43, 44, 45, 46, 47, 48] (by decide +kernel) (by decide +kernel)
set_option maxRecDepth 20000 in
theorem gX5_why_X4_spoiledOnWay : GoodIn wsX5_why (wsV RX5 230 RX4 yX4_spoiledOnWay wsX4_spoiledOnWay) := goodIn_app (goodIn_of _ (by decide +kernel)) ggX5_why_X4_spoiledOnWay
theorem dX5_why_0 : decode cX5_why 0 = .ok (.aload_n 0, 1) := by decide +kernel
theorem dX5_why_1 : decode cX5_why 1 = .ok (.getfield 20, 3) := by decide +kernel
theorem dX5_why_4 : decode cX5_why 4 = .ok (.iload_n 1, 1) := by decide +kernel
theorem dX5_why_5 : decode cX5_why 5 = .ok (.invokevirtual 126, 3) := by decide +kernel
theorem dX5_why_8 : decode cX5_why 8 = .ok (.ifCond .ne 5, 3) := by decide +kernel
theorem dX5_why_11 : decode cX5_why 11 = .ok (.iconst (-1), 1) := by decide +kernel
theorem dX5_why_12 : decode cX5_why 12 = .ok (.ireturn, 1) := by decide +kernel
theorem dX5_why_13 : decode cX5_why 13 = .ok (.iload_n 2, 1) := by decide +kernel
theorem dX5_why_14 : decode cX5_why 14 = .ok (.ifCond .lt 8, 3) := by decide +kernel
theorem dX5_why_17 : decode cX5_why 17 = .ok (.iload_n 2, 1) := by decide +kernel
theorem dX5_why_18 : decode cX5_why 18 = .ok (.iconst 2, 1) := by decide +kernel
theorem dX5_why_19 : decode cX5_why 19 = .ok (.if_icmp .le 6, 3) := by decide +kernel
theorem dX5_why_22 : decode cX5_why 22 = .ok (.bipush (-2), 2) := by decide +kernel
theorem dX5_why_24 : decode cX5_why 24 = .ok (.ireturn, 1) := by decide +kernel
theorem dX5_why_25 : decode cX5_why 25 = .ok (.aload_n 0, 1) := by decide +kernel
theorem dX5_why_26 : decode cX5_why 26 = .ok (.getfield 20, 3) := by decide +kernel
theorem dX5_why_29 : decode cX5_why 29 = .ok (.iload_n 1, 1) := by decide +kernel
theorem dX5_why_30 : decode cX5_why 30 = .ok (.invokevirtual 224, 3) := by decide +kernel
theorem dX5_why_33 : decode cX5_why 33 = .ok (.istore_n 3, 1) := by decide +kernel
theorem dX5_why_34 : decode cX5_why 34 = .ok (.iload_n 3, 1) := by decide +kernel
theorem dX5_why_35 : decode cX5_why 35 = .ok (.ifCond .ge 6, 3) := by decide +kernel
theorem dX5_why_38 : decode cX5_why 38 = .ok (.bipush (-5), 2) := by decide +kernel
theorem dX5_why_40 : decode cX5_why 40 = .ok (.ireturn, 1) := by decide +kernel
theorem dX5_why_41 : decode cX5_why 41 = .ok (.iload_n 2, 1) := by decide +kernel
theorem dX5_why_42 : decode cX5_why 42 = .ok (.ifCond .ne 5, 3) := by decide +kernel
theorem dX5_why_45 : decode cX5_why 45 = .ok (.iload_n 3, 1) := by decide +kernel
theorem dX5_why_46 : decode cX5_why 46 = .ok (.ireturn, 1) := by decide +kernel
theorem dX5_why_47 : decode cX5_why 47 = .ok (.iload_n 2, 1) := by decide +kernel
theorem dX5_why_48 : decode cX5_why 48 = .ok (.iconst 1, 1) := by decide +kernel
theorem dX5_why_49 : decode cX5_why 49 = .ok (.if_icmp .ne 15, 3) := by decide +kernel
theorem dX5_why_52 : decode cX5_why 52 = .ok (.aload_n 0, 1) := by decide +kernel
theorem dX5_why_53 : decode cX5_why 53 = .ok (.getfield 20, 3) := by decide +kernel
theorem dX5_why_56 : decode cX5_why 56 = .ok (.iload_n 1, 1) := by decide +kernel
theorem dX5_why_57 : decode cX5_why 57 = .ok (.iload_n 3, 1) := by decide +kernel
theorem dX5_why_58 : decode cX5_why 58 = .ok (.invokevirtual 227, 3) := by decide +kernel
theorem dX5_why_61 : decode cX5_why 61 = .ok (.goto 11, 3) := by decide +kernel
theorem dX5_why_64 : decode cX5_why 64 = .ok (.aload_n 0, 1) := by decide +kernel
theorem dX5_why_65 : decode cX5_why 65 = .ok (.getfield 20, 3) := by decide +kernel
theorem dX5_why_68 : decode cX5_why 68 = .ok (.iload_n 1, 1) := by decide +kernel
theorem dX5_why_69 : decode cX5_why 69 = .ok (.invokevirtual 230, 3) := by decide +kernel
theorem dX5_why_72 : decode cX5_why 72 = .ok (.ireturn, 1) := by decide +kernel
set_option maxRecDepth 20000 in
theorem ggX5_way_X4_isPresent : GoodIn wsX5_way wsX4_isPresent := goodIn_r _ [6, 7, 8, 9, 10, 5, 11, 12, 29, 30, 31, 32, 33, 34, 35] (by decide +kernel) (by decide +kernel)
set_option maxRecDepth 20000 in
theorem gX5_way_X4_isPresent : GoodIn wsX5_way (wsV RX5 126 RX4 yX4_isPresent wsX4_isPresent) := goodIn_app (goodIn_of _ (by decide +kernel)) ggX5_way_X4_isPresent
set_option maxRecDepth 20000 in
theorem ggX5_way_X4_onWay : GoodIn wsX5_way wsX4_onWay := goodIn_r _ [16, 17, 18, 19, 5, 20, 21, 8, 9, 10, 11, 12, 29, 30, 31, 32, 33, 34, 35] (by decide +kernel) (by decide +kernel)
set_option maxRecDepth 20000 in
theorem gX5_way_X4_onWay : GoodIn wsX5_way (wsV RX5 233 RX4 yX4_onWay wsX4_onWay) := goodIn_app (goodIn_of _ (by decide +kernel)) ggX5_way_X4_onWay
theorem dX5_way_0 : decode cX5_way 0 = .ok (.aload_n 0, 1) := by decide +kernel
theorem dX5_way_1 : decode cX5_way 1 = .ok (.getfield 20, 3) := by decide +kernel
theorem dX5_way_4 : decode cX5_way 4 = .ok (.iload_n 1, 1) := by decide +kernel
theorem dX5_way_5 : decode cX5_way 5 = .ok (.invokevirtual 126, 3) := by decide +kernel
theorem dX5_way_8 : decode cX5_way 8 = .ok (.ifCond .ne 5, 3) := by decide +kernel
theorem dX5_way_11 : decode cX5_way 11 = .ok (.iconst (-1), 1) := by decide +kernel
theorem dX5_way_12 : decode cX5_way 12 = .ok (.ireturn, 1) := by decide +kernel
theorem dX5_way_13 : decode cX5_way 13 = .ok (.iload_n 2, 1) := by decide +kernel
theorem dX5_way_14 : decode cX5_way 14 = .ok (.ifCond .ge 6, 3) := by decide +kernel
theorem dX5_way_17 : decode cX5_way 17 = .ok (.bipush (-2), 2) := by decide +kernel
theorem dX5_way_19 : decode cX5_way 19 = .ok (.ireturn, 1) := by decide +kernel
theorem dX5_way_20 : decode cX5_way 20 = .ok (.aload_n 0, 1) := by decide +kernel
theorem dX5_way_21 : decode cX5_way 21 = .ok (.getfield 20, 3) := by decide +kernel
theorem dX5_way_24 : decode cX5_way 24 = .ok (.iload_n 1, 1) := by decide +kernel
theorem dX5_way_25 : decode cX5_way 25 = .ok (.iload_n 2, 1) := by decide +kernel
theorem dX5_way_26 : decode cX5_way 26 = .ok (.invokevirtual 233, 3) := by decide +kernel
theorem dX5_way_29 : decode cX5_way 29 = .ok (.ireturn, 1) := by decide +kernel
set_option maxRecDepth 20000 in
theorem ggX5_differ_X4_isPresent : GoodIn wsX5_differ wsX4_isPresent := goodIn_r _ [6, 7, 8, 9, 10, 5, 11, 12, 43, 44, 45, 46, 47, 48, 49] (by decide +kernel) (by decide +kernel)
set_option maxRecDepth 20000 in
theorem gX5_differ_X4_isPresent : GoodIn wsX5_differ (wsV RX5 126 RX4 yX4_isPresent wsX4_isPresent) := goodIn_app (goodIn_of _ (by decide +kernel)) ggX5_differ_X4_isPresent
set_option maxRecDepth 20000 in
theorem ggX5_differ_X4_canBeRead : GoodIn wsX5_differ wsX4_canBeRead := goodIn_r _ [16, 17, 18, 19, 5, 20, 21, 22, 23, 24, 25, 8, 9, 10, 11, 12, 26, 27, 28, 29, 30, 43, 44, 45, 46, 47, 48, 49] (by decide +kernel) (by decide +kernel)
set_option maxRecDepth 20000 in
theorem gX5_differ_X4_canBeRead : GoodIn wsX5_differ (wsV RX5 67 RX4 yX4_canBeRead wsX4_canBeRead) := goodIn_app (goodIn_of _ (by decide +kernel)) ggX5_differ_X4_canBeRead
set_option maxRecDepth 20000 in
theorem ggX5_differ_X4_differing : GoodIn wsX5_differ wsX4_differing := goodIn_r _ [34, 35, 8, 9, 10, 5, 11, 12, 43, 44, 45, 46, 47, 48, 49] (by decide +kernel) (by decide +kernel)
set_option maxRecDepth 20000 in
theorem gX5_differ_X4_differing : GoodIn wsX5_differ (wsV RX5 236 RX4 yX4_differing wsX4_differing) := goodIn_app (goodIn_of _ (by decide +kernel)) ggX5_differ_X4_differing
theorem dX5_differ_0 : decode cX5_differ 0 = .ok (.aload_n 0, 1) := by decide +kernel
theorem dX5_differ_1 : decode cX5_differ 1 = .ok (.getfield 20, 3) := by decide +kernel
theorem dX5_differ_4 : decode cX5_differ 4 = .ok (.iload_n 1, 1) := by decide +kernel
theorem dX5_differ_5 : decode cX5_differ 5 = .ok (.invokevirtual 126, 3) := by decide +kernel
theorem dX5_differ_8 : decode cX5_differ 8 = .ok (.ifCond .eq 14, 3) := by decide +kernel
theorem dX5_differ_11 : decode cX5_differ 11 = .ok (.aload_n 0, 1) := by decide +kernel
theorem dX5_differ_12 : decode cX5_differ 12 = .ok (.getfield 20, 3) := by decide +kernel
theorem dX5_differ_15 : decode cX5_differ 15 = .ok (.iload_n 2, 1) := by decide +kernel
theorem dX5_differ_16 : decode cX5_differ 16 = .ok (.invokevirtual 126, 3) := by decide +kernel
theorem dX5_differ_19 : decode cX5_differ 19 = .ok (.ifCond .ne 5, 3) := by decide +kernel
theorem dX5_differ_22 : decode cX5_differ 22 = .ok (.iconst (-1), 1) := by decide +kernel
theorem dX5_differ_23 : decode cX5_differ 23 = .ok (.ireturn, 1) := by decide +kernel
theorem dX5_differ_24 : decode cX5_differ 24 = .ok (.aload_n 0, 1) := by decide +kernel
theorem dX5_differ_25 : decode cX5_differ 25 = .ok (.getfield 20, 3) := by decide +kernel
theorem dX5_differ_28 : decode cX5_differ 28 = .ok (.iload_n 1, 1) := by decide +kernel
theorem dX5_differ_29 : decode cX5_differ 29 = .ok (.invokevirtual 67, 3) := by decide +kernel
theorem dX5_differ_32 : decode cX5_differ 32 = .ok (.ifCond .eq 14, 3) := by decide +kernel
theorem dX5_differ_35 : decode cX5_differ 35 = .ok (.aload_n 0, 1) := by decide +kernel
theorem dX5_differ_36 : decode cX5_differ 36 = .ok (.getfield 20, 3) := by decide +kernel
theorem dX5_differ_39 : decode cX5_differ 39 = .ok (.iload_n 2, 1) := by decide +kernel
theorem dX5_differ_40 : decode cX5_differ 40 = .ok (.invokevirtual 67, 3) := by decide +kernel
theorem dX5_differ_43 : decode cX5_differ 43 = .ok (.ifCond .ne 6, 3) := by decide +kernel
theorem dX5_differ_46 : decode cX5_differ 46 = .ok (.bipush (-6), 2) := by decide +kernel
theorem dX5_differ_48 : decode cX5_differ 48 = .ok (.ireturn, 1) := by decide +kernel
theorem dX5_differ_49 : decode cX5_differ 49 = .ok (.aload_n 0, 1) := by decide +kernel
theorem dX5_differ_50 : decode cX5_differ 50 = .ok (.getfield 20, 3) := by decide +kernel
theorem dX5_differ_53 : decode cX5_differ 53 = .ok (.iload_n 1, 1) := by decide +kernel
theorem dX5_differ_54 : decode cX5_differ 54 = .ok (.iload_n 2, 1) := by decide +kernel
theorem dX5_differ_55 : decode cX5_differ 55 = .ok (.invokevirtual 236, 3) := by decide +kernel
theorem dX5_differ_58 : decode cX5_differ 58 = .ok (.ireturn, 1) := by decide +kernel
set_option maxRecDepth 20000 in
theorem ggX5_bestBase_X4_isPresent : GoodIn wsX5_bestBase wsX4_isPresent := goodIn_r _ [8, 9, 10, 11, 12, 7, 13, 14, 84, 85, 86, 87, 88, 89, 90] (by decide +kernel) (by decide +kernel)
set_option maxRecDepth 20000 in
theorem gX5_bestBase_X4_isPresent : GoodIn wsX5_bestBase (wsV RX5 126 RX4 yX4_isPresent wsX4_isPresent) := goodIn_app (goodIn_of _ (by decide +kernel)) ggX5_bestBase_X4_isPresent
set_option maxRecDepth 20000 in
theorem ggX5_bestBase_X4_canBeRead : GoodIn wsX5_bestBase wsX4_canBeRead := goodIn_r _ [18, 19, 20, 21, 7, 22, 23, 24, 25, 26, 27, 10, 11, 12, 13, 14, 28, 29, 30, 31, 32, 84, 85, 86, 87, 88, 89, 90] (by decide +kernel) (by decide +kernel)
set_option maxRecDepth 20000 in
theorem gX5_bestBase_X4_canBeRead : GoodIn wsX5_bestBase (wsV RX5 67 RX4 yX4_canBeRead wsX4_canBeRead) := goodIn_app (goodIn_of _ (by decide +kernel)) ggX5_bestBase_X4_canBeRead
set_option maxRecDepth 20000 in
theorem ggX5_bestBase_X4_cheapestBase : GoodIn wsX5_bestBase wsX4_cheapestBase := goodIn_r _ [36, 14, 37, 38, 39, 7, 40, 41, 42, 43, 44, 45, 5, 6, 8, 9, 10, 11, 12, 13, 46, 47, 48, 49, 28, 29, 30, 31, 32, 50, 16, 17, 18, 19, 20, 21, 22, 23, 24, 25, 26, 27, 51, 52, 53, 54, 55, 56, 57, 58, 59, 60, 61, 62, 63, 64, 65, 66, 67, 68, 69, 70, 84, 85, 86, 87, 88, 89, 90] (by decide +kernel) (by decide +kernel)
set_option maxRecDepth 20000 in
theorem gX5_bestBase_X4_cheapestBase : GoodIn wsX5_bestBase (wsV RX5 239 RX4 yX4_cheapestBase wsX4_cheapestBase) := goodIn_app (goodIn_of _ (by decide +kernel)) ggX5_bestBase_X4_cheapestBase
theorem dX5_bestBase_0 : decode cX5_bestBase 0 = .ok (.aload_n 0, 1) := by decide +kernel
theorem dX5_bestBase_1 : decode cX5_bestBase 1 = .ok (.getfield 20, 3) := by decide +kernel
theorem dX5_bestBase_4 : decode cX5_bestBase 4 = .ok (.iload_n 1, 1) := by decide +kernel
theorem dX5_bestBase_5 : decode cX5_bestBase 5 = .ok (.invokevirtual 126, 3) := by decide +kernel
theorem dX5_bestBase_8 : decode cX5_bestBase 8 = .ok (.ifCond .ne 5, 3) := by decide +kernel
theorem dX5_bestBase_11 : decode cX5_bestBase 11 = .ok (.iconst (-1), 1) := by decide +kernel
theorem dX5_bestBase_12 : decode cX5_bestBase 12 = .ok (.ireturn, 1) := by decide +kernel
theorem dX5_bestBase_13 : decode cX5_bestBase 13 = .ok (.aload_n 0, 1) := by decide +kernel
theorem dX5_bestBase_14 : decode cX5_bestBase 14 = .ok (.getfield 20, 3) := by decide +kernel
theorem dX5_bestBase_17 : decode cX5_bestBase 17 = .ok (.iload_n 1, 1) := by decide +kernel
theorem dX5_bestBase_18 : decode cX5_bestBase 18 = .ok (.invokevirtual 67, 3) := by decide +kernel
theorem dX5_bestBase_21 : decode cX5_bestBase 21 = .ok (.ifCond .ne 6, 3) := by decide +kernel
theorem dX5_bestBase_24 : decode cX5_bestBase 24 = .ok (.bipush (-6), 2) := by decide +kernel
theorem dX5_bestBase_26 : decode cX5_bestBase 26 = .ok (.ireturn, 1) := by decide +kernel
theorem dX5_bestBase_27 : decode cX5_bestBase 27 = .ok (.aload_n 0, 1) := by decide +kernel
theorem dX5_bestBase_28 : decode cX5_bestBase 28 = .ok (.getfield 20, 3) := by decide +kernel
theorem dX5_bestBase_31 : decode cX5_bestBase 31 = .ok (.iload_n 1, 1) := by decide +kernel
theorem dX5_bestBase_32 : decode cX5_bestBase 32 = .ok (.aload_n 0, 1) := by decide +kernel
theorem dX5_bestBase_33 : decode cX5_bestBase 33 = .ok (.getfield 10, 3) := by decide +kernel
theorem dX5_bestBase_36 : decode cX5_bestBase 36 = .ok (.getfield 147, 3) := by decide +kernel
theorem dX5_bestBase_39 : decode cX5_bestBase 39 = .ok (.invokevirtual 239, 3) := by decide +kernel
theorem dX5_bestBase_42 : decode cX5_bestBase 42 = .ok (.ireturn, 1) := by decide +kernel
set_option maxRecDepth 20000 in
theorem ggX5_common_X3_isHead : GoodIn wsX5_common wsX3_isHead := goodIn_r _ [7, 8, 72, 73, 74, 75, 76, 77] (by decide +kernel) (by decide +kernel)
set_option maxRecDepth 20000 in
theorem gX5_common_X3_isHead : GoodIn wsX5_common (wsV RX5 55 RX3 yX3_isHead wsX3_isHead) := goodIn_app (goodIn_of _ (by decide +kernel)) ggX5_common_X3_isHead
set_option maxRecDepth 20000 in
theorem ggX5_common_X3_placeOf : GoodIn wsX5_common wsX3_placeOf := goodIn_r _ [12, 13, 14, 4, 5, 6, 7, 8, 72, 73, 74, 75, 76, 77] (by decide +kernel) (by decide +kernel)
set_option maxRecDepth 20000 in
theorem gX5_common_X3_placeOf : GoodIn wsX5_common (wsV RX5 63 RX3 yX3_placeOf wsX3_placeOf) := goodIn_app (goodIn_of _ (by decide +kernel)) ggX5_common_X3_placeOf
set_option maxRecDepth 20000 in
theorem ggX5_common_X4_commonAncestor : GoodIn wsX5_common wsX4_commonAncestor := goodIn_r _ [19, 20, 21, 22, 23, 18, 24, 25, 26, 27, 28, 29, 30, 31, 32, 33, 34, 35, 36, 37, 38, 39, 40, 41, 42, 43, 44, 45, 46, 47, 48, 49, 50, 51, 52, 53, 54, 55, 56, 57, 58, 59, 60, 61, 62, 63, 64, 78, 79, 80, 81, 82, 83, 84] (by decide +kernel) (by decide +kernel)
set_option maxRecDepth 20000 in
theorem gX5_common_X4_commonAncestor : GoodIn wsX5_common (wsV RX5 103 RX4 yX4_commonAncestor wsX4_commonAncestor) := goodIn_app (goodIn_of _ (by decide +kernel)) ggX5_common_X4_commonAncestor
theorem dX5_common_0 : decode cX5_common 0 = .ok (.aload_n 0, 1) := by decide +kernel
theorem dX5_common_1 : decode cX5_common 1 = .ok (.getfield 10, 3) := by decide +kernel
theorem dX5_common_4 : decode cX5_common 4 = .ok (.iload_n 1, 1) := by decide +kernel
theorem dX5_common_5 : decode cX5_common 5 = .ok (.invokevirtual 55, 3) := by decide +kernel
theorem dX5_common_8 : decode cX5_common 8 = .ok (.ifCond .eq 14, 3) := by decide +kernel
theorem dX5_common_11 : decode cX5_common 11 = .ok (.aload_n 0, 1) := by decide +kernel
theorem dX5_common_12 : decode cX5_common 12 = .ok (.getfield 10, 3) := by decide +kernel
theorem dX5_common_15 : decode cX5_common 15 = .ok (.iload_n 2, 1) := by decide +kernel
theorem dX5_common_16 : decode cX5_common 16 = .ok (.invokevirtual 55, 3) := by decide +kernel
theorem dX5_common_19 : decode cX5_common 19 = .ok (.ifCond .ne 5, 3) := by decide +kernel
theorem dX5_common_22 : decode cX5_common 22 = .ok (.iconst (-1), 1) := by decide +kernel
theorem dX5_common_23 : decode cX5_common 23 = .ok (.ireturn, 1) := by decide +kernel
theorem dX5_common_24 : decode cX5_common 24 = .ok (.aload_n 0, 1) := by decide +kernel
theorem dX5_common_25 : decode cX5_common 25 = .ok (.getfield 20, 3) := by decide +kernel
theorem dX5_common_28 : decode cX5_common 28 = .ok (.aload_n 0, 1) := by decide +kernel
theorem dX5_common_29 : decode cX5_common 29 = .ok (.getfield 10, 3) := by decide +kernel
theorem dX5_common_32 : decode cX5_common 32 = .ok (.iload_n 1, 1) := by decide +kernel
theorem dX5_common_33 : decode cX5_common 33 = .ok (.invokevirtual 63, 3) := by decide +kernel
theorem dX5_common_36 : decode cX5_common 36 = .ok (.aload_n 0, 1) := by decide +kernel
theorem dX5_common_37 : decode cX5_common 37 = .ok (.getfield 10, 3) := by decide +kernel
theorem dX5_common_40 : decode cX5_common 40 = .ok (.iload_n 2, 1) := by decide +kernel
theorem dX5_common_41 : decode cX5_common 41 = .ok (.invokevirtual 63, 3) := by decide +kernel
theorem dX5_common_44 : decode cX5_common 44 = .ok (.invokevirtual 103, 3) := by decide +kernel
theorem dX5_common_47 : decode cX5_common 47 = .ok (.ireturn, 1) := by decide +kernel
set_option maxRecDepth 20000 in
theorem ggX5_head_X3_isHead : GoodIn wsX5_head wsX3_isHead := goodIn_r _ [6, 7, 21, 22, 23, 24, 25, 26] (by decide +kernel) (by decide +kernel)
set_option maxRecDepth 20000 in
theorem gX5_head_X3_isHead : GoodIn wsX5_head (wsV RX5 55 RX3 yX3_isHead wsX3_isHead) := goodIn_app (goodIn_of _ (by decide +kernel)) ggX5_head_X3_isHead
set_option maxRecDepth 20000 in
theorem ggX5_head_X3_placeOf : GoodIn wsX5_head wsX3_placeOf := goodIn_r _ [11, 12, 13, 3, 4, 5, 6, 7, 21, 22, 23, 24, 25, 26] (by decide +kernel) (by decide +kernel)
set_option maxRecDepth 20000 in
theorem gX5_head_X3_placeOf : GoodIn wsX5_head (wsV RX5 63 RX3 yX3_placeOf wsX3_placeOf) := goodIn_app (goodIn_of _ (by decide +kernel)) ggX5_head_X3_placeOf
theorem dX5_head_0 : decode cX5_head 0 = .ok (.aload_n 0, 1) := by decide +kernel
theorem dX5_head_1 : decode cX5_head 1 = .ok (.getfield 10, 3) := by decide +kernel
theorem dX5_head_4 : decode cX5_head 4 = .ok (.iload_n 1, 1) := by decide +kernel
theorem dX5_head_5 : decode cX5_head 5 = .ok (.invokevirtual 55, 3) := by decide +kernel
theorem dX5_head_8 : decode cX5_head 8 = .ok (.ifCond .eq 14, 3) := by decide +kernel
theorem dX5_head_11 : decode cX5_head 11 = .ok (.aload_n 0, 1) := by decide +kernel
theorem dX5_head_12 : decode cX5_head 12 = .ok (.getfield 10, 3) := by decide +kernel
theorem dX5_head_15 : decode cX5_head 15 = .ok (.iload_n 1, 1) := by decide +kernel
theorem dX5_head_16 : decode cX5_head 16 = .ok (.invokevirtual 63, 3) := by decide +kernel
theorem dX5_head_19 : decode cX5_head 19 = .ok (.goto 4, 3) := by decide +kernel
theorem dX5_head_22 : decode cX5_head 22 = .ok (.iconst (-1), 1) := by decide +kernel
theorem dX5_head_23 : decode cX5_head 23 = .ok (.ireturn, 1) := by decide +kernel
set_option maxRecDepth 20000 in
theorem ggX5_count_X4_ofKind : GoodIn wsX5_count wsX4_ofKind := goodIn_r _ [16, 17, 18, 19, 20, 15, 21, 22, 23, 24, 25, 26, 92, 93, 94, 95, 96, 97, 98] (by decide +kernel) (by decide +kernel)
set_option maxRecDepth 20000 in
theorem gX5_count_X4_ofKind : GoodIn wsX5_count (wsV RX5 242 RX4 yX4_ofKind wsX4_ofKind) := goodIn_app (goodIn_of _ (by decide +kernel)) ggX5_count_X4_ofKind
set_option maxRecDepth 20000 in
theorem ggX5_count_X4_totalCost : GoodIn wsX5_count wsX4_totalCost := goodIn_r _ [30, 17, 31, 32, 33, 15, 34, 35, 36, 37, 38, 22, 23, 24, 25, 26, 39, 40, 41, 42, 43, 44, 45, 46, 47, 48, 49, 50, 51, 92, 93, 94, 95, 96, 97, 98] (by decide +kernel) (by decide +kernel)
set_option maxRecDepth 20000 in
theorem gX5_count_X4_totalCost : GoodIn wsX5_count (wsV RX5 132 RX4 yX4_totalCost wsX4_totalCost) := goodIn_app (goodIn_of _ (by decide +kernel)) ggX5_count_X4_totalCost
set_option maxRecDepth 20000 in
theorem ggX5_count_X4_storedWhole : GoodIn wsX5_count wsX4_storedWhole := goodIn_r _ [55, 17, 35, 36, 37, 15, 38, 22, 23, 24, 25, 26, 39, 40, 41, 42, 43, 92, 93, 94, 95, 96, 97, 98] (by decide +kernel) (by decide +kernel)
set_option maxRecDepth 20000 in
theorem gX5_count_X4_storedWhole : GoodIn wsX5_count (wsV RX5 245 RX4 yX4_storedWhole wsX4_storedWhole) := goodIn_app (goodIn_of _ (by decide +kernel)) ggX5_count_X4_storedWhole
set_option maxRecDepth 20000 in
theorem ggX5_count_X4_mostSteps : GoodIn wsX5_count wsX4_mostSteps := goodIn_r _ [59, 17, 60, 61, 62, 63, 35, 36, 37, 15, 38, 22, 23, 24, 25, 26, 64, 65, 66, 67, 39, 40, 41, 42, 43, 92, 93, 94, 95, 96, 97, 98] (by decide +kernel) (by decide +kernel)
set_option maxRecDepth 20000 in
theorem gX5_count_X4_mostSteps : GoodIn wsX5_count (wsV RX5 153 RX4 yX4_mostSteps wsX4_mostSteps) := goodIn_app (goodIn_of _ (by decide +kernel)) ggX5_count_X4_mostSteps
set_option maxRecDepth 20000 in
theorem ggX5_count_X4_unreadable : GoodIn wsX5_count wsX4_unreadable := goodIn_r _ [71, 17, 35, 36, 37, 15, 38, 22, 23, 24, 25, 26, 72, 73, 74, 75, 76, 77, 78, 79, 80, 81, 82, 83, 84, 39, 40, 41, 42, 43, 92, 93, 94, 95, 96, 97, 98] (by decide +kernel) (by decide +kernel)
set_option maxRecDepth 20000 in
theorem gX5_count_X4_unreadable : GoodIn wsX5_count (wsV RX5 156 RX4 yX4_unreadable wsX4_unreadable) := goodIn_app (goodIn_of _ (by decide +kernel)) ggX5_count_X4_unreadable
theorem dX5_count_0 : decode cX5_count 0 = .ok (.iload_n 1, 1) := by decide +kernel
theorem dX5_count_1 : decode cX5_count 1 = .ok (.tableswitch 186 0 13 #[71, 79, 88, 97, 106, 114, 122, 130, 138, 146, 154, 162, 170, 178], 71) := by decide +kernel
theorem dX5_count_72 : decode cX5_count 72 = .ok (.aload_n 0, 1) := by decide +kernel
theorem dX5_count_73 : decode cX5_count 73 = .ok (.getfield 20, 3) := by decide +kernel
theorem dX5_count_76 : decode cX5_count 76 = .ok (.getfield 70, 3) := by decide +kernel
theorem dX5_count_79 : decode cX5_count 79 = .ok (.ireturn, 1) := by decide +kernel
theorem dX5_count_80 : decode cX5_count 80 = .ok (.aload_n 0, 1) := by decide +kernel
theorem dX5_count_81 : decode cX5_count 81 = .ok (.getfield 20, 3) := by decide +kernel
theorem dX5_count_84 : decode cX5_count 84 = .ok (.iconst 0, 1) := by decide +kernel
theorem dX5_count_85 : decode cX5_count 85 = .ok (.invokevirtual 242, 3) := by decide +kernel
theorem dX5_count_88 : decode cX5_count 88 = .ok (.ireturn, 1) := by decide +kernel
theorem dX5_count_89 : decode cX5_count 89 = .ok (.aload_n 0, 1) := by decide +kernel
theorem dX5_count_90 : decode cX5_count 90 = .ok (.getfield 20, 3) := by decide +kernel
theorem dX5_count_93 : decode cX5_count 93 = .ok (.iconst 1, 1) := by decide +kernel
theorem dX5_count_94 : decode cX5_count 94 = .ok (.invokevirtual 242, 3) := by decide +kernel
theorem dX5_count_97 : decode cX5_count 97 = .ok (.ireturn, 1) := by decide +kernel
theorem dX5_count_98 : decode cX5_count 98 = .ok (.aload_n 0, 1) := by decide +kernel
theorem dX5_count_99 : decode cX5_count 99 = .ok (.getfield 20, 3) := by decide +kernel
theorem dX5_count_102 : decode cX5_count 102 = .ok (.iconst 2, 1) := by decide +kernel
theorem dX5_count_103 : decode cX5_count 103 = .ok (.invokevirtual 242, 3) := by decide +kernel
theorem dX5_count_106 : decode cX5_count 106 = .ok (.ireturn, 1) := by decide +kernel
theorem dX5_count_107 : decode cX5_count 107 = .ok (.aload_n 0, 1) := by decide +kernel
theorem dX5_count_108 : decode cX5_count 108 = .ok (.getfield 10, 3) := by decide +kernel
theorem dX5_count_111 : decode cX5_count 111 = .ok (.getfield 93, 3) := by decide +kernel
theorem dX5_count_114 : decode cX5_count 114 = .ok (.ireturn, 1) := by decide +kernel
theorem dX5_count_115 : decode cX5_count 115 = .ok (.aload_n 0, 1) := by decide +kernel
theorem dX5_count_116 : decode cX5_count 116 = .ok (.getfield 10, 3) := by decide +kernel
theorem dX5_count_119 : decode cX5_count 119 = .ok (.getfield 147, 3) := by decide +kernel
theorem dX5_count_122 : decode cX5_count 122 = .ok (.ireturn, 1) := by decide +kernel
theorem dX5_count_123 : decode cX5_count 123 = .ok (.aload_n 0, 1) := by decide +kernel
theorem dX5_count_124 : decode cX5_count 124 = .ok (.getfield 20, 3) := by decide +kernel
theorem dX5_count_127 : decode cX5_count 127 = .ok (.invokevirtual 132, 3) := by decide +kernel
theorem dX5_count_130 : decode cX5_count 130 = .ok (.ireturn, 1) := by decide +kernel
theorem dX5_count_131 : decode cX5_count 131 = .ok (.aload_n 0, 1) := by decide +kernel
theorem dX5_count_132 : decode cX5_count 132 = .ok (.getfield 20, 3) := by decide +kernel
theorem dX5_count_135 : decode cX5_count 135 = .ok (.invokevirtual 245, 3) := by decide +kernel
theorem dX5_count_138 : decode cX5_count 138 = .ok (.ireturn, 1) := by decide +kernel
theorem dX5_count_139 : decode cX5_count 139 = .ok (.aload_n 0, 1) := by decide +kernel
theorem dX5_count_140 : decode cX5_count 140 = .ok (.getfield 20, 3) := by decide +kernel
theorem dX5_count_143 : decode cX5_count 143 = .ok (.invokevirtual 153, 3) := by decide +kernel
theorem dX5_count_146 : decode cX5_count 146 = .ok (.ireturn, 1) := by decide +kernel
theorem dX5_count_147 : decode cX5_count 147 = .ok (.aload_n 0, 1) := by decide +kernel
theorem dX5_count_148 : decode cX5_count 148 = .ok (.getfield 20, 3) := by decide +kernel
theorem dX5_count_151 : decode cX5_count 151 = .ok (.invokevirtual 156, 3) := by decide +kernel
theorem dX5_count_154 : decode cX5_count 154 = .ok (.ireturn, 1) := by decide +kernel
theorem dX5_count_155 : decode cX5_count 155 = .ok (.aload_n 0, 1) := by decide +kernel
theorem dX5_count_156 : decode cX5_count 156 = .ok (.getfield 10, 3) := by decide +kernel
theorem dX5_count_159 : decode cX5_count 159 = .ok (.getfield 114, 3) := by decide +kernel
theorem dX5_count_162 : decode cX5_count 162 = .ok (.ireturn, 1) := by decide +kernel
theorem dX5_count_163 : decode cX5_count 163 = .ok (.aload_n 0, 1) := by decide +kernel
theorem dX5_count_164 : decode cX5_count 164 = .ok (.getfield 10, 3) := by decide +kernel
theorem dX5_count_167 : decode cX5_count 167 = .ok (.getfield 117, 3) := by decide +kernel
theorem dX5_count_170 : decode cX5_count 170 = .ok (.ireturn, 1) := by decide +kernel
theorem dX5_count_171 : decode cX5_count 171 = .ok (.aload_n 0, 1) := by decide +kernel
theorem dX5_count_172 : decode cX5_count 172 = .ok (.getfield 24, 3) := by decide +kernel
theorem dX5_count_175 : decode cX5_count 175 = .ok (.getfield 191, 3) := by decide +kernel
theorem dX5_count_178 : decode cX5_count 178 = .ok (.ireturn, 1) := by decide +kernel
theorem dX5_count_179 : decode cX5_count 179 = .ok (.aload_n 0, 1) := by decide +kernel
theorem dX5_count_180 : decode cX5_count 180 = .ok (.getfield 31, 3) := by decide +kernel
theorem dX5_count_183 : decode cX5_count 183 = .ok (.getfield 181, 3) := by decide +kernel
theorem dX5_count_186 : decode cX5_count 186 = .ok (.ireturn, 1) := by decide +kernel
theorem dX5_count_187 : decode cX5_count 187 = .ok (.bipush (-2), 2) := by decide +kernel
theorem dX5_count_189 : decode cX5_count 189 = .ok (.ireturn, 1) := by decide +kernel
set_option maxRecDepth 20000 in
theorem ggX5_addAtHead_X3_placeOf : GoodIn wsX5_addAtHead wsX3_placeOf := goodIn_r _ [9, 10, 11, 12, 13, 8, 14, 15, 74, 75, 76, 77, 78, 79] (by decide +kernel) (by decide +kernel)
set_option maxRecDepth 20000 in
theorem gX5_addAtHead_X3_placeOf : GoodIn wsX5_addAtHead (wsV RX5 63 RX3 yX3_placeOf wsX3_placeOf) := goodIn_app (goodIn_of _ (by decide +kernel)) ggX5_addAtHead_X3_placeOf
set_option maxRecDepth 20000 in
theorem ggX5_addAtHead_X4_add : GoodIn wsX5_addAtHead wsX4_add := goodIn_r _ [20, 21, 22, 23, 24, 25, 26, 27, 28, 29, 30, 31, 32, 33, 34, 19, 35, 36, 37, 38, 39, 40, 41, 42, 43, 44, 45, 46, 47, 48, 49, 50, 51, 52, 53, 54, 55, 56, 57, 58, 59, 60, 61, 62, 80, 81, 82, 83, 84, 85, 86] (by decide +kernel) (by decide +kernel)
set_option maxRecDepth 20000 in
theorem gX5_addAtHead_X4_add : GoodIn wsX5_addAtHead (wsV RX5 49 RX4 yX4_add wsX4_add) := goodIn_app (goodIn_of _ (by decide +kernel)) ggX5_addAtHead_X4_add
set_option maxRecDepth 20000 in
theorem ggX5_addAtHead_X3_place : GoodIn wsX5_addAtHead wsX3_place := goodIn_r _ [66, 10, 11, 12, 13, 8, 14, 15, 74, 75, 76, 77, 78, 79] (by decide +kernel) (by decide +kernel)
set_option maxRecDepth 20000 in
theorem gX5_addAtHead_X3_place : GoodIn wsX5_addAtHead (wsV RX5 99 RX3 yX3_place wsX3_place) := goodIn_app (goodIn_of _ (by decide +kernel)) ggX5_addAtHead_X3_place
theorem dX5_addAtHead_0 : decode cX5_addAtHead 0 = .ok (.aload_n 0, 1) := by decide +kernel
theorem dX5_addAtHead_1 : decode cX5_addAtHead 1 = .ok (.getfield 10, 3) := by decide +kernel
theorem dX5_addAtHead_4 : decode cX5_addAtHead 4 = .ok (.iload_n 1, 1) := by decide +kernel
theorem dX5_addAtHead_5 : decode cX5_addAtHead 5 = .ok (.invokevirtual 63, 3) := by decide +kernel
theorem dX5_addAtHead_8 : decode cX5_addAtHead 8 = .ok (.istore_n 3, 1) := by decide +kernel
theorem dX5_addAtHead_9 : decode cX5_addAtHead 9 = .ok (.aload_n 0, 1) := by decide +kernel
theorem dX5_addAtHead_10 : decode cX5_addAtHead 10 = .ok (.getfield 20, 3) := by decide +kernel
theorem dX5_addAtHead_13 : decode cX5_addAtHead 13 = .ok (.iload_n 3, 1) := by decide +kernel
theorem dX5_addAtHead_14 : decode cX5_addAtHead 14 = .ok (.iload_n 2, 1) := by decide +kernel
theorem dX5_addAtHead_15 : decode cX5_addAtHead 15 = .ok (.aload_n 0, 1) := by decide +kernel
theorem dX5_addAtHead_16 : decode cX5_addAtHead 16 = .ok (.getfield 42, 3) := by decide +kernel
theorem dX5_addAtHead_19 : decode cX5_addAtHead 19 = .ok (.aload_n 0, 1) := by decide +kernel
theorem dX5_addAtHead_20 : decode cX5_addAtHead 20 = .ok (.getfield 10, 3) := by decide +kernel
theorem dX5_addAtHead_23 : decode cX5_addAtHead 23 = .ok (.getfield 147, 3) := by decide +kernel
theorem dX5_addAtHead_26 : decode cX5_addAtHead 26 = .ok (.invokevirtual 49, 3) := by decide +kernel
theorem dX5_addAtHead_29 : decode cX5_addAtHead 29 = .ok (.istore 4, 2) := by decide +kernel
theorem dX5_addAtHead_31 : decode cX5_addAtHead 31 = .ok (.aload_n 0, 1) := by decide +kernel
theorem dX5_addAtHead_32 : decode cX5_addAtHead 32 = .ok (.getfield 10, 3) := by decide +kernel
theorem dX5_addAtHead_35 : decode cX5_addAtHead 35 = .ok (.iload_n 1, 1) := by decide +kernel
theorem dX5_addAtHead_36 : decode cX5_addAtHead 36 = .ok (.iload 4, 2) := by decide +kernel
theorem dX5_addAtHead_38 : decode cX5_addAtHead 38 = .ok (.invokevirtual 99, 3) := by decide +kernel
theorem dX5_addAtHead_41 : decode cX5_addAtHead 41 = .ok (.iload 4, 2) := by decide +kernel
theorem dX5_addAtHead_43 : decode cX5_addAtHead 43 = .ok (.ireturn, 1) := by decide +kernel
theorem dJ9_max_7cf53_0 : decode cJ9_max_7cf53 0 = .ok (.iload_n 0, 1) := by decide +kernel
theorem dJ9_max_7cf53_1 : decode cJ9_max_7cf53 1 = .ok (.iload_n 1, 1) := by decide +kernel
theorem dJ9_max_7cf53_2 : decode cJ9_max_7cf53 2 = .ok (.if_icmp .lt 7, 3) := by decide +kernel
theorem dJ9_max_7cf53_5 : decode cJ9_max_7cf53 5 = .ok (.iload_n 0, 1) := by decide +kernel
theorem dJ9_max_7cf53_6 : decode cJ9_max_7cf53 6 = .ok (.goto 4, 3) := by decide +kernel
theorem dJ9_max_7cf53_9 : decode cJ9_max_7cf53 9 = .ok (.iload_n 1, 1) := by decide +kernel
theorem dJ9_max_7cf53_10 : decode cJ9_max_7cf53 10 = .ok (.ireturn, 1) := by decide +kernel
theorem dJ9_min_7cf53_0 : decode cJ9_min_7cf53 0 = .ok (.iload_n 0, 1) := by decide +kernel
theorem dJ9_min_7cf53_1 : decode cJ9_min_7cf53 1 = .ok (.iload_n 1, 1) := by decide +kernel
theorem dJ9_min_7cf53_2 : decode cJ9_min_7cf53 2 = .ok (.if_icmp .gt 7, 3) := by decide +kernel
theorem dJ9_min_7cf53_5 : decode cJ9_min_7cf53 5 = .ok (.iload_n 0, 1) := by decide +kernel
theorem dJ9_min_7cf53_6 : decode cJ9_min_7cf53 6 = .ok (.goto 4, 3) := by decide +kernel
theorem dJ9_min_7cf53_9 : decode cJ9_min_7cf53 9 = .ok (.iload_n 1, 1) := by decide +kernel
theorem dJ9_min_7cf53_10 : decode cJ9_min_7cf53 10 = .ok (.ireturn, 1) := by decide +kernel
theorem dJ7_fill_53178_0 : decode cJ7_fill_53178 0 = .ok (.iconst 0, 1) := by decide +kernel
theorem dJ7_fill_53178_1 : decode cJ7_fill_53178 1 = .ok (.istore_n 2, 1) := by decide +kernel
theorem dJ7_fill_53178_2 : decode cJ7_fill_53178 2 = .ok (.aload_n 0, 1) := by decide +kernel
theorem dJ7_fill_53178_3 : decode cJ7_fill_53178 3 = .ok (.arraylength, 1) := by decide +kernel
theorem dJ7_fill_53178_4 : decode cJ7_fill_53178 4 = .ok (.istore_n 3, 1) := by decide +kernel
theorem dJ7_fill_53178_5 : decode cJ7_fill_53178 5 = .ok (.iload_n 2, 1) := by decide +kernel
theorem dJ7_fill_53178_6 : decode cJ7_fill_53178 6 = .ok (.iload_n 3, 1) := by decide +kernel
theorem dJ7_fill_53178_7 : decode cJ7_fill_53178 7 = .ok (.if_icmp .ge 13, 3) := by decide +kernel
theorem dJ7_fill_53178_10 : decode cJ7_fill_53178 10 = .ok (.aload_n 0, 1) := by decide +kernel
theorem dJ7_fill_53178_11 : decode cJ7_fill_53178 11 = .ok (.iload_n 2, 1) := by decide +kernel
theorem dJ7_fill_53178_12 : decode cJ7_fill_53178 12 = .ok (.iload_n 1, 1) := by decide +kernel
theorem dJ7_fill_53178_13 : decode cJ7_fill_53178 13 = .ok (.iastore, 1) := by decide +kernel
theorem dJ7_fill_53178_14 : decode cJ7_fill_53178 14 = .ok (.iinc 2 1, 3) := by decide +kernel
theorem dJ7_fill_53178_17 : decode cJ7_fill_53178 17 = .ok (.goto (-12), 3) := by decide +kernel
theorem dJ7_fill_53178_20 : decode cJ7_fill_53178 20 = .ok (.return_, 1) := by decide +kernel

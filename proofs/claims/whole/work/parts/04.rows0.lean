theorem dX0_init_0 : decode cX0_init 0 = .ok (.aload_n 0, 1) := by decide +kernel
theorem dX0_init_1 : decode cX0_init 1 = .ok (.invokespecial 3, 3) := by decide +kernel
theorem dX0_init_4 : decode cX0_init 4 = .ok (.aload_n 0, 1) := by decide +kernel
theorem dX0_init_5 : decode cX0_init 5 = .ok (.getstatic 9, 3) := by decide +kernel
theorem dX0_init_8 : decode cX0_init 8 = .ok (.invokevirtual 15, 3) := by decide +kernel
theorem dX0_init_11 : decode cX0_init 11 = .ok (.checkcast 16, 3) := by decide +kernel
theorem dX0_init_14 : decode cX0_init 14 = .ok (.putfield 20, 3) := by decide +kernel
theorem dX0_init_17 : decode cX0_init 17 = .ok (.aload_n 0, 1) := by decide +kernel
theorem dX0_init_18 : decode cX0_init 18 = .ok (.iconst 0, 1) := by decide +kernel
theorem dX0_init_19 : decode cX0_init 19 = .ok (.putfield 23, 3) := by decide +kernel
theorem dX0_init_22 : decode cX0_init 22 = .ok (.aload_n 0, 1) := by decide +kernel
theorem dX0_init_23 : decode cX0_init 23 = .ok (.bipush 40, 2) := by decide +kernel
theorem dX0_init_25 : decode cX0_init 25 = .ok (.newarray .int, 2) := by decide +kernel
theorem dX0_init_27 : decode cX0_init 27 = .ok (.putfield 27, 3) := by decide +kernel
theorem dX0_init_30 : decode cX0_init 30 = .ok (.aload_n 0, 1) := by decide +kernel
theorem dX0_init_31 : decode cX0_init 31 = .ok (.bipush 40, 2) := by decide +kernel
theorem dX0_init_33 : decode cX0_init 33 = .ok (.newarray .int, 2) := by decide +kernel
theorem dX0_init_35 : decode cX0_init 35 = .ok (.putfield 30, 3) := by decide +kernel
theorem dX0_init_38 : decode cX0_init 38 = .ok (.aload_n 0, 1) := by decide +kernel
theorem dX0_init_39 : decode cX0_init 39 = .ok (.bipush 40, 2) := by decide +kernel
theorem dX0_init_41 : decode cX0_init 41 = .ok (.newarray .boolean, 2) := by decide +kernel
theorem dX0_init_43 : decode cX0_init 43 = .ok (.putfield 33, 3) := by decide +kernel
theorem dX0_init_46 : decode cX0_init 46 = .ok (.aload_n 0, 1) := by decide +kernel
theorem dX0_init_47 : decode cX0_init 47 = .ok (.bipush 40, 2) := by decide +kernel
theorem dX0_init_49 : decode cX0_init 49 = .ok (.newarray .long, 2) := by decide +kernel
theorem dX0_init_51 : decode cX0_init 51 = .ok (.putfield 37, 3) := by decide +kernel
theorem dX0_init_54 : decode cX0_init 54 = .ok (.aload_n 0, 1) := by decide +kernel
theorem dX0_init_55 : decode cX0_init 55 = .ok (.bipush 40, 2) := by decide +kernel
theorem dX0_init_57 : decode cX0_init 57 = .ok (.newarray .long, 2) := by decide +kernel
theorem dX0_init_59 : decode cX0_init 59 = .ok (.putfield 41, 3) := by decide +kernel
theorem dX0_init_62 : decode cX0_init 62 = .ok (.aload_n 0, 1) := by decide +kernel
theorem dX0_init_63 : decode cX0_init 63 = .ok (.bipush 40, 2) := by decide +kernel
theorem dX0_init_65 : decode cX0_init 65 = .ok (.newarray .int, 2) := by decide +kernel
theorem dX0_init_67 : decode cX0_init 67 = .ok (.putfield 44, 3) := by decide +kernel
theorem dX0_init_70 : decode cX0_init 70 = .ok (.aload_n 0, 1) := by decide +kernel
theorem dX0_init_71 : decode cX0_init 71 = .ok (.bipush 40, 2) := by decide +kernel
theorem dX0_init_73 : decode cX0_init 73 = .ok (.newarray .int, 2) := by decide +kernel
theorem dX0_init_75 : decode cX0_init 75 = .ok (.putfield 47, 3) := by decide +kernel
theorem dX0_init_78 : decode cX0_init 78 = .ok (.aload_n 0, 1) := by decide +kernel
theorem dX0_init_79 : decode cX0_init 79 = .ok (.bipush 40, 2) := by decide +kernel
theorem dX0_init_81 : decode cX0_init 81 = .ok (.newarray .int, 2) := by decide +kernel
theorem dX0_init_83 : decode cX0_init 83 = .ok (.putfield 50, 3) := by decide +kernel
theorem dX0_init_86 : decode cX0_init 86 = .ok (.aload_n 0, 1) := by decide +kernel
theorem dX0_init_87 : decode cX0_init 87 = .ok (.bipush 40, 2) := by decide +kernel
theorem dX0_init_89 : decode cX0_init 89 = .ok (.newarray .int, 2) := by decide +kernel
theorem dX0_init_91 : decode cX0_init 91 = .ok (.putfield 53, 3) := by decide +kernel
theorem dX0_init_94 : decode cX0_init 94 = .ok (.aload_n 0, 1) := by decide +kernel
theorem dX0_init_95 : decode cX0_init 95 = .ok (.bipush 40, 2) := by decide +kernel
theorem dX0_init_97 : decode cX0_init 97 = .ok (.newarray .int, 2) := by decide +kernel
theorem dX0_init_99 : decode cX0_init 99 = .ok (.putfield 56, 3) := by decide +kernel
theorem dX0_init_102 : decode cX0_init 102 = .ok (.aload_n 0, 1) := by decide +kernel
theorem dX0_init_103 : decode cX0_init 103 = .ok (.bipush 40, 2) := by decide +kernel
theorem dX0_init_105 : decode cX0_init 105 = .ok (.newarray .int, 2) := by decide +kernel
theorem dX0_init_107 : decode cX0_init 107 = .ok (.putfield 59, 3) := by decide +kernel
theorem dX0_init_110 : decode cX0_init 110 = .ok (.aload_n 0, 1) := by decide +kernel
theorem dX0_init_111 : decode cX0_init 111 = .ok (.bipush 40, 2) := by decide +kernel
theorem dX0_init_113 : decode cX0_init 113 = .ok (.newarray .int, 2) := by decide +kernel
theorem dX0_init_115 : decode cX0_init 115 = .ok (.putfield 62, 3) := by decide +kernel
theorem dX0_init_118 : decode cX0_init 118 = .ok (.aload_n 0, 1) := by decide +kernel
theorem dX0_init_119 : decode cX0_init 119 = .ok (.bipush 40, 2) := by decide +kernel
theorem dX0_init_121 : decode cX0_init 121 = .ok (.newarray .boolean, 2) := by decide +kernel
theorem dX0_init_123 : decode cX0_init 123 = .ok (.putfield 65, 3) := by decide +kernel
theorem dX0_init_126 : decode cX0_init 126 = .ok (.return_, 1) := by decide +kernel
theorem dX0_holds_0 : decode cX0_holds 0 = .ok (.iload_n 1, 1) := by decide +kernel
theorem dX0_holds_1 : decode cX0_holds 1 = .ok (.ifCond .lt 15, 3) := by decide +kernel
theorem dX0_holds_4 : decode cX0_holds 4 = .ok (.iload_n 1, 1) := by decide +kernel
theorem dX0_holds_5 : decode cX0_holds 5 = .ok (.aload_n 0, 1) := by decide +kernel
theorem dX0_holds_6 : decode cX0_holds 6 = .ok (.getfield 23, 3) := by decide +kernel
theorem dX0_holds_9 : decode cX0_holds 9 = .ok (.if_icmp .ge 7, 3) := by decide +kernel
theorem dX0_holds_12 : decode cX0_holds 12 = .ok (.iconst 1, 1) := by decide +kernel
theorem dX0_holds_13 : decode cX0_holds 13 = .ok (.goto 4, 3) := by decide +kernel
theorem dX0_holds_16 : decode cX0_holds 16 = .ok (.iconst 0, 1) := by decide +kernel
theorem dX0_holds_17 : decode cX0_holds 17 = .ok (.ireturn, 1) := by decide +kernel
theorem dX0_endsInBranch_0 : decode cX0_endsInBranch 0 = .ok (.aload_n 0, 1) := by decide +kernel
theorem dX0_endsInBranch_1 : decode cX0_endsInBranch 1 = .ok (.getfield 23, 3) := by decide +kernel
theorem dX0_endsInBranch_4 : decode cX0_endsInBranch 4 = .ok (.ifCond .le 23, 3) := by decide +kernel
theorem dX0_endsInBranch_7 : decode cX0_endsInBranch 7 = .ok (.aload_n 0, 1) := by decide +kernel
theorem dX0_endsInBranch_8 : decode cX0_endsInBranch 8 = .ok (.getfield 30, 3) := by decide +kernel
theorem dX0_endsInBranch_11 : decode cX0_endsInBranch 11 = .ok (.aload_n 0, 1) := by decide +kernel
theorem dX0_endsInBranch_12 : decode cX0_endsInBranch 12 = .ok (.getfield 23, 3) := by decide +kernel
theorem dX0_endsInBranch_15 : decode cX0_endsInBranch 15 = .ok (.iconst 1, 1) := by decide +kernel
theorem dX0_endsInBranch_16 : decode cX0_endsInBranch 16 = .ok (.isub, 1) := by decide +kernel
theorem dX0_endsInBranch_17 : decode cX0_endsInBranch 17 = .ok (.iaload, 1) := by decide +kernel
theorem dX0_endsInBranch_18 : decode cX0_endsInBranch 18 = .ok (.bipush 7, 2) := by decide +kernel
theorem dX0_endsInBranch_20 : decode cX0_endsInBranch 20 = .ok (.if_icmp .ne 7, 3) := by decide +kernel
theorem dX0_endsInBranch_23 : decode cX0_endsInBranch 23 = .ok (.iconst 1, 1) := by decide +kernel
theorem dX0_endsInBranch_24 : decode cX0_endsInBranch 24 = .ok (.goto 4, 3) := by decide +kernel
theorem dX0_endsInBranch_27 : decode cX0_endsInBranch 27 = .ok (.iconst 0, 1) := by decide +kernel
theorem dX0_endsInBranch_28 : decode cX0_endsInBranch 28 = .ok (.ireturn, 1) := by decide +kernel
set_option maxRecDepth 20000 in
theorem ggX0_isClosed_X0_endsInBranch : GoodIn wsX0_isClosed wsX0_endsInBranch := goodIn_r _ [6, 1, 7, 8, 9, 10, 11, 12, 13, 14, 15, 16, 17, 18, 19, 20, 21, 22] (by decide +kernel) (by decide +kernel)
set_option maxRecDepth 20000 in
theorem gX0_isClosed_X0_endsInBranch : GoodIn wsX0_isClosed (wsV RX0 70 RX0 yX0_endsInBranch wsX0_endsInBranch) := goodIn_app (goodIn_of _ (by decide +kernel)) ggX0_isClosed_X0_endsInBranch
theorem dX0_isClosed_0 : decode cX0_isClosed 0 = .ok (.aload_n 0, 1) := by decide +kernel
theorem dX0_isClosed_1 : decode cX0_isClosed 1 = .ok (.getfield 23, 3) := by decide +kernel
theorem dX0_isClosed_4 : decode cX0_isClosed 4 = .ok (.bipush 40, 2) := by decide +kernel
theorem dX0_isClosed_6 : decode cX0_isClosed 6 = .ok (.if_icmp .ge 10, 3) := by decide +kernel
theorem dX0_isClosed_9 : decode cX0_isClosed 9 = .ok (.aload_n 0, 1) := by decide +kernel
theorem dX0_isClosed_10 : decode cX0_isClosed 10 = .ok (.invokevirtual 70, 3) := by decide +kernel
theorem dX0_isClosed_13 : decode cX0_isClosed 13 = .ok (.ifCond .eq 7, 3) := by decide +kernel
theorem dX0_isClosed_16 : decode cX0_isClosed 16 = .ok (.iconst 1, 1) := by decide +kernel
theorem dX0_isClosed_17 : decode cX0_isClosed 17 = .ok (.goto 4, 3) := by decide +kernel
theorem dX0_isClosed_20 : decode cX0_isClosed 20 = .ok (.iconst 0, 1) := by decide +kernel
theorem dX0_isClosed_21 : decode cX0_isClosed 21 = .ok (.ireturn, 1) := by decide +kernel
set_option maxRecDepth 20000 in
theorem ggX0_sizeWithoutBranch_X0_endsInBranch : GoodIn wsX0_sizeWithoutBranch wsX0_endsInBranch := goodIn_r _ [6, 1, 7, 8, 9, 10, 11, 12, 13, 14, 15, 16, 17, 18, 19, 20, 21, 22] (by decide +kernel) (by decide +kernel)
set_option maxRecDepth 20000 in
theorem gX0_sizeWithoutBranch_X0_endsInBranch : GoodIn wsX0_sizeWithoutBranch (wsV RX0 70 RX0 yX0_endsInBranch wsX0_endsInBranch) := goodIn_app (goodIn_of _ (by decide +kernel)) ggX0_sizeWithoutBranch_X0_endsInBranch
theorem dX0_sizeWithoutBranch_0 : decode cX0_sizeWithoutBranch 0 = .ok (.aload_n 0, 1) := by decide +kernel
theorem dX0_sizeWithoutBranch_1 : decode cX0_sizeWithoutBranch 1 = .ok (.invokevirtual 70, 3) := by decide +kernel
theorem dX0_sizeWithoutBranch_4 : decode cX0_sizeWithoutBranch 4 = .ok (.ifCond .eq 12, 3) := by decide +kernel
theorem dX0_sizeWithoutBranch_7 : decode cX0_sizeWithoutBranch 7 = .ok (.aload_n 0, 1) := by decide +kernel
theorem dX0_sizeWithoutBranch_8 : decode cX0_sizeWithoutBranch 8 = .ok (.getfield 23, 3) := by decide +kernel
theorem dX0_sizeWithoutBranch_11 : decode cX0_sizeWithoutBranch 11 = .ok (.iconst 1, 1) := by decide +kernel
theorem dX0_sizeWithoutBranch_12 : decode cX0_sizeWithoutBranch 12 = .ok (.isub, 1) := by decide +kernel
theorem dX0_sizeWithoutBranch_13 : decode cX0_sizeWithoutBranch 13 = .ok (.goto 7, 3) := by decide +kernel
theorem dX0_sizeWithoutBranch_16 : decode cX0_sizeWithoutBranch 16 = .ok (.aload_n 0, 1) := by decide +kernel
theorem dX0_sizeWithoutBranch_17 : decode cX0_sizeWithoutBranch 17 = .ok (.getfield 23, 3) := by decide +kernel
theorem dX0_sizeWithoutBranch_20 : decode cX0_sizeWithoutBranch 20 = .ok (.ireturn, 1) := by decide +kernel
theorem dX0_empty_0 : decode cX0_empty 0 = .ok (.aload_n 0, 1) := by decide +kernel
theorem dX0_empty_1 : decode cX0_empty 1 = .ok (.iconst 0, 1) := by decide +kernel
theorem dX0_empty_2 : decode cX0_empty 2 = .ok (.putfield 23, 3) := by decide +kernel
theorem dX0_empty_5 : decode cX0_empty 5 = .ok (.return_, 1) := by decide +kernel
set_option maxRecDepth 20000 in
theorem ggX0_append_X4_kindOf : GoodIn wsX0_append wsX4_kindOf := goodIn_r _ [17] (by decide +kernel) (by decide +kernel)
set_option maxRecDepth 20000 in
theorem gX0_append_X4_kindOf : GoodIn wsX0_append (va_wsS RX0 74 yX4_kindOf wsX4_kindOf) := goodIn_app (goodIn_of _ (by decide +kernel)) ggX0_append_X4_kindOf
set_option maxRecDepth 20000 in
theorem ggX0_append_X4_has : GoodIn wsX0_append wsX4_has := goodIn_r _ [20] (by decide +kernel) (by decide +kernel)
set_option maxRecDepth 20000 in
theorem gX0_append_X4_has : GoodIn wsX0_append (va_wsS RX0 79 yX4_has wsX4_has) := goodIn_app (goodIn_of _ (by decide +kernel)) ggX0_append_X4_has
set_option maxRecDepth 20000 in
theorem ggX0_append_X7_reads : GoodIn wsX0_append wsX7_reads := goodIn_r _ [24, 25, 26, 27, 19, 16, 20, 28, 29, 30, 31, 32, 33, 23, 34, 35, 36, 37, 38, 39, 40] (by decide +kernel) (by decide +kernel)
set_option maxRecDepth 20000 in
theorem gX0_append_X7_reads : GoodIn wsX0_append (va_wsS RX0 83 yX7_reads wsX7_reads) := goodIn_app (goodIn_of _ (by decide +kernel)) ggX0_append_X7_reads
set_option maxRecDepth 20000 in
theorem ggX0_append_X7_writes : GoodIn wsX0_append wsX7_writes := goodIn_r _ [43, 25, 26, 27, 19, 16, 20, 35, 36, 30, 37, 32, 33, 23, 34, 38, 39, 40] (by decide +kernel) (by decide +kernel)
set_option maxRecDepth 20000 in
theorem gX0_append_X7_writes : GoodIn wsX0_append (va_wsS RX0 88 yX7_writes wsX7_writes) := goodIn_app (goodIn_of _ (by decide +kernel)) ggX0_append_X7_writes
set_option maxRecDepth 20000 in
theorem ggX0_append_X7_readsFractions : GoodIn wsX0_append wsX7_readsFractions := goodIn_r _ [46, 47, 48, 27, 19, 16, 20, 49, 50, 23, 51, 52, 53, 54, 30, 55, 56, 39, 40, 57, 58, 59, 60, 61, 62, 63, 64, 65, 66, 67, 36, 37, 68, 69, 70, 71, 72, 73, 74] (by decide +kernel) (by decide +kernel)
set_option maxRecDepth 20000 in
theorem gX0_append_X7_readsFractions : GoodIn wsX0_append (va_wsS RX0 90 yX7_readsFractions wsX7_readsFractions) := goodIn_app (goodIn_of _ (by decide +kernel)) ggX0_append_X7_readsFractions
set_option maxRecDepth 20000 in
theorem ggX0_append_X7_writesFractions : GoodIn wsX0_append wsX7_writesFractions := goodIn_r _ [77, 78, 79, 80, 27, 19, 16, 20, 49, 50, 23, 51, 52, 53, 54, 30, 55, 56, 39, 40, 57, 58, 59, 60, 61, 62, 63, 64, 65, 66, 67, 36, 37, 68, 69, 70, 71, 72, 73, 74] (by decide +kernel) (by decide +kernel)
set_option maxRecDepth 20000 in
theorem gX0_append_X7_writesFractions : GoodIn wsX0_append (va_wsS RX0 93 yX7_writesFractions wsX7_writesFractions) := goodIn_app (goodIn_of _ (by decide +kernel)) ggX0_append_X7_writesFractions
set_option maxRecDepth 20000 in
theorem ggX0_append_X3_s : GoodIn wsX0_append wsX3_s := goodIn_r _ [31] (by decide +kernel) (by decide +kernel)
set_option maxRecDepth 20000 in
theorem gX0_append_X3_s : GoodIn wsX0_append (va_wsS RX0 95 yX3_s wsX3_s) := goodIn_app (goodIn_of _ (by decide +kernel)) ggX0_append_X3_s
set_option maxRecDepth 20000 in
theorem ggX0_append_X1_first : GoodIn wsX0_append wsX1_first := goodIn_r _ [85, 86, 87, 30, 88, 89, 90, 91, 92, 93, 84, 94] (by decide +kernel) (by decide +kernel)
set_option maxRecDepth 20000 in
theorem gX0_append_X1_first : GoodIn wsX0_append (va_wsS RX0 100 yX1_first wsX1_first) := goodIn_app (goodIn_of _ (by decide +kernel)) ggX0_append_X1_first
set_option maxRecDepth 20000 in
theorem ggX0_append_X1_many : GoodIn wsX0_append wsX1_many := goodIn_r _ [97, 89, 90, 30, 91] (by decide +kernel) (by decide +kernel)
set_option maxRecDepth 20000 in
theorem gX0_append_X1_many : GoodIn wsX0_append (va_wsS RX0 105 yX1_many wsX1_many) := goodIn_app (goodIn_of _ (by decide +kernel)) ggX0_append_X1_many
set_option maxRecDepth 20000 in
theorem ggX0_append_X7_register : GoodIn wsX0_append wsX7_register := goodIn_r _ [34] (by decide +kernel) (by decide +kernel)
set_option maxRecDepth 20000 in
theorem gX0_append_X7_register : GoodIn wsX0_append (va_wsS RX0 108 yX7_register wsX7_register) := goodIn_app (goodIn_of _ (by decide +kernel)) ggX0_append_X7_register
set_option maxRecDepth 20000 in
theorem ggX0_append_X0_lastWriter : GoodIn wsX0_append wsX0_lastWriter := goodIn_r _ [103, 1, 7, 104, 105, 106, 107, 108, 109, 110, 111, 112, 113, 114, 115, 116, 117, 118] (by decide +kernel) (by decide +kernel)
set_option maxRecDepth 20000 in
theorem gX0_append_X0_lastWriter : GoodIn wsX0_append (wsV RX0 112 RX0 yX0_lastWriter wsX0_lastWriter) := goodIn_app (goodIn_of _ (by decide +kernel)) ggX0_append_X0_lastWriter
theorem dX0_append_0 : decode cX0_append 0 = .ok (.aload_n 0, 1) := by decide +kernel
theorem dX0_append_1 : decode cX0_append 1 = .ok (.getfield 23, 3) := by decide +kernel
theorem dX0_append_4 : decode cX0_append 4 = .ok (.bipush 40, 2) := by decide +kernel
theorem dX0_append_6 : decode cX0_append 6 = .ok (.if_icmp .lt 4, 3) := by decide +kernel
theorem dX0_append_9 : decode cX0_append 9 = .ok (.return_, 1) := by decide +kernel
theorem dX0_append_10 : decode cX0_append 10 = .ok (.aload_n 0, 1) := by decide +kernel
theorem dX0_append_11 : decode cX0_append 11 = .ok (.getfield 27, 3) := by decide +kernel
theorem dX0_append_14 : decode cX0_append 14 = .ok (.aload_n 0, 1) := by decide +kernel
theorem dX0_append_15 : decode cX0_append 15 = .ok (.getfield 23, 3) := by decide +kernel
theorem dX0_append_18 : decode cX0_append 18 = .ok (.iload_n 1, 1) := by decide +kernel
theorem dX0_append_19 : decode cX0_append 19 = .ok (.iastore, 1) := by decide +kernel
theorem dX0_append_20 : decode cX0_append 20 = .ok (.aload_n 0, 1) := by decide +kernel
theorem dX0_append_21 : decode cX0_append 21 = .ok (.getfield 30, 3) := by decide +kernel
theorem dX0_append_24 : decode cX0_append 24 = .ok (.aload_n 0, 1) := by decide +kernel
theorem dX0_append_25 : decode cX0_append 25 = .ok (.getfield 23, 3) := by decide +kernel
theorem dX0_append_28 : decode cX0_append 28 = .ok (.iload_n 2, 1) := by decide +kernel
theorem dX0_append_29 : decode cX0_append 29 = .ok (.invokestatic 74, 3) := by decide +kernel
theorem dX0_append_32 : decode cX0_append 32 = .ok (.iastore, 1) := by decide +kernel
theorem dX0_append_33 : decode cX0_append 33 = .ok (.aload_n 0, 1) := by decide +kernel
theorem dX0_append_34 : decode cX0_append 34 = .ok (.getfield 33, 3) := by decide +kernel
theorem dX0_append_37 : decode cX0_append 37 = .ok (.aload_n 0, 1) := by decide +kernel
theorem dX0_append_38 : decode cX0_append 38 = .ok (.getfield 23, 3) := by decide +kernel
theorem dX0_append_41 : decode cX0_append 41 = .ok (.iload_n 2, 1) := by decide +kernel
theorem dX0_append_42 : decode cX0_append 42 = .ok (.ldc 78, 2) := by decide +kernel
theorem dX0_append_44 : decode cX0_append 44 = .ok (.invokestatic 79, 3) := by decide +kernel
theorem dX0_append_47 : decode cX0_append 47 = .ok (.bastore, 1) := by decide +kernel
theorem dX0_append_48 : decode cX0_append 48 = .ok (.aload_n 0, 1) := by decide +kernel
theorem dX0_append_49 : decode cX0_append 49 = .ok (.getfield 37, 3) := by decide +kernel
theorem dX0_append_52 : decode cX0_append 52 = .ok (.aload_n 0, 1) := by decide +kernel
theorem dX0_append_53 : decode cX0_append 53 = .ok (.getfield 23, 3) := by decide +kernel
theorem dX0_append_56 : decode cX0_append 56 = .ok (.iload_n 1, 1) := by decide +kernel
theorem dX0_append_57 : decode cX0_append 57 = .ok (.iload_n 2, 1) := by decide +kernel
theorem dX0_append_58 : decode cX0_append 58 = .ok (.invokestatic 83, 3) := by decide +kernel
theorem dX0_append_61 : decode cX0_append 61 = .ok (.lastore, 1) := by decide +kernel
theorem dX0_append_62 : decode cX0_append 62 = .ok (.aload_n 0, 1) := by decide +kernel
theorem dX0_append_63 : decode cX0_append 63 = .ok (.getfield 41, 3) := by decide +kernel
theorem dX0_append_66 : decode cX0_append 66 = .ok (.aload_n 0, 1) := by decide +kernel
theorem dX0_append_67 : decode cX0_append 67 = .ok (.getfield 23, 3) := by decide +kernel
theorem dX0_append_70 : decode cX0_append 70 = .ok (.iload_n 1, 1) := by decide +kernel
theorem dX0_append_71 : decode cX0_append 71 = .ok (.iload_n 2, 1) := by decide +kernel
theorem dX0_append_72 : decode cX0_append 72 = .ok (.invokestatic 88, 3) := by decide +kernel
theorem dX0_append_75 : decode cX0_append 75 = .ok (.lastore, 1) := by decide +kernel
theorem dX0_append_76 : decode cX0_append 76 = .ok (.aload_n 0, 1) := by decide +kernel
theorem dX0_append_77 : decode cX0_append 77 = .ok (.getfield 44, 3) := by decide +kernel
theorem dX0_append_80 : decode cX0_append 80 = .ok (.aload_n 0, 1) := by decide +kernel
theorem dX0_append_81 : decode cX0_append 81 = .ok (.getfield 23, 3) := by decide +kernel
theorem dX0_append_84 : decode cX0_append 84 = .ok (.iload_n 1, 1) := by decide +kernel
theorem dX0_append_85 : decode cX0_append 85 = .ok (.iload_n 2, 1) := by decide +kernel
theorem dX0_append_86 : decode cX0_append 86 = .ok (.invokestatic 90, 3) := by decide +kernel
theorem dX0_append_89 : decode cX0_append 89 = .ok (.iastore, 1) := by decide +kernel
theorem dX0_append_90 : decode cX0_append 90 = .ok (.aload_n 0, 1) := by decide +kernel
theorem dX0_append_91 : decode cX0_append 91 = .ok (.getfield 47, 3) := by decide +kernel
theorem dX0_append_94 : decode cX0_append 94 = .ok (.aload_n 0, 1) := by decide +kernel
theorem dX0_append_95 : decode cX0_append 95 = .ok (.getfield 23, 3) := by decide +kernel
theorem dX0_append_98 : decode cX0_append 98 = .ok (.iload_n 1, 1) := by decide +kernel
theorem dX0_append_99 : decode cX0_append 99 = .ok (.iload_n 2, 1) := by decide +kernel
theorem dX0_append_100 : decode cX0_append 100 = .ok (.invokestatic 93, 3) := by decide +kernel
theorem dX0_append_103 : decode cX0_append 103 = .ok (.iastore, 1) := by decide +kernel
theorem dX0_append_104 : decode cX0_append 104 = .ok (.aload_n 0, 1) := by decide +kernel
theorem dX0_append_105 : decode cX0_append 105 = .ok (.getfield 50, 3) := by decide +kernel
theorem dX0_append_108 : decode cX0_append 108 = .ok (.aload_n 0, 1) := by decide +kernel
theorem dX0_append_109 : decode cX0_append 109 = .ok (.getfield 23, 3) := by decide +kernel
theorem dX0_append_112 : decode cX0_append 112 = .ok (.iload_n 1, 1) := by decide +kernel
theorem dX0_append_113 : decode cX0_append 113 = .ok (.invokestatic 95, 3) := by decide +kernel
theorem dX0_append_116 : decode cX0_append 116 = .ok (.iastore, 1) := by decide +kernel
theorem dX0_append_117 : decode cX0_append 117 = .ok (.aload_n 0, 1) := by decide +kernel
theorem dX0_append_118 : decode cX0_append 118 = .ok (.getfield 53, 3) := by decide +kernel
theorem dX0_append_121 : decode cX0_append 121 = .ok (.aload_n 0, 1) := by decide +kernel
theorem dX0_append_122 : decode cX0_append 122 = .ok (.getfield 23, 3) := by decide +kernel
theorem dX0_append_125 : decode cX0_append 125 = .ok (.iload_n 1, 1) := by decide +kernel
theorem dX0_append_126 : decode cX0_append 126 = .ok (.invokestatic 100, 3) := by decide +kernel
theorem dX0_append_129 : decode cX0_append 129 = .ok (.iastore, 1) := by decide +kernel
theorem dX0_append_130 : decode cX0_append 130 = .ok (.aload_n 0, 1) := by decide +kernel
theorem dX0_append_131 : decode cX0_append 131 = .ok (.getfield 56, 3) := by decide +kernel
theorem dX0_append_134 : decode cX0_append 134 = .ok (.aload_n 0, 1) := by decide +kernel
theorem dX0_append_135 : decode cX0_append 135 = .ok (.getfield 23, 3) := by decide +kernel
theorem dX0_append_138 : decode cX0_append 138 = .ok (.aload_n 0, 1) := by decide +kernel
theorem dX0_append_139 : decode cX0_append 139 = .ok (.getfield 53, 3) := by decide +kernel
theorem dX0_append_142 : decode cX0_append 142 = .ok (.aload_n 0, 1) := by decide +kernel
theorem dX0_append_143 : decode cX0_append 143 = .ok (.getfield 23, 3) := by decide +kernel
theorem dX0_append_146 : decode cX0_append 146 = .ok (.iaload, 1) := by decide +kernel
theorem dX0_append_147 : decode cX0_append 147 = .ok (.iload_n 1, 1) := by decide +kernel
theorem dX0_append_148 : decode cX0_append 148 = .ok (.invokestatic 105, 3) := by decide +kernel
theorem dX0_append_151 : decode cX0_append 151 = .ok (.iadd, 1) := by decide +kernel
theorem dX0_append_152 : decode cX0_append 152 = .ok (.iastore, 1) := by decide +kernel
theorem dX0_append_153 : decode cX0_append 153 = .ok (.aload_n 0, 1) := by decide +kernel
theorem dX0_append_154 : decode cX0_append 154 = .ok (.getfield 59, 3) := by decide +kernel
theorem dX0_append_157 : decode cX0_append 157 = .ok (.aload_n 0, 1) := by decide +kernel
theorem dX0_append_158 : decode cX0_append 158 = .ok (.getfield 23, 3) := by decide +kernel
theorem dX0_append_161 : decode cX0_append 161 = .ok (.aload_n 0, 1) := by decide +kernel
theorem dX0_append_162 : decode cX0_append 162 = .ok (.aload_n 0, 1) := by decide +kernel
theorem dX0_append_163 : decode cX0_append 163 = .ok (.getfield 50, 3) := by decide +kernel
theorem dX0_append_166 : decode cX0_append 166 = .ok (.aload_n 0, 1) := by decide +kernel
theorem dX0_append_167 : decode cX0_append 167 = .ok (.getfield 23, 3) := by decide +kernel
theorem dX0_append_170 : decode cX0_append 170 = .ok (.iaload, 1) := by decide +kernel
theorem dX0_append_171 : decode cX0_append 171 = .ok (.invokestatic 108, 3) := by decide +kernel
theorem dX0_append_174 : decode cX0_append 174 = .ok (.invokevirtual 112, 3) := by decide +kernel
theorem dX0_append_177 : decode cX0_append 177 = .ok (.iastore, 1) := by decide +kernel
theorem dX0_append_178 : decode cX0_append 178 = .ok (.aload_n 0, 1) := by decide +kernel
theorem dX0_append_179 : decode cX0_append 179 = .ok (.dup, 1) := by decide +kernel
theorem dX0_append_180 : decode cX0_append 180 = .ok (.getfield 23, 3) := by decide +kernel
theorem dX0_append_183 : decode cX0_append 183 = .ok (.iconst 1, 1) := by decide +kernel
theorem dX0_append_184 : decode cX0_append 184 = .ok (.iadd, 1) := by decide +kernel
theorem dX0_append_185 : decode cX0_append 185 = .ok (.putfield 23, 3) := by decide +kernel
theorem dX0_append_188 : decode cX0_append 188 = .ok (.return_, 1) := by decide +kernel
theorem dX0_lastWriter_0 : decode cX0_lastWriter 0 = .ok (.aload_n 0, 1) := by decide +kernel
theorem dX0_lastWriter_1 : decode cX0_lastWriter 1 = .ok (.getfield 23, 3) := by decide +kernel
theorem dX0_lastWriter_4 : decode cX0_lastWriter 4 = .ok (.iconst 1, 1) := by decide +kernel
theorem dX0_lastWriter_5 : decode cX0_lastWriter 5 = .ok (.isub, 1) := by decide +kernel
theorem dX0_lastWriter_6 : decode cX0_lastWriter 6 = .ok (.istore_n 3, 1) := by decide +kernel
theorem dX0_lastWriter_7 : decode cX0_lastWriter 7 = .ok (.iload_n 3, 1) := by decide +kernel
theorem dX0_lastWriter_8 : decode cX0_lastWriter 8 = .ok (.ifCond .lt 24, 3) := by decide +kernel
theorem dX0_lastWriter_11 : decode cX0_lastWriter 11 = .ok (.aload_n 0, 1) := by decide +kernel
theorem dX0_lastWriter_12 : decode cX0_lastWriter 12 = .ok (.getfield 41, 3) := by decide +kernel
theorem dX0_lastWriter_15 : decode cX0_lastWriter 15 = .ok (.iload_n 3, 1) := by decide +kernel
theorem dX0_lastWriter_16 : decode cX0_lastWriter 16 = .ok (.laload, 1) := by decide +kernel
theorem dX0_lastWriter_17 : decode cX0_lastWriter 17 = .ok (.lload_n 1, 1) := by decide +kernel
theorem dX0_lastWriter_18 : decode cX0_lastWriter 18 = .ok (.land, 1) := by decide +kernel
theorem dX0_lastWriter_19 : decode cX0_lastWriter 19 = .ok (.lconst 0, 1) := by decide +kernel
theorem dX0_lastWriter_20 : decode cX0_lastWriter 20 = .ok (.lcmp, 1) := by decide +kernel
theorem dX0_lastWriter_21 : decode cX0_lastWriter 21 = .ok (.ifCond .eq 5, 3) := by decide +kernel
theorem dX0_lastWriter_24 : decode cX0_lastWriter 24 = .ok (.iload_n 3, 1) := by decide +kernel
theorem dX0_lastWriter_25 : decode cX0_lastWriter 25 = .ok (.ireturn, 1) := by decide +kernel
theorem dX0_lastWriter_26 : decode cX0_lastWriter 26 = .ok (.iinc 3 (-1), 3) := by decide +kernel
theorem dX0_lastWriter_29 : decode cX0_lastWriter 29 = .ok (.goto (-22), 3) := by decide +kernel
theorem dX0_lastWriter_32 : decode cX0_lastWriter 32 = .ok (.iconst (-1), 1) := by decide +kernel
theorem dX0_lastWriter_33 : decode cX0_lastWriter 33 = .ok (.ireturn, 1) := by decide +kernel
theorem dX0_latencyOf_0 : decode cX0_latencyOf 0 = .ok (.aload_n 0, 1) := by decide +kernel
theorem dX0_latencyOf_1 : decode cX0_latencyOf 1 = .ok (.getfield 20, 3) := by decide +kernel
theorem dX0_latencyOf_4 : decode cX0_latencyOf 4 = .ok (.aload_n 0, 1) := by decide +kernel
theorem dX0_latencyOf_5 : decode cX0_latencyOf 5 = .ok (.getfield 30, 3) := by decide +kernel
theorem dX0_latencyOf_8 : decode cX0_latencyOf 8 = .ok (.iload_n 1, 1) := by decide +kernel
theorem dX0_latencyOf_9 : decode cX0_latencyOf 9 = .ok (.iaload, 1) := by decide +kernel
theorem dX0_latencyOf_10 : decode cX0_latencyOf 10 = .ok (.iaload, 1) := by decide +kernel
theorem dX0_latencyOf_11 : decode cX0_latencyOf 11 = .ok (.ireturn, 1) := by decide +kernel
set_option maxRecDepth 20000 in
theorem ggX0_distance_X0_mustFollow : GoodIn wsX0_distance wsX0_mustFollow := goodIn_r _ [13, 2, 1, 4, 3, 14, 15, 16, 12, 17, 18, 19, 20, 21, 22, 23, 24, 25, 26, 27, 28, 29, 35, 36, 37, 38, 39, 40, 41, 42, 43, 44, 45, 46, 47, 48, 49] (by decide +kernel) (by decide +kernel)
set_option maxRecDepth 20000 in
theorem gX0_distance_X0_mustFollow : GoodIn wsX0_distance (wsV RX0 116 RX0 yX0_mustFollow wsX0_mustFollow) := goodIn_app (goodIn_of _ (by decide +kernel)) ggX0_distance_X0_mustFollow
set_option maxRecDepth 20000 in
theorem ggX0_distance_X0_meet : GoodIn wsX0_distance wsX0_meet := goodIn_r _ [17] (by decide +kernel) (by decide +kernel)
set_option maxRecDepth 20000 in
theorem gX0_distance_X0_meet : GoodIn wsX0_distance (va_wsS RX0 119 yX0_meet wsX0_meet) := goodIn_app (goodIn_of _ (by decide +kernel)) ggX0_distance_X0_meet
set_option maxRecDepth 20000 in
theorem ggX0_distance_X0_latencyOf : GoodIn wsX0_distance wsX0_latencyOf := goodIn_r _ [33, 34, 14, 35, 36, 37, 38, 39, 40, 41, 42, 43, 44, 45, 46, 47, 48, 49] (by decide +kernel) (by decide +kernel)
set_option maxRecDepth 20000 in
theorem gX0_distance_X0_latencyOf : GoodIn wsX0_distance (wsV RX0 123 RX0 yX0_latencyOf wsX0_latencyOf) := goodIn_app (goodIn_of _ (by decide +kernel)) ggX0_distance_X0_latencyOf
theorem dX0_distance_0 : decode cX0_distance 0 = .ok (.iload_n 2, 1) := by decide +kernel
theorem dX0_distance_1 : decode cX0_distance 1 = .ok (.iload_n 1, 1) := by decide +kernel
theorem dX0_distance_2 : decode cX0_distance 2 = .ok (.if_icmp .lt 5, 3) := by decide +kernel
theorem dX0_distance_5 : decode cX0_distance 5 = .ok (.iconst 0, 1) := by decide +kernel
theorem dX0_distance_6 : decode cX0_distance 6 = .ok (.ireturn, 1) := by decide +kernel
theorem dX0_distance_7 : decode cX0_distance 7 = .ok (.aload_n 0, 1) := by decide +kernel
theorem dX0_distance_8 : decode cX0_distance 8 = .ok (.iload_n 1, 1) := by decide +kernel
theorem dX0_distance_9 : decode cX0_distance 9 = .ok (.iload_n 2, 1) := by decide +kernel
theorem dX0_distance_10 : decode cX0_distance 10 = .ok (.invokevirtual 116, 3) := by decide +kernel
theorem dX0_distance_13 : decode cX0_distance 13 = .ok (.ifCond .eq 7, 3) := by decide +kernel
theorem dX0_distance_16 : decode cX0_distance 16 = .ok (.iconst 1, 1) := by decide +kernel
theorem dX0_distance_17 : decode cX0_distance 17 = .ok (.goto 4, 3) := by decide +kernel
theorem dX0_distance_20 : decode cX0_distance 20 = .ok (.iconst 0, 1) := by decide +kernel
theorem dX0_distance_21 : decode cX0_distance 21 = .ok (.istore_n 3, 1) := by decide +kernel
theorem dX0_distance_22 : decode cX0_distance 22 = .ok (.aload_n 0, 1) := by decide +kernel
theorem dX0_distance_23 : decode cX0_distance 23 = .ok (.getfield 41, 3) := by decide +kernel
theorem dX0_distance_26 : decode cX0_distance 26 = .ok (.iload_n 2, 1) := by decide +kernel
theorem dX0_distance_27 : decode cX0_distance 27 = .ok (.laload, 1) := by decide +kernel
theorem dX0_distance_28 : decode cX0_distance 28 = .ok (.aload_n 0, 1) := by decide +kernel
theorem dX0_distance_29 : decode cX0_distance 29 = .ok (.getfield 37, 3) := by decide +kernel
theorem dX0_distance_32 : decode cX0_distance 32 = .ok (.iload_n 1, 1) := by decide +kernel
theorem dX0_distance_33 : decode cX0_distance 33 = .ok (.laload, 1) := by decide +kernel
theorem dX0_distance_34 : decode cX0_distance 34 = .ok (.aload_n 0, 1) := by decide +kernel
theorem dX0_distance_35 : decode cX0_distance 35 = .ok (.getfield 47, 3) := by decide +kernel
theorem dX0_distance_38 : decode cX0_distance 38 = .ok (.iload_n 2, 1) := by decide +kernel
theorem dX0_distance_39 : decode cX0_distance 39 = .ok (.iaload, 1) := by decide +kernel
theorem dX0_distance_40 : decode cX0_distance 40 = .ok (.aload_n 0, 1) := by decide +kernel
theorem dX0_distance_41 : decode cX0_distance 41 = .ok (.getfield 44, 3) := by decide +kernel
theorem dX0_distance_44 : decode cX0_distance 44 = .ok (.iload_n 1, 1) := by decide +kernel
theorem dX0_distance_45 : decode cX0_distance 45 = .ok (.iaload, 1) := by decide +kernel
theorem dX0_distance_46 : decode cX0_distance 46 = .ok (.invokestatic 119, 3) := by decide +kernel
theorem dX0_distance_49 : decode cX0_distance 49 = .ok (.ifCond .eq 13, 3) := by decide +kernel
theorem dX0_distance_52 : decode cX0_distance 52 = .ok (.iload_n 3, 1) := by decide +kernel
theorem dX0_distance_53 : decode cX0_distance 53 = .ok (.aload_n 0, 1) := by decide +kernel
theorem dX0_distance_54 : decode cX0_distance 54 = .ok (.iload_n 2, 1) := by decide +kernel
theorem dX0_distance_55 : decode cX0_distance 55 = .ok (.invokevirtual 123, 3) := by decide +kernel
theorem dX0_distance_58 : decode cX0_distance 58 = .ok (.invokestatic 126, 3) := by decide +kernel
theorem dX0_distance_61 : decode cX0_distance 61 = .ok (.istore_n 3, 1) := by decide +kernel
theorem dX0_distance_62 : decode cX0_distance 62 = .ok (.aload_n 0, 1) := by decide +kernel
theorem dX0_distance_63 : decode cX0_distance 63 = .ok (.getfield 41, 3) := by decide +kernel
theorem dX0_distance_66 : decode cX0_distance 66 = .ok (.iload_n 2, 1) := by decide +kernel
theorem dX0_distance_67 : decode cX0_distance 67 = .ok (.laload, 1) := by decide +kernel
theorem dX0_distance_68 : decode cX0_distance 68 = .ok (.aload_n 0, 1) := by decide +kernel
theorem dX0_distance_69 : decode cX0_distance 69 = .ok (.getfield 41, 3) := by decide +kernel
theorem dX0_distance_72 : decode cX0_distance 72 = .ok (.iload_n 1, 1) := by decide +kernel
theorem dX0_distance_73 : decode cX0_distance 73 = .ok (.laload, 1) := by decide +kernel
theorem dX0_distance_74 : decode cX0_distance 74 = .ok (.aload_n 0, 1) := by decide +kernel
theorem dX0_distance_75 : decode cX0_distance 75 = .ok (.getfield 47, 3) := by decide +kernel
theorem dX0_distance_78 : decode cX0_distance 78 = .ok (.iload_n 2, 1) := by decide +kernel
theorem dX0_distance_79 : decode cX0_distance 79 = .ok (.iaload, 1) := by decide +kernel
theorem dX0_distance_80 : decode cX0_distance 80 = .ok (.aload_n 0, 1) := by decide +kernel
theorem dX0_distance_81 : decode cX0_distance 81 = .ok (.getfield 47, 3) := by decide +kernel
theorem dX0_distance_84 : decode cX0_distance 84 = .ok (.iload_n 1, 1) := by decide +kernel
theorem dX0_distance_85 : decode cX0_distance 85 = .ok (.iaload, 1) := by decide +kernel
theorem dX0_distance_86 : decode cX0_distance 86 = .ok (.invokestatic 119, 3) := by decide +kernel
theorem dX0_distance_89 : decode cX0_distance 89 = .ok (.ifCond .eq 25, 3) := by decide +kernel
theorem dX0_distance_92 : decode cX0_distance 92 = .ok (.iload_n 3, 1) := by decide +kernel
theorem dX0_distance_93 : decode cX0_distance 93 = .ok (.iconst 1, 1) := by decide +kernel
theorem dX0_distance_94 : decode cX0_distance 94 = .ok (.aload_n 0, 1) := by decide +kernel
theorem dX0_distance_95 : decode cX0_distance 95 = .ok (.iload_n 2, 1) := by decide +kernel
theorem dX0_distance_96 : decode cX0_distance 96 = .ok (.invokevirtual 123, 3) := by decide +kernel
theorem dX0_distance_99 : decode cX0_distance 99 = .ok (.aload_n 0, 1) := by decide +kernel
theorem dX0_distance_100 : decode cX0_distance 100 = .ok (.iload_n 1, 1) := by decide +kernel
theorem dX0_distance_101 : decode cX0_distance 101 = .ok (.invokevirtual 123, 3) := by decide +kernel
theorem dX0_distance_104 : decode cX0_distance 104 = .ok (.isub, 1) := by decide +kernel
theorem dX0_distance_105 : decode cX0_distance 105 = .ok (.iconst 1, 1) := by decide +kernel
theorem dX0_distance_106 : decode cX0_distance 106 = .ok (.iadd, 1) := by decide +kernel
theorem dX0_distance_107 : decode cX0_distance 107 = .ok (.invokestatic 126, 3) := by decide +kernel
theorem dX0_distance_110 : decode cX0_distance 110 = .ok (.invokestatic 126, 3) := by decide +kernel
theorem dX0_distance_113 : decode cX0_distance 113 = .ok (.istore_n 3, 1) := by decide +kernel
theorem dX0_distance_114 : decode cX0_distance 114 = .ok (.iload_n 3, 1) := by decide +kernel
theorem dX0_distance_115 : decode cX0_distance 115 = .ok (.ireturn, 1) := by decide +kernel
set_option maxRecDepth 20000 in
theorem ggX0_mustFollow_X0_meet : GoodIn wsX0_mustFollow wsX0_meet := goodIn_r _ [9] (by decide +kernel) (by decide +kernel)
set_option maxRecDepth 20000 in
theorem gX0_mustFollow_X0_meet : GoodIn wsX0_mustFollow (va_wsS RX0 119 yX0_meet wsX0_meet) := goodIn_app (goodIn_of _ (by decide +kernel)) ggX0_mustFollow_X0_meet
set_option maxRecDepth 20000 in
theorem ggX0_mustFollow_X0_bothInMemory : GoodIn wsX0_mustFollow wsX0_bothInMemory := goodIn_r _ [13, 5, 22, 23, 24, 25, 26, 27, 28, 29, 30, 31, 32, 33, 34, 35, 36] (by decide +kernel) (by decide +kernel)
set_option maxRecDepth 20000 in
theorem gX0_mustFollow_X0_bothInMemory : GoodIn wsX0_mustFollow (wsV RX0 131 RX0 yX0_bothInMemory wsX0_bothInMemory) := goodIn_app (goodIn_of _ (by decide +kernel)) ggX0_mustFollow_X0_bothInMemory
set_option maxRecDepth 20000 in
theorem ggX0_mustFollow_X0_areApart : GoodIn wsX0_mustFollow wsX0_areApart := goodIn_r _ [17, 18, 19, 20, 21, 22, 23, 24, 25, 26, 27, 28, 29, 30, 31, 32, 33, 34, 35, 36] (by decide +kernel) (by decide +kernel)
set_option maxRecDepth 20000 in
theorem gX0_mustFollow_X0_areApart : GoodIn wsX0_mustFollow (wsV RX0 134 RX0 yX0_areApart wsX0_areApart) := goodIn_app (goodIn_of _ (by decide +kernel)) ggX0_mustFollow_X0_areApart
theorem dX0_mustFollow_0 : decode cX0_mustFollow 0 = .ok (.aload_n 0, 1) := by decide +kernel
theorem dX0_mustFollow_1 : decode cX0_mustFollow 1 = .ok (.getfield 37, 3) := by decide +kernel
theorem dX0_mustFollow_4 : decode cX0_mustFollow 4 = .ok (.iload_n 2, 1) := by decide +kernel
theorem dX0_mustFollow_5 : decode cX0_mustFollow 5 = .ok (.laload, 1) := by decide +kernel
theorem dX0_mustFollow_6 : decode cX0_mustFollow 6 = .ok (.aload_n 0, 1) := by decide +kernel
theorem dX0_mustFollow_7 : decode cX0_mustFollow 7 = .ok (.getfield 41, 3) := by decide +kernel
theorem dX0_mustFollow_10 : decode cX0_mustFollow 10 = .ok (.iload_n 1, 1) := by decide +kernel
theorem dX0_mustFollow_11 : decode cX0_mustFollow 11 = .ok (.laload, 1) := by decide +kernel
theorem dX0_mustFollow_12 : decode cX0_mustFollow 12 = .ok (.aload_n 0, 1) := by decide +kernel
theorem dX0_mustFollow_13 : decode cX0_mustFollow 13 = .ok (.getfield 44, 3) := by decide +kernel
theorem dX0_mustFollow_16 : decode cX0_mustFollow 16 = .ok (.iload_n 2, 1) := by decide +kernel
theorem dX0_mustFollow_17 : decode cX0_mustFollow 17 = .ok (.iaload, 1) := by decide +kernel
theorem dX0_mustFollow_18 : decode cX0_mustFollow 18 = .ok (.aload_n 0, 1) := by decide +kernel
theorem dX0_mustFollow_19 : decode cX0_mustFollow 19 = .ok (.getfield 47, 3) := by decide +kernel
theorem dX0_mustFollow_22 : decode cX0_mustFollow 22 = .ok (.iload_n 1, 1) := by decide +kernel
theorem dX0_mustFollow_23 : decode cX0_mustFollow 23 = .ok (.iaload, 1) := by decide +kernel
theorem dX0_mustFollow_24 : decode cX0_mustFollow 24 = .ok (.invokestatic 119, 3) := by decide +kernel
theorem dX0_mustFollow_27 : decode cX0_mustFollow 27 = .ok (.ifCond .ne 43, 3) := by decide +kernel
theorem dX0_mustFollow_30 : decode cX0_mustFollow 30 = .ok (.aload_n 0, 1) := by decide +kernel
theorem dX0_mustFollow_31 : decode cX0_mustFollow 31 = .ok (.getfield 30, 3) := by decide +kernel
theorem dX0_mustFollow_34 : decode cX0_mustFollow 34 = .ok (.iload_n 2, 1) := by decide +kernel
theorem dX0_mustFollow_35 : decode cX0_mustFollow 35 = .ok (.iaload, 1) := by decide +kernel
theorem dX0_mustFollow_36 : decode cX0_mustFollow 36 = .ok (.bipush 8, 2) := by decide +kernel
theorem dX0_mustFollow_38 : decode cX0_mustFollow 38 = .ok (.if_icmp .eq 32, 3) := by decide +kernel
theorem dX0_mustFollow_41 : decode cX0_mustFollow 41 = .ok (.aload_n 0, 1) := by decide +kernel
theorem dX0_mustFollow_42 : decode cX0_mustFollow 42 = .ok (.getfield 30, 3) := by decide +kernel
theorem dX0_mustFollow_45 : decode cX0_mustFollow 45 = .ok (.iload_n 1, 1) := by decide +kernel
theorem dX0_mustFollow_46 : decode cX0_mustFollow 46 = .ok (.iaload, 1) := by decide +kernel
theorem dX0_mustFollow_47 : decode cX0_mustFollow 47 = .ok (.bipush 8, 2) := by decide +kernel
theorem dX0_mustFollow_49 : decode cX0_mustFollow 49 = .ok (.if_icmp .eq 21, 3) := by decide +kernel
theorem dX0_mustFollow_52 : decode cX0_mustFollow 52 = .ok (.aload_n 0, 1) := by decide +kernel
theorem dX0_mustFollow_53 : decode cX0_mustFollow 53 = .ok (.iload_n 1, 1) := by decide +kernel
theorem dX0_mustFollow_54 : decode cX0_mustFollow 54 = .ok (.iload_n 2, 1) := by decide +kernel
theorem dX0_mustFollow_55 : decode cX0_mustFollow 55 = .ok (.invokevirtual 131, 3) := by decide +kernel
theorem dX0_mustFollow_58 : decode cX0_mustFollow 58 = .ok (.ifCond .eq 16, 3) := by decide +kernel
theorem dX0_mustFollow_61 : decode cX0_mustFollow 61 = .ok (.aload_n 0, 1) := by decide +kernel
theorem dX0_mustFollow_62 : decode cX0_mustFollow 62 = .ok (.iload_n 1, 1) := by decide +kernel
theorem dX0_mustFollow_63 : decode cX0_mustFollow 63 = .ok (.iload_n 2, 1) := by decide +kernel
theorem dX0_mustFollow_64 : decode cX0_mustFollow 64 = .ok (.invokevirtual 134, 3) := by decide +kernel
theorem dX0_mustFollow_67 : decode cX0_mustFollow 67 = .ok (.ifCond .ne 7, 3) := by decide +kernel
theorem dX0_mustFollow_70 : decode cX0_mustFollow 70 = .ok (.iconst 1, 1) := by decide +kernel
theorem dX0_mustFollow_71 : decode cX0_mustFollow 71 = .ok (.goto 4, 3) := by decide +kernel
theorem dX0_mustFollow_74 : decode cX0_mustFollow 74 = .ok (.iconst 0, 1) := by decide +kernel
theorem dX0_mustFollow_75 : decode cX0_mustFollow 75 = .ok (.ireturn, 1) := by decide +kernel
theorem dX0_meet_0 : decode cX0_meet 0 = .ok (.lload_n 0, 1) := by decide +kernel
theorem dX0_meet_1 : decode cX0_meet 1 = .ok (.lload_n 2, 1) := by decide +kernel
theorem dX0_meet_2 : decode cX0_meet 2 = .ok (.land, 1) := by decide +kernel
theorem dX0_meet_3 : decode cX0_meet 3 = .ok (.lconst 0, 1) := by decide +kernel
theorem dX0_meet_4 : decode cX0_meet 4 = .ok (.lcmp, 1) := by decide +kernel
theorem dX0_meet_5 : decode cX0_meet 5 = .ok (.ifCond .ne 11, 3) := by decide +kernel
theorem dX0_meet_8 : decode cX0_meet 8 = .ok (.iload 4, 2) := by decide +kernel
theorem dX0_meet_10 : decode cX0_meet 10 = .ok (.iload 5, 2) := by decide +kernel
theorem dX0_meet_12 : decode cX0_meet 12 = .ok (.iand, 1) := by decide +kernel
theorem dX0_meet_13 : decode cX0_meet 13 = .ok (.ifCond .eq 7, 3) := by decide +kernel
theorem dX0_meet_16 : decode cX0_meet 16 = .ok (.iconst 1, 1) := by decide +kernel
theorem dX0_meet_17 : decode cX0_meet 17 = .ok (.goto 4, 3) := by decide +kernel
theorem dX0_meet_20 : decode cX0_meet 20 = .ok (.iconst 0, 1) := by decide +kernel
theorem dX0_meet_21 : decode cX0_meet 21 = .ok (.ireturn, 1) := by decide +kernel
theorem dX0_bothInMemory_0 : decode cX0_bothInMemory 0 = .ok (.aload_n 0, 1) := by decide +kernel
theorem dX0_bothInMemory_1 : decode cX0_bothInMemory 1 = .ok (.getfield 30, 3) := by decide +kernel
theorem dX0_bothInMemory_4 : decode cX0_bothInMemory 4 = .ok (.iload_n 1, 1) := by decide +kernel
theorem dX0_bothInMemory_5 : decode cX0_bothInMemory 5 = .ok (.iaload, 1) := by decide +kernel
theorem dX0_bothInMemory_6 : decode cX0_bothInMemory 6 = .ok (.istore_n 3, 1) := by decide +kernel
theorem dX0_bothInMemory_7 : decode cX0_bothInMemory 7 = .ok (.aload_n 0, 1) := by decide +kernel
theorem dX0_bothInMemory_8 : decode cX0_bothInMemory 8 = .ok (.getfield 30, 3) := by decide +kernel
theorem dX0_bothInMemory_11 : decode cX0_bothInMemory 11 = .ok (.iload_n 2, 1) := by decide +kernel
theorem dX0_bothInMemory_12 : decode cX0_bothInMemory 12 = .ok (.iaload, 1) := by decide +kernel
theorem dX0_bothInMemory_13 : decode cX0_bothInMemory 13 = .ok (.istore 4, 2) := by decide +kernel
theorem dX0_bothInMemory_15 : decode cX0_bothInMemory 15 = .ok (.iload_n 3, 1) := by decide +kernel
theorem dX0_bothInMemory_16 : decode cX0_bothInMemory 16 = .ok (.iconst 2, 1) := by decide +kernel
theorem dX0_bothInMemory_17 : decode cX0_bothInMemory 17 = .ok (.if_icmp .ne 15, 3) := by decide +kernel
theorem dX0_bothInMemory_20 : decode cX0_bothInMemory 20 = .ok (.iload 4, 2) := by decide +kernel
theorem dX0_bothInMemory_22 : decode cX0_bothInMemory 22 = .ok (.iconst 2, 1) := by decide +kernel
theorem dX0_bothInMemory_23 : decode cX0_bothInMemory 23 = .ok (.if_icmp .eq 20, 3) := by decide +kernel
theorem dX0_bothInMemory_26 : decode cX0_bothInMemory 26 = .ok (.iload 4, 2) := by decide +kernel
theorem dX0_bothInMemory_28 : decode cX0_bothInMemory 28 = .ok (.iconst 1, 1) := by decide +kernel
theorem dX0_bothInMemory_29 : decode cX0_bothInMemory 29 = .ok (.if_icmp .eq 14, 3) := by decide +kernel
theorem dX0_bothInMemory_32 : decode cX0_bothInMemory 32 = .ok (.iload_n 3, 1) := by decide +kernel
theorem dX0_bothInMemory_33 : decode cX0_bothInMemory 33 = .ok (.iconst 1, 1) := by decide +kernel
theorem dX0_bothInMemory_34 : decode cX0_bothInMemory 34 = .ok (.if_icmp .ne 13, 3) := by decide +kernel
theorem dX0_bothInMemory_37 : decode cX0_bothInMemory 37 = .ok (.iload 4, 2) := by decide +kernel
theorem dX0_bothInMemory_39 : decode cX0_bothInMemory 39 = .ok (.iconst 2, 1) := by decide +kernel
theorem dX0_bothInMemory_40 : decode cX0_bothInMemory 40 = .ok (.if_icmp .ne 7, 3) := by decide +kernel
theorem dX0_bothInMemory_43 : decode cX0_bothInMemory 43 = .ok (.iconst 1, 1) := by decide +kernel
theorem dX0_bothInMemory_44 : decode cX0_bothInMemory 44 = .ok (.goto 4, 3) := by decide +kernel
theorem dX0_bothInMemory_47 : decode cX0_bothInMemory 47 = .ok (.iconst 0, 1) := by decide +kernel
theorem dX0_bothInMemory_48 : decode cX0_bothInMemory 48 = .ok (.ireturn, 1) := by decide +kernel
theorem dX0_areApart_0 : decode cX0_areApart 0 = .ok (.aload_n 0, 1) := by decide +kernel
theorem dX0_areApart_1 : decode cX0_areApart 1 = .ok (.getfield 50, 3) := by decide +kernel
theorem dX0_areApart_4 : decode cX0_areApart 4 = .ok (.iload_n 1, 1) := by decide +kernel
theorem dX0_areApart_5 : decode cX0_areApart 5 = .ok (.iaload, 1) := by decide +kernel
theorem dX0_areApart_6 : decode cX0_areApart 6 = .ok (.aload_n 0, 1) := by decide +kernel
theorem dX0_areApart_7 : decode cX0_areApart 7 = .ok (.getfield 50, 3) := by decide +kernel
theorem dX0_areApart_10 : decode cX0_areApart 10 = .ok (.iload_n 2, 1) := by decide +kernel
theorem dX0_areApart_11 : decode cX0_areApart 11 = .ok (.iaload, 1) := by decide +kernel
theorem dX0_areApart_12 : decode cX0_areApart 12 = .ok (.if_icmp .ne 17, 3) := by decide +kernel
theorem dX0_areApart_15 : decode cX0_areApart 15 = .ok (.aload_n 0, 1) := by decide +kernel
theorem dX0_areApart_16 : decode cX0_areApart 16 = .ok (.getfield 59, 3) := by decide +kernel
theorem dX0_areApart_19 : decode cX0_areApart 19 = .ok (.iload_n 1, 1) := by decide +kernel
theorem dX0_areApart_20 : decode cX0_areApart 20 = .ok (.iaload, 1) := by decide +kernel
theorem dX0_areApart_21 : decode cX0_areApart 21 = .ok (.iload_n 2, 1) := by decide +kernel
theorem dX0_areApart_22 : decode cX0_areApart 22 = .ok (.if_icmp .ge 7, 3) := by decide +kernel
theorem dX0_areApart_25 : decode cX0_areApart 25 = .ok (.iconst 1, 1) := by decide +kernel
theorem dX0_areApart_26 : decode cX0_areApart 26 = .ok (.goto 4, 3) := by decide +kernel
theorem dX0_areApart_29 : decode cX0_areApart 29 = .ok (.iconst 0, 1) := by decide +kernel
theorem dX0_areApart_30 : decode cX0_areApart 30 = .ok (.istore_n 3, 1) := by decide +kernel
theorem dX0_areApart_31 : decode cX0_areApart 31 = .ok (.iload_n 3, 1) := by decide +kernel
theorem dX0_areApart_32 : decode cX0_areApart 32 = .ok (.ifCond .eq 37, 3) := by decide +kernel
theorem dX0_areApart_35 : decode cX0_areApart 35 = .ok (.aload_n 0, 1) := by decide +kernel
theorem dX0_areApart_36 : decode cX0_areApart 36 = .ok (.getfield 56, 3) := by decide +kernel
theorem dX0_areApart_39 : decode cX0_areApart 39 = .ok (.iload_n 1, 1) := by decide +kernel
theorem dX0_areApart_40 : decode cX0_areApart 40 = .ok (.iaload, 1) := by decide +kernel
theorem dX0_areApart_41 : decode cX0_areApart 41 = .ok (.aload_n 0, 1) := by decide +kernel
theorem dX0_areApart_42 : decode cX0_areApart 42 = .ok (.getfield 53, 3) := by decide +kernel
theorem dX0_areApart_45 : decode cX0_areApart 45 = .ok (.iload_n 2, 1) := by decide +kernel
theorem dX0_areApart_46 : decode cX0_areApart 46 = .ok (.iaload, 1) := by decide +kernel
theorem dX0_areApart_47 : decode cX0_areApart 47 = .ok (.if_icmp .le 18, 3) := by decide +kernel
theorem dX0_areApart_50 : decode cX0_areApart 50 = .ok (.aload_n 0, 1) := by decide +kernel
theorem dX0_areApart_51 : decode cX0_areApart 51 = .ok (.getfield 56, 3) := by decide +kernel
theorem dX0_areApart_54 : decode cX0_areApart 54 = .ok (.iload_n 2, 1) := by decide +kernel
theorem dX0_areApart_55 : decode cX0_areApart 55 = .ok (.iaload, 1) := by decide +kernel
theorem dX0_areApart_56 : decode cX0_areApart 56 = .ok (.aload_n 0, 1) := by decide +kernel
theorem dX0_areApart_57 : decode cX0_areApart 57 = .ok (.getfield 53, 3) := by decide +kernel
theorem dX0_areApart_60 : decode cX0_areApart 60 = .ok (.iload_n 1, 1) := by decide +kernel
theorem dX0_areApart_61 : decode cX0_areApart 61 = .ok (.iaload, 1) := by decide +kernel
theorem dX0_areApart_62 : decode cX0_areApart 62 = .ok (.if_icmp .gt 7, 3) := by decide +kernel
theorem dX0_areApart_65 : decode cX0_areApart 65 = .ok (.iconst 1, 1) := by decide +kernel
theorem dX0_areApart_66 : decode cX0_areApart 66 = .ok (.goto 4, 3) := by decide +kernel
theorem dX0_areApart_69 : decode cX0_areApart 69 = .ok (.iconst 0, 1) := by decide +kernel
theorem dX0_areApart_70 : decode cX0_areApart 70 = .ok (.ireturn, 1) := by decide +kernel
set_option maxRecDepth 20000 in
theorem ggX0_survey_X0_distance : GoodIn wsX0_survey wsX0_distance := goodIn_r _ [12, 13, 14, 15, 16, 3, 4, 5, 6, 17, 18, 19, 11, 20, 21, 22, 23, 24, 25, 26, 27, 28, 29, 30, 31, 32, 33, 34, 35, 36, 37, 38, 39, 40, 41, 42, 43, 44, 45, 46, 47, 48, 49, 50, 51, 52, 53, 54, 55, 56] (by decide +kernel) (by decide +kernel)
set_option maxRecDepth 20000 in
theorem gX0_survey_X0_distance : GoodIn wsX0_survey (wsV RX0 137 RX0 yX0_distance wsX0_distance) := goodIn_app (goodIn_of _ (by decide +kernel)) ggX0_survey_X0_distance
set_option maxRecDepth 20000 in
theorem ggX0_survey_X0_latencyOf : GoodIn wsX0_survey wsX0_latencyOf := goodIn_r _ [40, 41, 21, 42, 43, 44, 45, 46, 47, 48, 49, 50, 51, 52, 53, 54, 55, 56] (by decide +kernel) (by decide +kernel)
set_option maxRecDepth 20000 in
theorem gX0_survey_X0_latencyOf : GoodIn wsX0_survey (wsV RX0 123 RX0 yX0_latencyOf wsX0_latencyOf) := goodIn_app (goodIn_of _ (by decide +kernel)) ggX0_survey_X0_latencyOf
theorem dX0_survey_0 : decode cX0_survey 0 = .ok (.aload_n 0, 1) := by decide +kernel
theorem dX0_survey_1 : decode cX0_survey 1 = .ok (.getfield 23, 3) := by decide +kernel
theorem dX0_survey_4 : decode cX0_survey 4 = .ok (.iconst 1, 1) := by decide +kernel
theorem dX0_survey_5 : decode cX0_survey 5 = .ok (.isub, 1) := by decide +kernel
theorem dX0_survey_6 : decode cX0_survey 6 = .ok (.istore_n 1, 1) := by decide +kernel
theorem dX0_survey_7 : decode cX0_survey 7 = .ok (.iload_n 1, 1) := by decide +kernel
theorem dX0_survey_8 : decode cX0_survey 8 = .ok (.ifCond .lt 95, 3) := by decide +kernel
theorem dX0_survey_11 : decode cX0_survey 11 = .ok (.iconst 0, 1) := by decide +kernel
theorem dX0_survey_12 : decode cX0_survey 12 = .ok (.istore_n 2, 1) := by decide +kernel
theorem dX0_survey_13 : decode cX0_survey 13 = .ok (.iload_n 1, 1) := by decide +kernel
theorem dX0_survey_14 : decode cX0_survey 14 = .ok (.iconst 1, 1) := by decide +kernel
theorem dX0_survey_15 : decode cX0_survey 15 = .ok (.iadd, 1) := by decide +kernel
theorem dX0_survey_16 : decode cX0_survey 16 = .ok (.istore_n 3, 1) := by decide +kernel
theorem dX0_survey_17 : decode cX0_survey 17 = .ok (.iload_n 3, 1) := by decide +kernel
theorem dX0_survey_18 : decode cX0_survey 18 = .ok (.aload_n 0, 1) := by decide +kernel
theorem dX0_survey_19 : decode cX0_survey 19 = .ok (.getfield 23, 3) := by decide +kernel
theorem dX0_survey_22 : decode cX0_survey 22 = .ok (.if_icmp .ge 36, 3) := by decide +kernel
theorem dX0_survey_25 : decode cX0_survey 25 = .ok (.aload_n 0, 1) := by decide +kernel
theorem dX0_survey_26 : decode cX0_survey 26 = .ok (.iload_n 3, 1) := by decide +kernel
theorem dX0_survey_27 : decode cX0_survey 27 = .ok (.iload_n 1, 1) := by decide +kernel
theorem dX0_survey_28 : decode cX0_survey 28 = .ok (.invokevirtual 137, 3) := by decide +kernel
theorem dX0_survey_31 : decode cX0_survey 31 = .ok (.istore 4, 2) := by decide +kernel
theorem dX0_survey_33 : decode cX0_survey 33 = .ok (.iload 4, 2) := by decide +kernel
theorem dX0_survey_35 : decode cX0_survey 35 = .ok (.ifCond .le 17, 3) := by decide +kernel
theorem dX0_survey_38 : decode cX0_survey 38 = .ok (.iload_n 2, 1) := by decide +kernel
theorem dX0_survey_39 : decode cX0_survey 39 = .ok (.aload_n 0, 1) := by decide +kernel
theorem dX0_survey_40 : decode cX0_survey 40 = .ok (.getfield 62, 3) := by decide +kernel
theorem dX0_survey_43 : decode cX0_survey 43 = .ok (.iload_n 3, 1) := by decide +kernel
theorem dX0_survey_44 : decode cX0_survey 44 = .ok (.iaload, 1) := by decide +kernel
theorem dX0_survey_45 : decode cX0_survey 45 = .ok (.iload 4, 2) := by decide +kernel
theorem dX0_survey_47 : decode cX0_survey 47 = .ok (.iadd, 1) := by decide +kernel
theorem dX0_survey_48 : decode cX0_survey 48 = .ok (.invokestatic 126, 3) := by decide +kernel
theorem dX0_survey_51 : decode cX0_survey 51 = .ok (.istore_n 2, 1) := by decide +kernel
theorem dX0_survey_52 : decode cX0_survey 52 = .ok (.iinc 3 1, 3) := by decide +kernel
theorem dX0_survey_55 : decode cX0_survey 55 = .ok (.goto (-38), 3) := by decide +kernel
theorem dX0_survey_58 : decode cX0_survey 58 = .ok (.aload_n 0, 1) := by decide +kernel
theorem dX0_survey_59 : decode cX0_survey 59 = .ok (.getfield 65, 3) := by decide +kernel
theorem dX0_survey_62 : decode cX0_survey 62 = .ok (.iload_n 1, 1) := by decide +kernel
theorem dX0_survey_63 : decode cX0_survey 63 = .ok (.iload_n 2, 1) := by decide +kernel
theorem dX0_survey_64 : decode cX0_survey 64 = .ok (.ifCond .le 7, 3) := by decide +kernel
theorem dX0_survey_67 : decode cX0_survey 67 = .ok (.iconst 1, 1) := by decide +kernel
theorem dX0_survey_68 : decode cX0_survey 68 = .ok (.goto 4, 3) := by decide +kernel
theorem dX0_survey_71 : decode cX0_survey 71 = .ok (.iconst 0, 1) := by decide +kernel
theorem dX0_survey_72 : decode cX0_survey 72 = .ok (.bastore, 1) := by decide +kernel
theorem dX0_survey_73 : decode cX0_survey 73 = .ok (.aload_n 0, 1) := by decide +kernel
theorem dX0_survey_74 : decode cX0_survey 74 = .ok (.getfield 62, 3) := by decide +kernel
theorem dX0_survey_77 : decode cX0_survey 77 = .ok (.iload_n 1, 1) := by decide +kernel
theorem dX0_survey_78 : decode cX0_survey 78 = .ok (.aload_n 0, 1) := by decide +kernel
theorem dX0_survey_79 : decode cX0_survey 79 = .ok (.getfield 65, 3) := by decide +kernel
theorem dX0_survey_82 : decode cX0_survey 82 = .ok (.iload_n 1, 1) := by decide +kernel
theorem dX0_survey_83 : decode cX0_survey 83 = .ok (.baload, 1) := by decide +kernel
theorem dX0_survey_84 : decode cX0_survey 84 = .ok (.ifCond .eq 7, 3) := by decide +kernel
theorem dX0_survey_87 : decode cX0_survey 87 = .ok (.iload_n 2, 1) := by decide +kernel
theorem dX0_survey_88 : decode cX0_survey 88 = .ok (.goto 8, 3) := by decide +kernel
theorem dX0_survey_91 : decode cX0_survey 91 = .ok (.aload_n 0, 1) := by decide +kernel
theorem dX0_survey_92 : decode cX0_survey 92 = .ok (.iload_n 1, 1) := by decide +kernel
theorem dX0_survey_93 : decode cX0_survey 93 = .ok (.invokevirtual 123, 3) := by decide +kernel
theorem dX0_survey_96 : decode cX0_survey 96 = .ok (.iastore, 1) := by decide +kernel
theorem dX0_survey_97 : decode cX0_survey 97 = .ok (.iinc 1 (-1), 3) := by decide +kernel
theorem dX0_survey_100 : decode cX0_survey 100 = .ok (.goto (-93), 3) := by decide +kernel
theorem dX0_survey_103 : decode cX0_survey 103 = .ok (.return_, 1) := by decide +kernel
set_option maxRecDepth 20000 in
theorem ggX1_first_X3_offset : GoodIn wsX1_first wsX3_offset := goodIn_r _ [4] (by decide +kernel) (by decide +kernel)
set_option maxRecDepth 20000 in
theorem gX1_first_X3_offset : GoodIn wsX1_first (va_wsS RX1 7 yX3_offset wsX3_offset) := goodIn_app (goodIn_of _ (by decide +kernel)) ggX1_first_X3_offset
set_option maxRecDepth 20000 in
theorem ggX1_first_X3_operation : GoodIn wsX1_first wsX3_operation := goodIn_r _ [7] (by decide +kernel) (by decide +kernel)
set_option maxRecDepth 20000 in
theorem gX1_first_X3_operation : GoodIn wsX1_first (va_wsS RX1 13 yX3_operation wsX3_operation) := goodIn_app (goodIn_of _ (by decide +kernel)) ggX1_first_X3_operation
set_option maxRecDepth 20000 in
theorem ggX1_first_X1_touchesWholeWord : GoodIn wsX1_first wsX1_touchesWholeWord := goodIn_r _ [11] (by decide +kernel) (by decide +kernel)
set_option maxRecDepth 20000 in
theorem gX1_first_X1_touchesWholeWord : GoodIn wsX1_first (va_wsS RX1 16 yX1_touchesWholeWord wsX1_touchesWholeWord) := goodIn_app (goodIn_of _ (by decide +kernel)) ggX1_first_X1_touchesWholeWord
theorem dX1_first_0 : decode cX1_first 0 = .ok (.iload_n 0, 1) := by decide +kernel
theorem dX1_first_1 : decode cX1_first 1 = .ok (.invokestatic 7, 3) := by decide +kernel
theorem dX1_first_4 : decode cX1_first 4 = .ok (.istore_n 1, 1) := by decide +kernel
theorem dX1_first_5 : decode cX1_first 5 = .ok (.iload_n 0, 1) := by decide +kernel
theorem dX1_first_6 : decode cX1_first 6 = .ok (.invokestatic 13, 3) := by decide +kernel
theorem dX1_first_9 : decode cX1_first 9 = .ok (.invokestatic 16, 3) := by decide +kernel
theorem dX1_first_12 : decode cX1_first 12 = .ok (.ifCond .eq 10, 3) := by decide +kernel
theorem dX1_first_15 : decode cX1_first 15 = .ok (.iload_n 1, 1) := by decide +kernel
theorem dX1_first_16 : decode cX1_first 16 = .ok (.bipush (-4), 2) := by decide +kernel
theorem dX1_first_18 : decode cX1_first 18 = .ok (.iand, 1) := by decide +kernel
theorem dX1_first_19 : decode cX1_first 19 = .ok (.goto 4, 3) := by decide +kernel
theorem dX1_first_22 : decode cX1_first 22 = .ok (.iload_n 1, 1) := by decide +kernel
theorem dX1_first_23 : decode cX1_first 23 = .ok (.ireturn, 1) := by decide +kernel
set_option maxRecDepth 20000 in
theorem ggX1_many_X3_operation : GoodIn wsX1_many wsX3_operation := goodIn_r _ [4] (by decide +kernel) (by decide +kernel)
set_option maxRecDepth 20000 in
theorem gX1_many_X3_operation : GoodIn wsX1_many (va_wsS RX1 13 yX3_operation wsX3_operation) := goodIn_app (goodIn_of _ (by decide +kernel)) ggX1_many_X3_operation
theorem dX1_many_0 : decode cX1_many 0 = .ok (.iload_n 0, 1) := by decide +kernel
theorem dX1_many_1 : decode cX1_many 1 = .ok (.invokestatic 13, 3) := by decide +kernel
theorem dX1_many_4 : decode cX1_many 4 = .ok (.tableswitch 143 32 61 #[136, 138, 143, 143, 136, 138, 143, 143, 136, 138, 143, 143, 143, 143, 143, 143, 143, 143, 143, 143, 143, 140, 143, 143, 143, 143, 143, 143, 143, 140], 136) := by decide +kernel
theorem dX1_many_140 : decode cX1_many 140 = .ok (.iconst 1, 1) := by decide +kernel
theorem dX1_many_141 : decode cX1_many 141 = .ok (.ireturn, 1) := by decide +kernel
theorem dX1_many_142 : decode cX1_many 142 = .ok (.iconst 2, 1) := by decide +kernel
theorem dX1_many_143 : decode cX1_many 143 = .ok (.ireturn, 1) := by decide +kernel
theorem dX1_many_144 : decode cX1_many 144 = .ok (.bipush 8, 2) := by decide +kernel
theorem dX1_many_146 : decode cX1_many 146 = .ok (.ireturn, 1) := by decide +kernel
theorem dX1_many_147 : decode cX1_many 147 = .ok (.iconst 4, 1) := by decide +kernel
theorem dX1_many_148 : decode cX1_many 148 = .ok (.ireturn, 1) := by decide +kernel
theorem dX1_touchesWholeWord_0 : decode cX1_touchesWholeWord 0 = .ok (.iload_n 0, 1) := by decide +kernel
theorem dX1_touchesWholeWord_1 : decode cX1_touchesWholeWord 1 = .ok (.bipush 34, 2) := by decide +kernel
theorem dX1_touchesWholeWord_3 : decode cX1_touchesWholeWord 3 = .ok (.if_icmp .eq 21, 3) := by decide +kernel
theorem dX1_touchesWholeWord_6 : decode cX1_touchesWholeWord 6 = .ok (.iload_n 0, 1) := by decide +kernel
theorem dX1_touchesWholeWord_7 : decode cX1_touchesWholeWord 7 = .ok (.bipush 38, 2) := by decide +kernel
theorem dX1_touchesWholeWord_9 : decode cX1_touchesWholeWord 9 = .ok (.if_icmp .eq 15, 3) := by decide +kernel
theorem dX1_touchesWholeWord_12 : decode cX1_touchesWholeWord 12 = .ok (.iload_n 0, 1) := by decide +kernel
theorem dX1_touchesWholeWord_13 : decode cX1_touchesWholeWord 13 = .ok (.bipush 42, 2) := by decide +kernel
theorem dX1_touchesWholeWord_15 : decode cX1_touchesWholeWord 15 = .ok (.if_icmp .eq 9, 3) := by decide +kernel
theorem dX1_touchesWholeWord_18 : decode cX1_touchesWholeWord 18 = .ok (.iload_n 0, 1) := by decide +kernel
theorem dX1_touchesWholeWord_19 : decode cX1_touchesWholeWord 19 = .ok (.bipush 46, 2) := by decide +kernel
theorem dX1_touchesWholeWord_21 : decode cX1_touchesWholeWord 21 = .ok (.if_icmp .ne 7, 3) := by decide +kernel
theorem dX1_touchesWholeWord_24 : decode cX1_touchesWholeWord 24 = .ok (.iconst 1, 1) := by decide +kernel
theorem dX1_touchesWholeWord_25 : decode cX1_touchesWholeWord 25 = .ok (.goto 4, 3) := by decide +kernel
theorem dX1_touchesWholeWord_28 : decode cX1_touchesWholeWord 28 = .ok (.iconst 0, 1) := by decide +kernel
theorem dX1_touchesWholeWord_29 : decode cX1_touchesWholeWord 29 = .ok (.ireturn, 1) := by decide +kernel
set_option maxRecDepth 20000 in
theorem ggX2_formOf_X2_formByOperation : GoodIn wsX2_formOf wsX2_formByOperation := goodIn_r _ [4, 5, 6, 7, 8, 9, 10, 11, 12, 13, 3, 14, 15, 16, 17, 18, 19, 20, 21, 22, 23, 24, 25, 26, 27, 28, 29, 30, 31, 32, 33, 34, 35, 36, 37, 38, 39, 40, 41, 42, 43, 44, 45, 46, 47, 48, 49, 50, 51, 52, 53, 54, 55, 56, 57, 58, 59, 60, 61, 62, 63, 64, 65, 66, 67, 68, 69, 70, 71, 72, 73, 74, 75, 76] (by decide +kernel) (by decide +kernel)
set_option maxRecDepth 20000 in
theorem gX2_formOf_X2_formByOperation : GoodIn wsX2_formOf (va_wsS RX2 11 yX2_formByOperation wsX2_formByOperation) := goodIn_app (goodIn_of _ (by decide +kernel)) ggX2_formOf_X2_formByOperation
set_option maxRecDepth 20000 in
theorem ggX2_formOf_X2_hasOddDouble : GoodIn wsX2_formOf wsX2_hasOddDouble := goodIn_r _ [79, 48, 50, 52, 53, 54, 55, 56, 80, 81, 7, 82, 83, 84, 85, 86, 87, 88, 89, 19, 20, 90, 91, 92] (by decide +kernel) (by decide +kernel)
set_option maxRecDepth 20000 in
theorem gX2_formOf_X2_hasOddDouble : GoodIn wsX2_formOf (va_wsS RX2 15 yX2_hasOddDouble wsX2_hasOddDouble) := goodIn_app (goodIn_of _ (by decide +kernel)) ggX2_formOf_X2_hasOddDouble
theorem dX2_formOf_0 : decode cX2_formOf 0 = .ok (.iload_n 0, 1) := by decide +kernel
theorem dX2_formOf_1 : decode cX2_formOf 1 = .ok (.invokestatic 11, 3) := by decide +kernel
theorem dX2_formOf_4 : decode cX2_formOf 4 = .ok (.istore_n 1, 1) := by decide +kernel
theorem dX2_formOf_5 : decode cX2_formOf 5 = .ok (.iload_n 1, 1) := by decide +kernel
theorem dX2_formOf_6 : decode cX2_formOf 6 = .ok (.iconst (-1), 1) := by decide +kernel
theorem dX2_formOf_7 : decode cX2_formOf 7 = .ok (.if_icmp .eq 11, 3) := by decide +kernel
theorem dX2_formOf_10 : decode cX2_formOf 10 = .ok (.iload_n 0, 1) := by decide +kernel
theorem dX2_formOf_11 : decode cX2_formOf 11 = .ok (.iload_n 1, 1) := by decide +kernel
theorem dX2_formOf_12 : decode cX2_formOf 12 = .ok (.invokestatic 15, 3) := by decide +kernel
theorem dX2_formOf_15 : decode cX2_formOf 15 = .ok (.ifCond .eq 5, 3) := by decide +kernel
theorem dX2_formOf_18 : decode cX2_formOf 18 = .ok (.iconst (-1), 1) := by decide +kernel
theorem dX2_formOf_19 : decode cX2_formOf 19 = .ok (.ireturn, 1) := by decide +kernel
theorem dX2_formOf_20 : decode cX2_formOf 20 = .ok (.iload_n 1, 1) := by decide +kernel
theorem dX2_formOf_21 : decode cX2_formOf 21 = .ok (.ireturn, 1) := by decide +kernel
set_option maxRecDepth 20000 in
theorem ggX2_hasOddDouble_X4_has : GoodIn wsX2_hasOddDouble wsX4_has := goodIn_r _ [7] (by decide +kernel) (by decide +kernel)
set_option maxRecDepth 20000 in
theorem gX2_hasOddDouble_X4_has : GoodIn wsX2_hasOddDouble (va_wsS RX2 20 yX4_has wsX4_has) := goodIn_app (goodIn_of _ (by decide +kernel)) ggX2_hasOddDouble_X4_has
set_option maxRecDepth 20000 in
theorem ggX2_hasOddDouble_X3_fractionS : GoodIn wsX2_hasOddDouble wsX3_fractionS := goodIn_r _ [11, 12, 13, 10, 14] (by decide +kernel) (by decide +kernel)
set_option maxRecDepth 20000 in
theorem gX2_hasOddDouble_X3_fractionS : GoodIn wsX2_hasOddDouble (va_wsS RX2 23 yX3_fractionS wsX3_fractionS) := goodIn_app (goodIn_of _ (by decide +kernel)) ggX2_hasOddDouble_X3_fractionS
set_option maxRecDepth 20000 in
theorem ggX2_hasOddDouble_X3_fractionT : GoodIn wsX2_hasOddDouble wsX3_fractionT := goodIn_r _ [17, 18, 19, 10, 20] (by decide +kernel) (by decide +kernel)
set_option maxRecDepth 20000 in
theorem gX2_hasOddDouble_X3_fractionT : GoodIn wsX2_hasOddDouble (va_wsS RX2 29 yX3_fractionT wsX3_fractionT) := goodIn_app (goodIn_of _ (by decide +kernel)) ggX2_hasOddDouble_X3_fractionT
set_option maxRecDepth 20000 in
theorem ggX2_hasOddDouble_X3_fractionD : GoodIn wsX2_hasOddDouble wsX3_fractionD := goodIn_r _ [23] (by decide +kernel) (by decide +kernel)
set_option maxRecDepth 20000 in
theorem gX2_hasOddDouble_X3_fractionD : GoodIn wsX2_hasOddDouble (va_wsS RX2 33 yX3_fractionD wsX3_fractionD) := goodIn_app (goodIn_of _ (by decide +kernel)) ggX2_hasOddDouble_X3_fractionD
theorem dX2_hasOddDouble_0 : decode cX2_hasOddDouble 0 = .ok (.iconst 0, 1) := by decide +kernel
theorem dX2_hasOddDouble_1 : decode cX2_hasOddDouble 1 = .ok (.istore_n 2, 1) := by decide +kernel
theorem dX2_hasOddDouble_2 : decode cX2_hasOddDouble 2 = .ok (.iload_n 1, 1) := by decide +kernel
theorem dX2_hasOddDouble_3 : decode cX2_hasOddDouble 3 = .ok (.ldc 19, 2) := by decide +kernel
theorem dX2_hasOddDouble_5 : decode cX2_hasOddDouble 5 = .ok (.invokestatic 20, 3) := by decide +kernel
theorem dX2_hasOddDouble_8 : decode cX2_hasOddDouble 8 = .ok (.ifCond .eq 10, 3) := by decide +kernel
theorem dX2_hasOddDouble_11 : decode cX2_hasOddDouble 11 = .ok (.iload_n 2, 1) := by decide +kernel
theorem dX2_hasOddDouble_12 : decode cX2_hasOddDouble 12 = .ok (.iload_n 0, 1) := by decide +kernel
theorem dX2_hasOddDouble_13 : decode cX2_hasOddDouble 13 = .ok (.invokestatic 23, 3) := by decide +kernel
theorem dX2_hasOddDouble_16 : decode cX2_hasOddDouble 16 = .ok (.ior, 1) := by decide +kernel
theorem dX2_hasOddDouble_17 : decode cX2_hasOddDouble 17 = .ok (.istore_n 2, 1) := by decide +kernel
theorem dX2_hasOddDouble_18 : decode cX2_hasOddDouble 18 = .ok (.iload_n 1, 1) := by decide +kernel
theorem dX2_hasOddDouble_19 : decode cX2_hasOddDouble 19 = .ok (.ldc 28, 2) := by decide +kernel
theorem dX2_hasOddDouble_21 : decode cX2_hasOddDouble 21 = .ok (.invokestatic 20, 3) := by decide +kernel
theorem dX2_hasOddDouble_24 : decode cX2_hasOddDouble 24 = .ok (.ifCond .eq 10, 3) := by decide +kernel
theorem dX2_hasOddDouble_27 : decode cX2_hasOddDouble 27 = .ok (.iload_n 2, 1) := by decide +kernel
theorem dX2_hasOddDouble_28 : decode cX2_hasOddDouble 28 = .ok (.iload_n 0, 1) := by decide +kernel
theorem dX2_hasOddDouble_29 : decode cX2_hasOddDouble 29 = .ok (.invokestatic 29, 3) := by decide +kernel
theorem dX2_hasOddDouble_32 : decode cX2_hasOddDouble 32 = .ok (.ior, 1) := by decide +kernel
theorem dX2_hasOddDouble_33 : decode cX2_hasOddDouble 33 = .ok (.istore_n 2, 1) := by decide +kernel
theorem dX2_hasOddDouble_34 : decode cX2_hasOddDouble 34 = .ok (.iload_n 1, 1) := by decide +kernel
theorem dX2_hasOddDouble_35 : decode cX2_hasOddDouble 35 = .ok (.ldc 32, 2) := by decide +kernel
theorem dX2_hasOddDouble_37 : decode cX2_hasOddDouble 37 = .ok (.invokestatic 20, 3) := by decide +kernel
theorem dX2_hasOddDouble_40 : decode cX2_hasOddDouble 40 = .ok (.ifCond .eq 10, 3) := by decide +kernel
theorem dX2_hasOddDouble_43 : decode cX2_hasOddDouble 43 = .ok (.iload_n 2, 1) := by decide +kernel
theorem dX2_hasOddDouble_44 : decode cX2_hasOddDouble 44 = .ok (.iload_n 0, 1) := by decide +kernel
theorem dX2_hasOddDouble_45 : decode cX2_hasOddDouble 45 = .ok (.invokestatic 33, 3) := by decide +kernel
theorem dX2_hasOddDouble_48 : decode cX2_hasOddDouble 48 = .ok (.ior, 1) := by decide +kernel
theorem dX2_hasOddDouble_49 : decode cX2_hasOddDouble 49 = .ok (.istore_n 2, 1) := by decide +kernel
theorem dX2_hasOddDouble_50 : decode cX2_hasOddDouble 50 = .ok (.iload_n 2, 1) := by decide +kernel
theorem dX2_hasOddDouble_51 : decode cX2_hasOddDouble 51 = .ok (.iconst 1, 1) := by decide +kernel
theorem dX2_hasOddDouble_52 : decode cX2_hasOddDouble 52 = .ok (.iand, 1) := by decide +kernel
theorem dX2_hasOddDouble_53 : decode cX2_hasOddDouble 53 = .ok (.ifCond .eq 7, 3) := by decide +kernel
theorem dX2_hasOddDouble_56 : decode cX2_hasOddDouble 56 = .ok (.iconst 1, 1) := by decide +kernel
theorem dX2_hasOddDouble_57 : decode cX2_hasOddDouble 57 = .ok (.goto 4, 3) := by decide +kernel
theorem dX2_hasOddDouble_60 : decode cX2_hasOddDouble 60 = .ok (.iconst 0, 1) := by decide +kernel
theorem dX2_hasOddDouble_61 : decode cX2_hasOddDouble 61 = .ok (.ireturn, 1) := by decide +kernel
set_option maxRecDepth 20000 in
theorem ggX2_formByOperation_X3_operation : GoodIn wsX2_formByOperation wsX3_operation := goodIn_r _ [4] (by decide +kernel) (by decide +kernel)
set_option maxRecDepth 20000 in
theorem gX2_formByOperation_X3_operation : GoodIn wsX2_formByOperation (va_wsS RX2 36 yX3_operation wsX3_operation) := goodIn_app (goodIn_of _ (by decide +kernel)) ggX2_formByOperation_X3_operation
set_option maxRecDepth 20000 in
theorem ggX2_formByOperation_X3_function : GoodIn wsX2_formByOperation wsX3_function := goodIn_r _ [7] (by decide +kernel) (by decide +kernel)
set_option maxRecDepth 20000 in
theorem gX2_formByOperation_X3_function : GoodIn wsX2_formByOperation (va_wsS RX2 39 yX3_function wsX3_function) := goodIn_app (goodIn_of _ (by decide +kernel)) ggX2_formByOperation_X3_function
set_option maxRecDepth 20000 in
theorem ggX2_formByOperation_X2_special : GoodIn wsX2_formByOperation wsX2_special := goodIn_r _ [11, 12, 13, 10, 14] (by decide +kernel) (by decide +kernel)
set_option maxRecDepth 20000 in
theorem gX2_formByOperation_X2_special : GoodIn wsX2_formByOperation (va_wsS RX2 42 yX2_special wsX2_special) := goodIn_app (goodIn_of _ (by decide +kernel)) ggX2_formByOperation_X2_special
set_option maxRecDepth 20000 in
theorem ggX2_formByOperation_X3_t : GoodIn wsX2_formByOperation wsX3_t := goodIn_r _ [17] (by decide +kernel) (by decide +kernel)
set_option maxRecDepth 20000 in
theorem gX2_formByOperation_X3_t : GoodIn wsX2_formByOperation (va_wsS RX2 45 yX3_t wsX3_t) := goodIn_app (goodIn_of _ (by decide +kernel)) ggX2_formByOperation_X3_t
set_option maxRecDepth 20000 in
theorem ggX2_formByOperation_X2_byRegisterField : GoodIn wsX2_formByOperation wsX2_byRegisterField := goodIn_r _ [20, 21] (by decide +kernel) (by decide +kernel)
set_option maxRecDepth 20000 in
theorem gX2_formByOperation_X2_byRegisterField : GoodIn wsX2_formByOperation (va_wsS RX2 48 yX2_byRegisterField wsX2_byRegisterField) := goodIn_app (goodIn_of _ (by decide +kernel)) ggX2_formByOperation_X2_byRegisterField
set_option maxRecDepth 20000 in
theorem ggX2_formByOperation_X2_coprocessor : GoodIn wsX2_formByOperation wsX2_coprocessor := goodIn_r _ [24, 25, 26, 27, 28, 5, 6, 3, 7, 29, 30, 31, 15, 16, 17, 32, 33, 10, 34, 35, 36, 37, 38, 39, 40, 41, 42, 43, 44, 45, 46, 47, 48, 49, 50, 51, 52, 53, 54, 55, 56, 57, 58, 59] (by decide +kernel) (by decide +kernel)
set_option maxRecDepth 20000 in
theorem gX2_formByOperation_X2_coprocessor : GoodIn wsX2_formByOperation (va_wsS RX2 51 yX2_coprocessor wsX2_coprocessor) := goodIn_app (goodIn_of _ (by decide +kernel)) ggX2_formByOperation_X2_coprocessor
set_option maxRecDepth 20000 in
theorem ggX2_formByOperation_X2_special2 : GoodIn wsX2_formByOperation wsX2_special2 := goodIn_r _ [62] (by decide +kernel) (by decide +kernel)
set_option maxRecDepth 20000 in
theorem gX2_formByOperation_X2_special2 : GoodIn wsX2_formByOperation (va_wsS RX2 54 yX2_special2 wsX2_special2) := goodIn_app (goodIn_of _ (by decide +kernel)) ggX2_formByOperation_X2_special2
set_option maxRecDepth 20000 in
theorem ggX2_formByOperation_X2_immediateOrBranch : GoodIn wsX2_formByOperation wsX2_immediateOrBranch := goodIn_r _ [65, 66, 21] (by decide +kernel) (by decide +kernel)
set_option maxRecDepth 20000 in
theorem gX2_formByOperation_X2_immediateOrBranch : GoodIn wsX2_formByOperation (va_wsS RX2 57 yX2_immediateOrBranch wsX2_immediateOrBranch) := goodIn_app (goodIn_of _ (by decide +kernel)) ggX2_formByOperation_X2_immediateOrBranch
set_option maxRecDepth 20000 in
theorem ggX2_formByOperation_X2_memory : GoodIn wsX2_formByOperation wsX2_memory := goodIn_r _ [69, 70, 71, 72, 73] (by decide +kernel) (by decide +kernel)
set_option maxRecDepth 20000 in
theorem gX2_formByOperation_X2_memory : GoodIn wsX2_formByOperation (va_wsS RX2 60 yX2_memory wsX2_memory) := goodIn_app (goodIn_of _ (by decide +kernel)) ggX2_formByOperation_X2_memory
theorem dX2_formByOperation_0 : decode cX2_formByOperation 0 = .ok (.iload_n 0, 1) := by decide +kernel
theorem dX2_formByOperation_1 : decode cX2_formByOperation 1 = .ok (.invokestatic 36, 3) := by decide +kernel
theorem dX2_formByOperation_4 : decode cX2_formByOperation 4 = .ok (.istore_n 1, 1) := by decide +kernel
theorem dX2_formByOperation_5 : decode cX2_formByOperation 5 = .ok (.iload_n 1, 1) := by decide +kernel
theorem dX2_formByOperation_6 : decode cX2_formByOperation 6 = .ok (.lookupswitch 71 #[(0, 42), (1, 50), (17, 58), (28, 63)], 42) := by decide +kernel
theorem dX2_formByOperation_48 : decode cX2_formByOperation 48 = .ok (.iload_n 0, 1) := by decide +kernel
theorem dX2_formByOperation_49 : decode cX2_formByOperation 49 = .ok (.invokestatic 39, 3) := by decide +kernel
theorem dX2_formByOperation_52 : decode cX2_formByOperation 52 = .ok (.invokestatic 42, 3) := by decide +kernel
theorem dX2_formByOperation_55 : decode cX2_formByOperation 55 = .ok (.ireturn, 1) := by decide +kernel
theorem dX2_formByOperation_56 : decode cX2_formByOperation 56 = .ok (.iload_n 0, 1) := by decide +kernel
theorem dX2_formByOperation_57 : decode cX2_formByOperation 57 = .ok (.invokestatic 45, 3) := by decide +kernel
theorem dX2_formByOperation_60 : decode cX2_formByOperation 60 = .ok (.invokestatic 48, 3) := by decide +kernel
theorem dX2_formByOperation_63 : decode cX2_formByOperation 63 = .ok (.ireturn, 1) := by decide +kernel
theorem dX2_formByOperation_64 : decode cX2_formByOperation 64 = .ok (.iload_n 0, 1) := by decide +kernel
theorem dX2_formByOperation_65 : decode cX2_formByOperation 65 = .ok (.invokestatic 51, 3) := by decide +kernel
theorem dX2_formByOperation_68 : decode cX2_formByOperation 68 = .ok (.ireturn, 1) := by decide +kernel
theorem dX2_formByOperation_69 : decode cX2_formByOperation 69 = .ok (.iload_n 0, 1) := by decide +kernel
theorem dX2_formByOperation_70 : decode cX2_formByOperation 70 = .ok (.invokestatic 39, 3) := by decide +kernel
theorem dX2_formByOperation_73 : decode cX2_formByOperation 73 = .ok (.invokestatic 54, 3) := by decide +kernel
theorem dX2_formByOperation_76 : decode cX2_formByOperation 76 = .ok (.ireturn, 1) := by decide +kernel
theorem dX2_formByOperation_77 : decode cX2_formByOperation 77 = .ok (.iload_n 1, 1) := by decide +kernel
theorem dX2_formByOperation_78 : decode cX2_formByOperation 78 = .ok (.bipush 32, 2) := by decide +kernel
theorem dX2_formByOperation_80 : decode cX2_formByOperation 80 = .ok (.if_icmp .ge 10, 3) := by decide +kernel
theorem dX2_formByOperation_83 : decode cX2_formByOperation 83 = .ok (.iload_n 1, 1) := by decide +kernel
theorem dX2_formByOperation_84 : decode cX2_formByOperation 84 = .ok (.invokestatic 57, 3) := by decide +kernel
theorem dX2_formByOperation_87 : decode cX2_formByOperation 87 = .ok (.goto 7, 3) := by decide +kernel
theorem dX2_formByOperation_90 : decode cX2_formByOperation 90 = .ok (.iload_n 1, 1) := by decide +kernel
theorem dX2_formByOperation_91 : decode cX2_formByOperation 91 = .ok (.invokestatic 60, 3) := by decide +kernel
theorem dX2_formByOperation_94 : decode cX2_formByOperation 94 = .ok (.ireturn, 1) := by decide +kernel
set_option maxRecDepth 20000 in
theorem ggX2_special_X2_threeOrBarrier : GoodIn wsX2_special wsX2_threeOrBarrier := goodIn_r _ [4] (by decide +kernel) (by decide +kernel)
set_option maxRecDepth 20000 in
theorem gX2_special_X2_threeOrBarrier : GoodIn wsX2_special (va_wsS RX2 63 yX2_threeOrBarrier wsX2_threeOrBarrier) := goodIn_app (goodIn_of _ (by decide +kernel)) ggX2_special_X2_threeOrBarrier
theorem dX2_special_0 : decode cX2_special 0 = .ok (.iload_n 0, 1) := by decide +kernel
theorem dX2_special_1 : decode cX2_special 1 = .ok (.tableswitch 162 0 27 #[127, 131, 127, 127, 162, 162, 162, 162, 135, 138, 142, 142, 162, 162, 162, 162, 146, 150, 146, 150, 162, 162, 162, 162, 154, 154, 158, 158], 127) := by decide +kernel
theorem dX2_special_128 : decode cX2_special 128 = .ok (.sipush 288, 3) := by decide +kernel
theorem dX2_special_131 : decode cX2_special 131 = .ok (.ireturn, 1) := by decide +kernel
theorem dX2_special_132 : decode cX2_special 132 = .ok (.sipush 4432, 3) := by decide +kernel
theorem dX2_special_135 : decode cX2_special 135 = .ok (.ireturn, 1) := by decide +kernel
theorem dX2_special_136 : decode cX2_special 136 = .ok (.bipush 23, 2) := by decide +kernel
theorem dX2_special_138 : decode cX2_special 138 = .ok (.ireturn, 1) := by decide +kernel
theorem dX2_special_139 : decode cX2_special 139 = .ok (.sipush 279, 3) := by decide +kernel
theorem dX2_special_142 : decode cX2_special 142 = .ok (.ireturn, 1) := by decide +kernel
theorem dX2_special_143 : decode cX2_special 143 = .ok (.sipush 368, 3) := by decide +kernel
theorem dX2_special_146 : decode cX2_special 146 = .ok (.ireturn, 1) := by decide +kernel
theorem dX2_special_147 : decode cX2_special 147 = .ok (.sipush 1280, 3) := by decide +kernel
theorem dX2_special_150 : decode cX2_special 150 = .ok (.ireturn, 1) := by decide +kernel
theorem dX2_special_151 : decode cX2_special 151 = .ok (.sipush 3088, 3) := by decide +kernel
theorem dX2_special_154 : decode cX2_special 154 = .ok (.ireturn, 1) := by decide +kernel
theorem dX2_special_155 : decode cX2_special 155 = .ok (.sipush 2099, 3) := by decide +kernel
theorem dX2_special_158 : decode cX2_special 158 = .ok (.ireturn, 1) := by decide +kernel
theorem dX2_special_159 : decode cX2_special 159 = .ok (.sipush 2100, 3) := by decide +kernel
theorem dX2_special_162 : decode cX2_special 162 = .ok (.ireturn, 1) := by decide +kernel
theorem dX2_special_163 : decode cX2_special 163 = .ok (.iload_n 0, 1) := by decide +kernel
theorem dX2_special_164 : decode cX2_special 164 = .ok (.invokestatic 63, 3) := by decide +kernel
theorem dX2_special_167 : decode cX2_special 167 = .ok (.ireturn, 1) := by decide +kernel
theorem dX2_threeOrBarrier_0 : decode cX2_threeOrBarrier 0 = .ok (.iload_n 0, 1) := by decide +kernel
theorem dX2_threeOrBarrier_1 : decode cX2_threeOrBarrier 1 = .ok (.tableswitch 226 4 54 #[219, 226, 219, 219, 226, 226, 226, 226, 223, 223, 226, 223, 226, 226, 226, 226, 226, 226, 226, 226, 226, 226, 226, 226, 226, 226, 226, 226, 223, 219, 223, 219, 219, 219, 219, 219, 226, 226, 219, 219, 226, 226, 226, 226, 223, 223, 223, 223, 223, 226, 223], 219) := by decide +kernel
theorem dX2_threeOrBarrier_220 : decode cX2_threeOrBarrier 220 = .ok (.sipush 304, 3) := by decide +kernel
theorem dX2_threeOrBarrier_223 : decode cX2_threeOrBarrier 223 = .ok (.ireturn, 1) := by decide +kernel
theorem dX2_threeOrBarrier_224 : decode cX2_threeOrBarrier 224 = .ok (.bipush 8, 2) := by decide +kernel
theorem dX2_threeOrBarrier_226 : decode cX2_threeOrBarrier 226 = .ok (.ireturn, 1) := by decide +kernel
theorem dX2_threeOrBarrier_227 : decode cX2_threeOrBarrier 227 = .ok (.iconst (-1), 1) := by decide +kernel
theorem dX2_threeOrBarrier_228 : decode cX2_threeOrBarrier 228 = .ok (.ireturn, 1) := by decide +kernel
theorem dX2_special2_0 : decode cX2_special2 0 = .ok (.iload_n 0, 1) := by decide +kernel
theorem dX2_special2_1 : decode cX2_special2 1 = .ok (.lookupswitch 79 #[(0, 67), (1, 67), (2, 71), (4, 67), (5, 67), (32, 75), (33, 75)], 67) := by decide +kernel
theorem dX2_special2_68 : decode cX2_special2 68 = .ok (.sipush 3123, 3) := by decide +kernel
theorem dX2_special2_71 : decode cX2_special2 71 = .ok (.ireturn, 1) := by decide +kernel
theorem dX2_special2_72 : decode cX2_special2 72 = .ok (.sipush 2355, 3) := by decide +kernel
theorem dX2_special2_75 : decode cX2_special2 75 = .ok (.ireturn, 1) := by decide +kernel
theorem dX2_special2_76 : decode cX2_special2 76 = .ok (.sipush 272, 3) := by decide +kernel
theorem dX2_special2_79 : decode cX2_special2 79 = .ok (.ireturn, 1) := by decide +kernel
theorem dX2_special2_80 : decode cX2_special2 80 = .ok (.iconst (-1), 1) := by decide +kernel
theorem dX2_special2_81 : decode cX2_special2 81 = .ok (.ireturn, 1) := by decide +kernel
theorem dX2_byRegisterField_0 : decode cX2_byRegisterField 0 = .ok (.iload_n 0, 1) := by decide +kernel
theorem dX2_byRegisterField_1 : decode cX2_byRegisterField 1 = .ok (.tableswitch 100 0 17 #[87, 87, 90, 90, 100, 100, 100, 100, 93, 93, 93, 93, 93, 100, 93, 100, 96, 96], 87) := by decide +kernel
theorem dX2_byRegisterField_88 : decode cX2_byRegisterField 88 = .ok (.bipush 23, 2) := by decide +kernel
theorem dX2_byRegisterField_90 : decode cX2_byRegisterField 90 = .ok (.ireturn, 1) := by decide +kernel
theorem dX2_byRegisterField_91 : decode cX2_byRegisterField 91 = .ok (.ldc 66, 2) := by decide +kernel
theorem dX2_byRegisterField_93 : decode cX2_byRegisterField 93 = .ok (.ireturn, 1) := by decide +kernel
theorem dX2_byRegisterField_94 : decode cX2_byRegisterField 94 = .ok (.bipush 8, 2) := by decide +kernel
theorem dX2_byRegisterField_96 : decode cX2_byRegisterField 96 = .ok (.ireturn, 1) := by decide +kernel
theorem dX2_byRegisterField_97 : decode cX2_byRegisterField 97 = .ok (.sipush 535, 3) := by decide +kernel
theorem dX2_byRegisterField_100 : decode cX2_byRegisterField 100 = .ok (.ireturn, 1) := by decide +kernel
theorem dX2_byRegisterField_101 : decode cX2_byRegisterField 101 = .ok (.iconst (-1), 1) := by decide +kernel
theorem dX2_byRegisterField_102 : decode cX2_byRegisterField 102 = .ok (.ireturn, 1) := by decide +kernel
theorem dX2_immediateOrBranch_0 : decode cX2_immediateOrBranch 0 = .ok (.iload_n 0, 1) := by decide +kernel
theorem dX2_immediateOrBranch_1 : decode cX2_immediateOrBranch 1 = .ok (.tableswitch 133 2 23 #[103, 106, 110, 110, 113, 113, 122, 125, 125, 125, 125, 125, 125, 129, 133, 133, 133, 133, 116, 116, 119, 119], 103) := by decide +kernel
theorem dX2_immediateOrBranch_104 : decode cX2_immediateOrBranch 104 = .ok (.bipush 7, 2) := by decide +kernel
theorem dX2_immediateOrBranch_106 : decode cX2_immediateOrBranch 106 = .ok (.ireturn, 1) := by decide +kernel
theorem dX2_immediateOrBranch_107 : decode cX2_immediateOrBranch 107 = .ok (.sipush 519, 3) := by decide +kernel
theorem dX2_immediateOrBranch_110 : decode cX2_immediateOrBranch 110 = .ok (.ireturn, 1) := by decide +kernel
theorem dX2_immediateOrBranch_111 : decode cX2_immediateOrBranch 111 = .ok (.bipush 55, 2) := by decide +kernel
theorem dX2_immediateOrBranch_113 : decode cX2_immediateOrBranch 113 = .ok (.ireturn, 1) := by decide +kernel
theorem dX2_immediateOrBranch_114 : decode cX2_immediateOrBranch 114 = .ok (.bipush 23, 2) := by decide +kernel
theorem dX2_immediateOrBranch_116 : decode cX2_immediateOrBranch 116 = .ok (.ireturn, 1) := by decide +kernel
theorem dX2_immediateOrBranch_117 : decode cX2_immediateOrBranch 117 = .ok (.ldc 67, 2) := by decide +kernel
theorem dX2_immediateOrBranch_119 : decode cX2_immediateOrBranch 119 = .ok (.ireturn, 1) := by decide +kernel
theorem dX2_immediateOrBranch_120 : decode cX2_immediateOrBranch 120 = .ok (.ldc 66, 2) := by decide +kernel
theorem dX2_immediateOrBranch_122 : decode cX2_immediateOrBranch 122 = .ok (.ireturn, 1) := by decide +kernel
theorem dX2_immediateOrBranch_123 : decode cX2_immediateOrBranch 123 = .ok (.bipush 8, 2) := by decide +kernel
theorem dX2_immediateOrBranch_125 : decode cX2_immediateOrBranch 125 = .ok (.ireturn, 1) := by decide +kernel
theorem dX2_immediateOrBranch_126 : decode cX2_immediateOrBranch 126 = .ok (.sipush 144, 3) := by decide +kernel
theorem dX2_immediateOrBranch_129 : decode cX2_immediateOrBranch 129 = .ok (.ireturn, 1) := by decide +kernel
theorem dX2_immediateOrBranch_130 : decode cX2_immediateOrBranch 130 = .ok (.sipush 128, 3) := by decide +kernel
theorem dX2_immediateOrBranch_133 : decode cX2_immediateOrBranch 133 = .ok (.ireturn, 1) := by decide +kernel
theorem dX2_immediateOrBranch_134 : decode cX2_immediateOrBranch 134 = .ok (.iconst (-1), 1) := by decide +kernel
theorem dX2_immediateOrBranch_135 : decode cX2_immediateOrBranch 135 = .ok (.ireturn, 1) := by decide +kernel
theorem dX2_memory_0 : decode cX2_memory 0 = .ok (.iload_n 0, 1) := by decide +kernel
theorem dX2_memory_1 : decode cX2_memory 1 = .ok (.tableswitch 164 32 61 #[135, 135, 139, 135, 135, 135, 139, 164, 143, 143, 143, 143, 164, 164, 143, 164, 146, 149, 164, 152, 164, 155, 164, 164, 146, 158, 164, 164, 164, 161], 135) := by decide +kernel
theorem dX2_memory_136 : decode cX2_memory 136 = .ok (.sipush 145, 3) := by decide +kernel
theorem dX2_memory_139 : decode cX2_memory 139 = .ok (.ireturn, 1) := by decide +kernel
theorem dX2_memory_140 : decode cX2_memory 140 = .ok (.sipush 177, 3) := by decide +kernel
theorem dX2_memory_143 : decode cX2_memory 143 = .ok (.ireturn, 1) := by decide +kernel
theorem dX2_memory_144 : decode cX2_memory 144 = .ok (.bipush 50, 2) := by decide +kernel
theorem dX2_memory_146 : decode cX2_memory 146 = .ok (.ireturn, 1) := by decide +kernel
theorem dX2_memory_147 : decode cX2_memory 147 = .ok (.bipush 8, 2) := by decide +kernel
theorem dX2_memory_149 : decode cX2_memory 149 = .ok (.ireturn, 1) := by decide +kernel
theorem dX2_memory_150 : decode cX2_memory 150 = .ok (.ldc 68, 2) := by decide +kernel
theorem dX2_memory_152 : decode cX2_memory 152 = .ok (.ireturn, 1) := by decide +kernel
theorem dX2_memory_153 : decode cX2_memory 153 = .ok (.bipush 16, 2) := by decide +kernel
theorem dX2_memory_155 : decode cX2_memory 155 = .ok (.ireturn, 1) := by decide +kernel
theorem dX2_memory_156 : decode cX2_memory 156 = .ok (.ldc 69, 2) := by decide +kernel
theorem dX2_memory_158 : decode cX2_memory 158 = .ok (.ireturn, 1) := by decide +kernel
theorem dX2_memory_159 : decode cX2_memory 159 = .ok (.ldc 70, 2) := by decide +kernel
theorem dX2_memory_161 : decode cX2_memory 161 = .ok (.ireturn, 1) := by decide +kernel
theorem dX2_memory_162 : decode cX2_memory 162 = .ok (.ldc 71, 2) := by decide +kernel
theorem dX2_memory_164 : decode cX2_memory 164 = .ok (.ireturn, 1) := by decide +kernel
theorem dX2_memory_165 : decode cX2_memory 165 = .ok (.iconst (-1), 1) := by decide +kernel
theorem dX2_memory_166 : decode cX2_memory 166 = .ok (.ireturn, 1) := by decide +kernel
set_option maxRecDepth 20000 in
theorem ggX2_coprocessor_X3_function : GoodIn wsX2_coprocessor wsX3_function := goodIn_r _ [8] (by decide +kernel) (by decide +kernel)
set_option maxRecDepth 20000 in
theorem gX2_coprocessor_X3_function : GoodIn wsX2_coprocessor (va_wsS RX2 39 yX3_function wsX3_function) := goodIn_app (goodIn_of _ (by decide +kernel)) ggX2_coprocessor_X3_function
set_option maxRecDepth 20000 in
theorem ggX2_coprocessor_X3_s : GoodIn wsX2_coprocessor wsX3_s := goodIn_r _ [11] (by decide +kernel) (by decide +kernel)

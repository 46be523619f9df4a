theorem dX9_depends_10 : decode cX9_depends 10 = .ok (.aload_n 0, 1) := by decide +kernel
theorem dX9_depends_11 : decode cX9_depends 11 = .ok (.getfield 148, 3) := by decide +kernel
theorem dX9_depends_14 : decode cX9_depends 14 = .ok (.if_icmp .ge 15, 3) := by decide +kernel
theorem dX9_depends_17 : decode cX9_depends 17 = .ok (.iload_n 2, 1) := by decide +kernel
theorem dX9_depends_18 : decode cX9_depends 18 = .ok (.ifCond .lt 11, 3) := by decide +kernel
theorem dX9_depends_21 : decode cX9_depends 21 = .ok (.iload_n 2, 1) := by decide +kernel
theorem dX9_depends_22 : decode cX9_depends 22 = .ok (.aload_n 0, 1) := by decide +kernel
theorem dX9_depends_23 : decode cX9_depends 23 = .ok (.getfield 148, 3) := by decide +kernel
theorem dX9_depends_26 : decode cX9_depends 26 = .ok (.if_icmp .lt 9, 3) := by decide +kernel
theorem dX9_depends_29 : decode cX9_depends 29 = .ok (.aload_n 0, 1) := by decide +kernel
theorem dX9_depends_30 : decode cX9_depends 30 = .ok (.iconst 1, 1) := by decide +kernel
theorem dX9_depends_31 : decode cX9_depends 31 = .ok (.invokevirtual 139, 3) := by decide +kernel
theorem dX9_depends_34 : decode cX9_depends 34 = .ok (.ireturn, 1) := by decide +kernel
theorem dX9_depends_35 : decode cX9_depends 35 = .ok (.iload_n 2, 1) := by decide +kernel
theorem dX9_depends_36 : decode cX9_depends 36 = .ok (.iload_n 1, 1) := by decide +kernel
theorem dX9_depends_37 : decode cX9_depends 37 = .ok (.if_icmp .ge 12, 3) := by decide +kernel
theorem dX9_depends_40 : decode cX9_depends 40 = .ok (.aload_n 0, 1) := by decide +kernel
theorem dX9_depends_41 : decode cX9_depends 41 = .ok (.iload_n 1, 1) := by decide +kernel
theorem dX9_depends_42 : decode cX9_depends 42 = .ok (.iload_n 2, 1) := by decide +kernel
theorem dX9_depends_43 : decode cX9_depends 43 = .ok (.invokevirtual 165, 3) := by decide +kernel
theorem dX9_depends_46 : decode cX9_depends 46 = .ok (.goto 4, 3) := by decide +kernel
theorem dX9_depends_49 : decode cX9_depends 49 = .ok (.iconst (-1), 1) := by decide +kernel
theorem dX9_depends_50 : decode cX9_depends 50 = .ok (.ireturn, 1) := by decide +kernel
set_option maxRecDepth 20000 in
theorem ggX9_height_X9_fail : GoodIn wsX9_height wsX9_fail := goodIn_r _ [8, 1, 43, 44, 45, 46, 47, 48, 49, 50, 51, 52, 53, 54, 55, 56, 57, 58, 59, 60, 61, 62, 63, 64, 65, 66, 67, 68] (by decide +kernel) (by decide +kernel)
set_option maxRecDepth 20000 in
theorem gX9_height_X9_fail : GoodIn wsX9_height (wsV RX9 139 RX9 yX9_fail wsX9_fail) := goodIn_app (goodIn_of _ (by decide +kernel)) ggX9_height_X9_fail
set_option maxRecDepth 20000 in
theorem ggX9_height_X9_findHeights : GoodIn wsX9_height wsX9_findHeights := goodIn_r _ [12, 2, 3, 13, 14, 15, 16, 17, 7, 18, 19, 20, 21, 22, 23, 24, 25, 26, 27, 28, 29, 30, 31, 32, 33, 34, 35, 36, 37, 38, 39, 40, 41, 42, 43, 44, 45, 46, 47, 48, 49, 50, 51, 52, 53, 54, 55, 56, 57, 58, 59, 60, 61, 62, 63, 64, 65, 66, 67, 68] (by decide +kernel) (by decide +kernel)
set_option maxRecDepth 20000 in
theorem gX9_height_X9_findHeights : GoodIn wsX9_height (wsV RX9 169 RX9 yX9_findHeights wsX9_findHeights) := goodIn_app (goodIn_of _ (by decide +kernel)) ggX9_height_X9_findHeights
theorem dX9_height_0 : decode cX9_height 0 = .ok (.aload_n 0, 1) := by decide +kernel
theorem dX9_height_1 : decode cX9_height 1 = .ok (.iconst 0, 1) := by decide +kernel
theorem dX9_height_2 : decode cX9_height 2 = .ok (.putfield 54, 3) := by decide +kernel
theorem dX9_height_5 : decode cX9_height 5 = .ok (.iload_n 1, 1) := by decide +kernel
theorem dX9_height_6 : decode cX9_height 6 = .ok (.ifCond .lt 11, 3) := by decide +kernel
theorem dX9_height_9 : decode cX9_height 9 = .ok (.iload_n 1, 1) := by decide +kernel
theorem dX9_height_10 : decode cX9_height 10 = .ok (.aload_n 0, 1) := by decide +kernel
theorem dX9_height_11 : decode cX9_height 11 = .ok (.getfield 148, 3) := by decide +kernel
theorem dX9_height_14 : decode cX9_height 14 = .ok (.if_icmp .lt 9, 3) := by decide +kernel
theorem dX9_height_17 : decode cX9_height 17 = .ok (.aload_n 0, 1) := by decide +kernel
theorem dX9_height_18 : decode cX9_height 18 = .ok (.iconst 1, 1) := by decide +kernel
theorem dX9_height_19 : decode cX9_height 19 = .ok (.invokevirtual 139, 3) := by decide +kernel
theorem dX9_height_22 : decode cX9_height 22 = .ok (.ireturn, 1) := by decide +kernel
theorem dX9_height_23 : decode cX9_height 23 = .ok (.aload_n 0, 1) := by decide +kernel
theorem dX9_height_24 : decode cX9_height 24 = .ok (.invokevirtual 169, 3) := by decide +kernel
theorem dX9_height_27 : decode cX9_height 27 = .ok (.aload_n 0, 1) := by decide +kernel
theorem dX9_height_28 : decode cX9_height 28 = .ok (.getfield 42, 3) := by decide +kernel
theorem dX9_height_31 : decode cX9_height 31 = .ok (.iload_n 1, 1) := by decide +kernel
theorem dX9_height_32 : decode cX9_height 32 = .ok (.iaload, 1) := by decide +kernel
theorem dX9_height_33 : decode cX9_height 33 = .ok (.ireturn, 1) := by decide +kernel
theorem dX9_cycles_0 : decode cX9_cycles 0 = .ok (.aload_n 0, 1) := by decide +kernel
theorem dX9_cycles_1 : decode cX9_cycles 1 = .ok (.iconst 0, 1) := by decide +kernel
theorem dX9_cycles_2 : decode cX9_cycles 2 = .ok (.putfield 54, 3) := by decide +kernel
theorem dX9_cycles_5 : decode cX9_cycles 5 = .ok (.aload_n 0, 1) := by decide +kernel
theorem dX9_cycles_6 : decode cX9_cycles 6 = .ok (.getfield 190, 3) := by decide +kernel
theorem dX9_cycles_9 : decode cX9_cycles 9 = .ok (.ireturn, 1) := by decide +kernel
set_option maxRecDepth 20000 in
theorem ggX9_count_X9_isBranch : GoodIn wsX9_count wsX9_isBranch := goodIn_r _ [10, 11, 12, 13, 14, 9, 15, 16, 17, 18, 19, 20, 21, 22, 23, 24, 25, 26, 27, 28, 29, 30, 31, 32, 33, 34, 35, 36, 37, 38, 39, 40, 41, 42, 43, 44, 45, 46, 47, 48, 49, 50, 51, 52, 53, 54, 55, 56, 57, 58, 59, 60, 61, 62, 63, 64, 65, 66, 67, 68, 69, 70, 71, 72, 73, 74, 75, 76, 77, 78, 79, 80, 81, 82, 83, 84, 85, 86, 87, 88, 89, 90, 91, 92, 93, 94, 95, 96, 97, 98, 99, 100, 101, 102, 103, 104, 105, 106, 107, 108, 109, 110, 111] rfl (by decide +kernel)
set_option maxRecDepth 20000 in
theorem gX9_count_X9_isBranch : GoodIn wsX9_count (wsV RX9 193 RX9 yX9_isBranch wsX9_isBranch) := goodIn_app (goodIn_of _ (by decide +kernel)) ggX9_count_X9_isBranch
theorem dX9_count_0 : decode cX9_count 0 = .ok (.aload_n 0, 1) := by decide +kernel
theorem dX9_count_1 : decode cX9_count 1 = .ok (.iconst 0, 1) := by decide +kernel
theorem dX9_count_2 : decode cX9_count 2 = .ok (.putfield 54, 3) := by decide +kernel
theorem dX9_count_5 : decode cX9_count 5 = .ok (.iload_n 1, 1) := by decide +kernel
theorem dX9_count_6 : decode cX9_count 6 = .ok (.ifCond .lt 8, 3) := by decide +kernel
theorem dX9_count_9 : decode cX9_count 9 = .ok (.iload_n 1, 1) := by decide +kernel
theorem dX9_count_10 : decode cX9_count 10 = .ok (.iconst 3, 1) := by decide +kernel
theorem dX9_count_11 : decode cX9_count 11 = .ok (.if_icmp .le 5, 3) := by decide +kernel
theorem dX9_count_14 : decode cX9_count 14 = .ok (.iconst (-1), 1) := by decide +kernel
theorem dX9_count_15 : decode cX9_count 15 = .ok (.ireturn, 1) := by decide +kernel
theorem dX9_count_16 : decode cX9_count 16 = .ok (.iconst 0, 1) := by decide +kernel
theorem dX9_count_17 : decode cX9_count 17 = .ok (.istore_n 2, 1) := by decide +kernel
theorem dX9_count_18 : decode cX9_count 18 = .ok (.iconst 0, 1) := by decide +kernel
theorem dX9_count_19 : decode cX9_count 19 = .ok (.istore_n 3, 1) := by decide +kernel
theorem dX9_count_20 : decode cX9_count 20 = .ok (.iload_n 3, 1) := by decide +kernel
theorem dX9_count_21 : decode cX9_count 21 = .ok (.aload_n 0, 1) := by decide +kernel
theorem dX9_count_22 : decode cX9_count 22 = .ok (.getfield 181, 3) := by decide +kernel
theorem dX9_count_25 : decode cX9_count 25 = .ok (.if_icmp .ge 27, 3) := by decide +kernel
theorem dX9_count_28 : decode cX9_count 28 = .ok (.iload_n 2, 1) := by decide +kernel
theorem dX9_count_29 : decode cX9_count 29 = .ok (.aload_n 0, 1) := by decide +kernel
theorem dX9_count_30 : decode cX9_count 30 = .ok (.getfield 39, 3) := by decide +kernel
theorem dX9_count_33 : decode cX9_count 33 = .ok (.iload_n 3, 1) := by decide +kernel
theorem dX9_count_34 : decode cX9_count 34 = .ok (.iaload, 1) := by decide +kernel
theorem dX9_count_35 : decode cX9_count 35 = .ok (.iconst (-1), 1) := by decide +kernel
theorem dX9_count_36 : decode cX9_count 36 = .ok (.if_icmp .ne 7, 3) := by decide +kernel
theorem dX9_count_39 : decode cX9_count 39 = .ok (.iconst 1, 1) := by decide +kernel
theorem dX9_count_40 : decode cX9_count 40 = .ok (.goto 4, 3) := by decide +kernel
theorem dX9_count_43 : decode cX9_count 43 = .ok (.iconst 0, 1) := by decide +kernel
theorem dX9_count_44 : decode cX9_count 44 = .ok (.iadd, 1) := by decide +kernel
theorem dX9_count_45 : decode cX9_count 45 = .ok (.istore_n 2, 1) := by decide +kernel
theorem dX9_count_46 : decode cX9_count 46 = .ok (.iinc 3 1, 3) := by decide +kernel
theorem dX9_count_49 : decode cX9_count 49 = .ok (.goto (-29), 3) := by decide +kernel
theorem dX9_count_52 : decode cX9_count 52 = .ok (.aload_n 0, 1) := by decide +kernel
theorem dX9_count_53 : decode cX9_count 53 = .ok (.getfield 181, 3) := by decide +kernel
theorem dX9_count_56 : decode cX9_count 56 = .ok (.iconst 1, 1) := by decide +kernel
theorem dX9_count_57 : decode cX9_count 57 = .ok (.if_icmp .le 40, 3) := by decide +kernel
theorem dX9_count_60 : decode cX9_count 60 = .ok (.aload_n 0, 1) := by decide +kernel
theorem dX9_count_61 : decode cX9_count 61 = .ok (.getfield 39, 3) := by decide +kernel
theorem dX9_count_64 : decode cX9_count 64 = .ok (.aload_n 0, 1) := by decide +kernel
theorem dX9_count_65 : decode cX9_count 65 = .ok (.getfield 181, 3) := by decide +kernel
theorem dX9_count_68 : decode cX9_count 68 = .ok (.iconst 1, 1) := by decide +kernel
theorem dX9_count_69 : decode cX9_count 69 = .ok (.isub, 1) := by decide +kernel
theorem dX9_count_70 : decode cX9_count 70 = .ok (.iaload, 1) := by decide +kernel
theorem dX9_count_71 : decode cX9_count 71 = .ok (.iconst (-1), 1) := by decide +kernel
theorem dX9_count_72 : decode cX9_count 72 = .ok (.if_icmp .eq 25, 3) := by decide +kernel
theorem dX9_count_75 : decode cX9_count 75 = .ok (.aload_n 0, 1) := by decide +kernel
theorem dX9_count_76 : decode cX9_count 76 = .ok (.aload_n 0, 1) := by decide +kernel
theorem dX9_count_77 : decode cX9_count 77 = .ok (.getfield 36, 3) := by decide +kernel
theorem dX9_count_80 : decode cX9_count 80 = .ok (.aload_n 0, 1) := by decide +kernel
theorem dX9_count_81 : decode cX9_count 81 = .ok (.getfield 181, 3) := by decide +kernel
theorem dX9_count_84 : decode cX9_count 84 = .ok (.iconst 2, 1) := by decide +kernel
theorem dX9_count_85 : decode cX9_count 85 = .ok (.isub, 1) := by decide +kernel
theorem dX9_count_86 : decode cX9_count 86 = .ok (.iaload, 1) := by decide +kernel
theorem dX9_count_87 : decode cX9_count 87 = .ok (.invokevirtual 193, 3) := by decide +kernel
theorem dX9_count_90 : decode cX9_count 90 = .ok (.ifCond .eq 7, 3) := by decide +kernel
theorem dX9_count_93 : decode cX9_count 93 = .ok (.iconst 1, 1) := by decide +kernel
theorem dX9_count_94 : decode cX9_count 94 = .ok (.goto 4, 3) := by decide +kernel
theorem dX9_count_97 : decode cX9_count 97 = .ok (.iconst 0, 1) := by decide +kernel
theorem dX9_count_98 : decode cX9_count 98 = .ok (.istore_n 3, 1) := by decide +kernel
theorem dX9_count_99 : decode cX9_count 99 = .ok (.iload_n 1, 1) := by decide +kernel
theorem dX9_count_100 : decode cX9_count 100 = .ok (.ifCond .ne 10, 3) := by decide +kernel
theorem dX9_count_103 : decode cX9_count 103 = .ok (.aload_n 0, 1) := by decide +kernel
theorem dX9_count_104 : decode cX9_count 104 = .ok (.getfield 148, 3) := by decide +kernel
theorem dX9_count_107 : decode cX9_count 107 = .ok (.goto 33, 3) := by decide +kernel
theorem dX9_count_110 : decode cX9_count 110 = .ok (.iload_n 1, 1) := by decide +kernel
theorem dX9_count_111 : decode cX9_count 111 = .ok (.iconst 1, 1) := by decide +kernel
theorem dX9_count_112 : decode cX9_count 112 = .ok (.if_icmp .ne 10, 3) := by decide +kernel
theorem dX9_count_115 : decode cX9_count 115 = .ok (.aload_n 0, 1) := by decide +kernel
theorem dX9_count_116 : decode cX9_count 116 = .ok (.getfield 181, 3) := by decide +kernel
theorem dX9_count_119 : decode cX9_count 119 = .ok (.goto 21, 3) := by decide +kernel
theorem dX9_count_122 : decode cX9_count 122 = .ok (.iload_n 1, 1) := by decide +kernel
theorem dX9_count_123 : decode cX9_count 123 = .ok (.iconst 2, 1) := by decide +kernel
theorem dX9_count_124 : decode cX9_count 124 = .ok (.if_icmp .ne 7, 3) := by decide +kernel
theorem dX9_count_127 : decode cX9_count 127 = .ok (.iload_n 2, 1) := by decide +kernel
theorem dX9_count_128 : decode cX9_count 128 = .ok (.goto 12, 3) := by decide +kernel
theorem dX9_count_131 : decode cX9_count 131 = .ok (.iload_n 3, 1) := by decide +kernel
theorem dX9_count_132 : decode cX9_count 132 = .ok (.ifCond .eq 7, 3) := by decide +kernel
theorem dX9_count_135 : decode cX9_count 135 = .ok (.iconst 1, 1) := by decide +kernel
theorem dX9_count_136 : decode cX9_count 136 = .ok (.goto 4, 3) := by decide +kernel
theorem dX9_count_139 : decode cX9_count 139 = .ok (.iconst 0, 1) := by decide +kernel
theorem dX9_count_140 : decode cX9_count 140 = .ok (.ireturn, 1) := by decide +kernel
set_option maxRecDepth 20000 in
theorem ggX9_isBranch_X9_look : GoodIn wsX9_isBranch wsX9_look := goodIn_r _ [6, 7, 1, 8, 9, 10, 11, 12, 13, 5, 14, 15, 16, 17, 18, 19, 20, 21, 22, 23, 24, 25, 26, 27, 28, 29, 30, 31, 32, 33, 34, 35, 36, 37, 38, 39, 40, 41, 42, 43, 44, 45, 46, 47, 48, 49, 50, 51, 52, 53, 54, 55, 56, 57, 58, 59, 60, 61, 62, 63, 64, 65, 66, 67, 68, 69, 70, 71, 72, 73, 74, 75, 76, 77, 78, 79, 80, 81, 82, 83, 84, 85, 86, 87, 88, 89, 90, 91, 92, 93, 94, 95, 96, 97, 98, 99, 100, 101, 102] rfl (by decide +kernel)
set_option maxRecDepth 20000 in
theorem gX9_isBranch_X9_look : GoodIn wsX9_isBranch (wsV RX9 142 RX9 yX9_look wsX9_look) := goodIn_app (goodIn_of _ (by decide +kernel)) ggX9_isBranch_X9_look
theorem dX9_isBranch_0 : decode cX9_isBranch 0 = .ok (.aload_n 0, 1) := by decide +kernel
theorem dX9_isBranch_1 : decode cX9_isBranch 1 = .ok (.iload_n 1, 1) := by decide +kernel
theorem dX9_isBranch_2 : decode cX9_isBranch 2 = .ok (.invokevirtual 142, 3) := by decide +kernel
theorem dX9_isBranch_5 : decode cX9_isBranch 5 = .ok (.aload_n 0, 1) := by decide +kernel
theorem dX9_isBranch_6 : decode cX9_isBranch 6 = .ok (.getfield 69, 3) := by decide +kernel
theorem dX9_isBranch_9 : decode cX9_isBranch 9 = .ok (.bipush 7, 2) := by decide +kernel
theorem dX9_isBranch_11 : decode cX9_isBranch 11 = .ok (.if_icmp .ne 7, 3) := by decide +kernel
theorem dX9_isBranch_14 : decode cX9_isBranch 14 = .ok (.iconst 1, 1) := by decide +kernel
theorem dX9_isBranch_15 : decode cX9_isBranch 15 = .ok (.goto 4, 3) := by decide +kernel
theorem dX9_isBranch_18 : decode cX9_isBranch 18 = .ok (.iconst 0, 1) := by decide +kernel
theorem dX9_isBranch_19 : decode cX9_isBranch 19 = .ok (.ireturn, 1) := by decide +kernel
theorem dJ9_max_7cf53_0 : decode cJ9_max_7cf53 0 = .ok (.iload_n 0, 1) := by decide +kernel
theorem dJ9_max_7cf53_1 : decode cJ9_max_7cf53 1 = .ok (.iload_n 1, 1) := by decide +kernel
theorem dJ9_max_7cf53_2 : decode cJ9_max_7cf53 2 = .ok (.if_icmp .lt 7, 3) := by decide +kernel
theorem dJ9_max_7cf53_5 : decode cJ9_max_7cf53 5 = .ok (.iload_n 0, 1) := by decide +kernel
theorem dJ9_max_7cf53_6 : decode cJ9_max_7cf53 6 = .ok (.goto 4, 3) := by decide +kernel
theorem dJ9_max_7cf53_9 : decode cJ9_max_7cf53 9 = .ok (.iload_n 1, 1) := by decide +kernel
theorem dJ9_max_7cf53_10 : decode cJ9_max_7cf53 10 = .ok (.ireturn, 1) := by decide +kernel
set_option maxRecDepth 20000 in
theorem ggL_latency_X8_latency : GoodIn wsL_latency wsX8_latency := goodIn_ca (goodIn_r _ [6, 7, 8, 9, 10, 11, 12, 13, 14, 15, 16, 17, 18, 19, 20, 21, 22, 23, 24, 25, 26, 27, 28, 29] (by decide +kernel) (by decide +kernel)) (goodIn_sub (fun _ h => List.mem_cons_of_mem _ (List.mem_append_right _ h)) (by decide +kernel))
set_option maxRecDepth 20000 in
theorem gL_latency_X8_latency : GoodIn wsL_latency (wsV RL 7 RX8 yX8_latency wsX8_latency) := goodIn_app (goodIn_of _ (by decide +kernel)) ggL_latency_X8_latency
theorem dL_latency_0 : decode cL_latency 0 = .ok (.aload_n 3, 1) := by decide +kernel
theorem dL_latency_1 : decode cL_latency 1 = .ok (.iconst 0, 1) := by decide +kernel
theorem dL_latency_2 : decode cL_latency 2 = .ok (.aload_n 0, 1) := by decide +kernel
theorem dL_latency_3 : decode cL_latency 3 = .ok (.iload_n 1, 1) := by decide +kernel
theorem dL_latency_4 : decode cL_latency 4 = .ok (.iload_n 2, 1) := by decide +kernel
theorem dL_latency_5 : decode cL_latency 5 = .ok (.invokevirtual 7, 3) := by decide +kernel
theorem dL_latency_8 : decode cL_latency 8 = .ok (.i2l, 1) := by decide +kernel
theorem dL_latency_9 : decode cL_latency 9 = .ok (.lastore, 1) := by decide +kernel
theorem dL_latency_10 : decode cL_latency 10 = .ok (.goto 7, 3) := by decide +kernel
theorem dL_latency_13 : decode cL_latency 13 = .ok (.astore 4, 2) := by decide +kernel
theorem dL_latency_15 : decode cL_latency 15 = .ok (.iconst 1, 1) := by decide +kernel
theorem dL_latency_16 : decode cL_latency 16 = .ok (.ireturn, 1) := by decide +kernel
theorem dL_latency_17 : decode cL_latency 17 = .ok (.iconst 0, 1) := by decide +kernel
theorem dL_latency_18 : decode cL_latency 18 = .ok (.ireturn, 1) := by decide +kernel
set_option maxRecDepth 20000 in
theorem ggL_add_X8_add : GoodIn wsL_add wsX8_add := goodIn_ca (goodIn_ca (goodIn_r _ [7, 8, 9, 10, 11, 12, 13, 14, 15, 16, 17, 18, 19, 20, 21, 22, 23, 24, 25, 26, 27, 28, 29, 30, 31, 32, 33, 34, 35, 36, 37, 38, 39, 40, 41, 42, 43, 44, 45, 46, 47, 48, 49, 50, 51, 52, 53, 54, 55, 56, 57, 58, 59, 60, 61, 62, 63, 64, 65, 66, 67, 68, 69, 70, 71, 72, 73, 74, 75, 76, 77, 78, 79, 80, 81, 82, 83, 84, 85, 86, 87, 88, 89, 90, 91, 92, 93, 94, 95, 96, 97, 98, 99, 100, 101, 102, 103, 104, 105, 106, 107, 108, 109, 110, 111, 112, 113, 114, 115, 116, 117, 118, 119, 120, 121, 122, 123, 124, 125, 126, 127, 128, 129, 130, 131, 132, 133, 134, 135, 136, 137, 138, 139, 140, 141, 142, 143, 144, 145, 146, 147, 148, 149, 150, 151, 152, 153, 154, 155, 156, 157, 158, 159, 160, 161, 162, 163, 164, 165, 166, 167, 168, 169, 170, 171, 172, 173, 174, 175, 176, 177, 178, 179, 180, 181, 182, 183, 184, 185, 186, 187, 188, 189, 190, 191, 192, 193, 194, 195, 196, 197, 198, 199, 200, 201, 202, 203, 204, 205, 206, 207, 208, 209, 210, 211, 212, 213, 214, 215, 216, 217, 218, 219, 220, 221, 222, 223, 224, 225, 226, 227] rfl (by decide +kernel)) (goodIn_sub (fun _ h => List.mem_cons_of_mem _ (List.mem_append_left _ (List.mem_append_right _ h))) (by decide +kernel))) (goodIn_sub (fun _ h => List.mem_cons_of_mem _ (List.mem_append_right _ h)) (by decide +kernel))
set_option maxRecDepth 20000 in
theorem gL_add_X8_add : GoodIn wsL_add (wsV RL 15 RX8 yX8_add wsX8_add) := goodIn_app (goodIn_of _ (by decide +kernel)) ggL_add_X8_add
theorem dL_add_0 : decode cL_add 0 = .ok (.aload_n 2, 1) := by decide +kernel
theorem dL_add_1 : decode cL_add 1 = .ok (.iconst 0, 1) := by decide +kernel
theorem dL_add_2 : decode cL_add 2 = .ok (.aload_n 0, 1) := by decide +kernel
theorem dL_add_3 : decode cL_add 3 = .ok (.iload_n 1, 1) := by decide +kernel
theorem dL_add_4 : decode cL_add 4 = .ok (.invokevirtual 15, 3) := by decide +kernel
theorem dL_add_7 : decode cL_add 7 = .ok (.i2l, 1) := by decide +kernel
theorem dL_add_8 : decode cL_add 8 = .ok (.lastore, 1) := by decide +kernel
theorem dL_add_9 : decode cL_add 9 = .ok (.goto 9, 3) := by decide +kernel
theorem dL_add_12 : decode cL_add 12 = .ok (.astore_n 3, 1) := by decide +kernel
theorem dL_add_13 : decode cL_add 13 = .ok (.iconst 1, 1) := by decide +kernel
theorem dL_add_14 : decode cL_add 14 = .ok (.ireturn, 1) := by decide +kernel
theorem dL_add_15 : decode cL_add 15 = .ok (.astore_n 3, 1) := by decide +kernel
theorem dL_add_16 : decode cL_add 16 = .ok (.iconst 2, 1) := by decide +kernel
theorem dL_add_17 : decode cL_add 17 = .ok (.ireturn, 1) := by decide +kernel
theorem dL_add_18 : decode cL_add 18 = .ok (.iconst 0, 1) := by decide +kernel
theorem dL_add_19 : decode cL_add 19 = .ok (.ireturn, 1) := by decide +kernel
set_option maxRecDepth 20000 in
theorem ggL_word_X8_word : GoodIn wsL_word wsX8_word := goodIn_ca (goodIn_r _ [6, 7, 8, 9, 10, 11, 12, 13, 14, 15, 16, 17, 18, 19, 20, 21, 22] (by decide +kernel) (by decide +kernel)) (goodIn_sub (fun _ h => List.mem_cons_of_mem _ (List.mem_append_right _ h)) (by decide +kernel))
set_option maxRecDepth 20000 in
theorem gL_word_X8_word : GoodIn wsL_word (wsV RL 21 RX8 yX8_word wsX8_word) := goodIn_app (goodIn_of _ (by decide +kernel)) ggL_word_X8_word
theorem dL_word_0 : decode cL_word 0 = .ok (.aload_n 2, 1) := by decide +kernel
theorem dL_word_1 : decode cL_word 1 = .ok (.iconst 0, 1) := by decide +kernel
theorem dL_word_2 : decode cL_word 2 = .ok (.aload_n 0, 1) := by decide +kernel
theorem dL_word_3 : decode cL_word 3 = .ok (.iload_n 1, 1) := by decide +kernel
theorem dL_word_4 : decode cL_word 4 = .ok (.invokevirtual 21, 3) := by decide +kernel
theorem dL_word_7 : decode cL_word 7 = .ok (.i2l, 1) := by decide +kernel
theorem dL_word_8 : decode cL_word 8 = .ok (.lastore, 1) := by decide +kernel
theorem dL_word_9 : decode cL_word 9 = .ok (.goto 6, 3) := by decide +kernel
theorem dL_word_12 : decode cL_word 12 = .ok (.astore_n 3, 1) := by decide +kernel
theorem dL_word_13 : decode cL_word 13 = .ok (.iconst 1, 1) := by decide +kernel
theorem dL_word_14 : decode cL_word 14 = .ok (.ireturn, 1) := by decide +kernel
theorem dL_word_15 : decode cL_word 15 = .ok (.iconst 0, 1) := by decide +kernel
theorem dL_word_16 : decode cL_word 16 = .ok (.ireturn, 1) := by decide +kernel
set_option maxRecDepth 20000 in
theorem ggL_from_X8_from : GoodIn wsL_from wsX8_from := goodIn_ca (goodIn_r _ [6, 7, 8, 9, 10, 11, 12, 13, 14, 15, 16, 17, 18, 19, 20, 21, 22] (by decide +kernel) (by decide +kernel)) (goodIn_sub (fun _ h => List.mem_cons_of_mem _ (List.mem_append_right _ h)) (by decide +kernel))
set_option maxRecDepth 20000 in
theorem gL_from_X8_from : GoodIn wsL_from (wsV RL 26 RX8 yX8_from wsX8_from) := goodIn_app (goodIn_of _ (by decide +kernel)) ggL_from_X8_from
theorem dL_from_0 : decode cL_from 0 = .ok (.aload_n 2, 1) := by decide +kernel
theorem dL_from_1 : decode cL_from 1 = .ok (.iconst 0, 1) := by decide +kernel
theorem dL_from_2 : decode cL_from 2 = .ok (.aload_n 0, 1) := by decide +kernel
theorem dL_from_3 : decode cL_from 3 = .ok (.iload_n 1, 1) := by decide +kernel
theorem dL_from_4 : decode cL_from 4 = .ok (.invokevirtual 26, 3) := by decide +kernel
theorem dL_from_7 : decode cL_from 7 = .ok (.i2l, 1) := by decide +kernel
theorem dL_from_8 : decode cL_from 8 = .ok (.lastore, 1) := by decide +kernel
theorem dL_from_9 : decode cL_from 9 = .ok (.goto 6, 3) := by decide +kernel
theorem dL_from_12 : decode cL_from 12 = .ok (.astore_n 3, 1) := by decide +kernel
theorem dL_from_13 : decode cL_from 13 = .ok (.iconst 1, 1) := by decide +kernel
theorem dL_from_14 : decode cL_from 14 = .ok (.ireturn, 1) := by decide +kernel
theorem dL_from_15 : decode cL_from 15 = .ok (.iconst 0, 1) := by decide +kernel
theorem dL_from_16 : decode cL_from 16 = .ok (.ireturn, 1) := by decide +kernel
set_option maxRecDepth 20000 in
theorem ggL_depends_X8_depends : GoodIn wsL_depends wsX8_depends := goodIn_ca (goodIn_r _ [6, 7, 8, 9, 10, 11, 12, 13, 14, 15, 16, 17, 18, 19, 20, 21, 22, 23, 24, 25, 26, 27, 28, 29, 30, 31, 32, 33, 34, 35, 36, 37, 38, 39, 40, 41, 42, 43, 44, 45, 46, 47, 48, 49, 50, 51, 52, 53, 54, 55, 56, 57, 58, 59, 60, 61, 62, 63, 64, 65, 66, 67, 68, 69, 70, 71] (by decide +kernel) (by decide +kernel)) (goodIn_sub (fun _ h => List.mem_cons_of_mem _ (List.mem_append_right _ h)) (by decide +kernel))
set_option maxRecDepth 20000 in
theorem gL_depends_X8_depends : GoodIn wsL_depends (wsV RL 29 RX8 yX8_depends wsX8_depends) := goodIn_app (goodIn_of _ (by decide +kernel)) ggL_depends_X8_depends
theorem dL_depends_0 : decode cL_depends 0 = .ok (.aload_n 3, 1) := by decide +kernel
theorem dL_depends_1 : decode cL_depends 1 = .ok (.iconst 0, 1) := by decide +kernel
theorem dL_depends_2 : decode cL_depends 2 = .ok (.aload_n 0, 1) := by decide +kernel
theorem dL_depends_3 : decode cL_depends 3 = .ok (.iload_n 1, 1) := by decide +kernel
theorem dL_depends_4 : decode cL_depends 4 = .ok (.iload_n 2, 1) := by decide +kernel
theorem dL_depends_5 : decode cL_depends 5 = .ok (.invokevirtual 29, 3) := by decide +kernel
theorem dL_depends_8 : decode cL_depends 8 = .ok (.i2l, 1) := by decide +kernel
theorem dL_depends_9 : decode cL_depends 9 = .ok (.lastore, 1) := by decide +kernel
theorem dL_depends_10 : decode cL_depends 10 = .ok (.goto 7, 3) := by decide +kernel
theorem dL_depends_13 : decode cL_depends 13 = .ok (.astore 4, 2) := by decide +kernel
theorem dL_depends_15 : decode cL_depends 15 = .ok (.iconst 1, 1) := by decide +kernel
theorem dL_depends_16 : decode cL_depends 16 = .ok (.ireturn, 1) := by decide +kernel
theorem dL_depends_17 : decode cL_depends 17 = .ok (.iconst 0, 1) := by decide +kernel
theorem dL_depends_18 : decode cL_depends 18 = .ok (.ireturn, 1) := by decide +kernel
set_option maxRecDepth 20000 in
theorem ggL_height_X8_height : GoodIn wsL_height wsX8_height := goodIn_ca (goodIn_r _ [6, 7, 8, 9, 10, 11, 12, 13, 14, 15, 16, 17, 18, 19, 20, 21, 22, 23, 24, 25, 26, 27, 28, 29, 30, 31, 32, 33, 34, 35, 36, 37, 38, 39, 40, 41, 42, 43, 44, 45, 46, 47, 48, 49, 50, 51, 52, 53, 54, 55, 56, 57, 58, 59, 60, 61, 62, 63, 64, 65, 66, 67, 68, 69, 70, 71, 72, 73, 74, 75, 76, 77, 78] (by decide +kernel) (by decide +kernel)) (goodIn_sub (fun _ h => List.mem_cons_of_mem _ (List.mem_append_right _ h)) (by decide +kernel))
set_option maxRecDepth 20000 in
theorem gL_height_X8_height : GoodIn wsL_height (wsV RL 32 RX8 yX8_height wsX8_height) := goodIn_app (goodIn_of _ (by decide +kernel)) ggL_height_X8_height
theorem dL_height_0 : decode cL_height 0 = .ok (.aload_n 2, 1) := by decide +kernel
theorem dL_height_1 : decode cL_height 1 = .ok (.iconst 0, 1) := by decide +kernel
theorem dL_height_2 : decode cL_height 2 = .ok (.aload_n 0, 1) := by decide +kernel
theorem dL_height_3 : decode cL_height 3 = .ok (.iload_n 1, 1) := by decide +kernel
theorem dL_height_4 : decode cL_height 4 = .ok (.invokevirtual 32, 3) := by decide +kernel
theorem dL_height_7 : decode cL_height 7 = .ok (.i2l, 1) := by decide +kernel
theorem dL_height_8 : decode cL_height 8 = .ok (.lastore, 1) := by decide +kernel
theorem dL_height_9 : decode cL_height 9 = .ok (.goto 6, 3) := by decide +kernel
theorem dL_height_12 : decode cL_height 12 = .ok (.astore_n 3, 1) := by decide +kernel
theorem dL_height_13 : decode cL_height 13 = .ok (.iconst 1, 1) := by decide +kernel
theorem dL_height_14 : decode cL_height 14 = .ok (.ireturn, 1) := by decide +kernel
theorem dL_height_15 : decode cL_height 15 = .ok (.iconst 0, 1) := by decide +kernel
theorem dL_height_16 : decode cL_height 16 = .ok (.ireturn, 1) := by decide +kernel
theorem dL_law_0 : decode cL_law 0 = .ok (.new 8, 3) := by decide +kernel
theorem dL_law_3 : decode cL_law 3 = .ok (.dup, 1) := by decide +kernel
theorem dL_law_4 : decode cL_law 4 = .ok (.invokespecial 35, 3) := by decide +kernel
theorem dL_law_7 : decode cL_law 7 = .ok (.astore_n 1, 1) := by decide +kernel
theorem dL_law_8 : decode cL_law 8 = .ok (.new 36, 3) := by decide +kernel
theorem dL_law_11 : decode cL_law 11 = .ok (.dup, 1) := by decide +kernel
theorem dL_law_12 : decode cL_law 12 = .ok (.invokespecial 38, 3) := by decide +kernel
theorem dL_law_15 : decode cL_law 15 = .ok (.astore_n 2, 1) := by decide +kernel
theorem dL_law_16 : decode cL_law 16 = .ok (.iconst 1, 1) := by decide +kernel
theorem dL_law_17 : decode cL_law 17 = .ok (.newarray .long, 2) := by decide +kernel
theorem dL_law_19 : decode cL_law 19 = .ok (.astore_n 3, 1) := by decide +kernel
theorem dL_law_20 : decode cL_law 20 = .ok (.iconst 0, 1) := by decide +kernel
theorem dL_law_21 : decode cL_law 21 = .ok (.istore 4, 2) := by decide +kernel
theorem dL_law_23 : decode cL_law 23 = .ok (.iload 4, 2) := by decide +kernel
theorem dL_law_25 : decode cL_law 25 = .ok (.aload_n 0, 1) := by decide +kernel
theorem dL_law_26 : decode cL_law 26 = .ok (.arraylength, 1) := by decide +kernel
theorem dL_law_27 : decode cL_law 27 = .ok (.iconst 3, 1) := by decide +kernel
theorem dL_law_28 : decode cL_law 28 = .ok (.isub, 1) := by decide +kernel
theorem dL_law_29 : decode cL_law 29 = .ok (.if_icmp .gt 532, 3) := by decide +kernel
theorem dL_law_32 : decode cL_law 32 = .ok (.aload_n 0, 1) := by decide +kernel
theorem dL_law_33 : decode cL_law 33 = .ok (.iload 4, 2) := by decide +kernel
theorem dL_law_35 : decode cL_law 35 = .ok (.iaload, 1) := by decide +kernel
theorem dL_law_36 : decode cL_law 36 = .ok (.bipush 15, 2) := by decide +kernel
theorem dL_law_38 : decode cL_law 38 = .ok (.iand, 1) := by decide +kernel
theorem dL_law_39 : decode cL_law 39 = .ok (.tableswitch 516 0 8 #[49, 117, 173, 242, 298, 354, 422, 478, 491], 49) := by decide +kernel
theorem dL_law_88 : decode cL_law 88 = .ok (.aload_n 1, 1) := by decide +kernel
theorem dL_law_89 : decode cL_law 89 = .ok (.aload_n 0, 1) := by decide +kernel
theorem dL_law_90 : decode cL_law 90 = .ok (.iload 4, 2) := by decide +kernel
theorem dL_law_92 : decode cL_law 92 = .ok (.iconst 1, 1) := by decide +kernel
theorem dL_law_93 : decode cL_law 93 = .ok (.iadd, 1) := by decide +kernel
theorem dL_law_94 : decode cL_law 94 = .ok (.iaload, 1) := by decide +kernel
theorem dL_law_95 : decode cL_law 95 = .ok (.aload_n 0, 1) := by decide +kernel
theorem dL_law_96 : decode cL_law 96 = .ok (.iload 4, 2) := by decide +kernel
theorem dL_law_98 : decode cL_law 98 = .ok (.iconst 2, 1) := by decide +kernel
theorem dL_law_99 : decode cL_law 99 = .ok (.iadd, 1) := by decide +kernel
theorem dL_law_100 : decode cL_law 100 = .ok (.iaload, 1) := by decide +kernel
theorem dL_law_101 : decode cL_law 101 = .ok (.aload_n 3, 1) := by decide +kernel
theorem dL_law_102 : decode cL_law 102 = .ok (.invokestatic 39, 3) := by decide +kernel
theorem dL_law_105 : decode cL_law 105 = .ok (.istore 5, 2) := by decide +kernel
theorem dL_law_107 : decode cL_law 107 = .ok (.aload_n 2, 1) := by decide +kernel
theorem dL_law_108 : decode cL_law 108 = .ok (.aload_n 0, 1) := by decide +kernel
theorem dL_law_109 : decode cL_law 109 = .ok (.iload 4, 2) := by decide +kernel
theorem dL_law_111 : decode cL_law 111 = .ok (.iconst 1, 1) := by decide +kernel
theorem dL_law_112 : decode cL_law 112 = .ok (.iadd, 1) := by decide +kernel
theorem dL_law_113 : decode cL_law 113 = .ok (.iaload, 1) := by decide +kernel
theorem dL_law_114 : decode cL_law 114 = .ok (.aload_n 0, 1) := by decide +kernel
theorem dL_law_115 : decode cL_law 115 = .ok (.iload 4, 2) := by decide +kernel
theorem dL_law_117 : decode cL_law 117 = .ok (.iconst 2, 1) := by decide +kernel
theorem dL_law_118 : decode cL_law 118 = .ok (.iadd, 1) := by decide +kernel

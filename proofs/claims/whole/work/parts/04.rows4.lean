theorem dX9_add_137 : decode cX9_add 137 = .ok (.getfield 87, 3) := by decide +kernel
theorem dX9_add_140 : decode cX9_add 140 = .ok (.bastore, 1) := by decide +kernel
theorem dX9_add_141 : decode cX9_add 141 = .ok (.aload_n 0, 1) := by decide +kernel
theorem dX9_add_142 : decode cX9_add 142 = .ok (.iload_n 2, 1) := by decide +kernel
theorem dX9_add_143 : decode cX9_add 143 = .ok (.iconst 1, 1) := by decide +kernel
theorem dX9_add_144 : decode cX9_add 144 = .ok (.iadd, 1) := by decide +kernel
theorem dX9_add_145 : decode cX9_add 145 = .ok (.putfield 148, 3) := by decide +kernel
theorem dX9_add_148 : decode cX9_add 148 = .ok (.aload_n 0, 1) := by decide +kernel
theorem dX9_add_149 : decode cX9_add 149 = .ok (.getfield 69, 3) := by decide +kernel
theorem dX9_add_152 : decode cX9_add 152 = .ok (.ireturn, 1) := by decide +kernel
set_option maxRecDepth 20000 in
theorem ggX9_firstByte_X9_isPart : GoodIn wsX9_firstByte wsX9_isPart := goodIn_r _ [6, 1, 7, 8, 9, 10, 11, 12, 13, 14, 15, 16, 17, 18, 19, 20, 21, 22, 23, 24, 25, 26, 27, 28, 29, 30, 31, 32] (by decide +kernel) (by decide +kernel)
set_option maxRecDepth 20000 in
theorem gX9_firstByte_X9_isPart : GoodIn wsX9_firstByte (wsV RX9 151 RX9 yX9_isPart wsX9_isPart) := goodIn_app (goodIn_of _ (by decide +kernel)) ggX9_firstByte_X9_isPart
theorem dX9_firstByte_0 : decode cX9_firstByte 0 = .ok (.aload_n 0, 1) := by decide +kernel
theorem dX9_firstByte_1 : decode cX9_firstByte 1 = .ok (.getfield 13, 3) := by decide +kernel
theorem dX9_firstByte_4 : decode cX9_firstByte 4 = .ok (.iload_n 1, 1) := by decide +kernel
theorem dX9_firstByte_5 : decode cX9_firstByte 5 = .ok (.iaload, 1) := by decide +kernel
theorem dX9_firstByte_6 : decode cX9_firstByte 6 = .ok (.bipush 16, 2) := by decide +kernel
theorem dX9_firstByte_8 : decode cX9_firstByte 8 = .ok (.ishl, 1) := by decide +kernel
theorem dX9_firstByte_9 : decode cX9_firstByte 9 = .ok (.bipush 16, 2) := by decide +kernel
theorem dX9_firstByte_11 : decode cX9_firstByte 11 = .ok (.ishr, 1) := by decide +kernel
theorem dX9_firstByte_12 : decode cX9_firstByte 12 = .ok (.istore_n 2, 1) := by decide +kernel
theorem dX9_firstByte_13 : decode cX9_firstByte 13 = .ok (.aload_n 0, 1) := by decide +kernel
theorem dX9_firstByte_14 : decode cX9_firstByte 14 = .ok (.iload_n 1, 1) := by decide +kernel
theorem dX9_firstByte_15 : decode cX9_firstByte 15 = .ok (.invokevirtual 151, 3) := by decide +kernel
theorem dX9_firstByte_18 : decode cX9_firstByte 18 = .ok (.ifCond .eq 10, 3) := by decide +kernel
theorem dX9_firstByte_21 : decode cX9_firstByte 21 = .ok (.iload_n 2, 1) := by decide +kernel
theorem dX9_firstByte_22 : decode cX9_firstByte 22 = .ok (.bipush (-4), 2) := by decide +kernel
theorem dX9_firstByte_24 : decode cX9_firstByte 24 = .ok (.iand, 1) := by decide +kernel
theorem dX9_firstByte_25 : decode cX9_firstByte 25 = .ok (.goto 4, 3) := by decide +kernel
theorem dX9_firstByte_28 : decode cX9_firstByte 28 = .ok (.iload_n 2, 1) := by decide +kernel
theorem dX9_firstByte_29 : decode cX9_firstByte 29 = .ok (.ireturn, 1) := by decide +kernel
theorem dX9_isPart_0 : decode cX9_isPart 0 = .ok (.aload_n 0, 1) := by decide +kernel
theorem dX9_isPart_1 : decode cX9_isPart 1 = .ok (.getfield 13, 3) := by decide +kernel
theorem dX9_isPart_4 : decode cX9_isPart 4 = .ok (.iload_n 1, 1) := by decide +kernel
theorem dX9_isPart_5 : decode cX9_isPart 5 = .ok (.iaload, 1) := by decide +kernel
theorem dX9_isPart_6 : decode cX9_isPart 6 = .ok (.bipush 26, 2) := by decide +kernel
theorem dX9_isPart_8 : decode cX9_isPart 8 = .ok (.iushr, 1) := by decide +kernel
theorem dX9_isPart_9 : decode cX9_isPart 9 = .ok (.istore_n 2, 1) := by decide +kernel
theorem dX9_isPart_10 : decode cX9_isPart 10 = .ok (.iload_n 2, 1) := by decide +kernel
theorem dX9_isPart_11 : decode cX9_isPart 11 = .ok (.bipush 34, 2) := by decide +kernel
theorem dX9_isPart_13 : decode cX9_isPart 13 = .ok (.if_icmp .eq 21, 3) := by decide +kernel
theorem dX9_isPart_16 : decode cX9_isPart 16 = .ok (.iload_n 2, 1) := by decide +kernel
theorem dX9_isPart_17 : decode cX9_isPart 17 = .ok (.bipush 38, 2) := by decide +kernel
theorem dX9_isPart_19 : decode cX9_isPart 19 = .ok (.if_icmp .eq 15, 3) := by decide +kernel
theorem dX9_isPart_22 : decode cX9_isPart 22 = .ok (.iload_n 2, 1) := by decide +kernel
theorem dX9_isPart_23 : decode cX9_isPart 23 = .ok (.bipush 42, 2) := by decide +kernel
theorem dX9_isPart_25 : decode cX9_isPart 25 = .ok (.if_icmp .eq 9, 3) := by decide +kernel
theorem dX9_isPart_28 : decode cX9_isPart 28 = .ok (.iload_n 2, 1) := by decide +kernel
theorem dX9_isPart_29 : decode cX9_isPart 29 = .ok (.bipush 46, 2) := by decide +kernel
theorem dX9_isPart_31 : decode cX9_isPart 31 = .ok (.if_icmp .ne 7, 3) := by decide +kernel
theorem dX9_isPart_34 : decode cX9_isPart 34 = .ok (.iconst 1, 1) := by decide +kernel
theorem dX9_isPart_35 : decode cX9_isPart 35 = .ok (.goto 4, 3) := by decide +kernel
theorem dX9_isPart_38 : decode cX9_isPart 38 = .ok (.iconst 0, 1) := by decide +kernel
theorem dX9_isPart_39 : decode cX9_isPart 39 = .ok (.ireturn, 1) := by decide +kernel
theorem dX9_bytes_0 : decode cX9_bytes 0 = .ok (.aload_n 0, 1) := by decide +kernel
theorem dX9_bytes_1 : decode cX9_bytes 1 = .ok (.getfield 13, 3) := by decide +kernel
theorem dX9_bytes_4 : decode cX9_bytes 4 = .ok (.iload_n 1, 1) := by decide +kernel
theorem dX9_bytes_5 : decode cX9_bytes 5 = .ok (.iaload, 1) := by decide +kernel
theorem dX9_bytes_6 : decode cX9_bytes 6 = .ok (.bipush 26, 2) := by decide +kernel
theorem dX9_bytes_8 : decode cX9_bytes 8 = .ok (.iushr, 1) := by decide +kernel
theorem dX9_bytes_9 : decode cX9_bytes 9 = .ok (.istore_n 2, 1) := by decide +kernel
theorem dX9_bytes_10 : decode cX9_bytes 10 = .ok (.iload_n 2, 1) := by decide +kernel
theorem dX9_bytes_11 : decode cX9_bytes 11 = .ok (.bipush 32, 2) := by decide +kernel
theorem dX9_bytes_13 : decode cX9_bytes 13 = .ok (.if_icmp .eq 15, 3) := by decide +kernel
theorem dX9_bytes_16 : decode cX9_bytes 16 = .ok (.iload_n 2, 1) := by decide +kernel
theorem dX9_bytes_17 : decode cX9_bytes 17 = .ok (.bipush 36, 2) := by decide +kernel
theorem dX9_bytes_19 : decode cX9_bytes 19 = .ok (.if_icmp .eq 9, 3) := by decide +kernel
theorem dX9_bytes_22 : decode cX9_bytes 22 = .ok (.iload_n 2, 1) := by decide +kernel
theorem dX9_bytes_23 : decode cX9_bytes 23 = .ok (.bipush 40, 2) := by decide +kernel
theorem dX9_bytes_25 : decode cX9_bytes 25 = .ok (.if_icmp .ne 7, 3) := by decide +kernel
theorem dX9_bytes_28 : decode cX9_bytes 28 = .ok (.iconst 1, 1) := by decide +kernel
theorem dX9_bytes_29 : decode cX9_bytes 29 = .ok (.goto 43, 3) := by decide +kernel
theorem dX9_bytes_32 : decode cX9_bytes 32 = .ok (.iload_n 2, 1) := by decide +kernel
theorem dX9_bytes_33 : decode cX9_bytes 33 = .ok (.bipush 33, 2) := by decide +kernel
theorem dX9_bytes_35 : decode cX9_bytes 35 = .ok (.if_icmp .eq 15, 3) := by decide +kernel
theorem dX9_bytes_38 : decode cX9_bytes 38 = .ok (.iload_n 2, 1) := by decide +kernel
theorem dX9_bytes_39 : decode cX9_bytes 39 = .ok (.bipush 37, 2) := by decide +kernel
theorem dX9_bytes_41 : decode cX9_bytes 41 = .ok (.if_icmp .eq 9, 3) := by decide +kernel
theorem dX9_bytes_44 : decode cX9_bytes 44 = .ok (.iload_n 2, 1) := by decide +kernel
theorem dX9_bytes_45 : decode cX9_bytes 45 = .ok (.bipush 41, 2) := by decide +kernel
theorem dX9_bytes_47 : decode cX9_bytes 47 = .ok (.if_icmp .ne 7, 3) := by decide +kernel
theorem dX9_bytes_50 : decode cX9_bytes 50 = .ok (.iconst 2, 1) := by decide +kernel
theorem dX9_bytes_51 : decode cX9_bytes 51 = .ok (.goto 21, 3) := by decide +kernel
theorem dX9_bytes_54 : decode cX9_bytes 54 = .ok (.iload_n 2, 1) := by decide +kernel
theorem dX9_bytes_55 : decode cX9_bytes 55 = .ok (.bipush 53, 2) := by decide +kernel
theorem dX9_bytes_57 : decode cX9_bytes 57 = .ok (.if_icmp .eq 9, 3) := by decide +kernel
theorem dX9_bytes_60 : decode cX9_bytes 60 = .ok (.iload_n 2, 1) := by decide +kernel
theorem dX9_bytes_61 : decode cX9_bytes 61 = .ok (.bipush 61, 2) := by decide +kernel
theorem dX9_bytes_63 : decode cX9_bytes 63 = .ok (.if_icmp .ne 8, 3) := by decide +kernel
theorem dX9_bytes_66 : decode cX9_bytes 66 = .ok (.bipush 8, 2) := by decide +kernel
theorem dX9_bytes_68 : decode cX9_bytes 68 = .ok (.goto 4, 3) := by decide +kernel
theorem dX9_bytes_71 : decode cX9_bytes 71 = .ok (.iconst 4, 1) := by decide +kernel
theorem dX9_bytes_72 : decode cX9_bytes 72 = .ok (.ireturn, 1) := by decide +kernel
set_option maxRecDepth 20000 in
theorem ggX9_apart_X9_register : GoodIn wsX9_apart wsX9_register := goodIn_r _ [6] (by decide +kernel) (by decide +kernel)
set_option maxRecDepth 20000 in
theorem gX9_apart_X9_register : GoodIn wsX9_apart (va_wsS RX9 65 yX9_register wsX9_register) := goodIn_app (goodIn_of _ (by decide +kernel)) ggX9_apart_X9_register
set_option maxRecDepth 20000 in
theorem ggX9_apart_X9_firstByte : GoodIn wsX9_apart wsX9_firstByte := goodIn_r _ [10, 1, 11, 12, 13, 5, 14, 19, 20, 21, 22, 23, 24, 25, 26, 27, 28, 29, 30, 31, 32, 33, 34, 35, 36, 37, 38, 39, 40, 41, 42, 43, 44] (by decide +kernel) (by decide +kernel)
set_option maxRecDepth 20000 in
theorem gX9_apart_X9_firstByte : GoodIn wsX9_apart (wsV RX9 155 RX9 yX9_firstByte wsX9_firstByte) := goodIn_app (goodIn_of _ (by decide +kernel)) ggX9_apart_X9_firstByte
set_option maxRecDepth 20000 in
theorem ggX9_apart_X9_bytes : GoodIn wsX9_apart wsX9_bytes := goodIn_r _ [18, 1, 19, 20, 21, 22, 23, 24, 25, 26, 27, 28, 29, 30, 31, 32, 33, 34, 35, 36, 37, 38, 39, 40, 41, 42, 43, 44] (by decide +kernel) (by decide +kernel)
set_option maxRecDepth 20000 in
theorem gX9_apart_X9_bytes : GoodIn wsX9_apart (wsV RX9 158 RX9 yX9_bytes wsX9_bytes) := goodIn_app (goodIn_of _ (by decide +kernel)) ggX9_apart_X9_bytes
theorem dX9_apart_0 : decode cX9_apart 0 = .ok (.aload_n 0, 1) := by decide +kernel
theorem dX9_apart_1 : decode cX9_apart 1 = .ok (.getfield 13, 3) := by decide +kernel
theorem dX9_apart_4 : decode cX9_apart 4 = .ok (.iload_n 1, 1) := by decide +kernel
theorem dX9_apart_5 : decode cX9_apart 5 = .ok (.iaload, 1) := by decide +kernel
theorem dX9_apart_6 : decode cX9_apart 6 = .ok (.bipush 21, 2) := by decide +kernel
theorem dX9_apart_8 : decode cX9_apart 8 = .ok (.iushr, 1) := by decide +kernel
theorem dX9_apart_9 : decode cX9_apart 9 = .ok (.bipush 31, 2) := by decide +kernel
theorem dX9_apart_11 : decode cX9_apart 11 = .ok (.iand, 1) := by decide +kernel
theorem dX9_apart_12 : decode cX9_apart 12 = .ok (.istore_n 3, 1) := by decide +kernel
theorem dX9_apart_13 : decode cX9_apart 13 = .ok (.iload_n 3, 1) := by decide +kernel
theorem dX9_apart_14 : decode cX9_apart 14 = .ok (.aload_n 0, 1) := by decide +kernel
theorem dX9_apart_15 : decode cX9_apart 15 = .ok (.getfield 13, 3) := by decide +kernel
theorem dX9_apart_18 : decode cX9_apart 18 = .ok (.iload_n 2, 1) := by decide +kernel
theorem dX9_apart_19 : decode cX9_apart 19 = .ok (.iaload, 1) := by decide +kernel
theorem dX9_apart_20 : decode cX9_apart 20 = .ok (.bipush 21, 2) := by decide +kernel
theorem dX9_apart_22 : decode cX9_apart 22 = .ok (.iushr, 1) := by decide +kernel
theorem dX9_apart_23 : decode cX9_apart 23 = .ok (.bipush 31, 2) := by decide +kernel
theorem dX9_apart_25 : decode cX9_apart 25 = .ok (.iand, 1) := by decide +kernel
theorem dX9_apart_26 : decode cX9_apart 26 = .ok (.if_icmp .eq 5, 3) := by decide +kernel
theorem dX9_apart_29 : decode cX9_apart 29 = .ok (.iconst 0, 1) := by decide +kernel
theorem dX9_apart_30 : decode cX9_apart 30 = .ok (.ireturn, 1) := by decide +kernel
theorem dX9_apart_31 : decode cX9_apart 31 = .ok (.iload_n 1, 1) := by decide +kernel
theorem dX9_apart_32 : decode cX9_apart 32 = .ok (.istore 4, 2) := by decide +kernel
theorem dX9_apart_34 : decode cX9_apart 34 = .ok (.iload 4, 2) := by decide +kernel
theorem dX9_apart_36 : decode cX9_apart 36 = .ok (.iload_n 2, 1) := by decide +kernel
theorem dX9_apart_37 : decode cX9_apart 37 = .ok (.if_icmp .ge 28, 3) := by decide +kernel
theorem dX9_apart_40 : decode cX9_apart 40 = .ok (.aload_n 0, 1) := by decide +kernel
theorem dX9_apart_41 : decode cX9_apart 41 = .ok (.getfield 29, 3) := by decide +kernel
theorem dX9_apart_44 : decode cX9_apart 44 = .ok (.iload 4, 2) := by decide +kernel
theorem dX9_apart_46 : decode cX9_apart 46 = .ok (.laload, 1) := by decide +kernel
theorem dX9_apart_47 : decode cX9_apart 47 = .ok (.iload_n 3, 1) := by decide +kernel
theorem dX9_apart_48 : decode cX9_apart 48 = .ok (.invokestatic 65, 3) := by decide +kernel
theorem dX9_apart_51 : decode cX9_apart 51 = .ok (.land, 1) := by decide +kernel
theorem dX9_apart_52 : decode cX9_apart 52 = .ok (.lconst 0, 1) := by decide +kernel
theorem dX9_apart_53 : decode cX9_apart 53 = .ok (.lcmp, 1) := by decide +kernel
theorem dX9_apart_54 : decode cX9_apart 54 = .ok (.ifCond .eq 5, 3) := by decide +kernel
theorem dX9_apart_57 : decode cX9_apart 57 = .ok (.iconst 0, 1) := by decide +kernel
theorem dX9_apart_58 : decode cX9_apart 58 = .ok (.ireturn, 1) := by decide +kernel
theorem dX9_apart_59 : decode cX9_apart 59 = .ok (.iinc 4 1, 3) := by decide +kernel
theorem dX9_apart_62 : decode cX9_apart 62 = .ok (.goto (-28), 3) := by decide +kernel
theorem dX9_apart_65 : decode cX9_apart 65 = .ok (.aload_n 0, 1) := by decide +kernel
theorem dX9_apart_66 : decode cX9_apart 66 = .ok (.iload_n 1, 1) := by decide +kernel
theorem dX9_apart_67 : decode cX9_apart 67 = .ok (.invokevirtual 155, 3) := by decide +kernel
theorem dX9_apart_70 : decode cX9_apart 70 = .ok (.aload_n 0, 1) := by decide +kernel
theorem dX9_apart_71 : decode cX9_apart 71 = .ok (.iload_n 1, 1) := by decide +kernel
theorem dX9_apart_72 : decode cX9_apart 72 = .ok (.invokevirtual 158, 3) := by decide +kernel
theorem dX9_apart_75 : decode cX9_apart 75 = .ok (.iadd, 1) := by decide +kernel
theorem dX9_apart_76 : decode cX9_apart 76 = .ok (.aload_n 0, 1) := by decide +kernel
theorem dX9_apart_77 : decode cX9_apart 77 = .ok (.iload_n 2, 1) := by decide +kernel
theorem dX9_apart_78 : decode cX9_apart 78 = .ok (.invokevirtual 155, 3) := by decide +kernel
theorem dX9_apart_81 : decode cX9_apart 81 = .ok (.if_icmp .le 22, 3) := by decide +kernel
theorem dX9_apart_84 : decode cX9_apart 84 = .ok (.aload_n 0, 1) := by decide +kernel
theorem dX9_apart_85 : decode cX9_apart 85 = .ok (.iload_n 2, 1) := by decide +kernel
theorem dX9_apart_86 : decode cX9_apart 86 = .ok (.invokevirtual 155, 3) := by decide +kernel
theorem dX9_apart_89 : decode cX9_apart 89 = .ok (.aload_n 0, 1) := by decide +kernel
theorem dX9_apart_90 : decode cX9_apart 90 = .ok (.iload_n 2, 1) := by decide +kernel
theorem dX9_apart_91 : decode cX9_apart 91 = .ok (.invokevirtual 158, 3) := by decide +kernel
theorem dX9_apart_94 : decode cX9_apart 94 = .ok (.iadd, 1) := by decide +kernel
theorem dX9_apart_95 : decode cX9_apart 95 = .ok (.aload_n 0, 1) := by decide +kernel
theorem dX9_apart_96 : decode cX9_apart 96 = .ok (.iload_n 1, 1) := by decide +kernel
theorem dX9_apart_97 : decode cX9_apart 97 = .ok (.invokevirtual 155, 3) := by decide +kernel
theorem dX9_apart_100 : decode cX9_apart 100 = .ok (.if_icmp .gt 7, 3) := by decide +kernel
theorem dX9_apart_103 : decode cX9_apart 103 = .ok (.iconst 1, 1) := by decide +kernel
theorem dX9_apart_104 : decode cX9_apart 104 = .ok (.goto 4, 3) := by decide +kernel
theorem dX9_apart_107 : decode cX9_apart 107 = .ok (.iconst 0, 1) := by decide +kernel
theorem dX9_apart_108 : decode cX9_apart 108 = .ok (.ireturn, 1) := by decide +kernel
set_option maxRecDepth 20000 in
theorem ggX9_after_X9_apart : GoodIn wsX9_after wsX9_apart := goodIn_r _ [11, 12, 2, 13, 14, 10, 15, 16, 17, 18, 19, 20, 21, 22, 23, 24, 25, 26, 27, 28, 29, 30, 31, 32, 33, 34, 35, 36, 37, 38, 39, 40, 41, 42, 43, 44, 45, 46, 47, 48, 49, 50, 51, 52, 53] (by decide +kernel) (by decide +kernel)
set_option maxRecDepth 20000 in
theorem gX9_after_X9_apart : GoodIn wsX9_after (wsV RX9 161 RX9 yX9_apart wsX9_apart) := goodIn_app (goodIn_of _ (by decide +kernel)) ggX9_after_X9_apart
theorem dX9_after_0 : decode cX9_after 0 = .ok (.iconst (-1), 1) := by decide +kernel
theorem dX9_after_1 : decode cX9_after 1 = .ok (.istore_n 3, 1) := by decide +kernel
theorem dX9_after_2 : decode cX9_after 2 = .ok (.aload_n 0, 1) := by decide +kernel
theorem dX9_after_3 : decode cX9_after 3 = .ok (.getfield 25, 3) := by decide +kernel
theorem dX9_after_6 : decode cX9_after 6 = .ok (.iload_n 1, 1) := by decide +kernel
theorem dX9_after_7 : decode cX9_after 7 = .ok (.laload, 1) := by decide +kernel
theorem dX9_after_8 : decode cX9_after 8 = .ok (.aload_n 0, 1) := by decide +kernel
theorem dX9_after_9 : decode cX9_after 9 = .ok (.getfield 29, 3) := by decide +kernel
theorem dX9_after_12 : decode cX9_after 12 = .ok (.iload_n 2, 1) := by decide +kernel
theorem dX9_after_13 : decode cX9_after 13 = .ok (.laload, 1) := by decide +kernel
theorem dX9_after_14 : decode cX9_after 14 = .ok (.land, 1) := by decide +kernel
theorem dX9_after_15 : decode cX9_after 15 = .ok (.lconst 0, 1) := by decide +kernel
theorem dX9_after_16 : decode cX9_after 16 = .ok (.lcmp, 1) := by decide +kernel
theorem dX9_after_17 : decode cX9_after 17 = .ok (.ifCond .ne 19, 3) := by decide +kernel
theorem dX9_after_20 : decode cX9_after 20 = .ok (.aload_n 0, 1) := by decide +kernel
theorem dX9_after_21 : decode cX9_after 21 = .ok (.getfield 19, 3) := by decide +kernel
theorem dX9_after_24 : decode cX9_after 24 = .ok (.iload_n 1, 1) := by decide +kernel
theorem dX9_after_25 : decode cX9_after 25 = .ok (.iaload, 1) := by decide +kernel
theorem dX9_after_26 : decode cX9_after 26 = .ok (.aload_n 0, 1) := by decide +kernel
theorem dX9_after_27 : decode cX9_after 27 = .ok (.getfield 22, 3) := by decide +kernel
theorem dX9_after_30 : decode cX9_after 30 = .ok (.iload_n 2, 1) := by decide +kernel
theorem dX9_after_31 : decode cX9_after 31 = .ok (.iaload, 1) := by decide +kernel
theorem dX9_after_32 : decode cX9_after 32 = .ok (.iand, 1) := by decide +kernel
theorem dX9_after_33 : decode cX9_after 33 = .ok (.ifCond .eq 7, 3) := by decide +kernel
theorem dX9_after_36 : decode cX9_after 36 = .ok (.iconst 1, 1) := by decide +kernel
theorem dX9_after_37 : decode cX9_after 37 = .ok (.goto 4, 3) := by decide +kernel
theorem dX9_after_40 : decode cX9_after 40 = .ok (.iconst 0, 1) := by decide +kernel
theorem dX9_after_41 : decode cX9_after 41 = .ok (.istore 4, 2) := by decide +kernel
theorem dX9_after_43 : decode cX9_after 43 = .ok (.aload_n 0, 1) := by decide +kernel
theorem dX9_after_44 : decode cX9_after 44 = .ok (.getfield 29, 3) := by decide +kernel
theorem dX9_after_47 : decode cX9_after 47 = .ok (.iload_n 1, 1) := by decide +kernel
theorem dX9_after_48 : decode cX9_after 48 = .ok (.laload, 1) := by decide +kernel
theorem dX9_after_49 : decode cX9_after 49 = .ok (.aload_n 0, 1) := by decide +kernel
theorem dX9_after_50 : decode cX9_after 50 = .ok (.getfield 25, 3) := by decide +kernel
theorem dX9_after_53 : decode cX9_after 53 = .ok (.iload_n 2, 1) := by decide +kernel
theorem dX9_after_54 : decode cX9_after 54 = .ok (.laload, 1) := by decide +kernel
theorem dX9_after_55 : decode cX9_after 55 = .ok (.land, 1) := by decide +kernel
theorem dX9_after_56 : decode cX9_after 56 = .ok (.lconst 0, 1) := by decide +kernel
theorem dX9_after_57 : decode cX9_after 57 = .ok (.lcmp, 1) := by decide +kernel
theorem dX9_after_58 : decode cX9_after 58 = .ok (.ifCond .ne 19, 3) := by decide +kernel
theorem dX9_after_61 : decode cX9_after 61 = .ok (.aload_n 0, 1) := by decide +kernel
theorem dX9_after_62 : decode cX9_after 62 = .ok (.getfield 22, 3) := by decide +kernel
theorem dX9_after_65 : decode cX9_after 65 = .ok (.iload_n 1, 1) := by decide +kernel
theorem dX9_after_66 : decode cX9_after 66 = .ok (.iaload, 1) := by decide +kernel
theorem dX9_after_67 : decode cX9_after 67 = .ok (.aload_n 0, 1) := by decide +kernel
theorem dX9_after_68 : decode cX9_after 68 = .ok (.getfield 19, 3) := by decide +kernel
theorem dX9_after_71 : decode cX9_after 71 = .ok (.iload_n 2, 1) := by decide +kernel
theorem dX9_after_72 : decode cX9_after 72 = .ok (.iaload, 1) := by decide +kernel
theorem dX9_after_73 : decode cX9_after 73 = .ok (.iand, 1) := by decide +kernel
theorem dX9_after_74 : decode cX9_after 74 = .ok (.ifCond .eq 7, 3) := by decide +kernel
theorem dX9_after_77 : decode cX9_after 77 = .ok (.iconst 1, 1) := by decide +kernel
theorem dX9_after_78 : decode cX9_after 78 = .ok (.goto 4, 3) := by decide +kernel
theorem dX9_after_81 : decode cX9_after 81 = .ok (.iconst 0, 1) := by decide +kernel
theorem dX9_after_82 : decode cX9_after 82 = .ok (.istore 5, 2) := by decide +kernel
theorem dX9_after_84 : decode cX9_after 84 = .ok (.aload_n 0, 1) := by decide +kernel
theorem dX9_after_85 : decode cX9_after 85 = .ok (.getfield 29, 3) := by decide +kernel
theorem dX9_after_88 : decode cX9_after 88 = .ok (.iload_n 1, 1) := by decide +kernel
theorem dX9_after_89 : decode cX9_after 89 = .ok (.laload, 1) := by decide +kernel
theorem dX9_after_90 : decode cX9_after 90 = .ok (.aload_n 0, 1) := by decide +kernel
theorem dX9_after_91 : decode cX9_after 91 = .ok (.getfield 29, 3) := by decide +kernel
theorem dX9_after_94 : decode cX9_after 94 = .ok (.iload_n 2, 1) := by decide +kernel
theorem dX9_after_95 : decode cX9_after 95 = .ok (.laload, 1) := by decide +kernel
theorem dX9_after_96 : decode cX9_after 96 = .ok (.land, 1) := by decide +kernel
theorem dX9_after_97 : decode cX9_after 97 = .ok (.lconst 0, 1) := by decide +kernel
theorem dX9_after_98 : decode cX9_after 98 = .ok (.lcmp, 1) := by decide +kernel
theorem dX9_after_99 : decode cX9_after 99 = .ok (.ifCond .ne 19, 3) := by decide +kernel
theorem dX9_after_102 : decode cX9_after 102 = .ok (.aload_n 0, 1) := by decide +kernel
theorem dX9_after_103 : decode cX9_after 103 = .ok (.getfield 22, 3) := by decide +kernel
theorem dX9_after_106 : decode cX9_after 106 = .ok (.iload_n 1, 1) := by decide +kernel
theorem dX9_after_107 : decode cX9_after 107 = .ok (.iaload, 1) := by decide +kernel
theorem dX9_after_108 : decode cX9_after 108 = .ok (.aload_n 0, 1) := by decide +kernel
theorem dX9_after_109 : decode cX9_after 109 = .ok (.getfield 22, 3) := by decide +kernel
theorem dX9_after_112 : decode cX9_after 112 = .ok (.iload_n 2, 1) := by decide +kernel
theorem dX9_after_113 : decode cX9_after 113 = .ok (.iaload, 1) := by decide +kernel
theorem dX9_after_114 : decode cX9_after 114 = .ok (.iand, 1) := by decide +kernel
theorem dX9_after_115 : decode cX9_after 115 = .ok (.ifCond .eq 7, 3) := by decide +kernel
theorem dX9_after_118 : decode cX9_after 118 = .ok (.iconst 1, 1) := by decide +kernel
theorem dX9_after_119 : decode cX9_after 119 = .ok (.goto 4, 3) := by decide +kernel
theorem dX9_after_122 : decode cX9_after 122 = .ok (.iconst 0, 1) := by decide +kernel
theorem dX9_after_123 : decode cX9_after 123 = .ok (.istore 6, 2) := by decide +kernel
theorem dX9_after_125 : decode cX9_after 125 = .ok (.aload_n 0, 1) := by decide +kernel
theorem dX9_after_126 : decode cX9_after 126 = .ok (.getfield 7, 3) := by decide +kernel
theorem dX9_after_129 : decode cX9_after 129 = .ok (.aload_n 0, 1) := by decide +kernel
theorem dX9_after_130 : decode cX9_after 130 = .ok (.getfield 16, 3) := by decide +kernel
theorem dX9_after_133 : decode cX9_after 133 = .ok (.iload_n 2, 1) := by decide +kernel
theorem dX9_after_134 : decode cX9_after 134 = .ok (.iaload, 1) := by decide +kernel
theorem dX9_after_135 : decode cX9_after 135 = .ok (.iaload, 1) := by decide +kernel
theorem dX9_after_136 : decode cX9_after 136 = .ok (.istore 7, 2) := by decide +kernel
theorem dX9_after_138 : decode cX9_after 138 = .ok (.aload_n 0, 1) := by decide +kernel
theorem dX9_after_139 : decode cX9_after 139 = .ok (.getfield 7, 3) := by decide +kernel
theorem dX9_after_142 : decode cX9_after 142 = .ok (.aload_n 0, 1) := by decide +kernel
theorem dX9_after_143 : decode cX9_after 143 = .ok (.getfield 16, 3) := by decide +kernel
theorem dX9_after_146 : decode cX9_after 146 = .ok (.iload_n 1, 1) := by decide +kernel
theorem dX9_after_147 : decode cX9_after 147 = .ok (.iaload, 1) := by decide +kernel
theorem dX9_after_148 : decode cX9_after 148 = .ok (.iaload, 1) := by decide +kernel
theorem dX9_after_149 : decode cX9_after 149 = .ok (.istore 8, 2) := by decide +kernel
theorem dX9_after_151 : decode cX9_after 151 = .ok (.aload_n 0, 1) := by decide +kernel
theorem dX9_after_152 : decode cX9_after 152 = .ok (.getfield 16, 3) := by decide +kernel
theorem dX9_after_155 : decode cX9_after 155 = .ok (.iload_n 2, 1) := by decide +kernel
theorem dX9_after_156 : decode cX9_after 156 = .ok (.iaload, 1) := by decide +kernel
theorem dX9_after_157 : decode cX9_after 157 = .ok (.iconst 2, 1) := by decide +kernel
theorem dX9_after_158 : decode cX9_after 158 = .ok (.if_icmp .ne 23, 3) := by decide +kernel
theorem dX9_after_161 : decode cX9_after 161 = .ok (.aload_n 0, 1) := by decide +kernel
theorem dX9_after_162 : decode cX9_after 162 = .ok (.getfield 16, 3) := by decide +kernel
theorem dX9_after_165 : decode cX9_after 165 = .ok (.iload_n 1, 1) := by decide +kernel
theorem dX9_after_166 : decode cX9_after 166 = .ok (.iaload, 1) := by decide +kernel
theorem dX9_after_167 : decode cX9_after 167 = .ok (.iconst 2, 1) := by decide +kernel
theorem dX9_after_168 : decode cX9_after 168 = .ok (.if_icmp .eq 33, 3) := by decide +kernel
theorem dX9_after_171 : decode cX9_after 171 = .ok (.aload_n 0, 1) := by decide +kernel
theorem dX9_after_172 : decode cX9_after 172 = .ok (.getfield 16, 3) := by decide +kernel
theorem dX9_after_175 : decode cX9_after 175 = .ok (.iload_n 1, 1) := by decide +kernel
theorem dX9_after_176 : decode cX9_after 176 = .ok (.iaload, 1) := by decide +kernel
theorem dX9_after_177 : decode cX9_after 177 = .ok (.iconst 1, 1) := by decide +kernel
theorem dX9_after_178 : decode cX9_after 178 = .ok (.if_icmp .eq 23, 3) := by decide +kernel
theorem dX9_after_181 : decode cX9_after 181 = .ok (.aload_n 0, 1) := by decide +kernel
theorem dX9_after_182 : decode cX9_after 182 = .ok (.getfield 16, 3) := by decide +kernel
theorem dX9_after_185 : decode cX9_after 185 = .ok (.iload_n 1, 1) := by decide +kernel
theorem dX9_after_186 : decode cX9_after 186 = .ok (.iaload, 1) := by decide +kernel
theorem dX9_after_187 : decode cX9_after 187 = .ok (.iconst 2, 1) := by decide +kernel
theorem dX9_after_188 : decode cX9_after 188 = .ok (.if_icmp .ne 17, 3) := by decide +kernel
theorem dX9_after_191 : decode cX9_after 191 = .ok (.aload_n 0, 1) := by decide +kernel
theorem dX9_after_192 : decode cX9_after 192 = .ok (.getfield 16, 3) := by decide +kernel
theorem dX9_after_195 : decode cX9_after 195 = .ok (.iload_n 2, 1) := by decide +kernel
theorem dX9_after_196 : decode cX9_after 196 = .ok (.iaload, 1) := by decide +kernel
theorem dX9_after_197 : decode cX9_after 197 = .ok (.iconst 1, 1) := by decide +kernel
theorem dX9_after_198 : decode cX9_after 198 = .ok (.if_icmp .ne 7, 3) := by decide +kernel
theorem dX9_after_201 : decode cX9_after 201 = .ok (.iconst 1, 1) := by decide +kernel
theorem dX9_after_202 : decode cX9_after 202 = .ok (.goto 4, 3) := by decide +kernel
theorem dX9_after_205 : decode cX9_after 205 = .ok (.iconst 0, 1) := by decide +kernel
theorem dX9_after_206 : decode cX9_after 206 = .ok (.istore 9, 2) := by decide +kernel
theorem dX9_after_208 : decode cX9_after 208 = .ok (.iload 5, 2) := by decide +kernel
theorem dX9_after_210 : decode cX9_after 210 = .ok (.ifCond .ne 39, 3) := by decide +kernel
theorem dX9_after_213 : decode cX9_after 213 = .ok (.aload_n 0, 1) := by decide +kernel
theorem dX9_after_214 : decode cX9_after 214 = .ok (.getfield 16, 3) := by decide +kernel
theorem dX9_after_217 : decode cX9_after 217 = .ok (.iload_n 2, 1) := by decide +kernel
theorem dX9_after_218 : decode cX9_after 218 = .ok (.iaload, 1) := by decide +kernel
theorem dX9_after_219 : decode cX9_after 219 = .ok (.bipush 8, 2) := by decide +kernel
theorem dX9_after_221 : decode cX9_after 221 = .ok (.if_icmp .eq 28, 3) := by decide +kernel
theorem dX9_after_224 : decode cX9_after 224 = .ok (.aload_n 0, 1) := by decide +kernel
theorem dX9_after_225 : decode cX9_after 225 = .ok (.getfield 16, 3) := by decide +kernel
theorem dX9_after_228 : decode cX9_after 228 = .ok (.iload_n 1, 1) := by decide +kernel
theorem dX9_after_229 : decode cX9_after 229 = .ok (.iaload, 1) := by decide +kernel
theorem dX9_after_230 : decode cX9_after 230 = .ok (.bipush 8, 2) := by decide +kernel
theorem dX9_after_232 : decode cX9_after 232 = .ok (.if_icmp .eq 17, 3) := by decide +kernel
theorem dX9_after_235 : decode cX9_after 235 = .ok (.iload 9, 2) := by decide +kernel
theorem dX9_after_237 : decode cX9_after 237 = .ok (.ifCond .eq 14, 3) := by decide +kernel
theorem dX9_after_240 : decode cX9_after 240 = .ok (.aload_n 0, 1) := by decide +kernel
theorem dX9_after_241 : decode cX9_after 241 = .ok (.iload_n 2, 1) := by decide +kernel
theorem dX9_after_242 : decode cX9_after 242 = .ok (.iload_n 1, 1) := by decide +kernel
theorem dX9_after_243 : decode cX9_after 243 = .ok (.invokevirtual 161, 3) := by decide +kernel
theorem dX9_after_246 : decode cX9_after 246 = .ok (.ifCond .ne 5, 3) := by decide +kernel
theorem dX9_after_249 : decode cX9_after 249 = .ok (.iconst 1, 1) := by decide +kernel
theorem dX9_after_250 : decode cX9_after 250 = .ok (.istore_n 3, 1) := by decide +kernel
theorem dX9_after_251 : decode cX9_after 251 = .ok (.iload 7, 2) := by decide +kernel
theorem dX9_after_253 : decode cX9_after 253 = .ok (.iload 8, 2) := by decide +kernel
theorem dX9_after_255 : decode cX9_after 255 = .ok (.isub, 1) := by decide +kernel
theorem dX9_after_256 : decode cX9_after 256 = .ok (.iconst 1, 1) := by decide +kernel
theorem dX9_after_257 : decode cX9_after 257 = .ok (.iadd, 1) := by decide +kernel
theorem dX9_after_258 : decode cX9_after 258 = .ok (.iconst 1, 1) := by decide +kernel
theorem dX9_after_259 : decode cX9_after 259 = .ok (.if_icmp .le 13, 3) := by decide +kernel
theorem dX9_after_262 : decode cX9_after 262 = .ok (.iload 7, 2) := by decide +kernel
theorem dX9_after_264 : decode cX9_after 264 = .ok (.iload 8, 2) := by decide +kernel
theorem dX9_after_266 : decode cX9_after 266 = .ok (.isub, 1) := by decide +kernel
theorem dX9_after_267 : decode cX9_after 267 = .ok (.iconst 1, 1) := by decide +kernel
theorem dX9_after_268 : decode cX9_after 268 = .ok (.iadd, 1) := by decide +kernel
theorem dX9_after_269 : decode cX9_after 269 = .ok (.goto 4, 3) := by decide +kernel
theorem dX9_after_272 : decode cX9_after 272 = .ok (.iconst 1, 1) := by decide +kernel
theorem dX9_after_273 : decode cX9_after 273 = .ok (.istore 10, 2) := by decide +kernel
theorem dX9_after_275 : decode cX9_after 275 = .ok (.iload 6, 2) := by decide +kernel
theorem dX9_after_277 : decode cX9_after 277 = .ok (.ifCond .eq 12, 3) := by decide +kernel
theorem dX9_after_280 : decode cX9_after 280 = .ok (.iload 10, 2) := by decide +kernel
theorem dX9_after_282 : decode cX9_after 282 = .ok (.iload_n 3, 1) := by decide +kernel
theorem dX9_after_283 : decode cX9_after 283 = .ok (.if_icmp .le 6, 3) := by decide +kernel
theorem dX9_after_286 : decode cX9_after 286 = .ok (.iload 10, 2) := by decide +kernel
theorem dX9_after_288 : decode cX9_after 288 = .ok (.istore_n 3, 1) := by decide +kernel
theorem dX9_after_289 : decode cX9_after 289 = .ok (.iload 4, 2) := by decide +kernel
theorem dX9_after_291 : decode cX9_after 291 = .ok (.ifCond .eq 14, 3) := by decide +kernel
theorem dX9_after_294 : decode cX9_after 294 = .ok (.iload 7, 2) := by decide +kernel
theorem dX9_after_296 : decode cX9_after 296 = .ok (.iload_n 3, 1) := by decide +kernel
theorem dX9_after_297 : decode cX9_after 297 = .ok (.if_icmp .le 8, 3) := by decide +kernel
theorem dX9_after_300 : decode cX9_after 300 = .ok (.iload 7, 2) := by decide +kernel
theorem dX9_after_302 : decode cX9_after 302 = .ok (.goto 4, 3) := by decide +kernel
theorem dX9_after_305 : decode cX9_after 305 = .ok (.iload_n 3, 1) := by decide +kernel
theorem dX9_after_306 : decode cX9_after 306 = .ok (.ireturn, 1) := by decide +kernel
set_option maxRecDepth 20000 in
theorem ggX9_findHeights_X9_after : GoodIn wsX9_findHeights wsX9_after := goodIn_r _ [9, 10, 11, 12, 13, 3, 4, 14, 15, 16, 8, 17, 18, 19, 20, 21, 22, 23, 24, 25, 26, 27, 28, 29, 30, 31, 32, 33, 34, 35, 36, 37, 38, 39, 40, 41, 42, 43, 44, 45, 46, 47, 48, 49, 50, 51, 52, 53, 54, 55, 56, 57, 58, 59] (by decide +kernel) (by decide +kernel)
set_option maxRecDepth 20000 in
theorem gX9_findHeights_X9_after : GoodIn wsX9_findHeights (wsV RX9 165 RX9 yX9_after wsX9_after) := goodIn_app (goodIn_of _ (by decide +kernel)) ggX9_findHeights_X9_after
theorem dX9_findHeights_0 : decode cX9_findHeights 0 = .ok (.aload_n 0, 1) := by decide +kernel
theorem dX9_findHeights_1 : decode cX9_findHeights 1 = .ok (.getfield 148, 3) := by decide +kernel
theorem dX9_findHeights_4 : decode cX9_findHeights 4 = .ok (.iconst 1, 1) := by decide +kernel
theorem dX9_findHeights_5 : decode cX9_findHeights 5 = .ok (.isub, 1) := by decide +kernel
theorem dX9_findHeights_6 : decode cX9_findHeights 6 = .ok (.istore_n 1, 1) := by decide +kernel
theorem dX9_findHeights_7 : decode cX9_findHeights 7 = .ok (.iload_n 1, 1) := by decide +kernel
theorem dX9_findHeights_8 : decode cX9_findHeights 8 = .ok (.ifCond .lt 92, 3) := by decide +kernel
theorem dX9_findHeights_11 : decode cX9_findHeights 11 = .ok (.iconst (-1), 1) := by decide +kernel
theorem dX9_findHeights_12 : decode cX9_findHeights 12 = .ok (.istore_n 2, 1) := by decide +kernel
theorem dX9_findHeights_13 : decode cX9_findHeights 13 = .ok (.iload_n 1, 1) := by decide +kernel
theorem dX9_findHeights_14 : decode cX9_findHeights 14 = .ok (.iconst 1, 1) := by decide +kernel
theorem dX9_findHeights_15 : decode cX9_findHeights 15 = .ok (.iadd, 1) := by decide +kernel
theorem dX9_findHeights_16 : decode cX9_findHeights 16 = .ok (.istore_n 3, 1) := by decide +kernel
theorem dX9_findHeights_17 : decode cX9_findHeights 17 = .ok (.iload_n 3, 1) := by decide +kernel
theorem dX9_findHeights_18 : decode cX9_findHeights 18 = .ok (.aload_n 0, 1) := by decide +kernel
theorem dX9_findHeights_19 : decode cX9_findHeights 19 = .ok (.getfield 148, 3) := by decide +kernel
theorem dX9_findHeights_22 : decode cX9_findHeights 22 = .ok (.if_icmp .ge 46, 3) := by decide +kernel
theorem dX9_findHeights_25 : decode cX9_findHeights 25 = .ok (.aload_n 0, 1) := by decide +kernel
theorem dX9_findHeights_26 : decode cX9_findHeights 26 = .ok (.iload_n 3, 1) := by decide +kernel
theorem dX9_findHeights_27 : decode cX9_findHeights 27 = .ok (.iload_n 1, 1) := by decide +kernel
theorem dX9_findHeights_28 : decode cX9_findHeights 28 = .ok (.invokevirtual 165, 3) := by decide +kernel
theorem dX9_findHeights_31 : decode cX9_findHeights 31 = .ok (.istore 4, 2) := by decide +kernel
theorem dX9_findHeights_33 : decode cX9_findHeights 33 = .ok (.iload 4, 2) := by decide +kernel
theorem dX9_findHeights_35 : decode cX9_findHeights 35 = .ok (.iconst (-1), 1) := by decide +kernel
theorem dX9_findHeights_36 : decode cX9_findHeights 36 = .ok (.if_icmp .eq 26, 3) := by decide +kernel
theorem dX9_findHeights_39 : decode cX9_findHeights 39 = .ok (.aload_n 0, 1) := by decide +kernel
theorem dX9_findHeights_40 : decode cX9_findHeights 40 = .ok (.getfield 42, 3) := by decide +kernel
theorem dX9_findHeights_43 : decode cX9_findHeights 43 = .ok (.iload_n 3, 1) := by decide +kernel
theorem dX9_findHeights_44 : decode cX9_findHeights 44 = .ok (.iaload, 1) := by decide +kernel
theorem dX9_findHeights_45 : decode cX9_findHeights 45 = .ok (.iload 4, 2) := by decide +kernel
theorem dX9_findHeights_47 : decode cX9_findHeights 47 = .ok (.iadd, 1) := by decide +kernel
theorem dX9_findHeights_48 : decode cX9_findHeights 48 = .ok (.iload_n 2, 1) := by decide +kernel
theorem dX9_findHeights_49 : decode cX9_findHeights 49 = .ok (.if_icmp .le 13, 3) := by decide +kernel
theorem dX9_findHeights_52 : decode cX9_findHeights 52 = .ok (.aload_n 0, 1) := by decide +kernel
theorem dX9_findHeights_53 : decode cX9_findHeights 53 = .ok (.getfield 42, 3) := by decide +kernel
theorem dX9_findHeights_56 : decode cX9_findHeights 56 = .ok (.iload_n 3, 1) := by decide +kernel
theorem dX9_findHeights_57 : decode cX9_findHeights 57 = .ok (.iaload, 1) := by decide +kernel
theorem dX9_findHeights_58 : decode cX9_findHeights 58 = .ok (.iload 4, 2) := by decide +kernel
theorem dX9_findHeights_60 : decode cX9_findHeights 60 = .ok (.iadd, 1) := by decide +kernel
theorem dX9_findHeights_61 : decode cX9_findHeights 61 = .ok (.istore_n 2, 1) := by decide +kernel
theorem dX9_findHeights_62 : decode cX9_findHeights 62 = .ok (.iinc 3 1, 3) := by decide +kernel
theorem dX9_findHeights_65 : decode cX9_findHeights 65 = .ok (.goto (-48), 3) := by decide +kernel
theorem dX9_findHeights_68 : decode cX9_findHeights 68 = .ok (.aload_n 0, 1) := by decide +kernel
theorem dX9_findHeights_69 : decode cX9_findHeights 69 = .ok (.getfield 42, 3) := by decide +kernel
theorem dX9_findHeights_72 : decode cX9_findHeights 72 = .ok (.iload_n 1, 1) := by decide +kernel
theorem dX9_findHeights_73 : decode cX9_findHeights 73 = .ok (.iload_n 2, 1) := by decide +kernel
theorem dX9_findHeights_74 : decode cX9_findHeights 74 = .ok (.iconst (-1), 1) := by decide +kernel
theorem dX9_findHeights_75 : decode cX9_findHeights 75 = .ok (.if_icmp .ne 17, 3) := by decide +kernel
theorem dX9_findHeights_78 : decode cX9_findHeights 78 = .ok (.aload_n 0, 1) := by decide +kernel
theorem dX9_findHeights_79 : decode cX9_findHeights 79 = .ok (.getfield 7, 3) := by decide +kernel
theorem dX9_findHeights_82 : decode cX9_findHeights 82 = .ok (.aload_n 0, 1) := by decide +kernel
theorem dX9_findHeights_83 : decode cX9_findHeights 83 = .ok (.getfield 16, 3) := by decide +kernel
theorem dX9_findHeights_86 : decode cX9_findHeights 86 = .ok (.iload_n 1, 1) := by decide +kernel
theorem dX9_findHeights_87 : decode cX9_findHeights 87 = .ok (.iaload, 1) := by decide +kernel
theorem dX9_findHeights_88 : decode cX9_findHeights 88 = .ok (.iaload, 1) := by decide +kernel
theorem dX9_findHeights_89 : decode cX9_findHeights 89 = .ok (.goto 4, 3) := by decide +kernel
theorem dX9_findHeights_92 : decode cX9_findHeights 92 = .ok (.iload_n 2, 1) := by decide +kernel
theorem dX9_findHeights_93 : decode cX9_findHeights 93 = .ok (.iastore, 1) := by decide +kernel
theorem dX9_findHeights_94 : decode cX9_findHeights 94 = .ok (.iinc 1 (-1), 3) := by decide +kernel
theorem dX9_findHeights_97 : decode cX9_findHeights 97 = .ok (.goto (-90), 3) := by decide +kernel
theorem dX9_findHeights_100 : decode cX9_findHeights 100 = .ok (.return_, 1) := by decide +kernel
set_option maxRecDepth 20000 in
theorem ggX9_canCome_X9_after : GoodIn wsX9_canCome wsX9_after := goodIn_r _ [6, 7, 8, 9, 10, 11, 12, 13, 14, 15, 5, 16, 17, 18, 19, 20, 21, 22, 23, 24, 25, 26, 27, 28, 29, 30, 31, 32, 33, 34, 35, 36, 37, 38, 39, 40, 41, 42, 43, 44, 45, 46, 47, 48, 49, 50, 51, 52, 53, 54, 55, 56, 57, 58] (by decide +kernel) (by decide +kernel)
set_option maxRecDepth 20000 in
theorem gX9_canCome_X9_after : GoodIn wsX9_canCome (wsV RX9 165 RX9 yX9_after wsX9_after) := goodIn_app (goodIn_of _ (by decide +kernel)) ggX9_canCome_X9_after
theorem dX9_canCome_0 : decode cX9_canCome 0 = .ok (.iconst 0, 1) := by decide +kernel
theorem dX9_canCome_1 : decode cX9_canCome 1 = .ok (.istore_n 3, 1) := by decide +kernel
theorem dX9_canCome_2 : decode cX9_canCome 2 = .ok (.iload_n 3, 1) := by decide +kernel
theorem dX9_canCome_3 : decode cX9_canCome 3 = .ok (.iload_n 1, 1) := by decide +kernel
theorem dX9_canCome_4 : decode cX9_canCome 4 = .ok (.if_icmp .ge 48, 3) := by decide +kernel
theorem dX9_canCome_7 : decode cX9_canCome 7 = .ok (.aload_n 0, 1) := by decide +kernel
theorem dX9_canCome_8 : decode cX9_canCome 8 = .ok (.iload_n 1, 1) := by decide +kernel
theorem dX9_canCome_9 : decode cX9_canCome 9 = .ok (.iload_n 3, 1) := by decide +kernel
theorem dX9_canCome_10 : decode cX9_canCome 10 = .ok (.invokevirtual 165, 3) := by decide +kernel
theorem dX9_canCome_13 : decode cX9_canCome 13 = .ok (.istore 4, 2) := by decide +kernel
theorem dX9_canCome_15 : decode cX9_canCome 15 = .ok (.iload 4, 2) := by decide +kernel
theorem dX9_canCome_17 : decode cX9_canCome 17 = .ok (.iconst (-1), 1) := by decide +kernel
theorem dX9_canCome_18 : decode cX9_canCome 18 = .ok (.if_icmp .eq 28, 3) := by decide +kernel
theorem dX9_canCome_21 : decode cX9_canCome 21 = .ok (.aload_n 0, 1) := by decide +kernel
theorem dX9_canCome_22 : decode cX9_canCome 22 = .ok (.getfield 48, 3) := by decide +kernel
theorem dX9_canCome_25 : decode cX9_canCome 25 = .ok (.iload_n 3, 1) := by decide +kernel
theorem dX9_canCome_26 : decode cX9_canCome 26 = .ok (.iaload, 1) := by decide +kernel
theorem dX9_canCome_27 : decode cX9_canCome 27 = .ok (.iconst (-1), 1) := by decide +kernel
theorem dX9_canCome_28 : decode cX9_canCome 28 = .ok (.if_icmp .eq 16, 3) := by decide +kernel
theorem dX9_canCome_31 : decode cX9_canCome 31 = .ok (.iload_n 2, 1) := by decide +kernel
theorem dX9_canCome_32 : decode cX9_canCome 32 = .ok (.aload_n 0, 1) := by decide +kernel
theorem dX9_canCome_33 : decode cX9_canCome 33 = .ok (.getfield 48, 3) := by decide +kernel
theorem dX9_canCome_36 : decode cX9_canCome 36 = .ok (.iload_n 3, 1) := by decide +kernel
theorem dX9_canCome_37 : decode cX9_canCome 37 = .ok (.iaload, 1) := by decide +kernel
theorem dX9_canCome_38 : decode cX9_canCome 38 = .ok (.isub, 1) := by decide +kernel
theorem dX9_canCome_39 : decode cX9_canCome 39 = .ok (.iload 4, 2) := by decide +kernel
theorem dX9_canCome_41 : decode cX9_canCome 41 = .ok (.if_icmp .ge 5, 3) := by decide +kernel
theorem dX9_canCome_44 : decode cX9_canCome 44 = .ok (.iconst 0, 1) := by decide +kernel
theorem dX9_canCome_45 : decode cX9_canCome 45 = .ok (.ireturn, 1) := by decide +kernel
theorem dX9_canCome_46 : decode cX9_canCome 46 = .ok (.iinc 3 1, 3) := by decide +kernel
theorem dX9_canCome_49 : decode cX9_canCome 49 = .ok (.goto (-47), 3) := by decide +kernel
theorem dX9_canCome_52 : decode cX9_canCome 52 = .ok (.iconst 1, 1) := by decide +kernel
theorem dX9_canCome_53 : decode cX9_canCome 53 = .ok (.ireturn, 1) := by decide +kernel
set_option maxRecDepth 20000 in
theorem ggX9_place_X9_findHeights : GoodIn wsX9_place wsX9_findHeights := goodIn_r _ [8, 9, 2, 10, 11, 12, 13, 14, 7, 15, 16, 17, 18, 19, 20, 21, 22, 23, 24, 25, 26, 27, 28, 29, 30, 31, 32, 33, 34, 35, 36, 37, 38, 39, 44, 45, 46, 47, 48, 49, 50, 51, 52, 53, 54, 55, 56, 57, 58, 59, 60, 61, 62, 63, 64, 65, 66, 67, 68, 69] (by decide +kernel) (by decide +kernel)
set_option maxRecDepth 20000 in
theorem gX9_place_X9_findHeights : GoodIn wsX9_place (wsV RX9 169 RX9 yX9_findHeights wsX9_findHeights) := goodIn_app (goodIn_of _ (by decide +kernel)) ggX9_place_X9_findHeights
set_option maxRecDepth 20000 in
theorem ggX9_place_X9_canCome : GoodIn wsX9_place wsX9_canCome := goodIn_r _ [43, 1, 12, 13, 14, 7, 15, 16, 17, 18, 19, 10, 11, 20, 21, 22, 23, 24, 25, 26, 27, 28, 29, 30, 31, 32, 33, 34, 35, 36, 37, 38, 39, 44, 45, 46, 47, 48, 49, 50, 51, 52, 53, 54, 55, 56, 57, 58, 59, 60, 61, 62, 63, 64, 65, 66, 67, 68, 69] (by decide +kernel) (by decide +kernel)
set_option maxRecDepth 20000 in
theorem gX9_place_X9_canCome : GoodIn wsX9_place (wsV RX9 172 RX9 yX9_canCome wsX9_canCome) := goodIn_app (goodIn_of _ (by decide +kernel)) ggX9_place_X9_canCome
theorem dX9_place_0 : decode cX9_place 0 = .ok (.aload_n 0, 1) := by decide +kernel
theorem dX9_place_1 : decode cX9_place 1 = .ok (.invokevirtual 169, 3) := by decide +kernel
theorem dX9_place_4 : decode cX9_place 4 = .ok (.iconst 0, 1) := by decide +kernel
theorem dX9_place_5 : decode cX9_place 5 = .ok (.istore_n 2, 1) := by decide +kernel
theorem dX9_place_6 : decode cX9_place 6 = .ok (.iload_n 2, 1) := by decide +kernel
theorem dX9_place_7 : decode cX9_place 7 = .ok (.iload_n 1, 1) := by decide +kernel
theorem dX9_place_8 : decode cX9_place 8 = .ok (.if_icmp .ge 16, 3) := by decide +kernel
theorem dX9_place_11 : decode cX9_place 11 = .ok (.aload_n 0, 1) := by decide +kernel
theorem dX9_place_12 : decode cX9_place 12 = .ok (.getfield 48, 3) := by decide +kernel
theorem dX9_place_15 : decode cX9_place 15 = .ok (.iload_n 2, 1) := by decide +kernel
theorem dX9_place_16 : decode cX9_place 16 = .ok (.iconst (-1), 1) := by decide +kernel
theorem dX9_place_17 : decode cX9_place 17 = .ok (.iastore, 1) := by decide +kernel
theorem dX9_place_18 : decode cX9_place 18 = .ok (.iinc 2 1, 3) := by decide +kernel
theorem dX9_place_21 : decode cX9_place 21 = .ok (.goto (-15), 3) := by decide +kernel
theorem dX9_place_24 : decode cX9_place 24 = .ok (.iconst 0, 1) := by decide +kernel
theorem dX9_place_25 : decode cX9_place 25 = .ok (.istore_n 2, 1) := by decide +kernel
theorem dX9_place_26 : decode cX9_place 26 = .ok (.iconst 0, 1) := by decide +kernel
theorem dX9_place_27 : decode cX9_place 27 = .ok (.istore_n 3, 1) := by decide +kernel
theorem dX9_place_28 : decode cX9_place 28 = .ok (.iload_n 2, 1) := by decide +kernel
theorem dX9_place_29 : decode cX9_place 29 = .ok (.iload_n 1, 1) := by decide +kernel
theorem dX9_place_30 : decode cX9_place 30 = .ok (.if_icmp .ge 103, 3) := by decide +kernel
theorem dX9_place_33 : decode cX9_place 33 = .ok (.iconst (-1), 1) := by decide +kernel
theorem dX9_place_34 : decode cX9_place 34 = .ok (.istore 4, 2) := by decide +kernel
theorem dX9_place_36 : decode cX9_place 36 = .ok (.iconst 0, 1) := by decide +kernel
theorem dX9_place_37 : decode cX9_place 37 = .ok (.istore 5, 2) := by decide +kernel
theorem dX9_place_39 : decode cX9_place 39 = .ok (.iload 5, 2) := by decide +kernel
theorem dX9_place_41 : decode cX9_place 41 = .ok (.iload_n 1, 1) := by decide +kernel
theorem dX9_place_42 : decode cX9_place 42 = .ok (.if_icmp .ge 57, 3) := by decide +kernel
theorem dX9_place_45 : decode cX9_place 45 = .ok (.aload_n 0, 1) := by decide +kernel
theorem dX9_place_46 : decode cX9_place 46 = .ok (.getfield 48, 3) := by decide +kernel
theorem dX9_place_49 : decode cX9_place 49 = .ok (.iload 5, 2) := by decide +kernel
theorem dX9_place_51 : decode cX9_place 51 = .ok (.iaload, 1) := by decide +kernel
theorem dX9_place_52 : decode cX9_place 52 = .ok (.iconst (-1), 1) := by decide +kernel
theorem dX9_place_53 : decode cX9_place 53 = .ok (.if_icmp .ne 40, 3) := by decide +kernel
theorem dX9_place_56 : decode cX9_place 56 = .ok (.iload 4, 2) := by decide +kernel
theorem dX9_place_58 : decode cX9_place 58 = .ok (.iconst (-1), 1) := by decide +kernel
theorem dX9_place_59 : decode cX9_place 59 = .ok (.if_icmp .eq 20, 3) := by decide +kernel
theorem dX9_place_62 : decode cX9_place 62 = .ok (.aload_n 0, 1) := by decide +kernel
theorem dX9_place_63 : decode cX9_place 63 = .ok (.getfield 42, 3) := by decide +kernel
theorem dX9_place_66 : decode cX9_place 66 = .ok (.iload 5, 2) := by decide +kernel
theorem dX9_place_68 : decode cX9_place 68 = .ok (.iaload, 1) := by decide +kernel
theorem dX9_place_69 : decode cX9_place 69 = .ok (.aload_n 0, 1) := by decide +kernel
theorem dX9_place_70 : decode cX9_place 70 = .ok (.getfield 42, 3) := by decide +kernel
theorem dX9_place_73 : decode cX9_place 73 = .ok (.iload 4, 2) := by decide +kernel
theorem dX9_place_75 : decode cX9_place 75 = .ok (.iaload, 1) := by decide +kernel
theorem dX9_place_76 : decode cX9_place 76 = .ok (.if_icmp .le 17, 3) := by decide +kernel
theorem dX9_place_79 : decode cX9_place 79 = .ok (.aload_n 0, 1) := by decide +kernel
theorem dX9_place_80 : decode cX9_place 80 = .ok (.iload 5, 2) := by decide +kernel
theorem dX9_place_82 : decode cX9_place 82 = .ok (.iload_n 3, 1) := by decide +kernel
theorem dX9_place_83 : decode cX9_place 83 = .ok (.invokevirtual 172, 3) := by decide +kernel
theorem dX9_place_86 : decode cX9_place 86 = .ok (.ifCond .eq 7, 3) := by decide +kernel
theorem dX9_place_89 : decode cX9_place 89 = .ok (.iload 5, 2) := by decide +kernel
theorem dX9_place_91 : decode cX9_place 91 = .ok (.istore 4, 2) := by decide +kernel
theorem dX9_place_93 : decode cX9_place 93 = .ok (.iinc 5 1, 3) := by decide +kernel
theorem dX9_place_96 : decode cX9_place 96 = .ok (.goto (-57), 3) := by decide +kernel
theorem dX9_place_99 : decode cX9_place 99 = .ok (.iload 4, 2) := by decide +kernel
theorem dX9_place_101 : decode cX9_place 101 = .ok (.iconst (-1), 1) := by decide +kernel
theorem dX9_place_102 : decode cX9_place 102 = .ok (.if_icmp .ne 6, 3) := by decide +kernel
theorem dX9_place_105 : decode cX9_place 105 = .ok (.goto 22, 3) := by decide +kernel
theorem dX9_place_108 : decode cX9_place 108 = .ok (.aload_n 0, 1) := by decide +kernel
theorem dX9_place_109 : decode cX9_place 109 = .ok (.getfield 48, 3) := by decide +kernel
theorem dX9_place_112 : decode cX9_place 112 = .ok (.iload 4, 2) := by decide +kernel
theorem dX9_place_114 : decode cX9_place 114 = .ok (.iload_n 3, 1) := by decide +kernel
theorem dX9_place_115 : decode cX9_place 115 = .ok (.iastore, 1) := by decide +kernel
theorem dX9_place_116 : decode cX9_place 116 = .ok (.aload_n 0, 1) := by decide +kernel
theorem dX9_place_117 : decode cX9_place 117 = .ok (.getfield 45, 3) := by decide +kernel
theorem dX9_place_120 : decode cX9_place 120 = .ok (.iload_n 2, 1) := by decide +kernel
theorem dX9_place_121 : decode cX9_place 121 = .ok (.iload 4, 2) := by decide +kernel
theorem dX9_place_123 : decode cX9_place 123 = .ok (.iastore, 1) := by decide +kernel
theorem dX9_place_124 : decode cX9_place 124 = .ok (.iinc 2 1, 3) := by decide +kernel
theorem dX9_place_127 : decode cX9_place 127 = .ok (.iinc 3 1, 3) := by decide +kernel
theorem dX9_place_130 : decode cX9_place 130 = .ok (.goto (-102), 3) := by decide +kernel
theorem dX9_place_133 : decode cX9_place 133 = .ok (.return_, 1) := by decide +kernel
set_option maxRecDepth 20000 in
theorem ggX9_filler_X9_after : GoodIn wsX9_filler wsX9_after := goodIn_r _ [8, 9, 10, 11, 12, 13, 2, 14, 15, 16, 7, 17, 18, 19, 20, 21, 22, 23, 24, 25, 26, 27, 28, 29, 30, 31, 32, 33, 34, 35, 36, 37, 38, 39, 40, 41, 42, 43, 44, 45, 46, 47, 48, 49, 50, 51, 52, 53, 54, 55, 56, 57, 58, 59] (by decide +kernel) (by decide +kernel)
set_option maxRecDepth 20000 in
theorem gX9_filler_X9_after : GoodIn wsX9_filler (wsV RX9 165 RX9 yX9_after wsX9_after) := goodIn_app (goodIn_of _ (by decide +kernel)) ggX9_filler_X9_after
theorem dX9_filler_0 : decode cX9_filler 0 = .ok (.iload_n 1, 1) := by decide +kernel
theorem dX9_filler_1 : decode cX9_filler 1 = .ok (.iconst 1, 1) := by decide +kernel
theorem dX9_filler_2 : decode cX9_filler 2 = .ok (.isub, 1) := by decide +kernel
theorem dX9_filler_3 : decode cX9_filler 3 = .ok (.istore_n 2, 1) := by decide +kernel
theorem dX9_filler_4 : decode cX9_filler 4 = .ok (.iload_n 2, 1) := by decide +kernel
theorem dX9_filler_5 : decode cX9_filler 5 = .ok (.ifCond .lt 84, 3) := by decide +kernel
theorem dX9_filler_8 : decode cX9_filler 8 = .ok (.aload_n 0, 1) := by decide +kernel
theorem dX9_filler_9 : decode cX9_filler 9 = .ok (.getfield 45, 3) := by decide +kernel
theorem dX9_filler_12 : decode cX9_filler 12 = .ok (.iload_n 2, 1) := by decide +kernel
theorem dX9_filler_13 : decode cX9_filler 13 = .ok (.iaload, 1) := by decide +kernel
theorem dX9_filler_14 : decode cX9_filler 14 = .ok (.istore_n 3, 1) := by decide +kernel
theorem dX9_filler_15 : decode cX9_filler 15 = .ok (.aload_n 0, 1) := by decide +kernel
theorem dX9_filler_16 : decode cX9_filler 16 = .ok (.getfield 16, 3) := by decide +kernel
theorem dX9_filler_19 : decode cX9_filler 19 = .ok (.iload_n 3, 1) := by decide +kernel
theorem dX9_filler_20 : decode cX9_filler 20 = .ok (.iaload, 1) := by decide +kernel
theorem dX9_filler_21 : decode cX9_filler 21 = .ok (.bipush 8, 2) := by decide +kernel
theorem dX9_filler_23 : decode cX9_filler 23 = .ok (.if_icmp .eq 7, 3) := by decide +kernel
theorem dX9_filler_26 : decode cX9_filler 26 = .ok (.iconst 1, 1) := by decide +kernel
theorem dX9_filler_27 : decode cX9_filler 27 = .ok (.goto 4, 3) := by decide +kernel
theorem dX9_filler_30 : decode cX9_filler 30 = .ok (.iconst 0, 1) := by decide +kernel
theorem dX9_filler_31 : decode cX9_filler 31 = .ok (.istore 4, 2) := by decide +kernel
theorem dX9_filler_33 : decode cX9_filler 33 = .ok (.iload_n 3, 1) := by decide +kernel
theorem dX9_filler_34 : decode cX9_filler 34 = .ok (.iconst 1, 1) := by decide +kernel
theorem dX9_filler_35 : decode cX9_filler 35 = .ok (.iadd, 1) := by decide +kernel
theorem dX9_filler_36 : decode cX9_filler 36 = .ok (.istore 5, 2) := by decide +kernel
theorem dX9_filler_38 : decode cX9_filler 38 = .ok (.iload 5, 2) := by decide +kernel
theorem dX9_filler_40 : decode cX9_filler 40 = .ok (.aload_n 0, 1) := by decide +kernel
theorem dX9_filler_41 : decode cX9_filler 41 = .ok (.getfield 148, 3) := by decide +kernel
theorem dX9_filler_44 : decode cX9_filler 44 = .ok (.if_icmp .ge 32, 3) := by decide +kernel
theorem dX9_filler_47 : decode cX9_filler 47 = .ok (.iload 4, 2) := by decide +kernel
theorem dX9_filler_49 : decode cX9_filler 49 = .ok (.ifCond .eq 27, 3) := by decide +kernel
theorem dX9_filler_52 : decode cX9_filler 52 = .ok (.aload_n 0, 1) := by decide +kernel
theorem dX9_filler_53 : decode cX9_filler 53 = .ok (.iload 5, 2) := by decide +kernel
theorem dX9_filler_55 : decode cX9_filler 55 = .ok (.iload_n 3, 1) := by decide +kernel
theorem dX9_filler_56 : decode cX9_filler 56 = .ok (.invokevirtual 165, 3) := by decide +kernel
theorem dX9_filler_59 : decode cX9_filler 59 = .ok (.iconst (-1), 1) := by decide +kernel
theorem dX9_filler_60 : decode cX9_filler 60 = .ok (.if_icmp .ne 7, 3) := by decide +kernel
theorem dX9_filler_63 : decode cX9_filler 63 = .ok (.iconst 1, 1) := by decide +kernel
theorem dX9_filler_64 : decode cX9_filler 64 = .ok (.goto 4, 3) := by decide +kernel
theorem dX9_filler_67 : decode cX9_filler 67 = .ok (.iconst 0, 1) := by decide +kernel
theorem dX9_filler_68 : decode cX9_filler 68 = .ok (.istore 4, 2) := by decide +kernel
theorem dX9_filler_70 : decode cX9_filler 70 = .ok (.iinc 5 1, 3) := by decide +kernel
theorem dX9_filler_73 : decode cX9_filler 73 = .ok (.goto (-35), 3) := by decide +kernel
theorem dX9_filler_76 : decode cX9_filler 76 = .ok (.iload 4, 2) := by decide +kernel
theorem dX9_filler_78 : decode cX9_filler 78 = .ok (.ifCond .eq 5, 3) := by decide +kernel
theorem dX9_filler_81 : decode cX9_filler 81 = .ok (.iload_n 2, 1) := by decide +kernel
theorem dX9_filler_82 : decode cX9_filler 82 = .ok (.ireturn, 1) := by decide +kernel
theorem dX9_filler_83 : decode cX9_filler 83 = .ok (.iinc 2 (-1), 3) := by decide +kernel
theorem dX9_filler_86 : decode cX9_filler 86 = .ok (.goto (-82), 3) := by decide +kernel
theorem dX9_filler_89 : decode cX9_filler 89 = .ok (.iconst (-1), 1) := by decide +kernel
theorem dX9_filler_90 : decode cX9_filler 90 = .ok (.ireturn, 1) := by decide +kernel
set_option maxRecDepth 20000 in
theorem ggX9_schedule_X9_place : GoodIn wsX9_schedule wsX9_place := goodIn_r _ [12, 13, 14, 5, 15, 16, 17, 11, 18, 3, 19, 4, 20, 21, 22, 23, 24, 25, 26, 27, 28, 29, 30, 31, 32, 33, 34, 35, 36, 37, 38, 39, 40, 41, 42, 43, 44, 45, 46, 47, 48, 49, 50, 51, 68, 69, 70, 71, 72, 73, 74, 75, 76, 77, 78, 79, 80, 81, 82, 83, 84, 85, 86, 87, 88, 89, 90, 91, 92, 93] (by decide +kernel) (by decide +kernel)
set_option maxRecDepth 20000 in
theorem gX9_schedule_X9_place : GoodIn wsX9_schedule (wsV RX9 175 RX9 yX9_place wsX9_place) := goodIn_app (goodIn_of _ (by decide +kernel)) ggX9_schedule_X9_place
set_option maxRecDepth 20000 in
theorem ggX9_schedule_X9_filler : GoodIn wsX9_schedule wsX9_filler := goodIn_r _ [55, 5, 4, 3, 20, 21, 22, 11, 23, 24, 25, 26, 27, 19, 28, 29, 30, 31, 32, 33, 34, 35, 36, 37, 38, 39, 40, 41, 42, 43, 44, 45, 46, 47, 68, 69, 70, 71, 72, 73, 74, 75, 76, 77, 78, 79, 80, 81, 82, 83, 84, 85, 86, 87, 88, 89, 90, 91, 92, 93] (by decide +kernel) (by decide +kernel)
set_option maxRecDepth 20000 in
theorem gX9_schedule_X9_filler : GoodIn wsX9_schedule (wsV RX9 178 RX9 yX9_filler wsX9_filler) := goodIn_app (goodIn_of _ (by decide +kernel)) ggX9_schedule_X9_filler
set_option maxRecDepth 20000 in
theorem ggX9_schedule_X9_comes : GoodIn wsX9_schedule wsX9_comes := goodIn_r _ [59, 60, 7, 32, 61, 68, 69, 70, 71, 72, 73, 74, 75, 76, 77, 78, 79, 80, 81, 82, 83, 84, 85, 86, 87, 88, 89, 90, 91, 92, 93] (by decide +kernel) (by decide +kernel)
set_option maxRecDepth 20000 in
theorem gX9_schedule_X9_comes : GoodIn wsX9_schedule (wsV RX9 184 RX9 yX9_comes wsX9_comes) := goodIn_app (goodIn_of _ (by decide +kernel)) ggX9_schedule_X9_comes
set_option maxRecDepth 20000 in
theorem ggX9_schedule_X9_findCycles : GoodIn wsX9_schedule wsX9_findCycles := goodIn_r _ [65, 66, 7, 67, 61, 20, 21, 22, 11, 23, 24, 25, 26, 27, 19, 4, 28, 29, 30, 31, 32, 33, 34, 35, 36, 37, 38, 39, 40, 41, 42, 43, 44, 45, 46, 47, 68, 69, 70, 71, 72, 73, 74, 75, 76, 77, 78, 79, 80, 81, 82, 83, 84, 85, 86, 87, 88, 89, 90, 91, 92, 93] (by decide +kernel) (by decide +kernel)
set_option maxRecDepth 20000 in
theorem gX9_schedule_X9_findCycles : GoodIn wsX9_schedule (wsV RX9 187 RX9 yX9_findCycles wsX9_findCycles) := goodIn_app (goodIn_of _ (by decide +kernel)) ggX9_schedule_X9_findCycles
theorem dX9_schedule_0 : decode cX9_schedule 0 = .ok (.aload_n 0, 1) := by decide +kernel
theorem dX9_schedule_1 : decode cX9_schedule 1 = .ok (.iconst 0, 1) := by decide +kernel
theorem dX9_schedule_2 : decode cX9_schedule 2 = .ok (.putfield 54, 3) := by decide +kernel
theorem dX9_schedule_5 : decode cX9_schedule 5 = .ok (.aload_n 0, 1) := by decide +kernel
theorem dX9_schedule_6 : decode cX9_schedule 6 = .ok (.iconst 1, 1) := by decide +kernel
theorem dX9_schedule_7 : decode cX9_schedule 7 = .ok (.putfield 145, 3) := by decide +kernel
theorem dX9_schedule_10 : decode cX9_schedule 10 = .ok (.aload_n 0, 1) := by decide +kernel
theorem dX9_schedule_11 : decode cX9_schedule 11 = .ok (.getfield 148, 3) := by decide +kernel
theorem dX9_schedule_14 : decode cX9_schedule 14 = .ok (.ifCond .le 23, 3) := by decide +kernel
theorem dX9_schedule_17 : decode cX9_schedule 17 = .ok (.aload_n 0, 1) := by decide +kernel
theorem dX9_schedule_18 : decode cX9_schedule 18 = .ok (.getfield 16, 3) := by decide +kernel
theorem dX9_schedule_21 : decode cX9_schedule 21 = .ok (.aload_n 0, 1) := by decide +kernel
theorem dX9_schedule_22 : decode cX9_schedule 22 = .ok (.getfield 148, 3) := by decide +kernel
theorem dX9_schedule_25 : decode cX9_schedule 25 = .ok (.iconst 1, 1) := by decide +kernel
theorem dX9_schedule_26 : decode cX9_schedule 26 = .ok (.isub, 1) := by decide +kernel
theorem dX9_schedule_27 : decode cX9_schedule 27 = .ok (.iaload, 1) := by decide +kernel
theorem dX9_schedule_28 : decode cX9_schedule 28 = .ok (.bipush 7, 2) := by decide +kernel
theorem dX9_schedule_30 : decode cX9_schedule 30 = .ok (.if_icmp .ne 7, 3) := by decide +kernel
theorem dX9_schedule_33 : decode cX9_schedule 33 = .ok (.iconst 1, 1) := by decide +kernel
theorem dX9_schedule_34 : decode cX9_schedule 34 = .ok (.goto 4, 3) := by decide +kernel
theorem dX9_schedule_37 : decode cX9_schedule 37 = .ok (.iconst 0, 1) := by decide +kernel
theorem dX9_schedule_38 : decode cX9_schedule 38 = .ok (.istore_n 3, 1) := by decide +kernel
theorem dX9_schedule_39 : decode cX9_schedule 39 = .ok (.iload_n 3, 1) := by decide +kernel
theorem dX9_schedule_40 : decode cX9_schedule 40 = .ok (.ifCond .eq 12, 3) := by decide +kernel
theorem dX9_schedule_43 : decode cX9_schedule 43 = .ok (.aload_n 0, 1) := by decide +kernel
theorem dX9_schedule_44 : decode cX9_schedule 44 = .ok (.getfield 148, 3) := by decide +kernel
theorem dX9_schedule_47 : decode cX9_schedule 47 = .ok (.iconst 1, 1) := by decide +kernel
theorem dX9_schedule_48 : decode cX9_schedule 48 = .ok (.isub, 1) := by decide +kernel
theorem dX9_schedule_49 : decode cX9_schedule 49 = .ok (.goto 7, 3) := by decide +kernel
theorem dX9_schedule_52 : decode cX9_schedule 52 = .ok (.aload_n 0, 1) := by decide +kernel
theorem dX9_schedule_53 : decode cX9_schedule 53 = .ok (.getfield 148, 3) := by decide +kernel
theorem dX9_schedule_56 : decode cX9_schedule 56 = .ok (.istore 4, 2) := by decide +kernel
theorem dX9_schedule_58 : decode cX9_schedule 58 = .ok (.iconst 0, 1) := by decide +kernel
theorem dX9_schedule_59 : decode cX9_schedule 59 = .ok (.istore 5, 2) := by decide +kernel
theorem dX9_schedule_61 : decode cX9_schedule 61 = .ok (.iload 5, 2) := by decide +kernel
theorem dX9_schedule_63 : decode cX9_schedule 63 = .ok (.iload 4, 2) := by decide +kernel
theorem dX9_schedule_65 : decode cX9_schedule 65 = .ok (.if_icmp .ge 18, 3) := by decide +kernel
theorem dX9_schedule_68 : decode cX9_schedule 68 = .ok (.aload_n 0, 1) := by decide +kernel
theorem dX9_schedule_69 : decode cX9_schedule 69 = .ok (.getfield 45, 3) := by decide +kernel
theorem dX9_schedule_72 : decode cX9_schedule 72 = .ok (.iload 5, 2) := by decide +kernel
theorem dX9_schedule_74 : decode cX9_schedule 74 = .ok (.iload 5, 2) := by decide +kernel
theorem dX9_schedule_76 : decode cX9_schedule 76 = .ok (.iastore, 1) := by decide +kernel
theorem dX9_schedule_77 : decode cX9_schedule 77 = .ok (.iinc 5 1, 3) := by decide +kernel
theorem dX9_schedule_80 : decode cX9_schedule 80 = .ok (.goto (-19), 3) := by decide +kernel
theorem dX9_schedule_83 : decode cX9_schedule 83 = .ok (.iload_n 1, 1) := by decide +kernel
theorem dX9_schedule_84 : decode cX9_schedule 84 = .ok (.ifCond .eq 9, 3) := by decide +kernel
theorem dX9_schedule_87 : decode cX9_schedule 87 = .ok (.aload_n 0, 1) := by decide +kernel
theorem dX9_schedule_88 : decode cX9_schedule 88 = .ok (.iload 4, 2) := by decide +kernel
theorem dX9_schedule_90 : decode cX9_schedule 90 = .ok (.invokevirtual 175, 3) := by decide +kernel
theorem dX9_schedule_93 : decode cX9_schedule 93 = .ok (.iload_n 3, 1) := by decide +kernel
theorem dX9_schedule_94 : decode cX9_schedule 94 = .ok (.ifCond .eq 30, 3) := by decide +kernel
theorem dX9_schedule_97 : decode cX9_schedule 97 = .ok (.iload_n 2, 1) := by decide +kernel
theorem dX9_schedule_98 : decode cX9_schedule 98 = .ok (.ifCond .eq 26, 3) := by decide +kernel
theorem dX9_schedule_101 : decode cX9_schedule 101 = .ok (.aload_n 0, 1) := by decide +kernel
theorem dX9_schedule_102 : decode cX9_schedule 102 = .ok (.getfield 32, 3) := by decide +kernel
theorem dX9_schedule_105 : decode cX9_schedule 105 = .ok (.aload_n 0, 1) := by decide +kernel
theorem dX9_schedule_106 : decode cX9_schedule 106 = .ok (.getfield 148, 3) := by decide +kernel
theorem dX9_schedule_109 : decode cX9_schedule 109 = .ok (.iconst 1, 1) := by decide +kernel
theorem dX9_schedule_110 : decode cX9_schedule 110 = .ok (.isub, 1) := by decide +kernel
theorem dX9_schedule_111 : decode cX9_schedule 111 = .ok (.baload, 1) := by decide +kernel
theorem dX9_schedule_112 : decode cX9_schedule 112 = .ok (.ifCond .ne 12, 3) := by decide +kernel
theorem dX9_schedule_115 : decode cX9_schedule 115 = .ok (.aload_n 0, 1) := by decide +kernel
theorem dX9_schedule_116 : decode cX9_schedule 116 = .ok (.iload 4, 2) := by decide +kernel
theorem dX9_schedule_118 : decode cX9_schedule 118 = .ok (.invokevirtual 178, 3) := by decide +kernel
theorem dX9_schedule_121 : decode cX9_schedule 121 = .ok (.goto 4, 3) := by decide +kernel
theorem dX9_schedule_124 : decode cX9_schedule 124 = .ok (.iconst (-1), 1) := by decide +kernel
theorem dX9_schedule_125 : decode cX9_schedule 125 = .ok (.istore 5, 2) := by decide +kernel
theorem dX9_schedule_127 : decode cX9_schedule 127 = .ok (.aload_n 0, 1) := by decide +kernel
theorem dX9_schedule_128 : decode cX9_schedule 128 = .ok (.iconst 0, 1) := by decide +kernel
theorem dX9_schedule_129 : decode cX9_schedule 129 = .ok (.putfield 181, 3) := by decide +kernel
theorem dX9_schedule_132 : decode cX9_schedule 132 = .ok (.iconst 0, 1) := by decide +kernel
theorem dX9_schedule_133 : decode cX9_schedule 133 = .ok (.istore 6, 2) := by decide +kernel
theorem dX9_schedule_135 : decode cX9_schedule 135 = .ok (.iload 6, 2) := by decide +kernel
theorem dX9_schedule_137 : decode cX9_schedule 137 = .ok (.iload 4, 2) := by decide +kernel
theorem dX9_schedule_139 : decode cX9_schedule 139 = .ok (.if_icmp .ge 27, 3) := by decide +kernel
theorem dX9_schedule_142 : decode cX9_schedule 142 = .ok (.iload 6, 2) := by decide +kernel
theorem dX9_schedule_144 : decode cX9_schedule 144 = .ok (.iload 5, 2) := by decide +kernel
theorem dX9_schedule_146 : decode cX9_schedule 146 = .ok (.if_icmp .eq 14, 3) := by decide +kernel
theorem dX9_schedule_149 : decode cX9_schedule 149 = .ok (.aload_n 0, 1) := by decide +kernel
theorem dX9_schedule_150 : decode cX9_schedule 150 = .ok (.aload_n 0, 1) := by decide +kernel
theorem dX9_schedule_151 : decode cX9_schedule 151 = .ok (.getfield 45, 3) := by decide +kernel
theorem dX9_schedule_154 : decode cX9_schedule 154 = .ok (.iload 6, 2) := by decide +kernel
theorem dX9_schedule_156 : decode cX9_schedule 156 = .ok (.iaload, 1) := by decide +kernel
theorem dX9_schedule_157 : decode cX9_schedule 157 = .ok (.invokevirtual 184, 3) := by decide +kernel
theorem dX9_schedule_160 : decode cX9_schedule 160 = .ok (.iinc 6 1, 3) := by decide +kernel
theorem dX9_schedule_163 : decode cX9_schedule 163 = .ok (.goto (-28), 3) := by decide +kernel
theorem dX9_schedule_166 : decode cX9_schedule 166 = .ok (.iload_n 3, 1) := by decide +kernel
theorem dX9_schedule_167 : decode cX9_schedule 167 = .ok (.ifCond .eq 34, 3) := by decide +kernel
theorem dX9_schedule_170 : decode cX9_schedule 170 = .ok (.aload_n 0, 1) := by decide +kernel
theorem dX9_schedule_171 : decode cX9_schedule 171 = .ok (.aload_n 0, 1) := by decide +kernel
theorem dX9_schedule_172 : decode cX9_schedule 172 = .ok (.getfield 148, 3) := by decide +kernel
theorem dX9_schedule_175 : decode cX9_schedule 175 = .ok (.iconst 1, 1) := by decide +kernel
theorem dX9_schedule_176 : decode cX9_schedule 176 = .ok (.isub, 1) := by decide +kernel
theorem dX9_schedule_177 : decode cX9_schedule 177 = .ok (.invokevirtual 184, 3) := by decide +kernel
theorem dX9_schedule_180 : decode cX9_schedule 180 = .ok (.aload_n 0, 1) := by decide +kernel
theorem dX9_schedule_181 : decode cX9_schedule 181 = .ok (.iload 5, 2) := by decide +kernel
theorem dX9_schedule_183 : decode cX9_schedule 183 = .ok (.iconst (-1), 1) := by decide +kernel
theorem dX9_schedule_184 : decode cX9_schedule 184 = .ok (.if_icmp .ne 7, 3) := by decide +kernel
theorem dX9_schedule_187 : decode cX9_schedule 187 = .ok (.iconst (-1), 1) := by decide +kernel
theorem dX9_schedule_188 : decode cX9_schedule 188 = .ok (.goto 10, 3) := by decide +kernel
theorem dX9_schedule_191 : decode cX9_schedule 191 = .ok (.aload_n 0, 1) := by decide +kernel
theorem dX9_schedule_192 : decode cX9_schedule 192 = .ok (.getfield 45, 3) := by decide +kernel
theorem dX9_schedule_195 : decode cX9_schedule 195 = .ok (.iload 5, 2) := by decide +kernel
theorem dX9_schedule_197 : decode cX9_schedule 197 = .ok (.iaload, 1) := by decide +kernel
theorem dX9_schedule_198 : decode cX9_schedule 198 = .ok (.invokevirtual 184, 3) := by decide +kernel
theorem dX9_schedule_201 : decode cX9_schedule 201 = .ok (.aload_n 0, 1) := by decide +kernel
theorem dX9_schedule_202 : decode cX9_schedule 202 = .ok (.invokevirtual 187, 3) := by decide +kernel
theorem dX9_schedule_205 : decode cX9_schedule 205 = .ok (.aload_n 0, 1) := by decide +kernel
theorem dX9_schedule_206 : decode cX9_schedule 206 = .ok (.getfield 181, 3) := by decide +kernel
theorem dX9_schedule_209 : decode cX9_schedule 209 = .ok (.ireturn, 1) := by decide +kernel
theorem dX9_comes_0 : decode cX9_comes 0 = .ok (.aload_n 0, 1) := by decide +kernel
theorem dX9_comes_1 : decode cX9_comes 1 = .ok (.getfield 36, 3) := by decide +kernel
theorem dX9_comes_4 : decode cX9_comes 4 = .ok (.aload_n 0, 1) := by decide +kernel
theorem dX9_comes_5 : decode cX9_comes 5 = .ok (.getfield 181, 3) := by decide +kernel
theorem dX9_comes_8 : decode cX9_comes 8 = .ok (.iload_n 1, 1) := by decide +kernel
theorem dX9_comes_9 : decode cX9_comes 9 = .ok (.iconst (-1), 1) := by decide +kernel
theorem dX9_comes_10 : decode cX9_comes 10 = .ok (.if_icmp .ne 7, 3) := by decide +kernel
theorem dX9_comes_13 : decode cX9_comes 13 = .ok (.iconst 0, 1) := by decide +kernel
theorem dX9_comes_14 : decode cX9_comes 14 = .ok (.goto 9, 3) := by decide +kernel
theorem dX9_comes_17 : decode cX9_comes 17 = .ok (.aload_n 0, 1) := by decide +kernel
theorem dX9_comes_18 : decode cX9_comes 18 = .ok (.getfield 13, 3) := by decide +kernel
theorem dX9_comes_21 : decode cX9_comes 21 = .ok (.iload_n 1, 1) := by decide +kernel
theorem dX9_comes_22 : decode cX9_comes 22 = .ok (.iaload, 1) := by decide +kernel
theorem dX9_comes_23 : decode cX9_comes 23 = .ok (.iastore, 1) := by decide +kernel
theorem dX9_comes_24 : decode cX9_comes 24 = .ok (.aload_n 0, 1) := by decide +kernel
theorem dX9_comes_25 : decode cX9_comes 25 = .ok (.getfield 39, 3) := by decide +kernel
theorem dX9_comes_28 : decode cX9_comes 28 = .ok (.aload_n 0, 1) := by decide +kernel
theorem dX9_comes_29 : decode cX9_comes 29 = .ok (.getfield 181, 3) := by decide +kernel
theorem dX9_comes_32 : decode cX9_comes 32 = .ok (.iload_n 1, 1) := by decide +kernel
theorem dX9_comes_33 : decode cX9_comes 33 = .ok (.iastore, 1) := by decide +kernel
theorem dX9_comes_34 : decode cX9_comes 34 = .ok (.aload_n 0, 1) := by decide +kernel
theorem dX9_comes_35 : decode cX9_comes 35 = .ok (.dup, 1) := by decide +kernel
theorem dX9_comes_36 : decode cX9_comes 36 = .ok (.getfield 181, 3) := by decide +kernel
theorem dX9_comes_39 : decode cX9_comes 39 = .ok (.iconst 1, 1) := by decide +kernel
theorem dX9_comes_40 : decode cX9_comes 40 = .ok (.iadd, 1) := by decide +kernel
theorem dX9_comes_41 : decode cX9_comes 41 = .ok (.putfield 181, 3) := by decide +kernel
theorem dX9_comes_44 : decode cX9_comes 44 = .ok (.return_, 1) := by decide +kernel
set_option maxRecDepth 20000 in
theorem ggX9_findCycles_X9_after : GoodIn wsX9_findCycles wsX9_after := goodIn_r _ [9, 10, 11, 12, 13, 14, 15, 16, 17, 18, 8, 19, 20, 21, 22, 23, 24, 25, 26, 27, 28, 29, 30, 31, 32, 33, 34, 35, 36, 37, 38, 39, 40, 41, 42, 43, 44, 45, 46, 47, 48, 49, 50, 51, 52, 53, 54, 55, 56, 57, 58, 59, 60, 61] (by decide +kernel) (by decide +kernel)
set_option maxRecDepth 20000 in
theorem gX9_findCycles_X9_after : GoodIn wsX9_findCycles (wsV RX9 165 RX9 yX9_after wsX9_after) := goodIn_app (goodIn_of _ (by decide +kernel)) ggX9_findCycles_X9_after
theorem dX9_findCycles_0 : decode cX9_findCycles 0 = .ok (.aload_n 0, 1) := by decide +kernel
theorem dX9_findCycles_1 : decode cX9_findCycles 1 = .ok (.iconst 0, 1) := by decide +kernel
theorem dX9_findCycles_2 : decode cX9_findCycles 2 = .ok (.putfield 190, 3) := by decide +kernel
theorem dX9_findCycles_5 : decode cX9_findCycles 5 = .ok (.iconst 0, 1) := by decide +kernel
theorem dX9_findCycles_6 : decode cX9_findCycles 6 = .ok (.istore_n 1, 1) := by decide +kernel
theorem dX9_findCycles_7 : decode cX9_findCycles 7 = .ok (.iload_n 1, 1) := by decide +kernel
theorem dX9_findCycles_8 : decode cX9_findCycles 8 = .ok (.aload_n 0, 1) := by decide +kernel
theorem dX9_findCycles_9 : decode cX9_findCycles 9 = .ok (.getfield 181, 3) := by decide +kernel
theorem dX9_findCycles_12 : decode cX9_findCycles 12 = .ok (.if_icmp .ge 133, 3) := by decide +kernel
theorem dX9_findCycles_15 : decode cX9_findCycles 15 = .ok (.iload_n 1, 1) := by decide +kernel
theorem dX9_findCycles_16 : decode cX9_findCycles 16 = .ok (.ifCond .ne 7, 3) := by decide +kernel
theorem dX9_findCycles_19 : decode cX9_findCycles 19 = .ok (.iconst 0, 1) := by decide +kernel
theorem dX9_findCycles_20 : decode cX9_findCycles 20 = .ok (.goto 13, 3) := by decide +kernel
theorem dX9_findCycles_23 : decode cX9_findCycles 23 = .ok (.aload_n 0, 1) := by decide +kernel
theorem dX9_findCycles_24 : decode cX9_findCycles 24 = .ok (.getfield 51, 3) := by decide +kernel
theorem dX9_findCycles_27 : decode cX9_findCycles 27 = .ok (.iload_n 1, 1) := by decide +kernel
theorem dX9_findCycles_28 : decode cX9_findCycles 28 = .ok (.iconst 1, 1) := by decide +kernel
theorem dX9_findCycles_29 : decode cX9_findCycles 29 = .ok (.isub, 1) := by decide +kernel
theorem dX9_findCycles_30 : decode cX9_findCycles 30 = .ok (.iaload, 1) := by decide +kernel
theorem dX9_findCycles_31 : decode cX9_findCycles 31 = .ok (.iconst 1, 1) := by decide +kernel
theorem dX9_findCycles_32 : decode cX9_findCycles 32 = .ok (.iadd, 1) := by decide +kernel
theorem dX9_findCycles_33 : decode cX9_findCycles 33 = .ok (.istore_n 2, 1) := by decide +kernel
theorem dX9_findCycles_34 : decode cX9_findCycles 34 = .ok (.iconst 0, 1) := by decide +kernel
theorem dX9_findCycles_35 : decode cX9_findCycles 35 = .ok (.istore_n 3, 1) := by decide +kernel
theorem dX9_findCycles_36 : decode cX9_findCycles 36 = .ok (.iload_n 3, 1) := by decide +kernel
theorem dX9_findCycles_37 : decode cX9_findCycles 37 = .ok (.iload_n 1, 1) := by decide +kernel
theorem dX9_findCycles_38 : decode cX9_findCycles 38 = .ok (.if_icmp .ge 87, 3) := by decide +kernel
theorem dX9_findCycles_41 : decode cX9_findCycles 41 = .ok (.aload_n 0, 1) := by decide +kernel
theorem dX9_findCycles_42 : decode cX9_findCycles 42 = .ok (.getfield 39, 3) := by decide +kernel
theorem dX9_findCycles_45 : decode cX9_findCycles 45 = .ok (.iload_n 3, 1) := by decide +kernel
theorem dX9_findCycles_46 : decode cX9_findCycles 46 = .ok (.iaload, 1) := by decide +kernel
theorem dX9_findCycles_47 : decode cX9_findCycles 47 = .ok (.istore 4, 2) := by decide +kernel
theorem dX9_findCycles_49 : decode cX9_findCycles 49 = .ok (.aload_n 0, 1) := by decide +kernel
theorem dX9_findCycles_50 : decode cX9_findCycles 50 = .ok (.getfield 39, 3) := by decide +kernel
theorem dX9_findCycles_53 : decode cX9_findCycles 53 = .ok (.iload_n 1, 1) := by decide +kernel
theorem dX9_findCycles_54 : decode cX9_findCycles 54 = .ok (.iaload, 1) := by decide +kernel
theorem dX9_findCycles_55 : decode cX9_findCycles 55 = .ok (.istore 5, 2) := by decide +kernel
theorem dX9_findCycles_57 : decode cX9_findCycles 57 = .ok (.iload 4, 2) := by decide +kernel
theorem dX9_findCycles_59 : decode cX9_findCycles 59 = .ok (.iconst (-1), 1) := by decide +kernel
theorem dX9_findCycles_60 : decode cX9_findCycles 60 = .ok (.if_icmp .eq 16, 3) := by decide +kernel
theorem dX9_findCycles_63 : decode cX9_findCycles 63 = .ok (.iload 5, 2) := by decide +kernel
theorem dX9_findCycles_65 : decode cX9_findCycles 65 = .ok (.iconst (-1), 1) := by decide +kernel
theorem dX9_findCycles_66 : decode cX9_findCycles 66 = .ok (.if_icmp .eq 10, 3) := by decide +kernel
theorem dX9_findCycles_69 : decode cX9_findCycles 69 = .ok (.iload 4, 2) := by decide +kernel
theorem dX9_findCycles_71 : decode cX9_findCycles 71 = .ok (.iload 5, 2) := by decide +kernel
theorem dX9_findCycles_73 : decode cX9_findCycles 73 = .ok (.if_icmp .le 7, 3) := by decide +kernel
theorem dX9_findCycles_76 : decode cX9_findCycles 76 = .ok (.iconst (-1), 1) := by decide +kernel
theorem dX9_findCycles_77 : decode cX9_findCycles 77 = .ok (.goto 11, 3) := by decide +kernel
theorem dX9_findCycles_80 : decode cX9_findCycles 80 = .ok (.aload_n 0, 1) := by decide +kernel
theorem dX9_findCycles_81 : decode cX9_findCycles 81 = .ok (.iload 5, 2) := by decide +kernel
theorem dX9_findCycles_83 : decode cX9_findCycles 83 = .ok (.iload 4, 2) := by decide +kernel
theorem dX9_findCycles_85 : decode cX9_findCycles 85 = .ok (.invokevirtual 165, 3) := by decide +kernel
theorem dX9_findCycles_88 : decode cX9_findCycles 88 = .ok (.istore 6, 2) := by decide +kernel
theorem dX9_findCycles_90 : decode cX9_findCycles 90 = .ok (.iload 6, 2) := by decide +kernel
theorem dX9_findCycles_92 : decode cX9_findCycles 92 = .ok (.iconst (-1), 1) := by decide +kernel
theorem dX9_findCycles_93 : decode cX9_findCycles 93 = .ok (.if_icmp .eq 26, 3) := by decide +kernel
theorem dX9_findCycles_96 : decode cX9_findCycles 96 = .ok (.aload_n 0, 1) := by decide +kernel
theorem dX9_findCycles_97 : decode cX9_findCycles 97 = .ok (.getfield 51, 3) := by decide +kernel
theorem dX9_findCycles_100 : decode cX9_findCycles 100 = .ok (.iload_n 3, 1) := by decide +kernel
theorem dX9_findCycles_101 : decode cX9_findCycles 101 = .ok (.iaload, 1) := by decide +kernel
theorem dX9_findCycles_102 : decode cX9_findCycles 102 = .ok (.iload 6, 2) := by decide +kernel
theorem dX9_findCycles_104 : decode cX9_findCycles 104 = .ok (.iadd, 1) := by decide +kernel
theorem dX9_findCycles_105 : decode cX9_findCycles 105 = .ok (.iload_n 2, 1) := by decide +kernel
theorem dX9_findCycles_106 : decode cX9_findCycles 106 = .ok (.if_icmp .le 13, 3) := by decide +kernel
theorem dX9_findCycles_109 : decode cX9_findCycles 109 = .ok (.aload_n 0, 1) := by decide +kernel
theorem dX9_findCycles_110 : decode cX9_findCycles 110 = .ok (.getfield 51, 3) := by decide +kernel
theorem dX9_findCycles_113 : decode cX9_findCycles 113 = .ok (.iload_n 3, 1) := by decide +kernel
theorem dX9_findCycles_114 : decode cX9_findCycles 114 = .ok (.iaload, 1) := by decide +kernel
theorem dX9_findCycles_115 : decode cX9_findCycles 115 = .ok (.iload 6, 2) := by decide +kernel
theorem dX9_findCycles_117 : decode cX9_findCycles 117 = .ok (.iadd, 1) := by decide +kernel
theorem dX9_findCycles_118 : decode cX9_findCycles 118 = .ok (.istore_n 2, 1) := by decide +kernel
theorem dX9_findCycles_119 : decode cX9_findCycles 119 = .ok (.iinc 3 1, 3) := by decide +kernel
theorem dX9_findCycles_122 : decode cX9_findCycles 122 = .ok (.goto (-86), 3) := by decide +kernel
theorem dX9_findCycles_125 : decode cX9_findCycles 125 = .ok (.aload_n 0, 1) := by decide +kernel
theorem dX9_findCycles_126 : decode cX9_findCycles 126 = .ok (.getfield 51, 3) := by decide +kernel
theorem dX9_findCycles_129 : decode cX9_findCycles 129 = .ok (.iload_n 1, 1) := by decide +kernel
theorem dX9_findCycles_130 : decode cX9_findCycles 130 = .ok (.iload_n 2, 1) := by decide +kernel
theorem dX9_findCycles_131 : decode cX9_findCycles 131 = .ok (.iastore, 1) := by decide +kernel
theorem dX9_findCycles_132 : decode cX9_findCycles 132 = .ok (.aload_n 0, 1) := by decide +kernel
theorem dX9_findCycles_133 : decode cX9_findCycles 133 = .ok (.iload_n 2, 1) := by decide +kernel
theorem dX9_findCycles_134 : decode cX9_findCycles 134 = .ok (.iconst 1, 1) := by decide +kernel
theorem dX9_findCycles_135 : decode cX9_findCycles 135 = .ok (.iadd, 1) := by decide +kernel
theorem dX9_findCycles_136 : decode cX9_findCycles 136 = .ok (.putfield 190, 3) := by decide +kernel
theorem dX9_findCycles_139 : decode cX9_findCycles 139 = .ok (.iinc 1 1, 3) := by decide +kernel
theorem dX9_findCycles_142 : decode cX9_findCycles 142 = .ok (.goto (-135), 3) := by decide +kernel
theorem dX9_findCycles_145 : decode cX9_findCycles 145 = .ok (.return_, 1) := by decide +kernel
set_option maxRecDepth 20000 in
theorem ggX9_word_X9_fail : GoodIn wsX9_word wsX9_fail := goodIn_r _ [8, 1, 9, 10, 11, 12, 13, 14, 15, 16, 17, 18, 19, 20, 21, 22, 23, 24, 25, 26, 27, 28, 29, 30, 31, 32, 33, 34] (by decide +kernel) (by decide +kernel)
set_option maxRecDepth 20000 in
theorem gX9_word_X9_fail : GoodIn wsX9_word (wsV RX9 139 RX9 yX9_fail wsX9_fail) := goodIn_app (goodIn_of _ (by decide +kernel)) ggX9_word_X9_fail
theorem dX9_word_0 : decode cX9_word 0 = .ok (.aload_n 0, 1) := by decide +kernel
theorem dX9_word_1 : decode cX9_word 1 = .ok (.iconst 0, 1) := by decide +kernel
theorem dX9_word_2 : decode cX9_word 2 = .ok (.putfield 54, 3) := by decide +kernel
theorem dX9_word_5 : decode cX9_word 5 = .ok (.iload_n 1, 1) := by decide +kernel
theorem dX9_word_6 : decode cX9_word 6 = .ok (.ifCond .lt 11, 3) := by decide +kernel
theorem dX9_word_9 : decode cX9_word 9 = .ok (.iload_n 1, 1) := by decide +kernel
theorem dX9_word_10 : decode cX9_word 10 = .ok (.aload_n 0, 1) := by decide +kernel
theorem dX9_word_11 : decode cX9_word 11 = .ok (.getfield 181, 3) := by decide +kernel
theorem dX9_word_14 : decode cX9_word 14 = .ok (.if_icmp .lt 11, 3) := by decide +kernel
theorem dX9_word_17 : decode cX9_word 17 = .ok (.aload_n 0, 1) := by decide +kernel
theorem dX9_word_18 : decode cX9_word 18 = .ok (.iconst 1, 1) := by decide +kernel
theorem dX9_word_19 : decode cX9_word 19 = .ok (.invokevirtual 139, 3) := by decide +kernel
theorem dX9_word_22 : decode cX9_word 22 = .ok (.goto 9, 3) := by decide +kernel
theorem dX9_word_25 : decode cX9_word 25 = .ok (.aload_n 0, 1) := by decide +kernel
theorem dX9_word_26 : decode cX9_word 26 = .ok (.getfield 36, 3) := by decide +kernel
theorem dX9_word_29 : decode cX9_word 29 = .ok (.iload_n 1, 1) := by decide +kernel
theorem dX9_word_30 : decode cX9_word 30 = .ok (.iaload, 1) := by decide +kernel
theorem dX9_word_31 : decode cX9_word 31 = .ok (.ireturn, 1) := by decide +kernel
set_option maxRecDepth 20000 in
theorem ggX9_from_X9_fail : GoodIn wsX9_from wsX9_fail := goodIn_r _ [8, 1, 9, 10, 11, 12, 13, 14, 15, 16, 17, 18, 19, 20, 21, 22, 23, 24, 25, 26, 27, 28, 29, 30, 31, 32, 33, 34] (by decide +kernel) (by decide +kernel)
set_option maxRecDepth 20000 in
theorem gX9_from_X9_fail : GoodIn wsX9_from (wsV RX9 139 RX9 yX9_fail wsX9_fail) := goodIn_app (goodIn_of _ (by decide +kernel)) ggX9_from_X9_fail
theorem dX9_from_0 : decode cX9_from 0 = .ok (.aload_n 0, 1) := by decide +kernel
theorem dX9_from_1 : decode cX9_from 1 = .ok (.iconst 0, 1) := by decide +kernel
theorem dX9_from_2 : decode cX9_from 2 = .ok (.putfield 54, 3) := by decide +kernel
theorem dX9_from_5 : decode cX9_from 5 = .ok (.iload_n 1, 1) := by decide +kernel
theorem dX9_from_6 : decode cX9_from 6 = .ok (.ifCond .lt 11, 3) := by decide +kernel
theorem dX9_from_9 : decode cX9_from 9 = .ok (.iload_n 1, 1) := by decide +kernel
theorem dX9_from_10 : decode cX9_from 10 = .ok (.aload_n 0, 1) := by decide +kernel
theorem dX9_from_11 : decode cX9_from 11 = .ok (.getfield 181, 3) := by decide +kernel
theorem dX9_from_14 : decode cX9_from 14 = .ok (.if_icmp .lt 11, 3) := by decide +kernel
theorem dX9_from_17 : decode cX9_from 17 = .ok (.aload_n 0, 1) := by decide +kernel
theorem dX9_from_18 : decode cX9_from 18 = .ok (.iconst 1, 1) := by decide +kernel
theorem dX9_from_19 : decode cX9_from 19 = .ok (.invokevirtual 139, 3) := by decide +kernel
theorem dX9_from_22 : decode cX9_from 22 = .ok (.goto 9, 3) := by decide +kernel
theorem dX9_from_25 : decode cX9_from 25 = .ok (.aload_n 0, 1) := by decide +kernel
theorem dX9_from_26 : decode cX9_from 26 = .ok (.getfield 39, 3) := by decide +kernel
theorem dX9_from_29 : decode cX9_from 29 = .ok (.iload_n 1, 1) := by decide +kernel
theorem dX9_from_30 : decode cX9_from 30 = .ok (.iaload, 1) := by decide +kernel
theorem dX9_from_31 : decode cX9_from 31 = .ok (.ireturn, 1) := by decide +kernel
set_option maxRecDepth 20000 in
theorem ggX9_depends_X9_fail : GoodIn wsX9_depends wsX9_fail := goodIn_r _ [7, 1, 38, 39, 40, 41, 42, 43, 44, 45, 46, 47, 48, 49, 50, 51, 52, 53, 54, 55, 56, 57, 58, 59, 60, 61, 62, 63] (by decide +kernel) (by decide +kernel)
set_option maxRecDepth 20000 in
theorem gX9_depends_X9_fail : GoodIn wsX9_depends (wsV RX9 139 RX9 yX9_fail wsX9_fail) := goodIn_app (goodIn_of _ (by decide +kernel)) ggX9_depends_X9_fail
set_option maxRecDepth 20000 in
theorem ggX9_depends_X9_after : GoodIn wsX9_depends wsX9_after := goodIn_r _ [11, 12, 13, 14, 15, 16, 17, 18, 19, 20, 6, 21, 22, 23, 24, 25, 26, 27, 28, 29, 30, 31, 32, 33, 34, 35, 36, 37, 38, 39, 40, 41, 42, 43, 44, 45, 46, 47, 48, 49, 50, 51, 52, 53, 54, 55, 56, 57, 58, 59, 60, 61, 62, 63] (by decide +kernel) (by decide +kernel)
set_option maxRecDepth 20000 in
theorem gX9_depends_X9_after : GoodIn wsX9_depends (wsV RX9 165 RX9 yX9_after wsX9_after) := goodIn_app (goodIn_of _ (by decide +kernel)) ggX9_depends_X9_after
theorem dX9_depends_0 : decode cX9_depends 0 = .ok (.aload_n 0, 1) := by decide +kernel
theorem dX9_depends_1 : decode cX9_depends 1 = .ok (.iconst 0, 1) := by decide +kernel
theorem dX9_depends_2 : decode cX9_depends 2 = .ok (.putfield 54, 3) := by decide +kernel
theorem dX9_depends_5 : decode cX9_depends 5 = .ok (.iload_n 1, 1) := by decide +kernel
theorem dX9_depends_6 : decode cX9_depends 6 = .ok (.ifCond .lt 23, 3) := by decide +kernel
theorem dX9_depends_9 : decode cX9_depends 9 = .ok (.iload_n 1, 1) := by decide +kernel

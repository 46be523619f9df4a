theorem dX9_add_137 : decode cX9_add 137 = .ok (.getfield 87, 3) := by decide +kernel
theorem dX9_add_140 : decode cX9_add 140 = .ok (.bastore, 1) := by decide +kernel
theorem dX9_add_141 : decode cX9_add 141 = .ok (.aload_n 0, 1) := by decide +kernel
theorem dX9_add_142 : decode cX9_add 142 = .ok (.iload_n 2, 1) := by decide +kernel
theorem dX9_add_143 : decode cX9_add 143 = .ok (.iconst 1, 1) := by decide +kernel
theorem dX9_add_144 : decode cX9_add 144 = .ok (.iadd, 1) := by decide +kernel
theorem dX9_add_145 : decode cX9_add 145 = .ok (.putfield 148, 3) := by decide +kernel
theorem dX9_add_148 : decode cX9_add 148 = .ok (.aload_n 0, 1) := by decide +kernel
theorem dX9_add_149 : decode cX9_add 149 = .ok (.getfield 69, 3) := by decide +kernel
theorem dX9_add_152 : decode cX9_add 152 = .ok (.ireturn, 1) := by decide +kernel
set_option maxRecDepth 20000 in
theorem ggX9_firstByte_X9_isPart : GoodIn wsX9_firstByte wsX9_isPart := goodIn_r _ [6, 1, 7, 8, 9, 10, 11, 12, 13, 14, 15, 16, 17, 18, 19, 20, 21, 22, 23, 24, 25, 26, 27, 28, 29, 30, 31, 32] (by decide +kernel) (by decide +kernel)
set_option maxRecDepth 20000 in
theorem gX9_firstByte_X9_isPart : GoodIn wsX9_firstByte (wsV RX9 151 RX9 yX9_isPart wsX9_isPart) := goodIn_app (goodIn_of _ (by decide +kernel)) ggX9_firstByte_X9_isPart
theorem dX9_firstByte_0 : decode cX9_firstByte 0 = .ok (.aload_n 0, 1) := by decide +kernel
theorem dX9_firstByte_1 : decode cX9_firstByte 1 = .ok (.getfield 13, 3) := by decide +kernel
theorem dX9_firstByte_4 : decode cX9_firstByte 4 = .ok (.iload_n 1, 1) := by decide +kernel
theorem dX9_firstByte_5 : decode cX9_firstByte 5 = .ok (.iaload, 1) := by decide +kernel
theorem dX9_firstByte_6 : decode cX9_firstByte 6 = .ok (.bipush 16, 2) := by decide +kernel
theorem dX9_firstByte_8 : decode cX9_firstByte 8 = .ok (.ishl, 1) := by decide +kernel
theorem dX9_firstByte_9 : decode cX9_firstByte 9 = .ok (.bipush 16, 2) := by decide +kernel
theorem dX9_firstByte_11 : decode cX9_firstByte 11 = .ok (.ishr, 1) := by decide +kernel
theorem dX9_firstByte_12 : decode cX9_firstByte 12 = .ok (.istore_n 2, 1) := by decide +kernel
theorem dX9_firstByte_13 : decode cX9_firstByte 13 = .ok (.aload_n 0, 1) := by decide +kernel
theorem dX9_firstByte_14 : decode cX9_firstByte 14 = .ok (.iload_n 1, 1) := by decide +kernel
theorem dX9_firstByte_15 : decode cX9_firstByte 15 = .ok (.invokevirtual 151, 3) := by decide +kernel
theorem dX9_firstByte_18 : decode cX9_firstByte 18 = .ok (.ifCond .eq 10, 3) := by decide +kernel
theorem dX9_firstByte_21 : decode cX9_firstByte 21 = .ok (.iload_n 2, 1) := by decide +kernel
theorem dX9_firstByte_22 : decode cX9_firstByte 22 = .ok (.bipush (-4), 2) := by decide +kernel
theorem dX9_firstByte_24 : decode cX9_firstByte 24 = .ok (.iand, 1) := by decide +kernel
theorem dX9_firstByte_25 : decode cX9_firstByte 25 = .ok (.goto 4, 3) := by decide +kernel
theorem dX9_firstByte_28 : decode cX9_firstByte 28 = .ok (.iload_n 2, 1) := by decide +kernel
theorem dX9_firstByte_29 : decode cX9_firstByte 29 = .ok (.ireturn, 1) := by decide +kernel
theorem dX9_isPart_0 : decode cX9_isPart 0 = .ok (.aload_n 0, 1) := by decide +kernel
theorem dX9_isPart_1 : decode cX9_isPart 1 = .ok (.getfield 13, 3) := by decide +kernel
theorem dX9_isPart_4 : decode cX9_isPart 4 = .ok (.iload_n 1, 1) := by decide +kernel
theorem dX9_isPart_5 : decode cX9_isPart 5 = .ok (.iaload, 1) := by decide +kernel
theorem dX9_isPart_6 : decode cX9_isPart 6 = .ok (.bipush 26, 2) := by decide +kernel
theorem dX9_isPart_8 : decode cX9_isPart 8 = .ok (.iushr, 1) := by decide +kernel
theorem dX9_isPart_9 : decode cX9_isPart 9 = .ok (.istore_n 2, 1) := by decide +kernel
theorem dX9_isPart_10 : decode cX9_isPart 10 = .ok (.iload_n 2, 1) := by decide +kernel
theorem dX9_isPart_11 : decode cX9_isPart 11 = .ok (.bipush 34, 2) := by decide +kernel
theorem dX9_isPart_13 : decode cX9_isPart 13 = .ok (.if_icmp .eq 21, 3) := by decide +kernel
theorem dX9_isPart_16 : decode cX9_isPart 16 = .ok (.iload_n 2, 1) := by decide +kernel
theorem dX9_isPart_17 : decode cX9_isPart 17 = .ok (.bipush 38, 2) := by decide +kernel
theorem dX9_isPart_19 : decode cX9_isPart 19 = .ok (.if_icmp .eq 15, 3) := by decide +kernel
theorem dX9_isPart_22 : decode cX9_isPart 22 = .ok (.iload_n 2, 1) := by decide +kernel
theorem dX9_isPart_23 : decode cX9_isPart 23 = .ok (.bipush 42, 2) := by decide +kernel
theorem dX9_isPart_25 : decode cX9_isPart 25 = .ok (.if_icmp .eq 9, 3) := by decide +kernel
theorem dX9_isPart_28 : decode cX9_isPart 28 = .ok (.iload_n 2, 1) := by decide +kernel
theorem dX9_isPart_29 : decode cX9_isPart 29 = .ok (.bipush 46, 2) := by decide +kernel
theorem dX9_isPart_31 : decode cX9_isPart 31 = .ok (.if_icmp .ne 7, 3) := by decide +kernel
theorem dX9_isPart_34 : decode cX9_isPart 34 = .ok (.iconst 1, 1) := by decide +kernel
theorem dX9_isPart_35 : decode cX9_isPart 35 = .ok (.goto 4, 3) := by decide +kernel
theorem dX9_isPart_38 : decode cX9_isPart 38 = .ok (.iconst 0, 1) := by decide +kernel
theorem dX9_isPart_39 : decode cX9_isPart 39 = .ok (.ireturn, 1) := by decide +kernel
theorem dX9_bytes_0 : decode cX9_bytes 0 = .ok (.aload_n 0, 1) := by decide +kernel
theorem dX9_bytes_1 : decode cX9_bytes 1 = .ok (.getfield 13, 3) := by decide +kernel
theorem dX9_bytes_4 : decode cX9_bytes 4 = .ok (.iload_n 1, 1) := by decide +kernel
theorem dX9_bytes_5 : decode cX9_bytes 5 = .ok (.iaload, 1) := by decide +kernel
theorem dX9_bytes_6 : decode cX9_bytes 6 = .ok (.bipush 26, 2) := by decide +kernel
theorem dX9_bytes_8 : decode cX9_bytes 8 = .ok (.iushr, 1) := by decide +kernel
theorem dX9_bytes_9 : decode cX9_bytes 9 = .ok (.istore_n 2, 1) := by decide +kernel
theorem dX9_bytes_10 : decode cX9_bytes 10 = .ok (.iload_n 2, 1) := by decide +kernel
theorem dX9_bytes_11 : decode cX9_bytes 11 = .ok (.bipush 32, 2) := by decide +kernel
theorem dX9_bytes_13 : decode cX9_bytes 13 = .ok (.if_icmp .eq 15, 3) := by decide +kernel
theorem dX9_bytes_16 : decode cX9_bytes 16 = .ok (.iload_n 2, 1) := by decide +kernel
theorem dX9_bytes_17 : decode cX9_bytes 17 = .ok (.bipush 36, 2) := by decide +kernel
theorem dX9_bytes_19 : decode cX9_bytes 19 = .ok (.if_icmp .eq 9, 3) := by decide +kernel
theorem dX9_bytes_22 : decode cX9_bytes 22 = .ok (.iload_n 2, 1) := by decide +kernel
theorem dX9_bytes_23 : decode cX9_bytes 23 = .ok (.bipush 40, 2) := by decide +kernel
theorem dX9_bytes_25 : decode cX9_bytes 25 = .ok (.if_icmp .ne 7, 3) := by decide +kernel
theorem dX9_bytes_28 : decode cX9_bytes 28 = .ok (.iconst 1, 1) := by decide +kernel
theorem dX9_bytes_29 : decode cX9_bytes 29 = .ok (.goto 43, 3) := by decide +kernel
theorem dX9_bytes_32 : decode cX9_bytes 32 = .ok (.iload_n 2, 1) := by decide +kernel
theorem dX9_bytes_33 : decode cX9_bytes 33 = .ok (.bipush 33, 2) := by decide +kernel
theorem dX9_bytes_35 : decode cX9_bytes 35 = .ok (.if_icmp .eq 15, 3) := by decide +kernel
theorem dX9_bytes_38 : decode cX9_bytes 38 = .ok (.iload_n 2, 1) := by decide +kernel
theorem dX9_bytes_39 : decode cX9_bytes 39 = .ok (.bipush 37, 2) := by decide +kernel
theorem dX9_bytes_41 : decode cX9_bytes 41 = .ok (.if_icmp .eq 9, 3) := by decide +kernel
theorem dX9_bytes_44 : decode cX9_bytes 44 = .ok (.iload_n 2, 1) := by decide +kernel
theorem dX9_bytes_45 : decode cX9_bytes 45 = .ok (.bipush 41, 2) := by decide +kernel
theorem dX9_bytes_47 : decode cX9_bytes 47 = .ok (.if_icmp .ne 7, 3) := by decide +kernel
theorem dX9_bytes_50 : decode cX9_bytes 50 = .ok (.iconst 2, 1) := by decide +kernel
theorem dX9_bytes_51 : decode cX9_bytes 51 = .ok (.goto 21, 3) := by decide +kernel
theorem dX9_bytes_54 : decode cX9_bytes 54 = .ok (.iload_n 2, 1) := by decide +kernel
theorem dX9_bytes_55 : decode cX9_bytes 55 = .ok (.bipush 53, 2) := by decide +kernel
theorem dX9_bytes_57 : decode cX9_bytes 57 = .ok (.if_icmp .eq 9, 3) := by decide +kernel
theorem dX9_bytes_60 : decode cX9_bytes 60 = .ok (.iload_n 2, 1) := by decide +kernel
theorem dX9_bytes_61 : decode cX9_bytes 61 = .ok (.bipush 61, 2) := by decide +kernel
theorem dX9_bytes_63 : decode cX9_bytes 63 = .ok (.if_icmp .ne 8, 3) := by decide +kernel
theorem dX9_bytes_66 : decode cX9_bytes 66 = .ok (.bipush 8, 2) := by decide +kernel
theorem dX9_bytes_68 : decode cX9_bytes 68 = .ok (.goto 4, 3) := by decide +kernel
theorem dX9_bytes_71 : decode cX9_bytes 71 = .ok (.iconst 4, 1) := by decide +kernel
theorem dX9_bytes_72 : decode cX9_bytes 72 = .ok (.ireturn, 1) := by decide +kernel
set_option maxRecDepth 20000 in
theorem ggX9_apart_X9_register : GoodIn wsX9_apart wsX9_register := goodIn_r _ [6] (by decide +kernel) (by decide +kernel)
set_option maxRecDepth 20000 in
theorem gX9_apart_X9_register : GoodIn wsX9_apart (va_wsS RX9 65 yX9_register wsX9_register) := goodIn_app (goodIn_of _ (by decide +kernel)) ggX9_apart_X9_register
set_option maxRecDepth 20000 in
theorem ggX9_apart_X9_firstByte : GoodIn wsX9_apart wsX9_firstByte := goodIn_r _ [10, 1, 11, 12, 13, 5, 14, 19, 20, 21, 22, 23, 24, 25, 26, 27, 28, 29, 30, 31, 32, 33, 34, 35, 36, 37, 38, 39, 40, 41, 42, 43, 44] (by decide +kernel) (by decide +kernel)
set_option maxRecDepth 20000 in
theorem gX9_apart_X9_firstByte : GoodIn wsX9_apart (wsV RX9 155 RX9 yX9_firstByte wsX9_firstByte) := goodIn_app (goodIn_of _ (by decide +kernel)) ggX9_apart_X9_firstByte
set_option maxRecDepth 20000 in
theorem ggX9_apart_X9_bytes : GoodIn wsX9_apart wsX9_bytes := goodIn_r _ [18, 1, 19, 20, 21, 22, 23, 24, 25, 26, 27, 28, 29, 30, 31, 32, 33, 34, 35, 36, 37, 38, 39, 40, 41, 42, 43, 44] (by decide +kernel) (by decide +kernel)
set_option maxRecDepth 20000 in
theorem gX9_apart_X9_bytes : GoodIn wsX9_apart (wsV RX9 158 RX9 yX9_bytes wsX9_bytes) := goodIn_app (goodIn_of _ (by decide +kernel)) ggX9_apart_X9_bytes
theorem dX9_apart_0 : decode cX9_apart 0 = .ok (.aload_n 0, 1) := by decide +kernel
theorem dX9_apart_1 : decode cX9_apart 1 = .ok (.getfield 13, 3) := by decide +kernel
theorem dX9_apart_4 : decode cX9_apart 4 = .ok (.iload_n 1, 1) := by decide +kernel
theorem dX9_apart_5 : decode cX9_apart 5 = .ok (.iaload, 1) := by decide +kernel
theorem dX9_apart_6 : decode cX9_apart 6 = .ok (.bipush 21, 2) := by decide +kernel
theorem dX9_apart_8 : decode cX9_apart 8 = .ok (.iushr, 1) := by decide +kernel
theorem dX9_apart_9 : decode cX9_apart 9 = .ok (.bipush 31, 2) := by decide +kernel
theorem dX9_apart_11 : decode cX9_apart 11 = .ok (.iand, 1) := by decide +kernel
theorem dX9_apart_12 : decode cX9_apart 12 = .ok (.istore_n 3, 1) := by decide +kernel
theorem dX9_apart_13 : decode cX9_apart 13 = .ok (.iload_n 3, 1) := by decide +kernel
theorem dX9_apart_14 : decode cX9_apart 14 = .ok (.aload_n 0, 1) := by decide +kernel
theorem dX9_apart_15 : decode cX9_apart 15 = .ok (.getfield 13, 3) := by decide +kernel
theorem dX9_apart_18 : decode cX9_apart 18 = .ok (.iload_n 2, 1) := by decide +kernel
theorem dX9_apart_19 : decode cX9_apart 19 = .ok (.iaload, 1) := by decide +kernel
theorem dX9_apart_20 : decode cX9_apart 20 = .ok (.bipush 21, 2) := by decide +kernel
theorem dX9_apart_22 : decode cX9_apart 22 = .ok (.iushr, 1) := by decide +kernel
theorem dX9_apart_23 : decode cX9_apart 23 = .ok (.bipush 31, 2) := by decide +kernel
theorem dX9_apart_25 : decode cX9_apart 25 = .ok (.iand, 1) := by decide +kernel
theorem dX9_apart_26 : decode cX9_apart 26 = .ok (.if_icmp .eq 5, 3) := by decide +kernel
theorem dX9_apart_29 : decode cX9_apart 29 = .ok (.iconst 0, 1) := by decide +kernel
theorem dX9_apart_30 : decode cX9_apart 30 = .ok (.ireturn, 1) := by decide +kernel
theorem dX9_apart_31 : decode cX9_apart 31 = .ok (.iload_n 1, 1) := by decide +kernel
theorem dX9_apart_32 : decode cX9_apart 32 = .ok (.istore 4, 2) := by decide +kernel
theorem dX9_apart_34 : decode cX9_apart 34 = .ok (.iload 4, 2) := by decide +kernel
theorem dX9_apart_36 : decode cX9_apart 36 = .ok (.iload_n 2, 1) := by decide +kernel
theorem dX9_apart_37 : decode cX9_apart 37 = .ok (.if_icmp .ge 28, 3) := by decide +kernel
theorem dX9_apart_40 : decode cX9_apart 40 = .ok (.aload_n 0, 1) := by decide +kernel
theorem dX9_apart_41 : decode cX9_apart 41 = .ok (.getfield 29, 3) := by decide +kernel
theorem dX9_apart_44 : decode cX9_apart 44 = .ok (.iload 4, 2) := by decide +kernel
theorem dX9_apart_46 : decode cX9_apart 46 = .ok (.laload, 1) := by decide +kernel
theorem dX9_apart_47 : decode cX9_apart 47 = .ok (.iload_n 3, 1) := by decide +kernel
theorem dX9_apart_48 : decode cX9_apart 48 = .ok (.invokestatic 65, 3) := by decide +kernel
theorem dX9_apart_51 : decode cX9_apart 51 = .ok (.land, 1) := by decide +kernel
theorem dX9_apart_52 : decode cX9_apart 52 = .ok (.lconst 0, 1) := by decide +kernel
theorem dX9_apart_53 : decode cX9_apart 53 = .ok (.lcmp, 1) := by decide +kernel
theorem dX9_apart_54 : decode cX9_apart 54 = .ok (.ifCond .eq 5, 3) := by decide +kernel
theorem dX9_apart_57 : decode cX9_apart 57 = .ok (.iconst 0, 1) := by decide +kernel
theorem dX9_apart_58 : decode cX9_apart 58 = .ok (.ireturn, 1) := by decide +kernel
theorem dX9_apart_59 : decode cX9_apart 59 = .ok (.iinc 4 1, 3) := by decide +kernel
theorem dX9_apart_62 : decode cX9_apart 62 = .ok (.goto (-28), 3) := by decide +kernel
theorem dX9_apart_65 : decode cX9_apart 65 = .ok (.aload_n 0, 1) := by decide +kernel
theorem dX9_apart_66 : decode cX9_apart 66 = .ok (.iload_n 1, 1) := by decide +kernel
theorem dX9_apart_67 : decode cX9_apart 67 = .ok (.invokevirtual 155, 3) := by decide +kernel
theorem dX9_apart_70 : decode cX9_apart 70 = .ok (.aload_n 0, 1) := by decide +kernel
theorem dX9_apart_71 : decode cX9_apart 71 = .ok (.iload_n 1, 1) := by decide +kernel
theorem dX9_apart_72 : decode cX9_apart 72 = .ok (.invokevirtual 158, 3) := by decide +kernel
theorem dX9_apart_75 : decode cX9_apart 75 = .ok (.iadd, 1) := by decide +kernel
theorem dX9_apart_76 : decode cX9_apart 76 = .ok (.aload_n 0, 1) := by decide +kernel
theorem dX9_apart_77 : decode cX9_apart 77 = .ok (.iload_n 2, 1) := by decide +kernel
theorem dX9_apart_78 : decode cX9_apart 78 = .ok (.invokevirtual 155, 3) := by decide +kernel
theorem dX9_apart_81 : decode cX9_apart 81 = .ok (.if_icmp .le 22, 3) := by decide +kernel
theorem dX9_apart_84 : decode cX9_apart 84 = .ok (.aload_n 0, 1) := by decide +kernel
theorem dX9_apart_85 : decode cX9_apart 85 = .ok (.iload_n 2, 1) := by decide +kernel
theorem dX9_apart_86 : decode cX9_apart 86 = .ok (.invokevirtual 155, 3) := by decide +kernel
theorem dX9_apart_89 : decode cX9_apart 89 = .ok (.aload_n 0, 1) := by decide +kernel
theorem dX9_apart_90 : decode cX9_apart 90 = .ok (.iload_n 2, 1) := by decide +kernel
theorem dX9_apart_91 : decode cX9_apart 91 = .ok (.invokevirtual 158, 3) := by decide +kernel
theorem dX9_apart_94 : decode cX9_apart 94 = .ok (.iadd, 1) := by decide +kernel
theorem dX9_apart_95 : decode cX9_apart 95 = .ok (.aload_n 0, 1) := by decide +kernel
theorem dX9_apart_96 : decode cX9_apart 96 = .ok (.iload_n 1, 1) := by decide +kernel
theorem dX9_apart_97 : decode cX9_apart 97 = .ok (.invokevirtual 155, 3) := by decide +kernel
theorem dX9_apart_100 : decode cX9_apart 100 = .ok (.if_icmp .gt 7, 3) := by decide +kernel
theorem dX9_apart_103 : decode cX9_apart 103 = .ok (.iconst 1, 1) := by decide +kernel
theorem dX9_apart_104 : decode cX9_apart 104 = .ok (.goto 4, 3) := by decide +kernel
theorem dX9_apart_107 : decode cX9_apart 107 = .ok (.iconst 0, 1) := by decide +kernel
theorem dX9_apart_108 : decode cX9_apart 108 = .ok (.ireturn, 1) := by decide +kernel
set_option maxRecDepth 20000 in
theorem ggX9_after_X9_apart : GoodIn wsX9_after wsX9_apart := goodIn_r _ [11, 12, 2, 13, 14, 10, 15, 16, 17, 18, 19, 20, 21, 22, 23, 24, 25, 26, 27, 28, 29, 30, 31, 32, 33, 34, 35, 36, 37, 38, 39, 40, 41, 42, 43, 44, 45, 46, 47, 48, 49, 50, 51, 52, 53] (by decide +kernel) (by decide +kernel)
set_option maxRecDepth 20000 in
theorem gX9_after_X9_apart : GoodIn wsX9_after (wsV RX9 161 RX9 yX9_apart wsX9_apart) := goodIn_app (goodIn_of _ (by decide +kernel)) ggX9_after_X9_apart
theorem dX9_after_0 : decode cX9_after 0 = .ok (.iconst (-1), 1) := by decide +kernel
theorem dX9_after_1 : decode cX9_after 1 = .ok (.istore_n 3, 1) := by decide +kernel
theorem dX9_after_2 : decode cX9_after 2 = .ok (.aload_n 0, 1) := by decide +kernel
theorem dX9_after_3 : decode cX9_after 3 = .ok (.getfield 25, 3) := by decide +kernel
theorem dX9_after_6 : decode cX9_after 6 = .ok (.iload_n 1, 1) := by decide +kernel
theorem dX9_after_7 : decode cX9_after 7 = .ok (.laload, 1) := by decide +kernel
theorem dX9_after_8 : decode cX9_after 8 = .ok (.aload_n 0, 1) := by decide +kernel
theorem dX9_after_9 : decode cX9_after 9 = .ok (.getfield 29, 3) := by decide +kernel
theorem dX9_after_12 : decode cX9_after 12 = .ok (.iload_n 2, 1) := by decide +kernel
theorem dX9_after_13 : decode cX9_after 13 = .ok (.laload, 1) := by decide +kernel
theorem dX9_after_14 : decode cX9_after 14 = .ok (.land, 1) := by decide +kernel
theorem dX9_after_15 : decode cX9_after 15 = .ok (.lconst 0, 1) := by decide +kernel
theorem dX9_after_16 : decode cX9_after 16 = .ok (.lcmp, 1) := by decide +kernel
theorem dX9_after_17 : decode cX9_after 17 = .ok (.ifCond .ne 19, 3) := by decide +kernel
theorem dX9_after_20 : decode cX9_after 20 = .ok (.aload_n 0, 1) := by decide +kernel
theorem dX9_after_21 : decode cX9_after 21 = .ok (.getfield 19, 3) := by decide +kernel
theorem dX9_after_24 : decode cX9_after 24 = .ok (.iload_n 1, 1) := by decide +kernel
theorem dX9_after_25 : decode cX9_after 25 = .ok (.iaload, 1) := by decide +kernel
theorem dX9_after_26 : decode cX9_after 26 = .ok (.aload_n 0, 1) := by decide +kernel
theorem dX9_after_27 : decode cX9_after 27 = .ok (.getfield 22, 3) := by decide +kernel
theorem dX9_after_30 : decode cX9_after 30 = .ok (.iload_n 2, 1) := by decide +kernel
theorem dX9_after_31 : decode cX9_after 31 = .ok (.iaload, 1) := by decide +kernel
theorem dX9_after_32 : decode cX9_after 32 = .ok (.iand, 1) := by decide +kernel
theorem dX9_after_33 : decode cX9_after 33 = .ok (.ifCond .eq 7, 3) := by decide +kernel
theorem dX9_after_36 : decode cX9_after 36 = .ok (.iconst 1, 1) := by decide +kernel
theorem dX9_after_37 : decode cX9_after 37 = .ok (.goto 4, 3) := by decide +kernel
theorem dX9_after_40 : decode cX9_after 40 = .ok (.iconst 0, 1) := by decide +kernel
theorem dX9_after_41 : decode cX9_after 41 = .ok (.istore 4, 2) := by decide +kernel
theorem dX9_after_43 : decode cX9_after 43 = .ok (.aload_n 0, 1) := by decide +kernel
theorem dX9_after_44 : decode cX9_after 44 = .ok (.getfield 29, 3) := by decide +kernel
theorem dX9_after_47 : decode cX9_after 47 = .ok (.iload_n 1, 1) := by decide +kernel
theorem dX9_after_48 : decode cX9_after 48 = .ok (.laload, 1) := by decide +kernel
theorem dX9_after_49 : decode cX9_after 49 = .ok (.aload_n 0, 1) := by decide +kernel
theorem dX9_after_50 : decode cX9_after 50 = .ok (.getfield 25, 3) := by decide +kernel
theorem dX9_after_53 : decode cX9_after 53 = .ok (.iload_n 2, 1) := by decide +kernel
theorem dX9_after_54 : decode cX9_after 54 = .ok (.laload, 1) := by decide +kernel
theorem dX9_after_55 : decode cX9_after 55 = .ok (.land, 1) := by decide +kernel
theorem dX9_after_56 : decode cX9_after 56 = .ok (.lconst 0, 1) := by decide +kernel
theorem dX9_after_57 : decode cX9_after 57 = .ok (.lcmp, 1) := by decide +kernel
theorem dX9_after_58 : decode cX9_after 58 = .ok (.ifCond .ne 19, 3) := by decide +kernel
theorem dX9_after_61 : decode cX9_after 61 = .ok (.aload_n 0, 1) := by decide +kernel
theorem dX9_after_62 : decode cX9_after 62 = .ok (.getfield 22, 3) := by decide +kernel
theorem dX9_after_65 : decode cX9_after 65 = .ok (.iload_n 1, 1) := by decide +kernel
theorem dX9_after_66 : decode cX9_after 66 = .ok (.iaload, 1) := by decide +kernel
theorem dX9_after_67 : decode cX9_after 67 = .ok (.aload_n 0, 1) := by decide +kernel
theorem dX9_after_68 : decode cX9_after 68 = .ok (.getfield 19, 3) := by decide +kernel
theorem dX9_after_71 : decode cX9_after 71 = .ok (.iload_n 2, 1) := by decide +kernel
theorem dX9_after_72 : decode cX9_after 72 = .ok (.iaload, 1) := by decide +kernel
theorem dX9_after_73 : decode cX9_after 73 = .ok (.iand, 1) := by decide +kernel
theorem dX9_after_74 : decode cX9_after 74 = .ok (.ifCond .eq 7, 3) := by decide +kernel
theorem dX9_after_77 : decode cX9_after 77 = .ok (.iconst 1, 1) := by decide +kernel
theorem dX9_after_78 : decode cX9_after 78 = .ok (.goto 4, 3) := by decide +kernel
theorem dX9_after_81 : decode cX9_after 81 = .ok (.iconst 0, 1) := by decide +kernel
theorem dX9_after_82 : decode cX9_after 82 = .ok (.istore 5, 2) := by decide +kernel
theorem dX9_after_84 : decode cX9_after 84 = .ok (.aload_n 0, 1) := by decide +kernel
theorem dX9_after_85 : decode cX9_after 85 = .ok (.getfield 29, 3) := by decide +kernel
theorem dX9_after_88 : decode cX9_after 88 = .ok (.iload_n 1, 1) := by decide +kernel
theorem dX9_after_89 : decode cX9_after 89 = .ok (.laload, 1) := by decide +kernel
theorem dX9_after_90 : decode cX9_after 90 = .ok (.aload_n 0, 1) := by decide +kernel
theorem dX9_after_91 : decode cX9_after 91 = .ok (.getfield 29, 3) := by decide +kernel
theorem dX9_after_94 : decode cX9_after 94 = .ok (.iload_n 2, 1) := by decide +kernel
theorem dX9_after_95 : decode cX9_after 95 = .ok (.laload, 1) := by decide +kernel
theorem dX9_after_96 : decode cX9_after 96 = .ok (.land, 1) := by decide +kernel
theorem dX9_after_97 : decode cX9_after 97 = .ok (.lconst 0, 1) := by decide +kernel
theorem dX9_after_98 : decode cX9_after 98 = .ok (.lcmp, 1) := by decide +kernel
theorem dX9_after_99 : decode cX9_after 99 = .ok (.ifCond .ne 19, 3) := by decide +kernel
theorem dX9_after_102 : decode cX9_after 102 = .ok (.aload_n 0, 1) := by decide +kernel
theorem dX9_after_103 : decode cX9_after 103 = .ok (.getfield 22, 3) := by decide +kernel
theorem dX9_after_106 : decode cX9_after 106 = .ok (.iload_n 1, 1) := by decide +kernel
theorem dX9_after_107 : decode cX9_after 107 = .ok (.iaload, 1) := by decide +kernel
theorem dX9_after_108 : decode cX9_after 108 = .ok (.aload_n 0, 1) := by decide +kernel
theorem dX9_after_109 : decode cX9_after 109 = .ok (.getfield 22, 3) := by decide +kernel
theorem dX9_after_112 : decode cX9_after 112 = .ok (.iload_n 2, 1) := by decide +kernel
theorem dX9_after_113 : decode cX9_after 113 = .ok (.iaload, 1) := by decide +kernel
theorem dX9_after_114 : decode cX9_after 114 = .ok (.iand, 1) := by decide +kernel
theorem dX9_after_115 : decode cX9_after 115 = .ok (.ifCond .eq 7, 3) := by decide +kernel
theorem dX9_after_118 : decode cX9_after 118 = .ok (.iconst 1, 1) := by decide +kernel
theorem dX9_after_119 : decode cX9_after 119 = .ok (.goto 4, 3) := by decide +kernel
theorem dX9_after_122 : decode cX9_after 122 = .ok (.iconst 0, 1) := by decide +kernel
theorem dX9_after_123 : decode cX9_after 123 = .ok (.istore 6, 2) := by decide +kernel
theorem dX9_after_125 : decode cX9_after 125 = .ok (.aload_n 0, 1) := by decide +kernel
theorem dX9_after_126 : decode cX9_after 126 = .ok (.getfield 7, 3) := by decide +kernel
theorem dX9_after_129 : decode cX9_after 129 = .ok (.aload_n 0, 1) := by decide +kernel
theorem dX9_after_130 : decode cX9_after 130 = .ok (.getfield 16, 3) := by decide +kernel
theorem dX9_after_133 : decode cX9_after 133 = .ok (.iload_n 2, 1) := by decide +kernel
theorem dX9_after_134 : decode cX9_after 134 = .ok (.iaload, 1) := by decide +kernel
theorem dX9_after_135 : decode cX9_after 135 = .ok (.iaload, 1) := by decide +kernel
theorem dX9_after_136 : decode cX9_after 136 = .ok (.istore 7, 2) := by decide +kernel
theorem dX9_after_138 : decode cX9_after 138 = .ok (.aload_n 0, 1) := by decide +kernel
theorem dX9_after_139 : decode cX9_after 139 = .ok (.getfield 7, 3) := by decide +kernel
theorem dX9_after_142 : decode cX9_after 142 = .ok (.aload_n 0, 1) := by decide +kernel
theorem dX9_after_143 : decode cX9_after 143 = .ok (.getfield 16, 3) := by decide +kernel
theorem dX9_after_146 : decode cX9_after 146 = .ok (.iload_n 1, 1) := by decide +kernel
theorem dX9_after_147 : decode cX9_after 147 = .ok (.iaload, 1) := by decide +kernel
theorem dX9_after_148 : decode cX9_after 148 = .ok (.iaload, 1) := by decide +kernel
theorem dX9_after_149 : decode cX9_after 149 = .ok (.istore 8, 2) := by decide +kernel
theorem dX9_after_151 : decode cX9_after 151 = .ok (.aload_n 0, 1) := by decide +kernel
theorem dX9_after_152 : decode cX9_after 152 = .ok (.getfield 16, 3) := by decide +kernel
theorem dX9_after_155 : decode cX9_after 155 = .ok (.iload_n 2, 1) := by decide +kernel
theorem dX9_after_156 : decode cX9_after 156 = .ok (.iaload, 1) := by decide +kernel
theorem dX9_after_157 : decode cX9_after 157 = .ok (.iconst 2, 1) := by decide +kernel
theorem dX9_after_158 : decode cX9_after 158 = .ok (.if_icmp .ne 23, 3) := by decide +kernel
theorem dX9_after_161 : decode cX9_after 161 = .ok (.aload_n 0, 1) := by decide +kernel
theorem dX9_after_162 : decode cX9_after 162 = .ok (.getfield 16, 3) := by decide +kernel
theorem dX9_after_165 : decode cX9_after 165 = .ok (.iload_n 1, 1) := by decide +kernel
theorem dX9_after_166 : decode cX9_after 166 = .ok (.iaload, 1) := by decide +kernel
theorem dX9_after_167 : decode cX9_after 167 = .ok (.iconst 2, 1) := by decide +kernel
theorem dX9_after_168 : decode cX9_after 168 = .ok (.if_icmp .eq 33, 3) := by decide +kernel
theorem dX9_after_171 : decode cX9_after 171 = .ok (.aload_n 0, 1) := by decide +kernel
theorem dX9_after_172 : decode cX9_after 172 = .ok (.getfield 16, 3) := by decide +kernel
theorem dX9_after_175 : decode cX9_after 175 = .ok (.iload_n 1, 1) := by decide +kernel
theorem dX9_after_176 : decode cX9_after 176 = .ok (.iaload, 1) := by decide +kernel
theorem dX9_after_177 : decode cX9_after 177 = .ok (.iconst 1, 1) := by decide +kernel
theorem dX9_after_178 : decode cX9_after 178 = .ok (.if_icmp .eq 23, 3) := by decide +kernel
theorem dX9_after_181 : decode cX9_after 181 = .ok (.aload_n 0, 1) := by decide +kernel
theorem dX9_after_182 : decode cX9_after 182 = .ok (.getfield 16, 3) := by decide +kernel
theorem dX9_after_185 : decode cX9_after 185 = .ok (.iload_n 1, 1) := by decide +kernel
theorem dX9_after_186 : decode cX9_after 186 = .ok (.iaload, 1) := by decide +kernel
theorem dX9_after_187 : decode cX9_after 187 = .ok (.iconst 2, 1) := by decide +kernel
theorem dX9_after_188 : decode cX9_after 188 = .ok (.if_icmp .ne 17, 3) := by decide +kernel
theorem dX9_after_191 : decode cX9_after 191 = .ok (.aload_n 0, 1) := by decide +kernel
theorem dX9_after_192 : decode cX9_after 192 = .ok (.getfield 16, 3) := by decide +kernel
theorem dX9_after_195 : decode cX9_after 195 = .ok (.iload_n 2, 1) := by decide +kernel
theorem dX9_after_196 : decode cX9_after 196 = .ok (.iaload, 1) := by decide +kernel
theorem dX9_after_197 : decode cX9_after 197 = .ok (.iconst 1, 1) := by decide +kernel
theorem dX9_after_198 : decode cX9_after 198 = .ok (.if_icmp .ne 7, 3) := by decide +kernel
theorem dX9_after_201 : decode cX9_after 201 = .ok (.iconst 1, 1) := by decide +kernel
theorem dX9_after_202 : decode cX9_after 202 = .ok (.goto 4, 3) := by decide +kernel
theorem dX9_after_205 : decode cX9_after 205 = .ok (.iconst 0, 1) := by decide +kernel
theorem dX9_after_206 : decode cX9_after 206 = .ok (.istore 9, 2) := by decide +kernel
theorem dX9_after_208 : decode cX9_after 208 = .ok (.iload 5, 2) := by decide +kernel
theorem dX9_after_210 : decode cX9_after 210 = .ok (.ifCond .ne 39, 3) := by decide +kernel
theorem dX9_after_213 : decode cX9_after 213 = .ok (.aload_n 0, 1) := by decide +kernel
theorem dX9_after_214 : decode cX9_after 214 = .ok (.getfield 16, 3) := by decide +kernel
theorem dX9_after_217 : decode cX9_after 217 = .ok (.iload_n 2, 1) := by decide +kernel
theorem dX9_after_218 : decode cX9_after 218 = .ok (.iaload, 1) := by decide +kernel
theorem dX9_after_219 : decode cX9_after 219 = .ok (.bipush 8, 2) := by decide +kernel
theorem dX9_after_221 : decode cX9_after 221 = .ok (.if_icmp .eq 28, 3) := by decide +kernel
theorem dX9_after_224 : decode cX9_after 224 = .ok (.aload_n 0, 1) := by decide +kernel
theorem dX9_after_225 : decode cX9_after 225 = .ok (.getfield 16, 3) := by decide +kernel
theorem dX9_after_228 : decode cX9_after 228 = .ok (.iload_n 1, 1) := by decide +kernel
theorem dX9_after_229 : decode cX9_after 229 = .ok (.iaload, 1) := by decide +kernel
theorem dX9_after_230 : decode cX9_after 230 = .ok (.bipush 8, 2) := by decide +kernel

set_option maxRecDepth 20000 in
theorem gX2_coprocessor_X3_s : GoodIn wsX2_coprocessor (va_wsS RX2 72 yX3_s wsX3_s) := goodIn_app (goodIn_of _ (by decide +kernel)) ggX2_coprocessor_X3_s
set_option maxRecDepth 20000 in
theorem ggX2_coprocessor_X3_t : GoodIn wsX2_coprocessor wsX3_t := goodIn_r _ [14] (by decide +kernel) (by decide +kernel)
set_option maxRecDepth 20000 in
theorem gX2_coprocessor_X3_t : GoodIn wsX2_coprocessor (va_wsS RX2 45 yX3_t wsX3_t) := goodIn_app (goodIn_of _ (by decide +kernel)) ggX2_coprocessor_X3_t
set_option maxRecDepth 20000 in
theorem ggX2_coprocessor_X2_fraction : GoodIn wsX2_coprocessor wsX2_fraction := goodIn_r _ [18, 19, 20, 21, 22, 23, 24, 25] (by decide +kernel) (by decide +kernel)
set_option maxRecDepth 20000 in
theorem gX2_coprocessor_X2_fraction : GoodIn wsX2_coprocessor (va_wsS RX2 78 yX2_fraction wsX2_fraction) := goodIn_app (goodIn_of _ (by decide +kernel)) ggX2_coprocessor_X2_fraction
set_option maxRecDepth 20000 in
theorem ggX2_coprocessor_X2_doubled : GoodIn wsX2_coprocessor wsX2_doubled := goodIn_r _ [28, 29, 30, 31, 32, 33, 15, 16, 17, 18, 19, 20, 21, 22, 23, 24, 25, 34, 35, 36, 37, 38, 39, 40] (by decide +kernel) (by decide +kernel)
set_option maxRecDepth 20000 in
theorem gX2_coprocessor_X2_doubled : GoodIn wsX2_coprocessor (va_wsS RX2 82 yX2_doubled wsX2_doubled) := goodIn_app (goodIn_of _ (by decide +kernel)) ggX2_coprocessor_X2_doubled
set_option maxRecDepth 20000 in
theorem ggX2_coprocessor_X2_ofWhole : GoodIn wsX2_coprocessor wsX2_ofWhole := goodIn_r _ [43, 22, 3] (by decide +kernel) (by decide +kernel)
set_option maxRecDepth 20000 in
theorem gX2_coprocessor_X2_ofWhole : GoodIn wsX2_coprocessor (va_wsS RX2 85 yX2_ofWhole wsX2_ofWhole) := goodIn_app (goodIn_of _ (by decide +kernel)) ggX2_coprocessor_X2_ofWhole
theorem dX2_coprocessor_0 : decode cX2_coprocessor 0 = .ok (.iload_n 0, 1) := by decide +kernel
theorem dX2_coprocessor_1 : decode cX2_coprocessor 1 = .ok (.invokestatic 39, 3) := by decide +kernel
theorem dX2_coprocessor_4 : decode cX2_coprocessor 4 = .ok (.istore_n 1, 1) := by decide +kernel
theorem dX2_coprocessor_5 : decode cX2_coprocessor 5 = .ok (.iload_n 0, 1) := by decide +kernel
theorem dX2_coprocessor_6 : decode cX2_coprocessor 6 = .ok (.invokestatic 72, 3) := by decide +kernel
theorem dX2_coprocessor_9 : decode cX2_coprocessor 9 = .ok (.lookupswitch 121 #[(0, 59), (4, 63), (8, 66), (16, 84), (17, 100), (20, 116)], 59) := by decide +kernel
theorem dX2_coprocessor_68 : decode cX2_coprocessor 68 = .ok (.sipush 16512, 3) := by decide +kernel
theorem dX2_coprocessor_71 : decode cX2_coprocessor 71 = .ok (.ireturn, 1) := by decide +kernel
theorem dX2_coprocessor_72 : decode cX2_coprocessor 72 = .ok (.ldc 75, 2) := by decide +kernel
theorem dX2_coprocessor_74 : decode cX2_coprocessor 74 = .ok (.ireturn, 1) := by decide +kernel
theorem dX2_coprocessor_75 : decode cX2_coprocessor 75 = .ok (.iload_n 0, 1) := by decide +kernel
theorem dX2_coprocessor_76 : decode cX2_coprocessor 76 = .ok (.invokestatic 45, 3) := by decide +kernel
theorem dX2_coprocessor_79 : decode cX2_coprocessor 79 = .ok (.iconst 2, 1) := by decide +kernel
theorem dX2_coprocessor_80 : decode cX2_coprocessor 80 = .ok (.iand, 1) := by decide +kernel
theorem dX2_coprocessor_81 : decode cX2_coprocessor 81 = .ok (.ifCond .ne 9, 3) := by decide +kernel
theorem dX2_coprocessor_84 : decode cX2_coprocessor 84 = .ok (.sipush 4103, 3) := by decide +kernel
theorem dX2_coprocessor_87 : decode cX2_coprocessor 87 = .ok (.goto 5, 3) := by decide +kernel
theorem dX2_coprocessor_90 : decode cX2_coprocessor 90 = .ok (.ldc 76, 2) := by decide +kernel
theorem dX2_coprocessor_92 : decode cX2_coprocessor 92 = .ok (.ireturn, 1) := by decide +kernel
theorem dX2_coprocessor_93 : decode cX2_coprocessor 93 = .ok (.iload_n 1, 1) := by decide +kernel
theorem dX2_coprocessor_94 : decode cX2_coprocessor 94 = .ok (.bipush 33, 2) := by decide +kernel
theorem dX2_coprocessor_96 : decode cX2_coprocessor 96 = .ok (.if_icmp .ne 8, 3) := by decide +kernel
theorem dX2_coprocessor_99 : decode cX2_coprocessor 99 = .ok (.ldc 77, 2) := by decide +kernel
theorem dX2_coprocessor_101 : decode cX2_coprocessor 101 = .ok (.goto 7, 3) := by decide +kernel
theorem dX2_coprocessor_104 : decode cX2_coprocessor 104 = .ok (.iload_n 1, 1) := by decide +kernel
theorem dX2_coprocessor_105 : decode cX2_coprocessor 105 = .ok (.invokestatic 78, 3) := by decide +kernel
theorem dX2_coprocessor_108 : decode cX2_coprocessor 108 = .ok (.ireturn, 1) := by decide +kernel
theorem dX2_coprocessor_109 : decode cX2_coprocessor 109 = .ok (.iload_n 1, 1) := by decide +kernel
theorem dX2_coprocessor_110 : decode cX2_coprocessor 110 = .ok (.bipush 32, 2) := by decide +kernel
theorem dX2_coprocessor_112 : decode cX2_coprocessor 112 = .ok (.if_icmp .ne 8, 3) := by decide +kernel
theorem dX2_coprocessor_115 : decode cX2_coprocessor 115 = .ok (.ldc 81, 2) := by decide +kernel
theorem dX2_coprocessor_117 : decode cX2_coprocessor 117 = .ok (.goto 7, 3) := by decide +kernel
theorem dX2_coprocessor_120 : decode cX2_coprocessor 120 = .ok (.iload_n 1, 1) := by decide +kernel
theorem dX2_coprocessor_121 : decode cX2_coprocessor 121 = .ok (.invokestatic 82, 3) := by decide +kernel
theorem dX2_coprocessor_124 : decode cX2_coprocessor 124 = .ok (.ireturn, 1) := by decide +kernel
theorem dX2_coprocessor_125 : decode cX2_coprocessor 125 = .ok (.iload_n 1, 1) := by decide +kernel
theorem dX2_coprocessor_126 : decode cX2_coprocessor 126 = .ok (.invokestatic 85, 3) := by decide +kernel
theorem dX2_coprocessor_129 : decode cX2_coprocessor 129 = .ok (.ireturn, 1) := by decide +kernel
theorem dX2_coprocessor_130 : decode cX2_coprocessor 130 = .ok (.iconst (-1), 1) := by decide +kernel
theorem dX2_coprocessor_131 : decode cX2_coprocessor 131 = .ok (.ireturn, 1) := by decide +kernel
theorem dX2_ofWhole_0 : decode cX2_ofWhole 0 = .ok (.iload_n 0, 1) := by decide +kernel
theorem dX2_ofWhole_1 : decode cX2_ofWhole 1 = .ok (.lookupswitch 33 #[(32, 27), (33, 30)], 27) := by decide +kernel
theorem dX2_ofWhole_28 : decode cX2_ofWhole 28 = .ok (.ldc 88, 2) := by decide +kernel
theorem dX2_ofWhole_30 : decode cX2_ofWhole 30 = .ok (.ireturn, 1) := by decide +kernel
theorem dX2_ofWhole_31 : decode cX2_ofWhole 31 = .ok (.ldc 77, 2) := by decide +kernel
theorem dX2_ofWhole_33 : decode cX2_ofWhole 33 = .ok (.ireturn, 1) := by decide +kernel
theorem dX2_ofWhole_34 : decode cX2_ofWhole 34 = .ok (.iconst (-1), 1) := by decide +kernel
theorem dX2_ofWhole_35 : decode cX2_ofWhole 35 = .ok (.ireturn, 1) := by decide +kernel
set_option maxRecDepth 20000 in
theorem ggX2_doubled_X2_fraction : GoodIn wsX2_doubled wsX2_fraction := goodIn_r _ [9, 10, 11, 12, 13, 14, 15, 16] (by decide +kernel) (by decide +kernel)
set_option maxRecDepth 20000 in
theorem gX2_doubled_X2_fraction : GoodIn wsX2_doubled (va_wsS RX2 78 yX2_fraction wsX2_fraction) := goodIn_app (goodIn_of _ (by decide +kernel)) ggX2_doubled_X2_fraction
set_option maxRecDepth 20000 in
theorem ggX2_doubled_X4_has : GoodIn wsX2_doubled wsX4_has := goodIn_r _ [20] (by decide +kernel) (by decide +kernel)
set_option maxRecDepth 20000 in
theorem gX2_doubled_X4_has : GoodIn wsX2_doubled (va_wsS RX2 20 yX4_has wsX4_has) := goodIn_app (goodIn_of _ (by decide +kernel)) ggX2_doubled_X4_has
set_option maxRecDepth 20000 in
theorem ggX2_doubled_X2_answersWhole : GoodIn wsX2_doubled wsX2_answersWhole := goodIn_r _ [23] (by decide +kernel) (by decide +kernel)
set_option maxRecDepth 20000 in
theorem gX2_doubled_X2_answersWhole : GoodIn wsX2_doubled (va_wsS RX2 91 yX2_answersWhole wsX2_answersWhole) := goodIn_app (goodIn_of _ (by decide +kernel)) ggX2_doubled_X2_answersWhole
theorem dX2_doubled_0 : decode cX2_doubled 0 = .ok (.iload_n 0, 1) := by decide +kernel
theorem dX2_doubled_1 : decode cX2_doubled 1 = .ok (.invokestatic 78, 3) := by decide +kernel
theorem dX2_doubled_4 : decode cX2_doubled 4 = .ok (.istore_n 1, 1) := by decide +kernel
theorem dX2_doubled_5 : decode cX2_doubled 5 = .ok (.iload_n 1, 1) := by decide +kernel
theorem dX2_doubled_6 : decode cX2_doubled 6 = .ok (.iconst (-1), 1) := by decide +kernel
theorem dX2_doubled_7 : decode cX2_doubled 7 = .ok (.if_icmp .ne 5, 3) := by decide +kernel
theorem dX2_doubled_10 : decode cX2_doubled 10 = .ok (.iconst (-1), 1) := by decide +kernel
theorem dX2_doubled_11 : decode cX2_doubled 11 = .ok (.ireturn, 1) := by decide +kernel
theorem dX2_doubled_12 : decode cX2_doubled 12 = .ok (.iload_n 1, 1) := by decide +kernel
theorem dX2_doubled_13 : decode cX2_doubled 13 = .ok (.sipush 16384, 3) := by decide +kernel
theorem dX2_doubled_16 : decode cX2_doubled 16 = .ok (.invokestatic 20, 3) := by decide +kernel
theorem dX2_doubled_19 : decode cX2_doubled 19 = .ok (.ifCond .eq 8, 3) := by decide +kernel
theorem dX2_doubled_22 : decode cX2_doubled 22 = .ok (.ldc 19, 2) := by decide +kernel
theorem dX2_doubled_24 : decode cX2_doubled 24 = .ok (.goto 4, 3) := by decide +kernel
theorem dX2_doubled_27 : decode cX2_doubled 27 = .ok (.iconst 0, 1) := by decide +kernel
theorem dX2_doubled_28 : decode cX2_doubled 28 = .ok (.istore_n 2, 1) := by decide +kernel
theorem dX2_doubled_29 : decode cX2_doubled 29 = .ok (.iload_n 1, 1) := by decide +kernel
theorem dX2_doubled_30 : decode cX2_doubled 30 = .ok (.ldc 89, 2) := by decide +kernel
theorem dX2_doubled_32 : decode cX2_doubled 32 = .ok (.invokestatic 20, 3) := by decide +kernel
theorem dX2_doubled_35 : decode cX2_doubled 35 = .ok (.ifCond .eq 8, 3) := by decide +kernel
theorem dX2_doubled_38 : decode cX2_doubled 38 = .ok (.iload_n 2, 1) := by decide +kernel
theorem dX2_doubled_39 : decode cX2_doubled 39 = .ok (.ldc 28, 2) := by decide +kernel
theorem dX2_doubled_41 : decode cX2_doubled 41 = .ok (.ior, 1) := by decide +kernel
theorem dX2_doubled_42 : decode cX2_doubled 42 = .ok (.istore_n 2, 1) := by decide +kernel
theorem dX2_doubled_43 : decode cX2_doubled 43 = .ok (.iload_n 1, 1) := by decide +kernel
theorem dX2_doubled_44 : decode cX2_doubled 44 = .ok (.ldc 90, 2) := by decide +kernel
theorem dX2_doubled_46 : decode cX2_doubled 46 = .ok (.invokestatic 20, 3) := by decide +kernel
theorem dX2_doubled_49 : decode cX2_doubled 49 = .ok (.ifCond .eq 15, 3) := by decide +kernel
theorem dX2_doubled_52 : decode cX2_doubled 52 = .ok (.iload_n 0, 1) := by decide +kernel
theorem dX2_doubled_53 : decode cX2_doubled 53 = .ok (.invokestatic 91, 3) := by decide +kernel
theorem dX2_doubled_56 : decode cX2_doubled 56 = .ok (.ifCond .ne 8, 3) := by decide +kernel
theorem dX2_doubled_59 : decode cX2_doubled 59 = .ok (.iload_n 2, 1) := by decide +kernel
theorem dX2_doubled_60 : decode cX2_doubled 60 = .ok (.ldc 32, 2) := by decide +kernel
theorem dX2_doubled_62 : decode cX2_doubled 62 = .ok (.ior, 1) := by decide +kernel
theorem dX2_doubled_63 : decode cX2_doubled 63 = .ok (.istore_n 2, 1) := by decide +kernel
theorem dX2_doubled_64 : decode cX2_doubled 64 = .ok (.iload_n 1, 1) := by decide +kernel
theorem dX2_doubled_65 : decode cX2_doubled 65 = .ok (.iload_n 2, 1) := by decide +kernel
theorem dX2_doubled_66 : decode cX2_doubled 66 = .ok (.ior, 1) := by decide +kernel
theorem dX2_doubled_67 : decode cX2_doubled 67 = .ok (.ireturn, 1) := by decide +kernel
theorem dX2_answersWhole_0 : decode cX2_answersWhole 0 = .ok (.iload_n 0, 1) := by decide +kernel
theorem dX2_answersWhole_1 : decode cX2_answersWhole 1 = .ok (.bipush 12, 2) := by decide +kernel
theorem dX2_answersWhole_3 : decode cX2_answersWhole 3 = .ok (.if_icmp .lt 9, 3) := by decide +kernel
theorem dX2_answersWhole_6 : decode cX2_answersWhole 6 = .ok (.iload_n 0, 1) := by decide +kernel
theorem dX2_answersWhole_7 : decode cX2_answersWhole 7 = .ok (.bipush 15, 2) := by decide +kernel
theorem dX2_answersWhole_9 : decode cX2_answersWhole 9 = .ok (.if_icmp .le 9, 3) := by decide +kernel
theorem dX2_answersWhole_12 : decode cX2_answersWhole 12 = .ok (.iload_n 0, 1) := by decide +kernel
theorem dX2_answersWhole_13 : decode cX2_answersWhole 13 = .ok (.bipush 36, 2) := by decide +kernel
theorem dX2_answersWhole_15 : decode cX2_answersWhole 15 = .ok (.if_icmp .ne 7, 3) := by decide +kernel
theorem dX2_answersWhole_18 : decode cX2_answersWhole 18 = .ok (.iconst 1, 1) := by decide +kernel
theorem dX2_answersWhole_19 : decode cX2_answersWhole 19 = .ok (.goto 4, 3) := by decide +kernel
theorem dX2_answersWhole_22 : decode cX2_answersWhole 22 = .ok (.iconst 0, 1) := by decide +kernel
theorem dX2_answersWhole_23 : decode cX2_answersWhole 23 = .ok (.ireturn, 1) := by decide +kernel
theorem dX2_fraction_0 : decode cX2_fraction 0 = .ok (.iload_n 0, 1) := by decide +kernel
theorem dX2_fraction_1 : decode cX2_fraction 1 = .ok (.tableswitch 181 0 36 #[163, 163, 163, 166, 169, 172, 172, 172, 181, 181, 181, 181, 172, 172, 172, 172, 181, 175, 178, 178, 181, 181, 181, 181, 181, 181, 181, 181, 181, 181, 181, 181, 181, 181, 181, 181, 172], 163) := by decide +kernel
theorem dX2_fraction_164 : decode cX2_fraction 164 = .ok (.ldc 95, 2) := by decide +kernel
theorem dX2_fraction_166 : decode cX2_fraction 166 = .ok (.ireturn, 1) := by decide +kernel
theorem dX2_fraction_167 : decode cX2_fraction 167 = .ok (.ldc 96, 2) := by decide +kernel
theorem dX2_fraction_169 : decode cX2_fraction 169 = .ok (.ireturn, 1) := by decide +kernel
theorem dX2_fraction_170 : decode cX2_fraction 170 = .ok (.ldc 97, 2) := by decide +kernel
theorem dX2_fraction_172 : decode cX2_fraction 172 = .ok (.ireturn, 1) := by decide +kernel
theorem dX2_fraction_173 : decode cX2_fraction 173 = .ok (.ldc 88, 2) := by decide +kernel
theorem dX2_fraction_175 : decode cX2_fraction 175 = .ok (.ireturn, 1) := by decide +kernel
theorem dX2_fraction_176 : decode cX2_fraction 176 = .ok (.ldc 98, 2) := by decide +kernel
theorem dX2_fraction_178 : decode cX2_fraction 178 = .ok (.ireturn, 1) := by decide +kernel
theorem dX2_fraction_179 : decode cX2_fraction 179 = .ok (.ldc 99, 2) := by decide +kernel
theorem dX2_fraction_181 : decode cX2_fraction 181 = .ok (.ireturn, 1) := by decide +kernel
theorem dX2_fraction_182 : decode cX2_fraction 182 = .ok (.iload_n 0, 1) := by decide +kernel
theorem dX2_fraction_183 : decode cX2_fraction 183 = .ok (.bipush 48, 2) := by decide +kernel
theorem dX2_fraction_185 : decode cX2_fraction 185 = .ok (.if_icmp .lt 8, 3) := by decide +kernel
theorem dX2_fraction_188 : decode cX2_fraction 188 = .ok (.ldc 100, 2) := by decide +kernel
theorem dX2_fraction_190 : decode cX2_fraction 190 = .ok (.goto 4, 3) := by decide +kernel
theorem dX2_fraction_193 : decode cX2_fraction 193 = .ok (.iconst (-1), 1) := by decide +kernel
theorem dX2_fraction_194 : decode cX2_fraction 194 = .ok (.ireturn, 1) := by decide +kernel
theorem dX3_operation_0 : decode cX3_operation 0 = .ok (.iload_n 0, 1) := by decide +kernel
theorem dX3_operation_1 : decode cX3_operation 1 = .ok (.bipush 26, 2) := by decide +kernel
theorem dX3_operation_3 : decode cX3_operation 3 = .ok (.iushr, 1) := by decide +kernel
theorem dX3_operation_4 : decode cX3_operation 4 = .ok (.ireturn, 1) := by decide +kernel
theorem dX3_s_0 : decode cX3_s 0 = .ok (.iload_n 0, 1) := by decide +kernel
theorem dX3_s_1 : decode cX3_s 1 = .ok (.bipush 21, 2) := by decide +kernel
theorem dX3_s_3 : decode cX3_s 3 = .ok (.iushr, 1) := by decide +kernel
theorem dX3_s_4 : decode cX3_s 4 = .ok (.bipush 31, 2) := by decide +kernel
theorem dX3_s_6 : decode cX3_s 6 = .ok (.iand, 1) := by decide +kernel
theorem dX3_s_7 : decode cX3_s 7 = .ok (.ireturn, 1) := by decide +kernel
theorem dX3_t_0 : decode cX3_t 0 = .ok (.iload_n 0, 1) := by decide +kernel
theorem dX3_t_1 : decode cX3_t 1 = .ok (.bipush 16, 2) := by decide +kernel
theorem dX3_t_3 : decode cX3_t 3 = .ok (.iushr, 1) := by decide +kernel
theorem dX3_t_4 : decode cX3_t 4 = .ok (.bipush 31, 2) := by decide +kernel
theorem dX3_t_6 : decode cX3_t 6 = .ok (.iand, 1) := by decide +kernel
theorem dX3_t_7 : decode cX3_t 7 = .ok (.ireturn, 1) := by decide +kernel
theorem dX3_d_0 : decode cX3_d 0 = .ok (.iload_n 0, 1) := by decide +kernel
theorem dX3_d_1 : decode cX3_d 1 = .ok (.bipush 11, 2) := by decide +kernel
theorem dX3_d_3 : decode cX3_d 3 = .ok (.iushr, 1) := by decide +kernel
theorem dX3_d_4 : decode cX3_d 4 = .ok (.bipush 31, 2) := by decide +kernel
theorem dX3_d_6 : decode cX3_d 6 = .ok (.iand, 1) := by decide +kernel
theorem dX3_d_7 : decode cX3_d 7 = .ok (.ireturn, 1) := by decide +kernel
set_option maxRecDepth 20000 in
theorem ggX3_fractionT_X3_t : GoodIn wsX3_fractionT wsX3_t := goodIn_r _ [4] (by decide +kernel) (by decide +kernel)
set_option maxRecDepth 20000 in
theorem gX3_fractionT_X3_t : GoodIn wsX3_fractionT (va_wsS RX3 7 yX3_t wsX3_t) := goodIn_app (goodIn_of _ (by decide +kernel)) ggX3_fractionT_X3_t
theorem dX3_fractionT_0 : decode cX3_fractionT 0 = .ok (.iload_n 0, 1) := by decide +kernel
theorem dX3_fractionT_1 : decode cX3_fractionT 1 = .ok (.invokestatic 7, 3) := by decide +kernel
theorem dX3_fractionT_4 : decode cX3_fractionT 4 = .ok (.ireturn, 1) := by decide +kernel
set_option maxRecDepth 20000 in
theorem ggX3_fractionS_X3_d : GoodIn wsX3_fractionS wsX3_d := goodIn_r _ [4] (by decide +kernel) (by decide +kernel)
set_option maxRecDepth 20000 in
theorem gX3_fractionS_X3_d : GoodIn wsX3_fractionS (va_wsS RX3 13 yX3_d wsX3_d) := goodIn_app (goodIn_of _ (by decide +kernel)) ggX3_fractionS_X3_d
theorem dX3_fractionS_0 : decode cX3_fractionS 0 = .ok (.iload_n 0, 1) := by decide +kernel
theorem dX3_fractionS_1 : decode cX3_fractionS 1 = .ok (.invokestatic 13, 3) := by decide +kernel
theorem dX3_fractionS_4 : decode cX3_fractionS 4 = .ok (.ireturn, 1) := by decide +kernel
theorem dX3_fractionD_0 : decode cX3_fractionD 0 = .ok (.iload_n 0, 1) := by decide +kernel
theorem dX3_fractionD_1 : decode cX3_fractionD 1 = .ok (.bipush 6, 2) := by decide +kernel
theorem dX3_fractionD_3 : decode cX3_fractionD 3 = .ok (.iushr, 1) := by decide +kernel
theorem dX3_fractionD_4 : decode cX3_fractionD 4 = .ok (.bipush 31, 2) := by decide +kernel
theorem dX3_fractionD_6 : decode cX3_fractionD 6 = .ok (.iand, 1) := by decide +kernel
theorem dX3_fractionD_7 : decode cX3_fractionD 7 = .ok (.ireturn, 1) := by decide +kernel
theorem dX3_function_0 : decode cX3_function 0 = .ok (.iload_n 0, 1) := by decide +kernel
theorem dX3_function_1 : decode cX3_function 1 = .ok (.bipush 63, 2) := by decide +kernel
theorem dX3_function_3 : decode cX3_function 3 = .ok (.iand, 1) := by decide +kernel
theorem dX3_function_4 : decode cX3_function 4 = .ok (.ireturn, 1) := by decide +kernel
theorem dX3_offset_0 : decode cX3_offset 0 = .ok (.iload_n 0, 1) := by decide +kernel
theorem dX3_offset_1 : decode cX3_offset 1 = .ok (.i2s, 1) := by decide +kernel
theorem dX3_offset_2 : decode cX3_offset 2 = .ok (.ireturn, 1) := by decide +kernel
theorem dX4_kindOf_0 : decode cX4_kindOf 0 = .ok (.iload_n 0, 1) := by decide +kernel
theorem dX4_kindOf_1 : decode cX4_kindOf 1 = .ok (.bipush 15, 2) := by decide +kernel
theorem dX4_kindOf_3 : decode cX4_kindOf 3 = .ok (.iand, 1) := by decide +kernel
theorem dX4_kindOf_4 : decode cX4_kindOf 4 = .ok (.ireturn, 1) := by decide +kernel
theorem dX4_has_0 : decode cX4_has 0 = .ok (.iload_n 0, 1) := by decide +kernel
theorem dX4_has_1 : decode cX4_has 1 = .ok (.iload_n 1, 1) := by decide +kernel
theorem dX4_has_2 : decode cX4_has 2 = .ok (.iand, 1) := by decide +kernel
theorem dX4_has_3 : decode cX4_has 3 = .ok (.ifCond .eq 7, 3) := by decide +kernel
theorem dX4_has_6 : decode cX4_has 6 = .ok (.iconst 1, 1) := by decide +kernel
theorem dX4_has_7 : decode cX4_has 7 = .ok (.goto 4, 3) := by decide +kernel
theorem dX4_has_10 : decode cX4_has 10 = .ok (.iconst 0, 1) := by decide +kernel
theorem dX4_has_11 : decode cX4_has 11 = .ok (.ireturn, 1) := by decide +kernel
theorem dX5_init_0 : decode cX5_init 0 = .ok (.aload_n 0, 1) := by decide +kernel
theorem dX5_init_1 : decode cX5_init 1 = .ok (.invokespecial 3, 3) := by decide +kernel
theorem dX5_init_4 : decode cX5_init 4 = .ok (.aload_n 0, 1) := by decide +kernel
theorem dX5_init_5 : decode cX5_init 5 = .ok (.iconst 0, 1) := by decide +kernel
theorem dX5_init_6 : decode cX5_init 6 = .ok (.putfield 9, 3) := by decide +kernel
theorem dX5_init_9 : decode cX5_init 9 = .ok (.aload_n 0, 1) := by decide +kernel
theorem dX5_init_10 : decode cX5_init 10 = .ok (.bipush 40, 2) := by decide +kernel
theorem dX5_init_12 : decode cX5_init 12 = .ok (.newarray .int, 2) := by decide +kernel
theorem dX5_init_14 : decode cX5_init 14 = .ok (.putfield 15, 3) := by decide +kernel
theorem dX5_init_17 : decode cX5_init 17 = .ok (.aload_n 0, 1) := by decide +kernel
theorem dX5_init_18 : decode cX5_init 18 = .ok (.bipush 40, 2) := by decide +kernel
theorem dX5_init_20 : decode cX5_init 20 = .ok (.newarray .boolean, 2) := by decide +kernel
theorem dX5_init_22 : decode cX5_init 22 = .ok (.putfield 19, 3) := by decide +kernel
theorem dX5_init_25 : decode cX5_init 25 = .ok (.aload_n 0, 1) := by decide +kernel
theorem dX5_init_26 : decode cX5_init 26 = .ok (.bipush 40, 2) := by decide +kernel
theorem dX5_init_28 : decode cX5_init 28 = .ok (.newarray .int, 2) := by decide +kernel
theorem dX5_init_30 : decode cX5_init 30 = .ok (.putfield 23, 3) := by decide +kernel
theorem dX5_init_33 : decode cX5_init 33 = .ok (.aload_n 0, 1) := by decide +kernel
theorem dX5_init_34 : decode cX5_init 34 = .ok (.bipush 40, 2) := by decide +kernel
theorem dX5_init_36 : decode cX5_init 36 = .ok (.newarray .int, 2) := by decide +kernel
theorem dX5_init_38 : decode cX5_init 38 = .ok (.putfield 26, 3) := by decide +kernel
theorem dX5_init_41 : decode cX5_init 41 = .ok (.return_, 1) := by decide +kernel
set_option maxRecDepth 20000 in
theorem ggX5_asInBlock_X0_sizeWithoutBranch : GoodIn wsX5_asInBlock wsX0_sizeWithoutBranch := goodIn_r _ [7, 8, 9, 10, 11, 6, 12, 13, 19, 20, 21, 22, 23, 24, 25, 26, 27, 28, 29, 30, 31, 32, 33] (by decide +kernel) (by decide +kernel)
set_option maxRecDepth 20000 in
theorem gX5_asInBlock_X0_sizeWithoutBranch : GoodIn wsX5_asInBlock (wsV RX5 29 RX0 yX0_sizeWithoutBranch wsX0_sizeWithoutBranch) := goodIn_app (goodIn_of _ (by decide +kernel)) ggX5_asInBlock_X0_sizeWithoutBranch
theorem dX5_asInBlock_0 : decode cX5_asInBlock 0 = .ok (.aload_n 0, 1) := by decide +kernel
theorem dX5_asInBlock_1 : decode cX5_asInBlock 1 = .ok (.aload_n 1, 1) := by decide +kernel
theorem dX5_asInBlock_2 : decode cX5_asInBlock 2 = .ok (.invokevirtual 29, 3) := by decide +kernel
theorem dX5_asInBlock_5 : decode cX5_asInBlock 5 = .ok (.putfield 9, 3) := by decide +kernel
theorem dX5_asInBlock_8 : decode cX5_asInBlock 8 = .ok (.iconst 0, 1) := by decide +kernel
theorem dX5_asInBlock_9 : decode cX5_asInBlock 9 = .ok (.istore_n 2, 1) := by decide +kernel
theorem dX5_asInBlock_10 : decode cX5_asInBlock 10 = .ok (.iload_n 2, 1) := by decide +kernel
theorem dX5_asInBlock_11 : decode cX5_asInBlock 11 = .ok (.aload_n 0, 1) := by decide +kernel
theorem dX5_asInBlock_12 : decode cX5_asInBlock 12 = .ok (.getfield 9, 3) := by decide +kernel
theorem dX5_asInBlock_15 : decode cX5_asInBlock 15 = .ok (.if_icmp .ge 16, 3) := by decide +kernel
theorem dX5_asInBlock_18 : decode cX5_asInBlock 18 = .ok (.aload_n 0, 1) := by decide +kernel
theorem dX5_asInBlock_19 : decode cX5_asInBlock 19 = .ok (.getfield 15, 3) := by decide +kernel
theorem dX5_asInBlock_22 : decode cX5_asInBlock 22 = .ok (.iload_n 2, 1) := by decide +kernel
theorem dX5_asInBlock_23 : decode cX5_asInBlock 23 = .ok (.iload_n 2, 1) := by decide +kernel
theorem dX5_asInBlock_24 : decode cX5_asInBlock 24 = .ok (.iastore, 1) := by decide +kernel
theorem dX5_asInBlock_25 : decode cX5_asInBlock 25 = .ok (.iinc 2 1, 3) := by decide +kernel
theorem dX5_asInBlock_28 : decode cX5_asInBlock 28 = .ok (.goto (-18), 3) := by decide +kernel
theorem dX5_asInBlock_31 : decode cX5_asInBlock 31 = .ok (.return_, 1) := by decide +kernel
set_option maxRecDepth 20000 in
theorem ggX5_byHeights_X0_sizeWithoutBranch : GoodIn wsX5_byHeights wsX0_sizeWithoutBranch := goodIn_r _ [6, 7, 8, 9, 10, 5, 11, 12, 73, 74, 75, 76, 77, 78, 79, 80, 81, 82, 83, 84, 85, 86, 87] (by decide +kernel) (by decide +kernel)
set_option maxRecDepth 20000 in
theorem gX5_byHeights_X0_sizeWithoutBranch : GoodIn wsX5_byHeights (wsV RX5 29 RX0 yX0_sizeWithoutBranch wsX0_sizeWithoutBranch) := goodIn_app (goodIn_of _ (by decide +kernel)) ggX5_byHeights_X0_sizeWithoutBranch
set_option maxRecDepth 20000 in
theorem ggX5_byHeights_X5_prepare : GoodIn wsX5_byHeights wsX5_prepare := goodIn_r _ [17, 18, 19, 20, 21, 22, 23, 5, 24, 25, 26, 27, 28, 29, 30, 31, 32, 33, 34, 35, 36, 12, 37, 38, 39, 40, 41, 42, 43, 44, 45, 46, 47, 48, 49, 50, 51, 52, 53, 54, 55, 56, 68, 69, 70, 71, 72, 73, 74, 75, 76, 77, 78, 79, 80, 81, 82, 83, 84, 85, 86, 87] (by decide +kernel) (by decide +kernel)
set_option maxRecDepth 20000 in
theorem gX5_byHeights_X5_prepare : GoodIn wsX5_byHeights (wsV RX5 35 RX5 yX5_prepare wsX5_prepare) := goodIn_app (goodIn_of _ (by decide +kernel)) ggX5_byHeights_X5_prepare
set_option maxRecDepth 20000 in
theorem ggX5_byHeights_X5_choose : GoodIn wsX5_byHeights wsX5_choose := goodIn_r _ [60, 18, 20, 19, 61, 68, 69, 70, 71, 72, 73, 74, 75, 76, 77, 78, 79, 80, 81, 82, 83, 84, 85, 86, 87] (by decide +kernel) (by decide +kernel)
set_option maxRecDepth 20000 in
theorem gX5_byHeights_X5_choose : GoodIn wsX5_byHeights (wsV RX5 39 RX5 yX5_choose wsX5_choose) := goodIn_app (goodIn_of _ (by decide +kernel)) ggX5_byHeights_X5_choose
set_option maxRecDepth 20000 in
theorem ggX5_byHeights_X5_place : GoodIn wsX5_byHeights wsX5_place := goodIn_r _ [65, 66, 1, 18, 20, 19, 67, 30, 31, 32, 21, 22, 23, 5, 24, 25, 26, 27, 28, 29, 33, 34, 35, 36, 12, 37, 38, 39, 40, 41, 42, 43, 44, 45, 46, 47, 48, 49, 50, 51, 52, 53, 54, 55, 56, 68, 69, 70, 71, 72, 73, 74, 75, 76, 77, 78, 79, 80, 81, 82, 83, 84, 85, 86, 87] (by decide +kernel) (by decide +kernel)
set_option maxRecDepth 20000 in
theorem gX5_byHeights_X5_place : GoodIn wsX5_byHeights (wsV RX5 43 RX5 yX5_place wsX5_place) := goodIn_app (goodIn_of _ (by decide +kernel)) ggX5_byHeights_X5_place
theorem dX5_byHeights_0 : decode cX5_byHeights 0 = .ok (.aload_n 1, 1) := by decide +kernel
theorem dX5_byHeights_1 : decode cX5_byHeights 1 = .ok (.invokevirtual 29, 3) := by decide +kernel
theorem dX5_byHeights_4 : decode cX5_byHeights 4 = .ok (.istore_n 2, 1) := by decide +kernel
theorem dX5_byHeights_5 : decode cX5_byHeights 5 = .ok (.aload_n 0, 1) := by decide +kernel
theorem dX5_byHeights_6 : decode cX5_byHeights 6 = .ok (.aload_n 1, 1) := by decide +kernel
theorem dX5_byHeights_7 : decode cX5_byHeights 7 = .ok (.iload_n 2, 1) := by decide +kernel
theorem dX5_byHeights_8 : decode cX5_byHeights 8 = .ok (.invokevirtual 35, 3) := by decide +kernel
theorem dX5_byHeights_11 : decode cX5_byHeights 11 = .ok (.aload_n 0, 1) := by decide +kernel
theorem dX5_byHeights_12 : decode cX5_byHeights 12 = .ok (.iconst 0, 1) := by decide +kernel
theorem dX5_byHeights_13 : decode cX5_byHeights 13 = .ok (.putfield 9, 3) := by decide +kernel
theorem dX5_byHeights_16 : decode cX5_byHeights 16 = .ok (.iconst 0, 1) := by decide +kernel
theorem dX5_byHeights_17 : decode cX5_byHeights 17 = .ok (.istore_n 3, 1) := by decide +kernel
theorem dX5_byHeights_18 : decode cX5_byHeights 18 = .ok (.iload_n 3, 1) := by decide +kernel
theorem dX5_byHeights_19 : decode cX5_byHeights 19 = .ok (.sipush 1640, 3) := by decide +kernel
theorem dX5_byHeights_22 : decode cX5_byHeights 22 = .ok (.if_icmp .ge 41, 3) := by decide +kernel
theorem dX5_byHeights_25 : decode cX5_byHeights 25 = .ok (.aload_n 0, 1) := by decide +kernel
theorem dX5_byHeights_26 : decode cX5_byHeights 26 = .ok (.getfield 9, 3) := by decide +kernel
theorem dX5_byHeights_29 : decode cX5_byHeights 29 = .ok (.iload_n 2, 1) := by decide +kernel
theorem dX5_byHeights_30 : decode cX5_byHeights 30 = .ok (.if_icmp .ge 33, 3) := by decide +kernel
theorem dX5_byHeights_33 : decode cX5_byHeights 33 = .ok (.aload_n 0, 1) := by decide +kernel
theorem dX5_byHeights_34 : decode cX5_byHeights 34 = .ok (.aload_n 1, 1) := by decide +kernel
theorem dX5_byHeights_35 : decode cX5_byHeights 35 = .ok (.iload_n 2, 1) := by decide +kernel
theorem dX5_byHeights_36 : decode cX5_byHeights 36 = .ok (.iload_n 3, 1) := by decide +kernel
theorem dX5_byHeights_37 : decode cX5_byHeights 37 = .ok (.invokevirtual 39, 3) := by decide +kernel
theorem dX5_byHeights_40 : decode cX5_byHeights 40 = .ok (.istore 4, 2) := by decide +kernel
theorem dX5_byHeights_42 : decode cX5_byHeights 42 = .ok (.iload 4, 2) := by decide +kernel
theorem dX5_byHeights_44 : decode cX5_byHeights 44 = .ok (.iconst (-1), 1) := by decide +kernel
theorem dX5_byHeights_45 : decode cX5_byHeights 45 = .ok (.if_icmp .eq 12, 3) := by decide +kernel
theorem dX5_byHeights_48 : decode cX5_byHeights 48 = .ok (.aload_n 0, 1) := by decide +kernel
theorem dX5_byHeights_49 : decode cX5_byHeights 49 = .ok (.aload_n 1, 1) := by decide +kernel
theorem dX5_byHeights_50 : decode cX5_byHeights 50 = .ok (.iload_n 2, 1) := by decide +kernel
theorem dX5_byHeights_51 : decode cX5_byHeights 51 = .ok (.iload 4, 2) := by decide +kernel
theorem dX5_byHeights_53 : decode cX5_byHeights 53 = .ok (.iload_n 3, 1) := by decide +kernel
theorem dX5_byHeights_54 : decode cX5_byHeights 54 = .ok (.invokevirtual 43, 3) := by decide +kernel
theorem dX5_byHeights_57 : decode cX5_byHeights 57 = .ok (.iinc 3 1, 3) := by decide +kernel
theorem dX5_byHeights_60 : decode cX5_byHeights 60 = .ok (.goto (-42), 3) := by decide +kernel
theorem dX5_byHeights_63 : decode cX5_byHeights 63 = .ok (.return_, 1) := by decide +kernel
set_option maxRecDepth 20000 in
theorem ggX5_prepare_X0_distance : GoodIn wsX5_prepare wsX0_distance := goodIn_r _ [8, 9, 10, 11, 12, 13, 14, 15, 16, 17, 18, 19, 7, 20, 21, 22, 23, 24, 25, 26, 27, 28, 29, 30, 31, 32, 33, 34, 35, 36, 37, 38, 39, 40, 41, 47, 48, 49, 50, 51, 52, 53, 54, 55, 56, 57, 58, 59, 60, 61] (by decide +kernel) (by decide +kernel)
set_option maxRecDepth 20000 in
theorem gX5_prepare_X0_distance : GoodIn wsX5_prepare (wsV RX5 47 RX0 yX0_distance wsX0_distance) := goodIn_app (goodIn_of _ (by decide +kernel)) ggX5_prepare_X0_distance
theorem dX5_prepare_0 : decode cX5_prepare 0 = .ok (.iconst 0, 1) := by decide +kernel
theorem dX5_prepare_1 : decode cX5_prepare 1 = .ok (.istore_n 3, 1) := by decide +kernel
theorem dX5_prepare_2 : decode cX5_prepare 2 = .ok (.iload_n 3, 1) := by decide +kernel
theorem dX5_prepare_3 : decode cX5_prepare 3 = .ok (.iload_n 2, 1) := by decide +kernel
theorem dX5_prepare_4 : decode cX5_prepare 4 = .ok (.if_icmp .ge 65, 3) := by decide +kernel
theorem dX5_prepare_7 : decode cX5_prepare 7 = .ok (.aload_n 0, 1) := by decide +kernel
theorem dX5_prepare_8 : decode cX5_prepare 8 = .ok (.getfield 19, 3) := by decide +kernel
theorem dX5_prepare_11 : decode cX5_prepare 11 = .ok (.iload_n 3, 1) := by decide +kernel
theorem dX5_prepare_12 : decode cX5_prepare 12 = .ok (.iconst 0, 1) := by decide +kernel
theorem dX5_prepare_13 : decode cX5_prepare 13 = .ok (.bastore, 1) := by decide +kernel
theorem dX5_prepare_14 : decode cX5_prepare 14 = .ok (.aload_n 0, 1) := by decide +kernel
theorem dX5_prepare_15 : decode cX5_prepare 15 = .ok (.getfield 26, 3) := by decide +kernel
theorem dX5_prepare_18 : decode cX5_prepare 18 = .ok (.iload_n 3, 1) := by decide +kernel
theorem dX5_prepare_19 : decode cX5_prepare 19 = .ok (.iconst 0, 1) := by decide +kernel
theorem dX5_prepare_20 : decode cX5_prepare 20 = .ok (.iastore, 1) := by decide +kernel
theorem dX5_prepare_21 : decode cX5_prepare 21 = .ok (.aload_n 0, 1) := by decide +kernel
theorem dX5_prepare_22 : decode cX5_prepare 22 = .ok (.getfield 23, 3) := by decide +kernel
theorem dX5_prepare_25 : decode cX5_prepare 25 = .ok (.iload_n 3, 1) := by decide +kernel
theorem dX5_prepare_26 : decode cX5_prepare 26 = .ok (.iconst 0, 1) := by decide +kernel
theorem dX5_prepare_27 : decode cX5_prepare 27 = .ok (.iastore, 1) := by decide +kernel
theorem dX5_prepare_28 : decode cX5_prepare 28 = .ok (.iconst 0, 1) := by decide +kernel
theorem dX5_prepare_29 : decode cX5_prepare 29 = .ok (.istore 4, 2) := by decide +kernel
theorem dX5_prepare_31 : decode cX5_prepare 31 = .ok (.iload 4, 2) := by decide +kernel
theorem dX5_prepare_33 : decode cX5_prepare 33 = .ok (.iload_n 3, 1) := by decide +kernel
theorem dX5_prepare_34 : decode cX5_prepare 34 = .ok (.if_icmp .ge 29, 3) := by decide +kernel
theorem dX5_prepare_37 : decode cX5_prepare 37 = .ok (.aload_n 1, 1) := by decide +kernel
theorem dX5_prepare_38 : decode cX5_prepare 38 = .ok (.iload_n 3, 1) := by decide +kernel
theorem dX5_prepare_39 : decode cX5_prepare 39 = .ok (.iload 4, 2) := by decide +kernel
theorem dX5_prepare_41 : decode cX5_prepare 41 = .ok (.invokevirtual 47, 3) := by decide +kernel
theorem dX5_prepare_44 : decode cX5_prepare 44 = .ok (.ifCond .le 13, 3) := by decide +kernel
theorem dX5_prepare_47 : decode cX5_prepare 47 = .ok (.aload_n 0, 1) := by decide +kernel
theorem dX5_prepare_48 : decode cX5_prepare 48 = .ok (.getfield 23, 3) := by decide +kernel
theorem dX5_prepare_51 : decode cX5_prepare 51 = .ok (.iload_n 3, 1) := by decide +kernel
theorem dX5_prepare_52 : decode cX5_prepare 52 = .ok (.dup2, 1) := by decide +kernel
theorem dX5_prepare_53 : decode cX5_prepare 53 = .ok (.iaload, 1) := by decide +kernel
theorem dX5_prepare_54 : decode cX5_prepare 54 = .ok (.iconst 1, 1) := by decide +kernel
theorem dX5_prepare_55 : decode cX5_prepare 55 = .ok (.iadd, 1) := by decide +kernel
theorem dX5_prepare_56 : decode cX5_prepare 56 = .ok (.iastore, 1) := by decide +kernel
theorem dX5_prepare_57 : decode cX5_prepare 57 = .ok (.iinc 4 1, 3) := by decide +kernel
theorem dX5_prepare_60 : decode cX5_prepare 60 = .ok (.goto (-29), 3) := by decide +kernel
theorem dX5_prepare_63 : decode cX5_prepare 63 = .ok (.iinc 3 1, 3) := by decide +kernel
theorem dX5_prepare_66 : decode cX5_prepare 66 = .ok (.goto (-64), 3) := by decide +kernel
theorem dX5_prepare_69 : decode cX5_prepare 69 = .ok (.return_, 1) := by decide +kernel
theorem dX5_choose_0 : decode cX5_choose 0 = .ok (.iconst (-1), 1) := by decide +kernel
theorem dX5_choose_1 : decode cX5_choose 1 = .ok (.istore 4, 2) := by decide +kernel
theorem dX5_choose_3 : decode cX5_choose 3 = .ok (.iconst 0, 1) := by decide +kernel
theorem dX5_choose_4 : decode cX5_choose 4 = .ok (.istore 5, 2) := by decide +kernel
theorem dX5_choose_6 : decode cX5_choose 6 = .ok (.iload 5, 2) := by decide +kernel
theorem dX5_choose_8 : decode cX5_choose 8 = .ok (.iload_n 2, 1) := by decide +kernel
theorem dX5_choose_9 : decode cX5_choose 9 = .ok (.if_icmp .ge 79, 3) := by decide +kernel
theorem dX5_choose_12 : decode cX5_choose 12 = .ok (.aload_n 0, 1) := by decide +kernel
theorem dX5_choose_13 : decode cX5_choose 13 = .ok (.getfield 19, 3) := by decide +kernel
theorem dX5_choose_16 : decode cX5_choose 16 = .ok (.iload 5, 2) := by decide +kernel
theorem dX5_choose_18 : decode cX5_choose 18 = .ok (.baload, 1) := by decide +kernel
theorem dX5_choose_19 : decode cX5_choose 19 = .ok (.ifCond .ne 28, 3) := by decide +kernel
theorem dX5_choose_22 : decode cX5_choose 22 = .ok (.aload_n 0, 1) := by decide +kernel
theorem dX5_choose_23 : decode cX5_choose 23 = .ok (.getfield 23, 3) := by decide +kernel
theorem dX5_choose_26 : decode cX5_choose 26 = .ok (.iload 5, 2) := by decide +kernel
theorem dX5_choose_28 : decode cX5_choose 28 = .ok (.iaload, 1) := by decide +kernel
theorem dX5_choose_29 : decode cX5_choose 29 = .ok (.ifCond .ne 18, 3) := by decide +kernel
theorem dX5_choose_32 : decode cX5_choose 32 = .ok (.aload_n 0, 1) := by decide +kernel
theorem dX5_choose_33 : decode cX5_choose 33 = .ok (.getfield 26, 3) := by decide +kernel
theorem dX5_choose_36 : decode cX5_choose 36 = .ok (.iload 5, 2) := by decide +kernel
theorem dX5_choose_38 : decode cX5_choose 38 = .ok (.iaload, 1) := by decide +kernel
theorem dX5_choose_39 : decode cX5_choose 39 = .ok (.iload_n 3, 1) := by decide +kernel
theorem dX5_choose_40 : decode cX5_choose 40 = .ok (.if_icmp .gt 7, 3) := by decide +kernel
theorem dX5_choose_43 : decode cX5_choose 43 = .ok (.iconst 1, 1) := by decide +kernel
theorem dX5_choose_44 : decode cX5_choose 44 = .ok (.goto 4, 3) := by decide +kernel
theorem dX5_choose_47 : decode cX5_choose 47 = .ok (.iconst 0, 1) := by decide +kernel
theorem dX5_choose_48 : decode cX5_choose 48 = .ok (.istore 6, 2) := by decide +kernel
theorem dX5_choose_50 : decode cX5_choose 50 = .ok (.iload 6, 2) := by decide +kernel
theorem dX5_choose_52 : decode cX5_choose 52 = .ok (.ifCond .eq 30, 3) := by decide +kernel
theorem dX5_choose_55 : decode cX5_choose 55 = .ok (.iload 4, 2) := by decide +kernel
theorem dX5_choose_57 : decode cX5_choose 57 = .ok (.iconst (-1), 1) := by decide +kernel
theorem dX5_choose_58 : decode cX5_choose 58 = .ok (.if_icmp .eq 20, 3) := by decide +kernel
theorem dX5_choose_61 : decode cX5_choose 61 = .ok (.aload_n 1, 1) := by decide +kernel
theorem dX5_choose_62 : decode cX5_choose 62 = .ok (.getfield 51, 3) := by decide +kernel
theorem dX5_choose_65 : decode cX5_choose 65 = .ok (.iload 5, 2) := by decide +kernel
theorem dX5_choose_67 : decode cX5_choose 67 = .ok (.iaload, 1) := by decide +kernel
theorem dX5_choose_68 : decode cX5_choose 68 = .ok (.aload_n 1, 1) := by decide +kernel
theorem dX5_choose_69 : decode cX5_choose 69 = .ok (.getfield 51, 3) := by decide +kernel
theorem dX5_choose_72 : decode cX5_choose 72 = .ok (.iload 4, 2) := by decide +kernel
theorem dX5_choose_74 : decode cX5_choose 74 = .ok (.iaload, 1) := by decide +kernel
theorem dX5_choose_75 : decode cX5_choose 75 = .ok (.if_icmp .le 7, 3) := by decide +kernel
theorem dX5_choose_78 : decode cX5_choose 78 = .ok (.iload 5, 2) := by decide +kernel
theorem dX5_choose_80 : decode cX5_choose 80 = .ok (.istore 4, 2) := by decide +kernel
theorem dX5_choose_82 : decode cX5_choose 82 = .ok (.iinc 5 1, 3) := by decide +kernel
theorem dX5_choose_85 : decode cX5_choose 85 = .ok (.goto (-79), 3) := by decide +kernel
theorem dX5_choose_88 : decode cX5_choose 88 = .ok (.iload 4, 2) := by decide +kernel
theorem dX5_choose_90 : decode cX5_choose 90 = .ok (.ireturn, 1) := by decide +kernel
set_option maxRecDepth 20000 in
theorem ggX5_place_X0_distance : GoodIn wsX5_place wsX0_distance := goodIn_r _ [14, 15, 16, 17, 18, 19, 7, 8, 9, 20, 21, 22, 13, 23, 24, 25, 26, 27, 28, 29, 30, 31, 32, 33, 34, 35, 36, 37, 38, 39, 40, 41, 42, 43, 44, 50, 51, 52, 53, 54, 55, 56, 57, 58, 59, 60, 61, 62, 63, 64] (by decide +kernel) (by decide +kernel)
set_option maxRecDepth 20000 in
theorem gX5_place_X0_distance : GoodIn wsX5_place (wsV RX5 47 RX0 yX0_distance wsX0_distance) := goodIn_app (goodIn_of _ (by decide +kernel)) ggX5_place_X0_distance
theorem dX5_place_0 : decode cX5_place 0 = .ok (.aload_n 0, 1) := by decide +kernel
theorem dX5_place_1 : decode cX5_place 1 = .ok (.getfield 15, 3) := by decide +kernel
theorem dX5_place_4 : decode cX5_place 4 = .ok (.aload_n 0, 1) := by decide +kernel
theorem dX5_place_5 : decode cX5_place 5 = .ok (.getfield 9, 3) := by decide +kernel
theorem dX5_place_8 : decode cX5_place 8 = .ok (.iload_n 3, 1) := by decide +kernel
theorem dX5_place_9 : decode cX5_place 9 = .ok (.iastore, 1) := by decide +kernel
theorem dX5_place_10 : decode cX5_place 10 = .ok (.aload_n 0, 1) := by decide +kernel
theorem dX5_place_11 : decode cX5_place 11 = .ok (.dup, 1) := by decide +kernel
theorem dX5_place_12 : decode cX5_place 12 = .ok (.getfield 9, 3) := by decide +kernel
theorem dX5_place_15 : decode cX5_place 15 = .ok (.iconst 1, 1) := by decide +kernel
theorem dX5_place_16 : decode cX5_place 16 = .ok (.iadd, 1) := by decide +kernel
theorem dX5_place_17 : decode cX5_place 17 = .ok (.putfield 9, 3) := by decide +kernel
theorem dX5_place_20 : decode cX5_place 20 = .ok (.aload_n 0, 1) := by decide +kernel
theorem dX5_place_21 : decode cX5_place 21 = .ok (.getfield 19, 3) := by decide +kernel
theorem dX5_place_24 : decode cX5_place 24 = .ok (.iload_n 3, 1) := by decide +kernel
theorem dX5_place_25 : decode cX5_place 25 = .ok (.iconst 1, 1) := by decide +kernel
theorem dX5_place_26 : decode cX5_place 26 = .ok (.bastore, 1) := by decide +kernel
theorem dX5_place_27 : decode cX5_place 27 = .ok (.iload_n 3, 1) := by decide +kernel
theorem dX5_place_28 : decode cX5_place 28 = .ok (.iconst 1, 1) := by decide +kernel
theorem dX5_place_29 : decode cX5_place 29 = .ok (.iadd, 1) := by decide +kernel
theorem dX5_place_30 : decode cX5_place 30 = .ok (.istore 5, 2) := by decide +kernel
theorem dX5_place_32 : decode cX5_place 32 = .ok (.iload 5, 2) := by decide +kernel
theorem dX5_place_34 : decode cX5_place 34 = .ok (.iload_n 2, 1) := by decide +kernel
theorem dX5_place_35 : decode cX5_place 35 = .ok (.if_icmp .ge 56, 3) := by decide +kernel
theorem dX5_place_38 : decode cX5_place 38 = .ok (.aload_n 1, 1) := by decide +kernel
theorem dX5_place_39 : decode cX5_place 39 = .ok (.iload 5, 2) := by decide +kernel
theorem dX5_place_41 : decode cX5_place 41 = .ok (.iload_n 3, 1) := by decide +kernel
theorem dX5_place_42 : decode cX5_place 42 = .ok (.invokevirtual 47, 3) := by decide +kernel
theorem dX5_place_45 : decode cX5_place 45 = .ok (.istore 6, 2) := by decide +kernel
theorem dX5_place_47 : decode cX5_place 47 = .ok (.iload 6, 2) := by decide +kernel
theorem dX5_place_49 : decode cX5_place 49 = .ok (.ifCond .le 36, 3) := by decide +kernel
theorem dX5_place_52 : decode cX5_place 52 = .ok (.aload_n 0, 1) := by decide +kernel
theorem dX5_place_53 : decode cX5_place 53 = .ok (.getfield 23, 3) := by decide +kernel
theorem dX5_place_56 : decode cX5_place 56 = .ok (.iload 5, 2) := by decide +kernel
theorem dX5_place_58 : decode cX5_place 58 = .ok (.dup2, 1) := by decide +kernel
theorem dX5_place_59 : decode cX5_place 59 = .ok (.iaload, 1) := by decide +kernel
theorem dX5_place_60 : decode cX5_place 60 = .ok (.iconst 1, 1) := by decide +kernel
theorem dX5_place_61 : decode cX5_place 61 = .ok (.isub, 1) := by decide +kernel
theorem dX5_place_62 : decode cX5_place 62 = .ok (.iastore, 1) := by decide +kernel
theorem dX5_place_63 : decode cX5_place 63 = .ok (.aload_n 0, 1) := by decide +kernel
theorem dX5_place_64 : decode cX5_place 64 = .ok (.getfield 26, 3) := by decide +kernel
theorem dX5_place_67 : decode cX5_place 67 = .ok (.iload 5, 2) := by decide +kernel
theorem dX5_place_69 : decode cX5_place 69 = .ok (.aload_n 0, 1) := by decide +kernel
theorem dX5_place_70 : decode cX5_place 70 = .ok (.getfield 26, 3) := by decide +kernel
theorem dX5_place_73 : decode cX5_place 73 = .ok (.iload 5, 2) := by decide +kernel
theorem dX5_place_75 : decode cX5_place 75 = .ok (.iaload, 1) := by decide +kernel
theorem dX5_place_76 : decode cX5_place 76 = .ok (.iload 4, 2) := by decide +kernel
theorem dX5_place_78 : decode cX5_place 78 = .ok (.iload 6, 2) := by decide +kernel
theorem dX5_place_80 : decode cX5_place 80 = .ok (.iadd, 1) := by decide +kernel
theorem dX5_place_81 : decode cX5_place 81 = .ok (.invokestatic 54, 3) := by decide +kernel
theorem dX5_place_84 : decode cX5_place 84 = .ok (.iastore, 1) := by decide +kernel
theorem dX5_place_85 : decode cX5_place 85 = .ok (.iinc 5 1, 3) := by decide +kernel
theorem dX5_place_88 : decode cX5_place 88 = .ok (.goto (-56), 3) := by decide +kernel
theorem dX5_place_91 : decode cX5_place 91 = .ok (.return_, 1) := by decide +kernel
theorem dX6_init_0 : decode cX6_init 0 = .ok (.aload_n 0, 1) := by decide +kernel
theorem dX6_init_1 : decode cX6_init 1 = .ok (.invokespecial 3, 3) := by decide +kernel
theorem dX6_init_4 : decode cX6_init 4 = .ok (.aload_n 0, 1) := by decide +kernel
theorem dX6_init_5 : decode cX6_init 5 = .ok (.iconst 0, 1) := by decide +kernel
theorem dX6_init_6 : decode cX6_init 6 = .ok (.putfield 9, 3) := by decide +kernel
theorem dX6_init_9 : decode cX6_init 9 = .ok (.aload_n 0, 1) := by decide +kernel
theorem dX6_init_10 : decode cX6_init 10 = .ok (.bipush 41, 2) := by decide +kernel
theorem dX6_init_12 : decode cX6_init 12 = .ok (.newarray .int, 2) := by decide +kernel
theorem dX6_init_14 : decode cX6_init 14 = .ok (.putfield 15, 3) := by decide +kernel
theorem dX6_init_17 : decode cX6_init 17 = .ok (.aload_n 0, 1) := by decide +kernel
theorem dX6_init_18 : decode cX6_init 18 = .ok (.bipush 41, 2) := by decide +kernel
theorem dX6_init_20 : decode cX6_init 20 = .ok (.newarray .int, 2) := by decide +kernel
theorem dX6_init_22 : decode cX6_init 22 = .ok (.putfield 19, 3) := by decide +kernel
theorem dX6_init_25 : decode cX6_init 25 = .ok (.aload_n 0, 1) := by decide +kernel
theorem dX6_init_26 : decode cX6_init 26 = .ok (.iconst 0, 1) := by decide +kernel
theorem dX6_init_27 : decode cX6_init 27 = .ok (.putfield 22, 3) := by decide +kernel
theorem dX6_init_30 : decode cX6_init 30 = .ok (.aload_n 0, 1) := by decide +kernel
theorem dX6_init_31 : decode cX6_init 31 = .ok (.iconst 0, 1) := by decide +kernel
theorem dX6_init_32 : decode cX6_init 32 = .ok (.putfield 25, 3) := by decide +kernel
theorem dX6_init_35 : decode cX6_init 35 = .ok (.aload_n 0, 1) := by decide +kernel
theorem dX6_init_36 : decode cX6_init 36 = .ok (.iconst 0, 1) := by decide +kernel
theorem dX6_init_37 : decode cX6_init 37 = .ok (.putfield 28, 3) := by decide +kernel
theorem dX6_init_40 : decode cX6_init 40 = .ok (.aload_n 0, 1) := by decide +kernel
theorem dX6_init_41 : decode cX6_init 41 = .ok (.bipush 41, 2) := by decide +kernel
theorem dX6_init_43 : decode cX6_init 43 = .ok (.newarray .int, 2) := by decide +kernel
theorem dX6_init_45 : decode cX6_init 45 = .ok (.putfield 31, 3) := by decide +kernel
theorem dX6_init_48 : decode cX6_init 48 = .ok (.return_, 1) := by decide +kernel
set_option maxRecDepth 20000 in
theorem ggX6_take_X6_spare : GoodIn wsX6_take wsX6_spare := goodIn_r _ [11, 12, 6, 4, 5, 13, 14, 15, 16, 17, 18, 19, 20, 21, 91, 92, 93, 94, 95, 96, 97, 98, 99, 100, 101, 102, 103, 104, 105, 86, 87, 88, 89, 90] (by decide +kernel) (by decide +kernel)
set_option maxRecDepth 20000 in
theorem gX6_take_X6_spare : GoodIn wsX6_take (va_wsS RX6 34 yX6_spare wsX6_spare) := goodIn_app (goodIn_of _ (by decide +kernel)) ggX6_take_X6_spare
set_option maxRecDepth 20000 in
theorem ggX6_take_X6_put : GoodIn wsX6_take wsX6_put := goodIn_r _ [25, 1, 26, 27, 28, 79, 80, 81, 82, 83, 84, 85, 91, 92, 93, 94, 95, 96, 97, 98, 99, 100, 101, 102, 103, 104, 105] (by decide +kernel) (by decide +kernel)
set_option maxRecDepth 20000 in
theorem gX6_take_X6_put : GoodIn wsX6_take (wsV RX6 44 RX6 yX6_put wsX6_put) := goodIn_app (goodIn_of _ (by decide +kernel)) ggX6_take_X6_put
set_option maxRecDepth 20000 in
theorem ggX6_take_X0_endsInBranch : GoodIn wsX6_take wsX0_endsInBranch := goodIn_r _ [19, 20, 21, 91, 92, 93, 94, 95, 96, 97, 98, 99, 100, 101, 102, 103, 104, 105] (by decide +kernel) (by decide +kernel)
set_option maxRecDepth 20000 in
theorem gX6_take_X0_endsInBranch : GoodIn wsX6_take (wsV RX6 48 RX0 yX0_endsInBranch wsX0_endsInBranch) := goodIn_app (goodIn_of _ (by decide +kernel)) ggX6_take_X0_endsInBranch
set_option maxRecDepth 20000 in
theorem ggX6_take_X6_fillSlot : GoodIn wsX6_take wsX6_fillSlot := goodIn_r _ [32, 2, 3, 22, 23, 24, 10, 25, 1, 26, 27, 28, 79, 80, 81, 82, 83, 84, 85, 91, 92, 93, 94, 95, 96, 97, 98, 99, 100, 101, 102, 103, 104, 105] (by decide +kernel) (by decide +kernel)
set_option maxRecDepth 20000 in
theorem gX6_take_X6_fillSlot : GoodIn wsX6_take (wsV RX6 55 RX6 yX6_fillSlot wsX6_fillSlot) := goodIn_app (goodIn_of _ (by decide +kernel)) ggX6_take_X6_fillSlot
set_option maxRecDepth 20000 in
theorem ggX6_take_X6_run : GoodIn wsX6_take wsX6_run := goodIn_r _ [36, 1, 37, 38, 39, 40, 41, 42, 43, 44, 10, 45, 28, 46, 47, 48, 18, 49, 50, 51, 52, 53, 54, 55, 56, 57, 58, 21, 59, 60, 61, 62, 63, 64, 65, 66, 67, 68, 69, 70, 71, 72, 73, 74, 75, 76, 77, 78, 79, 80, 81, 82, 83, 84, 85, 91, 92, 93, 94, 95, 96, 97, 98, 99, 100, 101, 102, 103, 104, 105] (by decide +kernel) (by decide +kernel)
set_option maxRecDepth 20000 in
theorem gX6_take_X6_run : GoodIn wsX6_take (wsV RX6 58 RX6 yX6_run wsX6_run) := goodIn_app (goodIn_of _ (by decide +kernel)) ggX6_take_X6_run
theorem dX6_take_0 : decode cX6_take 0 = .ok (.aload_n 0, 1) := by decide +kernel
theorem dX6_take_1 : decode cX6_take 1 = .ok (.iconst 0, 1) := by decide +kernel
theorem dX6_take_2 : decode cX6_take 2 = .ok (.putfield 9, 3) := by decide +kernel
theorem dX6_take_5 : decode cX6_take 5 = .ok (.aload_n 0, 1) := by decide +kernel
theorem dX6_take_6 : decode cX6_take 6 = .ok (.iconst 0, 1) := by decide +kernel
theorem dX6_take_7 : decode cX6_take 7 = .ok (.putfield 25, 3) := by decide +kernel
theorem dX6_take_10 : decode cX6_take 10 = .ok (.aload_n 0, 1) := by decide +kernel
theorem dX6_take_11 : decode cX6_take 11 = .ok (.iconst 0, 1) := by decide +kernel
theorem dX6_take_12 : decode cX6_take 12 = .ok (.putfield 28, 3) := by decide +kernel
theorem dX6_take_15 : decode cX6_take 15 = .ok (.iload_n 3, 1) := by decide +kernel
theorem dX6_take_16 : decode cX6_take 16 = .ok (.ifCond .eq 11, 3) := by decide +kernel
theorem dX6_take_19 : decode cX6_take 19 = .ok (.aload_n 1, 1) := by decide +kernel
theorem dX6_take_20 : decode cX6_take 20 = .ok (.aload_n 2, 1) := by decide +kernel
theorem dX6_take_21 : decode cX6_take 21 = .ok (.invokestatic 34, 3) := by decide +kernel
theorem dX6_take_24 : decode cX6_take 24 = .ok (.goto 4, 3) := by decide +kernel
theorem dX6_take_27 : decode cX6_take 27 = .ok (.iconst (-1), 1) := by decide +kernel
theorem dX6_take_28 : decode cX6_take 28 = .ok (.istore 4, 2) := by decide +kernel
theorem dX6_take_30 : decode cX6_take 30 = .ok (.iconst 0, 1) := by decide +kernel
theorem dX6_take_31 : decode cX6_take 31 = .ok (.istore 5, 2) := by decide +kernel
theorem dX6_take_33 : decode cX6_take 33 = .ok (.iload 5, 2) := by decide +kernel
theorem dX6_take_35 : decode cX6_take 35 = .ok (.aload_n 2, 1) := by decide +kernel
theorem dX6_take_36 : decode cX6_take 36 = .ok (.getfield 38, 3) := by decide +kernel
theorem dX6_take_39 : decode cX6_take 39 = .ok (.if_icmp .ge 33, 3) := by decide +kernel
theorem dX6_take_42 : decode cX6_take 42 = .ok (.aload_n 2, 1) := by decide +kernel
theorem dX6_take_43 : decode cX6_take 43 = .ok (.getfield 41, 3) := by decide +kernel
theorem dX6_take_46 : decode cX6_take 46 = .ok (.iload 5, 2) := by decide +kernel
theorem dX6_take_48 : decode cX6_take 48 = .ok (.iaload, 1) := by decide +kernel
theorem dX6_take_49 : decode cX6_take 49 = .ok (.iload 4, 2) := by decide +kernel
theorem dX6_take_51 : decode cX6_take 51 = .ok (.if_icmp .eq 15, 3) := by decide +kernel
theorem dX6_take_54 : decode cX6_take 54 = .ok (.aload_n 0, 1) := by decide +kernel
theorem dX6_take_55 : decode cX6_take 55 = .ok (.aload_n 1, 1) := by decide +kernel
theorem dX6_take_56 : decode cX6_take 56 = .ok (.aload_n 2, 1) := by decide +kernel
theorem dX6_take_57 : decode cX6_take 57 = .ok (.getfield 41, 3) := by decide +kernel
theorem dX6_take_60 : decode cX6_take 60 = .ok (.iload 5, 2) := by decide +kernel
theorem dX6_take_62 : decode cX6_take 62 = .ok (.iaload, 1) := by decide +kernel
theorem dX6_take_63 : decode cX6_take 63 = .ok (.invokevirtual 44, 3) := by decide +kernel
theorem dX6_take_66 : decode cX6_take 66 = .ok (.iinc 5 1, 3) := by decide +kernel
theorem dX6_take_69 : decode cX6_take 69 = .ok (.goto (-36), 3) := by decide +kernel
theorem dX6_take_72 : decode cX6_take 72 = .ok (.aload_n 1, 1) := by decide +kernel
theorem dX6_take_73 : decode cX6_take 73 = .ok (.invokevirtual 48, 3) := by decide +kernel
theorem dX6_take_76 : decode cX6_take 76 = .ok (.ifCond .eq 21, 3) := by decide +kernel
theorem dX6_take_79 : decode cX6_take 79 = .ok (.aload_n 0, 1) := by decide +kernel
theorem dX6_take_80 : decode cX6_take 80 = .ok (.aload_n 1, 1) := by decide +kernel
theorem dX6_take_81 : decode cX6_take 81 = .ok (.aload_n 1, 1) := by decide +kernel
theorem dX6_take_82 : decode cX6_take 82 = .ok (.getfield 54, 3) := by decide +kernel
theorem dX6_take_85 : decode cX6_take 85 = .ok (.iconst 1, 1) := by decide +kernel
theorem dX6_take_86 : decode cX6_take 86 = .ok (.isub, 1) := by decide +kernel
theorem dX6_take_87 : decode cX6_take 87 = .ok (.invokevirtual 44, 3) := by decide +kernel
theorem dX6_take_90 : decode cX6_take 90 = .ok (.aload_n 0, 1) := by decide +kernel
theorem dX6_take_91 : decode cX6_take 91 = .ok (.aload_n 1, 1) := by decide +kernel
theorem dX6_take_92 : decode cX6_take 92 = .ok (.iload 4, 2) := by decide +kernel
theorem dX6_take_94 : decode cX6_take 94 = .ok (.invokevirtual 55, 3) := by decide +kernel
theorem dX6_take_97 : decode cX6_take 97 = .ok (.aload_n 0, 1) := by decide +kernel
theorem dX6_take_98 : decode cX6_take 98 = .ok (.aload_n 0, 1) := by decide +kernel
theorem dX6_take_99 : decode cX6_take 99 = .ok (.aload_n 1, 1) := by decide +kernel
theorem dX6_take_100 : decode cX6_take 100 = .ok (.invokevirtual 58, 3) := by decide +kernel
theorem dX6_take_103 : decode cX6_take 103 = .ok (.putfield 22, 3) := by decide +kernel
theorem dX6_take_106 : decode cX6_take 106 = .ok (.return_, 1) := by decide +kernel
set_option maxRecDepth 20000 in
theorem ggX6_spare_X0_endsInBranch : GoodIn wsX6_spare wsX0_endsInBranch := goodIn_r _ [11, 12, 13, 14, 15, 16, 17, 18, 19, 20, 21, 22, 23, 24, 25, 26, 27, 28] (by decide +kernel) (by decide +kernel)
set_option maxRecDepth 20000 in
theorem gX6_spare_X0_endsInBranch : GoodIn wsX6_spare (wsV RX6 48 RX0 yX0_endsInBranch wsX0_endsInBranch) := goodIn_app (goodIn_of _ (by decide +kernel)) ggX6_spare_X0_endsInBranch
theorem dX6_spare_0 : decode cX6_spare 0 = .ok (.aload_n 0, 1) := by decide +kernel
theorem dX6_spare_1 : decode cX6_spare 1 = .ok (.invokevirtual 48, 3) := by decide +kernel
theorem dX6_spare_4 : decode cX6_spare 4 = .ok (.ifCond .eq 17, 3) := by decide +kernel
theorem dX6_spare_7 : decode cX6_spare 7 = .ok (.aload_n 0, 1) := by decide +kernel
theorem dX6_spare_8 : decode cX6_spare 8 = .ok (.getfield 62, 3) := by decide +kernel
theorem dX6_spare_11 : decode cX6_spare 11 = .ok (.aload_n 0, 1) := by decide +kernel
theorem dX6_spare_12 : decode cX6_spare 12 = .ok (.getfield 54, 3) := by decide +kernel
theorem dX6_spare_15 : decode cX6_spare 15 = .ok (.iconst 1, 1) := by decide +kernel
theorem dX6_spare_16 : decode cX6_spare 16 = .ok (.isub, 1) := by decide +kernel
theorem dX6_spare_17 : decode cX6_spare 17 = .ok (.baload, 1) := by decide +kernel
theorem dX6_spare_18 : decode cX6_spare 18 = .ok (.ifCond .eq 5, 3) := by decide +kernel
theorem dX6_spare_21 : decode cX6_spare 21 = .ok (.iconst (-1), 1) := by decide +kernel
theorem dX6_spare_22 : decode cX6_spare 22 = .ok (.ireturn, 1) := by decide +kernel
theorem dX6_spare_23 : decode cX6_spare 23 = .ok (.aload_n 1, 1) := by decide +kernel
theorem dX6_spare_24 : decode cX6_spare 24 = .ok (.getfield 38, 3) := by decide +kernel
theorem dX6_spare_27 : decode cX6_spare 27 = .ok (.iconst 1, 1) := by decide +kernel
theorem dX6_spare_28 : decode cX6_spare 28 = .ok (.isub, 1) := by decide +kernel
theorem dX6_spare_29 : decode cX6_spare 29 = .ok (.istore_n 2, 1) := by decide +kernel
theorem dX6_spare_30 : decode cX6_spare 30 = .ok (.iload_n 2, 1) := by decide +kernel
theorem dX6_spare_31 : decode cX6_spare 31 = .ok (.ifCond .lt 38, 3) := by decide +kernel
theorem dX6_spare_34 : decode cX6_spare 34 = .ok (.aload_n 1, 1) := by decide +kernel
theorem dX6_spare_35 : decode cX6_spare 35 = .ok (.getfield 41, 3) := by decide +kernel
theorem dX6_spare_38 : decode cX6_spare 38 = .ok (.iload_n 2, 1) := by decide +kernel
theorem dX6_spare_39 : decode cX6_spare 39 = .ok (.iaload, 1) := by decide +kernel
theorem dX6_spare_40 : decode cX6_spare 40 = .ok (.istore_n 3, 1) := by decide +kernel
theorem dX6_spare_41 : decode cX6_spare 41 = .ok (.aload_n 0, 1) := by decide +kernel
theorem dX6_spare_42 : decode cX6_spare 42 = .ok (.getfield 66, 3) := by decide +kernel
theorem dX6_spare_45 : decode cX6_spare 45 = .ok (.iload_n 3, 1) := by decide +kernel
theorem dX6_spare_46 : decode cX6_spare 46 = .ok (.baload, 1) := by decide +kernel
theorem dX6_spare_47 : decode cX6_spare 47 = .ok (.ifCond .ne 16, 3) := by decide +kernel
theorem dX6_spare_50 : decode cX6_spare 50 = .ok (.aload_n 0, 1) := by decide +kernel
theorem dX6_spare_51 : decode cX6_spare 51 = .ok (.getfield 69, 3) := by decide +kernel
theorem dX6_spare_54 : decode cX6_spare 54 = .ok (.iload_n 3, 1) := by decide +kernel
theorem dX6_spare_55 : decode cX6_spare 55 = .ok (.iaload, 1) := by decide +kernel
theorem dX6_spare_56 : decode cX6_spare 56 = .ok (.bipush 8, 2) := by decide +kernel
theorem dX6_spare_58 : decode cX6_spare 58 = .ok (.if_icmp .eq 5, 3) := by decide +kernel
theorem dX6_spare_61 : decode cX6_spare 61 = .ok (.iload_n 3, 1) := by decide +kernel
theorem dX6_spare_62 : decode cX6_spare 62 = .ok (.ireturn, 1) := by decide +kernel
theorem dX6_spare_63 : decode cX6_spare 63 = .ok (.iinc 2 (-1), 3) := by decide +kernel
theorem dX6_spare_66 : decode cX6_spare 66 = .ok (.goto (-36), 3) := by decide +kernel
theorem dX6_spare_69 : decode cX6_spare 69 = .ok (.iconst (-1), 1) := by decide +kernel
theorem dX6_spare_70 : decode cX6_spare 70 = .ok (.ireturn, 1) := by decide +kernel
set_option maxRecDepth 20000 in
theorem ggX6_fillSlot_X6_put : GoodIn wsX6_fillSlot wsX6_put := goodIn_r _ [7, 8, 9, 10, 11, 12, 13, 14, 15, 16, 17, 18, 19, 20, 21, 22, 23, 24, 25, 26, 27, 28, 29, 30, 31, 32, 33] (by decide +kernel) (by decide +kernel)
set_option maxRecDepth 20000 in
theorem gX6_fillSlot_X6_put : GoodIn wsX6_fillSlot (wsV RX6 44 RX6 yX6_put wsX6_put) := goodIn_app (goodIn_of _ (by decide +kernel)) ggX6_fillSlot_X6_put
theorem dX6_fillSlot_0 : decode cX6_fillSlot 0 = .ok (.aload_n 0, 1) := by decide +kernel
theorem dX6_fillSlot_1 : decode cX6_fillSlot 1 = .ok (.aload_n 1, 1) := by decide +kernel
theorem dX6_fillSlot_2 : decode cX6_fillSlot 2 = .ok (.iload_n 2, 1) := by decide +kernel
theorem dX6_fillSlot_3 : decode cX6_fillSlot 3 = .ok (.invokevirtual 44, 3) := by decide +kernel
theorem dX6_fillSlot_6 : decode cX6_fillSlot 6 = .ok (.iload_n 2, 1) := by decide +kernel
theorem dX6_fillSlot_7 : decode cX6_fillSlot 7 = .ok (.iconst (-1), 1) := by decide +kernel
theorem dX6_fillSlot_8 : decode cX6_fillSlot 8 = .ok (.if_icmp .ne 16, 3) := by decide +kernel
theorem dX6_fillSlot_11 : decode cX6_fillSlot 11 = .ok (.aload_n 0, 1) := by decide +kernel
theorem dX6_fillSlot_12 : decode cX6_fillSlot 12 = .ok (.dup, 1) := by decide +kernel
theorem dX6_fillSlot_13 : decode cX6_fillSlot 13 = .ok (.getfield 25, 3) := by decide +kernel
theorem dX6_fillSlot_16 : decode cX6_fillSlot 16 = .ok (.iconst 1, 1) := by decide +kernel
theorem dX6_fillSlot_17 : decode cX6_fillSlot 17 = .ok (.iadd, 1) := by decide +kernel
theorem dX6_fillSlot_18 : decode cX6_fillSlot 18 = .ok (.putfield 25, 3) := by decide +kernel
theorem dX6_fillSlot_21 : decode cX6_fillSlot 21 = .ok (.goto 8, 3) := by decide +kernel
theorem dX6_fillSlot_24 : decode cX6_fillSlot 24 = .ok (.aload_n 0, 1) := by decide +kernel
theorem dX6_fillSlot_25 : decode cX6_fillSlot 25 = .ok (.iconst 1, 1) := by decide +kernel
theorem dX6_fillSlot_26 : decode cX6_fillSlot 26 = .ok (.putfield 28, 3) := by decide +kernel
theorem dX6_fillSlot_29 : decode cX6_fillSlot 29 = .ok (.return_, 1) := by decide +kernel
theorem dX6_put_0 : decode cX6_put 0 = .ok (.aload_n 0, 1) := by decide +kernel
theorem dX6_put_1 : decode cX6_put 1 = .ok (.getfield 9, 3) := by decide +kernel
theorem dX6_put_4 : decode cX6_put 4 = .ok (.bipush 41, 2) := by decide +kernel
theorem dX6_put_6 : decode cX6_put 6 = .ok (.if_icmp .lt 4, 3) := by decide +kernel
theorem dX6_put_9 : decode cX6_put 9 = .ok (.return_, 1) := by decide +kernel
theorem dX6_put_10 : decode cX6_put 10 = .ok (.aload_n 0, 1) := by decide +kernel
theorem dX6_put_11 : decode cX6_put 11 = .ok (.getfield 15, 3) := by decide +kernel
theorem dX6_put_14 : decode cX6_put 14 = .ok (.aload_n 0, 1) := by decide +kernel
theorem dX6_put_15 : decode cX6_put 15 = .ok (.getfield 9, 3) := by decide +kernel
theorem dX6_put_18 : decode cX6_put 18 = .ok (.iload_n 2, 1) := by decide +kernel
theorem dX6_put_19 : decode cX6_put 19 = .ok (.iconst (-1), 1) := by decide +kernel
theorem dX6_put_20 : decode cX6_put 20 = .ok (.if_icmp .ne 7, 3) := by decide +kernel
theorem dX6_put_23 : decode cX6_put 23 = .ok (.iconst 0, 1) := by decide +kernel
theorem dX6_put_24 : decode cX6_put 24 = .ok (.goto 9, 3) := by decide +kernel
theorem dX6_put_27 : decode cX6_put 27 = .ok (.aload_n 1, 1) := by decide +kernel
theorem dX6_put_28 : decode cX6_put 28 = .ok (.getfield 74, 3) := by decide +kernel
theorem dX6_put_31 : decode cX6_put 31 = .ok (.iload_n 2, 1) := by decide +kernel
theorem dX6_put_32 : decode cX6_put 32 = .ok (.iaload, 1) := by decide +kernel
theorem dX6_put_33 : decode cX6_put 33 = .ok (.iastore, 1) := by decide +kernel
theorem dX6_put_34 : decode cX6_put 34 = .ok (.aload_n 0, 1) := by decide +kernel
theorem dX6_put_35 : decode cX6_put 35 = .ok (.getfield 19, 3) := by decide +kernel
theorem dX6_put_38 : decode cX6_put 38 = .ok (.aload_n 0, 1) := by decide +kernel
theorem dX6_put_39 : decode cX6_put 39 = .ok (.getfield 9, 3) := by decide +kernel
theorem dX6_put_42 : decode cX6_put 42 = .ok (.iload_n 2, 1) := by decide +kernel
theorem dX6_put_43 : decode cX6_put 43 = .ok (.iastore, 1) := by decide +kernel
theorem dX6_put_44 : decode cX6_put 44 = .ok (.aload_n 0, 1) := by decide +kernel
theorem dX6_put_45 : decode cX6_put 45 = .ok (.dup, 1) := by decide +kernel
theorem dX6_put_46 : decode cX6_put 46 = .ok (.getfield 9, 3) := by decide +kernel
theorem dX6_put_49 : decode cX6_put 49 = .ok (.iconst 1, 1) := by decide +kernel
theorem dX6_put_50 : decode cX6_put 50 = .ok (.iadd, 1) := by decide +kernel
theorem dX6_put_51 : decode cX6_put 51 = .ok (.putfield 9, 3) := by decide +kernel
theorem dX6_put_54 : decode cX6_put 54 = .ok (.return_, 1) := by decide +kernel
set_option maxRecDepth 20000 in
theorem ggX6_run_X6_distanceOf : GoodIn wsX6_run wsX6_distanceOf := goodIn_r _ [11, 12, 13, 14, 15, 16, 17, 18, 19, 20, 21, 22, 4, 5, 6, 23, 24, 25, 26, 27, 28, 29, 30, 31, 32, 33, 34, 35, 36, 37, 38, 39, 40, 41, 42, 43, 44, 45, 46, 47, 48, 49, 50, 51, 52, 53, 54, 55, 56, 57, 58, 59, 60, 61, 62, 63, 64, 65, 66, 67, 68, 69] (by decide +kernel) (by decide +kernel)
set_option maxRecDepth 20000 in
theorem gX6_run_X6_distanceOf : GoodIn wsX6_run (wsV RX6 75 RX6 yX6_distanceOf wsX6_distanceOf) := goodIn_app (goodIn_of _ (by decide +kernel)) ggX6_run_X6_distanceOf
theorem dX6_run_0 : decode cX6_run 0 = .ok (.iconst 0, 1) := by decide +kernel
theorem dX6_run_1 : decode cX6_run 1 = .ok (.istore_n 2, 1) := by decide +kernel
theorem dX6_run_2 : decode cX6_run 2 = .ok (.iload_n 2, 1) := by decide +kernel
theorem dX6_run_3 : decode cX6_run 3 = .ok (.aload_n 0, 1) := by decide +kernel
theorem dX6_run_4 : decode cX6_run 4 = .ok (.getfield 9, 3) := by decide +kernel
theorem dX6_run_7 : decode cX6_run 7 = .ok (.if_icmp .ge 71, 3) := by decide +kernel
theorem dX6_run_10 : decode cX6_run 10 = .ok (.iload_n 2, 1) := by decide +kernel
theorem dX6_run_11 : decode cX6_run 11 = .ok (.ifCond .ne 7, 3) := by decide +kernel
theorem dX6_run_14 : decode cX6_run 14 = .ok (.iconst 0, 1) := by decide +kernel
theorem dX6_run_15 : decode cX6_run 15 = .ok (.goto 13, 3) := by decide +kernel
theorem dX6_run_18 : decode cX6_run 18 = .ok (.aload_n 0, 1) := by decide +kernel
theorem dX6_run_19 : decode cX6_run 19 = .ok (.getfield 31, 3) := by decide +kernel
theorem dX6_run_22 : decode cX6_run 22 = .ok (.iload_n 2, 1) := by decide +kernel
theorem dX6_run_23 : decode cX6_run 23 = .ok (.iconst 1, 1) := by decide +kernel
theorem dX6_run_24 : decode cX6_run 24 = .ok (.isub, 1) := by decide +kernel
theorem dX6_run_25 : decode cX6_run 25 = .ok (.iaload, 1) := by decide +kernel
theorem dX6_run_26 : decode cX6_run 26 = .ok (.iconst 1, 1) := by decide +kernel
theorem dX6_run_27 : decode cX6_run 27 = .ok (.iadd, 1) := by decide +kernel
theorem dX6_run_28 : decode cX6_run 28 = .ok (.istore_n 3, 1) := by decide +kernel
theorem dX6_run_29 : decode cX6_run 29 = .ok (.iconst 0, 1) := by decide +kernel
theorem dX6_run_30 : decode cX6_run 30 = .ok (.istore 4, 2) := by decide +kernel
theorem dX6_run_32 : decode cX6_run 32 = .ok (.iload 4, 2) := by decide +kernel
theorem dX6_run_34 : decode cX6_run 34 = .ok (.iload_n 2, 1) := by decide +kernel
theorem dX6_run_35 : decode cX6_run 35 = .ok (.if_icmp .ge 30, 3) := by decide +kernel
theorem dX6_run_38 : decode cX6_run 38 = .ok (.iload_n 3, 1) := by decide +kernel
theorem dX6_run_39 : decode cX6_run 39 = .ok (.aload_n 0, 1) := by decide +kernel
theorem dX6_run_40 : decode cX6_run 40 = .ok (.getfield 31, 3) := by decide +kernel
theorem dX6_run_43 : decode cX6_run 43 = .ok (.iload 4, 2) := by decide +kernel
theorem dX6_run_45 : decode cX6_run 45 = .ok (.iaload, 1) := by decide +kernel
theorem dX6_run_46 : decode cX6_run 46 = .ok (.aload_n 0, 1) := by decide +kernel
theorem dX6_run_47 : decode cX6_run 47 = .ok (.aload_n 1, 1) := by decide +kernel
theorem dX6_run_48 : decode cX6_run 48 = .ok (.iload_n 2, 1) := by decide +kernel
theorem dX6_run_49 : decode cX6_run 49 = .ok (.iload 4, 2) := by decide +kernel
theorem dX6_run_51 : decode cX6_run 51 = .ok (.invokevirtual 75, 3) := by decide +kernel
theorem dX6_run_54 : decode cX6_run 54 = .ok (.iadd, 1) := by decide +kernel
theorem dX6_run_55 : decode cX6_run 55 = .ok (.invokestatic 79, 3) := by decide +kernel
theorem dX6_run_58 : decode cX6_run 58 = .ok (.istore_n 3, 1) := by decide +kernel
theorem dX6_run_59 : decode cX6_run 59 = .ok (.iinc 4 1, 3) := by decide +kernel
theorem dX6_run_62 : decode cX6_run 62 = .ok (.goto (-30), 3) := by decide +kernel
theorem dX6_run_65 : decode cX6_run 65 = .ok (.aload_n 0, 1) := by decide +kernel
theorem dX6_run_66 : decode cX6_run 66 = .ok (.getfield 31, 3) := by decide +kernel
theorem dX6_run_69 : decode cX6_run 69 = .ok (.iload_n 2, 1) := by decide +kernel
theorem dX6_run_70 : decode cX6_run 70 = .ok (.iload_n 3, 1) := by decide +kernel
theorem dX6_run_71 : decode cX6_run 71 = .ok (.iastore, 1) := by decide +kernel
theorem dX6_run_72 : decode cX6_run 72 = .ok (.iinc 2 1, 3) := by decide +kernel
theorem dX6_run_75 : decode cX6_run 75 = .ok (.goto (-73), 3) := by decide +kernel
theorem dX6_run_78 : decode cX6_run 78 = .ok (.aload_n 0, 1) := by decide +kernel
theorem dX6_run_79 : decode cX6_run 79 = .ok (.getfield 9, 3) := by decide +kernel
theorem dX6_run_82 : decode cX6_run 82 = .ok (.ifCond .ne 7, 3) := by decide +kernel
theorem dX6_run_85 : decode cX6_run 85 = .ok (.iconst 0, 1) := by decide +kernel
theorem dX6_run_86 : decode cX6_run 86 = .ok (.goto 16, 3) := by decide +kernel
theorem dX6_run_89 : decode cX6_run 89 = .ok (.aload_n 0, 1) := by decide +kernel
theorem dX6_run_90 : decode cX6_run 90 = .ok (.getfield 31, 3) := by decide +kernel
theorem dX6_run_93 : decode cX6_run 93 = .ok (.aload_n 0, 1) := by decide +kernel
theorem dX6_run_94 : decode cX6_run 94 = .ok (.getfield 9, 3) := by decide +kernel
theorem dX6_run_97 : decode cX6_run 97 = .ok (.iconst 1, 1) := by decide +kernel
theorem dX6_run_98 : decode cX6_run 98 = .ok (.isub, 1) := by decide +kernel
theorem dX6_run_99 : decode cX6_run 99 = .ok (.iaload, 1) := by decide +kernel
theorem dX6_run_100 : decode cX6_run 100 = .ok (.iconst 1, 1) := by decide +kernel
theorem dX6_run_101 : decode cX6_run 101 = .ok (.iadd, 1) := by decide +kernel
theorem dX6_run_102 : decode cX6_run 102 = .ok (.ireturn, 1) := by decide +kernel
set_option maxRecDepth 20000 in
theorem ggX6_distanceOf_X0_distance : GoodIn wsX6_distanceOf wsX0_distance := goodIn_r _ [6, 7, 8, 9, 10, 11, 12, 13, 14, 15, 16, 17, 5, 18, 19, 20, 21, 22, 23, 24, 25, 26, 27, 28, 29, 30, 31, 32, 33, 34, 35, 36, 37, 38, 39, 47, 48, 49, 50, 51, 52, 53, 54, 55, 56, 57, 58, 59, 60, 61] (by decide +kernel) (by decide +kernel)
set_option maxRecDepth 20000 in
theorem gX6_distanceOf_X0_distance : GoodIn wsX6_distanceOf (wsV RX6 85 RX0 yX0_distance wsX0_distance) := goodIn_app (goodIn_of _ (by decide +kernel)) ggX6_distanceOf_X0_distance
theorem dX6_distanceOf_0 : decode cX6_distanceOf 0 = .ok (.aload_n 0, 1) := by decide +kernel
theorem dX6_distanceOf_1 : decode cX6_distanceOf 1 = .ok (.getfield 19, 3) := by decide +kernel
theorem dX6_distanceOf_4 : decode cX6_distanceOf 4 = .ok (.iload_n 2, 1) := by decide +kernel
theorem dX6_distanceOf_5 : decode cX6_distanceOf 5 = .ok (.iaload, 1) := by decide +kernel
theorem dX6_distanceOf_6 : decode cX6_distanceOf 6 = .ok (.iconst (-1), 1) := by decide +kernel
theorem dX6_distanceOf_7 : decode cX6_distanceOf 7 = .ok (.if_icmp .eq 13, 3) := by decide +kernel
theorem dX6_distanceOf_10 : decode cX6_distanceOf 10 = .ok (.aload_n 0, 1) := by decide +kernel
theorem dX6_distanceOf_11 : decode cX6_distanceOf 11 = .ok (.getfield 19, 3) := by decide +kernel
theorem dX6_distanceOf_14 : decode cX6_distanceOf 14 = .ok (.iload_n 3, 1) := by decide +kernel
theorem dX6_distanceOf_15 : decode cX6_distanceOf 15 = .ok (.iaload, 1) := by decide +kernel
theorem dX6_distanceOf_16 : decode cX6_distanceOf 16 = .ok (.iconst (-1), 1) := by decide +kernel
theorem dX6_distanceOf_17 : decode cX6_distanceOf 17 = .ok (.if_icmp .ne 5, 3) := by decide +kernel
theorem dX6_distanceOf_20 : decode cX6_distanceOf 20 = .ok (.iconst 0, 1) := by decide +kernel
theorem dX6_distanceOf_21 : decode cX6_distanceOf 21 = .ok (.ireturn, 1) := by decide +kernel
theorem dX6_distanceOf_22 : decode cX6_distanceOf 22 = .ok (.aload_n 1, 1) := by decide +kernel
theorem dX6_distanceOf_23 : decode cX6_distanceOf 23 = .ok (.aload_n 0, 1) := by decide +kernel
theorem dX6_distanceOf_24 : decode cX6_distanceOf 24 = .ok (.getfield 19, 3) := by decide +kernel
theorem dX6_distanceOf_27 : decode cX6_distanceOf 27 = .ok (.iload_n 2, 1) := by decide +kernel
theorem dX6_distanceOf_28 : decode cX6_distanceOf 28 = .ok (.iaload, 1) := by decide +kernel
theorem dX6_distanceOf_29 : decode cX6_distanceOf 29 = .ok (.aload_n 0, 1) := by decide +kernel
theorem dX6_distanceOf_30 : decode cX6_distanceOf 30 = .ok (.getfield 19, 3) := by decide +kernel
theorem dX6_distanceOf_33 : decode cX6_distanceOf 33 = .ok (.iload_n 3, 1) := by decide +kernel
theorem dX6_distanceOf_34 : decode cX6_distanceOf 34 = .ok (.iaload, 1) := by decide +kernel
theorem dX6_distanceOf_35 : decode cX6_distanceOf 35 = .ok (.invokevirtual 85, 3) := by decide +kernel
theorem dX6_distanceOf_38 : decode cX6_distanceOf 38 = .ok (.ireturn, 1) := by decide +kernel
set_option maxRecDepth 20000 in
theorem ggX7_reads_X4_has : GoodIn wsX7_reads wsX4_has := goodIn_r _ [6] (by decide +kernel) (by decide +kernel)
set_option maxRecDepth 20000 in
theorem gX7_reads_X4_has : GoodIn wsX7_reads (va_wsS RX7 9 yX4_has wsX4_has) := goodIn_app (goodIn_of _ (by decide +kernel)) ggX7_reads_X4_has
set_option maxRecDepth 20000 in
theorem ggX7_reads_X3_s : GoodIn wsX7_reads wsX3_s := goodIn_r _ [10] (by decide +kernel) (by decide +kernel)
set_option maxRecDepth 20000 in
theorem gX7_reads_X3_s : GoodIn wsX7_reads (va_wsS RX7 13 yX3_s wsX3_s) := goodIn_app (goodIn_of _ (by decide +kernel)) ggX7_reads_X3_s
set_option maxRecDepth 20000 in
theorem ggX7_reads_X7_register : GoodIn wsX7_reads wsX7_register := goodIn_r _ [14] (by decide +kernel) (by decide +kernel)
set_option maxRecDepth 20000 in
theorem gX7_reads_X7_register : GoodIn wsX7_reads (va_wsS RX7 19 yX7_register wsX7_register) := goodIn_app (goodIn_of _ (by decide +kernel)) ggX7_reads_X7_register
set_option maxRecDepth 20000 in
theorem ggX7_reads_X3_t : GoodIn wsX7_reads wsX3_t := goodIn_r _ [17] (by decide +kernel) (by decide +kernel)
set_option maxRecDepth 20000 in
theorem gX7_reads_X3_t : GoodIn wsX7_reads (va_wsS RX7 25 yX3_t wsX3_t) := goodIn_app (goodIn_of _ (by decide +kernel)) ggX7_reads_X3_t
set_option maxRecDepth 20000 in
theorem ggX7_reads_X3_d : GoodIn wsX7_reads wsX3_d := goodIn_r _ [20] (by decide +kernel) (by decide +kernel)
set_option maxRecDepth 20000 in
theorem gX7_reads_X3_d : GoodIn wsX7_reads (va_wsS RX7 28 yX3_d wsX3_d) := goodIn_app (goodIn_of _ (by decide +kernel)) ggX7_reads_X3_d
theorem dX7_reads_0 : decode cX7_reads 0 = .ok (.lconst 0, 1) := by decide +kernel
theorem dX7_reads_1 : decode cX7_reads 1 = .ok (.lstore_n 2, 1) := by decide +kernel
theorem dX7_reads_2 : decode cX7_reads 2 = .ok (.iload_n 1, 1) := by decide +kernel
theorem dX7_reads_3 : decode cX7_reads 3 = .ok (.bipush 16, 2) := by decide +kernel
theorem dX7_reads_5 : decode cX7_reads 5 = .ok (.invokestatic 9, 3) := by decide +kernel
theorem dX7_reads_8 : decode cX7_reads 8 = .ok (.ifCond .eq 13, 3) := by decide +kernel
theorem dX7_reads_11 : decode cX7_reads 11 = .ok (.lload_n 2, 1) := by decide +kernel
theorem dX7_reads_12 : decode cX7_reads 12 = .ok (.iload_n 0, 1) := by decide +kernel
theorem dX7_reads_13 : decode cX7_reads 13 = .ok (.invokestatic 13, 3) := by decide +kernel
theorem dX7_reads_16 : decode cX7_reads 16 = .ok (.invokestatic 19, 3) := by decide +kernel
theorem dX7_reads_19 : decode cX7_reads 19 = .ok (.lor, 1) := by decide +kernel
theorem dX7_reads_20 : decode cX7_reads 20 = .ok (.lstore_n 2, 1) := by decide +kernel
theorem dX7_reads_21 : decode cX7_reads 21 = .ok (.iload_n 1, 1) := by decide +kernel
theorem dX7_reads_22 : decode cX7_reads 22 = .ok (.bipush 32, 2) := by decide +kernel
theorem dX7_reads_24 : decode cX7_reads 24 = .ok (.invokestatic 9, 3) := by decide +kernel
theorem dX7_reads_27 : decode cX7_reads 27 = .ok (.ifCond .eq 13, 3) := by decide +kernel
theorem dX7_reads_30 : decode cX7_reads 30 = .ok (.lload_n 2, 1) := by decide +kernel
theorem dX7_reads_31 : decode cX7_reads 31 = .ok (.iload_n 0, 1) := by decide +kernel
theorem dX7_reads_32 : decode cX7_reads 32 = .ok (.invokestatic 25, 3) := by decide +kernel
theorem dX7_reads_35 : decode cX7_reads 35 = .ok (.invokestatic 19, 3) := by decide +kernel
theorem dX7_reads_38 : decode cX7_reads 38 = .ok (.lor, 1) := by decide +kernel
theorem dX7_reads_39 : decode cX7_reads 39 = .ok (.lstore_n 2, 1) := by decide +kernel
theorem dX7_reads_40 : decode cX7_reads 40 = .ok (.iload_n 1, 1) := by decide +kernel
theorem dX7_reads_41 : decode cX7_reads 41 = .ok (.bipush 64, 2) := by decide +kernel
theorem dX7_reads_43 : decode cX7_reads 43 = .ok (.invokestatic 9, 3) := by decide +kernel
theorem dX7_reads_46 : decode cX7_reads 46 = .ok (.ifCond .eq 13, 3) := by decide +kernel
theorem dX7_reads_49 : decode cX7_reads 49 = .ok (.lload_n 2, 1) := by decide +kernel
theorem dX7_reads_50 : decode cX7_reads 50 = .ok (.iload_n 0, 1) := by decide +kernel
theorem dX7_reads_51 : decode cX7_reads 51 = .ok (.invokestatic 28, 3) := by decide +kernel
theorem dX7_reads_54 : decode cX7_reads 54 = .ok (.invokestatic 19, 3) := by decide +kernel
theorem dX7_reads_57 : decode cX7_reads 57 = .ok (.lor, 1) := by decide +kernel
theorem dX7_reads_58 : decode cX7_reads 58 = .ok (.lstore_n 2, 1) := by decide +kernel
theorem dX7_reads_59 : decode cX7_reads 59 = .ok (.iload_n 1, 1) := by decide +kernel
theorem dX7_reads_60 : decode cX7_reads 60 = .ok (.sipush 1024, 3) := by decide +kernel
theorem dX7_reads_63 : decode cX7_reads 63 = .ok (.invokestatic 9, 3) := by decide +kernel
theorem dX7_reads_66 : decode cX7_reads 66 = .ok (.ifCond .eq 9, 3) := by decide +kernel
theorem dX7_reads_69 : decode cX7_reads 69 = .ok (.lload_n 2, 1) := by decide +kernel
theorem dX7_reads_70 : decode cX7_reads 70 = .ok (.ldc2_w 31, 3) := by decide +kernel
theorem dX7_reads_73 : decode cX7_reads 73 = .ok (.lor, 1) := by decide +kernel
theorem dX7_reads_74 : decode cX7_reads 74 = .ok (.lstore_n 2, 1) := by decide +kernel
theorem dX7_reads_75 : decode cX7_reads 75 = .ok (.iload_n 1, 1) := by decide +kernel
theorem dX7_reads_76 : decode cX7_reads 76 = .ok (.sipush 4096, 3) := by decide +kernel
theorem dX7_reads_79 : decode cX7_reads 79 = .ok (.invokestatic 9, 3) := by decide +kernel
theorem dX7_reads_82 : decode cX7_reads 82 = .ok (.ifCond .eq 9, 3) := by decide +kernel
theorem dX7_reads_85 : decode cX7_reads 85 = .ok (.lload_n 2, 1) := by decide +kernel
theorem dX7_reads_86 : decode cX7_reads 86 = .ok (.ldc2_w 33, 3) := by decide +kernel
theorem dX7_reads_89 : decode cX7_reads 89 = .ok (.lor, 1) := by decide +kernel
theorem dX7_reads_90 : decode cX7_reads 90 = .ok (.lstore_n 2, 1) := by decide +kernel
theorem dX7_reads_91 : decode cX7_reads 91 = .ok (.lload_n 2, 1) := by decide +kernel
theorem dX7_reads_92 : decode cX7_reads 92 = .ok (.lreturn, 1) := by decide +kernel
set_option maxRecDepth 20000 in
theorem ggX7_writes_X4_has : GoodIn wsX7_writes wsX4_has := goodIn_r _ [6] (by decide +kernel) (by decide +kernel)
set_option maxRecDepth 20000 in
theorem gX7_writes_X4_has : GoodIn wsX7_writes (va_wsS RX7 9 yX4_has wsX4_has) := goodIn_app (goodIn_of _ (by decide +kernel)) ggX7_writes_X4_has
set_option maxRecDepth 20000 in
theorem ggX7_writes_X3_t : GoodIn wsX7_writes wsX3_t := goodIn_r _ [10] (by decide +kernel) (by decide +kernel)
set_option maxRecDepth 20000 in
theorem gX7_writes_X3_t : GoodIn wsX7_writes (va_wsS RX7 25 yX3_t wsX3_t) := goodIn_app (goodIn_of _ (by decide +kernel)) ggX7_writes_X3_t
set_option maxRecDepth 20000 in
theorem ggX7_writes_X7_register : GoodIn wsX7_writes wsX7_register := goodIn_r _ [14] (by decide +kernel) (by decide +kernel)
set_option maxRecDepth 20000 in
theorem gX7_writes_X7_register : GoodIn wsX7_writes (va_wsS RX7 19 yX7_register wsX7_register) := goodIn_app (goodIn_of _ (by decide +kernel)) ggX7_writes_X7_register
set_option maxRecDepth 20000 in
theorem ggX7_writes_X3_d : GoodIn wsX7_writes wsX3_d := goodIn_r _ [17] (by decide +kernel) (by decide +kernel)
set_option maxRecDepth 20000 in
theorem gX7_writes_X3_d : GoodIn wsX7_writes (va_wsS RX7 28 yX3_d wsX3_d) := goodIn_app (goodIn_of _ (by decide +kernel)) ggX7_writes_X3_d
theorem dX7_writes_0 : decode cX7_writes 0 = .ok (.lconst 0, 1) := by decide +kernel
theorem dX7_writes_1 : decode cX7_writes 1 = .ok (.lstore_n 2, 1) := by decide +kernel
theorem dX7_writes_2 : decode cX7_writes 2 = .ok (.iload_n 1, 1) := by decide +kernel
theorem dX7_writes_3 : decode cX7_writes 3 = .ok (.sipush 128, 3) := by decide +kernel
theorem dX7_writes_6 : decode cX7_writes 6 = .ok (.invokestatic 9, 3) := by decide +kernel
theorem dX7_writes_9 : decode cX7_writes 9 = .ok (.ifCond .eq 13, 3) := by decide +kernel
theorem dX7_writes_12 : decode cX7_writes 12 = .ok (.lload_n 2, 1) := by decide +kernel
theorem dX7_writes_13 : decode cX7_writes 13 = .ok (.iload_n 0, 1) := by decide +kernel
theorem dX7_writes_14 : decode cX7_writes 14 = .ok (.invokestatic 25, 3) := by decide +kernel
theorem dX7_writes_17 : decode cX7_writes 17 = .ok (.invokestatic 19, 3) := by decide +kernel
theorem dX7_writes_20 : decode cX7_writes 20 = .ok (.lor, 1) := by decide +kernel
theorem dX7_writes_21 : decode cX7_writes 21 = .ok (.lstore_n 2, 1) := by decide +kernel
theorem dX7_writes_22 : decode cX7_writes 22 = .ok (.iload_n 1, 1) := by decide +kernel
theorem dX7_writes_23 : decode cX7_writes 23 = .ok (.sipush 256, 3) := by decide +kernel
theorem dX7_writes_26 : decode cX7_writes 26 = .ok (.invokestatic 9, 3) := by decide +kernel
theorem dX7_writes_29 : decode cX7_writes 29 = .ok (.ifCond .eq 13, 3) := by decide +kernel
theorem dX7_writes_32 : decode cX7_writes 32 = .ok (.lload_n 2, 1) := by decide +kernel
theorem dX7_writes_33 : decode cX7_writes 33 = .ok (.iload_n 0, 1) := by decide +kernel
theorem dX7_writes_34 : decode cX7_writes 34 = .ok (.invokestatic 28, 3) := by decide +kernel
theorem dX7_writes_37 : decode cX7_writes 37 = .ok (.invokestatic 19, 3) := by decide +kernel
theorem dX7_writes_40 : decode cX7_writes 40 = .ok (.lor, 1) := by decide +kernel
theorem dX7_writes_41 : decode cX7_writes 41 = .ok (.lstore_n 2, 1) := by decide +kernel
theorem dX7_writes_42 : decode cX7_writes 42 = .ok (.iload_n 1, 1) := by decide +kernel
theorem dX7_writes_43 : decode cX7_writes 43 = .ok (.sipush 512, 3) := by decide +kernel
theorem dX7_writes_46 : decode cX7_writes 46 = .ok (.invokestatic 9, 3) := by decide +kernel
theorem dX7_writes_49 : decode cX7_writes 49 = .ok (.ifCond .eq 11, 3) := by decide +kernel
theorem dX7_writes_52 : decode cX7_writes 52 = .ok (.lload_n 2, 1) := by decide +kernel
theorem dX7_writes_53 : decode cX7_writes 53 = .ok (.bipush 31, 2) := by decide +kernel
theorem dX7_writes_55 : decode cX7_writes 55 = .ok (.invokestatic 19, 3) := by decide +kernel
theorem dX7_writes_58 : decode cX7_writes 58 = .ok (.lor, 1) := by decide +kernel
theorem dX7_writes_59 : decode cX7_writes 59 = .ok (.lstore_n 2, 1) := by decide +kernel
theorem dX7_writes_60 : decode cX7_writes 60 = .ok (.iload_n 1, 1) := by decide +kernel
theorem dX7_writes_61 : decode cX7_writes 61 = .ok (.sipush 2048, 3) := by decide +kernel
theorem dX7_writes_64 : decode cX7_writes 64 = .ok (.invokestatic 9, 3) := by decide +kernel
theorem dX7_writes_67 : decode cX7_writes 67 = .ok (.ifCond .eq 9, 3) := by decide +kernel
theorem dX7_writes_70 : decode cX7_writes 70 = .ok (.lload_n 2, 1) := by decide +kernel
theorem dX7_writes_71 : decode cX7_writes 71 = .ok (.ldc2_w 31, 3) := by decide +kernel
theorem dX7_writes_74 : decode cX7_writes 74 = .ok (.lor, 1) := by decide +kernel
theorem dX7_writes_75 : decode cX7_writes 75 = .ok (.lstore_n 2, 1) := by decide +kernel
theorem dX7_writes_76 : decode cX7_writes 76 = .ok (.iload_n 1, 1) := by decide +kernel
theorem dX7_writes_77 : decode cX7_writes 77 = .ok (.sipush 8192, 3) := by decide +kernel
theorem dX7_writes_80 : decode cX7_writes 80 = .ok (.invokestatic 9, 3) := by decide +kernel
theorem dX7_writes_83 : decode cX7_writes 83 = .ok (.ifCond .eq 9, 3) := by decide +kernel
theorem dX7_writes_86 : decode cX7_writes 86 = .ok (.lload_n 2, 1) := by decide +kernel
theorem dX7_writes_87 : decode cX7_writes 87 = .ok (.ldc2_w 33, 3) := by decide +kernel
theorem dX7_writes_90 : decode cX7_writes 90 = .ok (.lor, 1) := by decide +kernel
theorem dX7_writes_91 : decode cX7_writes 91 = .ok (.lstore_n 2, 1) := by decide +kernel
theorem dX7_writes_92 : decode cX7_writes 92 = .ok (.lload_n 2, 1) := by decide +kernel
theorem dX7_writes_93 : decode cX7_writes 93 = .ok (.lreturn, 1) := by decide +kernel
set_option maxRecDepth 20000 in
theorem ggX7_readsFractions_X4_has : GoodIn wsX7_readsFractions wsX4_has := goodIn_r _ [6] (by decide +kernel) (by decide +kernel)
set_option maxRecDepth 20000 in
theorem gX7_readsFractions_X4_has : GoodIn wsX7_readsFractions (va_wsS RX7 9 yX4_has wsX4_has) := goodIn_app (goodIn_of _ (by decide +kernel)) ggX7_readsFractions_X4_has
set_option maxRecDepth 20000 in
theorem ggX7_readsFractions_X7_fractionS : GoodIn wsX7_readsFractions wsX7_fractionS := goodIn_r _ [10, 11, 12, 13, 14, 15, 16, 17, 18, 3, 4, 5, 6, 19, 20, 9, 21] (by decide +kernel) (by decide +kernel)

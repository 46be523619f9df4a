theorem dX9_second_92 : decode cX9_second 92 = .ok (.iconst 2, 1) := by decide +kernel
theorem dX9_second_93 : decode cX9_second 93 = .ok (.invokevirtual 91, 3) := by decide +kernel
theorem dX9_second_96 : decode cX9_second 96 = .ok (.return_, 1) := by decide +kernel
set_option maxRecDepth 20000 in
theorem ggX9_memory_X9_field : GoodIn wsX9_memory wsX9_field := goodIn_r _ [7, 8, 30, 31, 32, 33, 34, 35, 36, 37, 38, 39, 40, 41, 42, 43, 44, 45, 46, 47, 48, 49, 50, 51, 52, 53, 54, 55] (by decide +kernel) (by decide +kernel)
set_option maxRecDepth 20000 in
theorem gX9_memory_X9_field : GoodIn wsX9_memory (wsV RX9 61 RX9 yX9_field wsX9_field) := goodIn_app (goodIn_of _ (by decide +kernel)) ggX9_memory_X9_field
set_option maxRecDepth 20000 in
theorem ggX9_memory_X9_s : GoodIn wsX9_memory wsX9_s := goodIn_r _ [12, 3, 4, 5, 6, 7, 8, 13, 14, 15, 30, 31, 32, 33, 34, 35, 36, 37, 38, 39, 40, 41, 42, 43, 44, 45, 46, 47, 48, 49, 50, 51, 52, 53, 54, 55] (by decide +kernel) (by decide +kernel)
set_option maxRecDepth 20000 in
theorem gX9_memory_X9_s : GoodIn wsX9_memory (wsV RX9 128 RX9 yX9_s wsX9_s) := goodIn_app (goodIn_of _ (by decide +kernel)) ggX9_memory_X9_s
set_option maxRecDepth 20000 in
theorem ggX9_memory_X9_t : GoodIn wsX9_memory wsX9_t := goodIn_r _ [19, 3, 4, 5, 6, 7, 8, 13, 14, 15, 30, 31, 32, 33, 34, 35, 36, 37, 38, 39, 40, 41, 42, 43, 44, 45, 46, 47, 48, 49, 50, 51, 52, 53, 54, 55] (by decide +kernel) (by decide +kernel)
set_option maxRecDepth 20000 in
theorem gX9_memory_X9_t : GoodIn wsX9_memory (wsV RX9 117 RX9 yX9_t wsX9_t) := goodIn_app (goodIn_of _ (by decide +kernel)) ggX9_memory_X9_t
set_option maxRecDepth 20000 in
theorem ggX9_memory_X9_is : GoodIn wsX9_memory wsX9_is := goodIn_r _ [23, 24, 2, 1, 30, 31, 32, 33, 34, 35, 36, 37, 38, 39, 40, 41, 42, 43, 44, 45, 46, 47, 48, 49, 50, 51, 52, 53, 54, 55] (by decide +kernel) (by decide +kernel)
set_option maxRecDepth 20000 in
theorem gX9_memory_X9_is : GoodIn wsX9_memory (wsV RX9 124 RX9 yX9_is wsX9_is) := goodIn_app (goodIn_of _ (by decide +kernel)) ggX9_memory_X9_is
set_option maxRecDepth 20000 in
theorem ggX9_memory_X9_fraction : GoodIn wsX9_memory wsX9_fraction := goodIn_r _ [28, 24, 29, 30, 31, 32, 33, 34, 35, 36, 37, 38, 39, 40, 41, 42, 43, 44, 45, 46, 47, 48, 49, 50, 51, 52, 53, 54, 55] (by decide +kernel) (by decide +kernel)
set_option maxRecDepth 20000 in
theorem gX9_memory_X9_fraction : GoodIn wsX9_memory (wsV RX9 131 RX9 yX9_fraction wsX9_fraction) := goodIn_app (goodIn_of _ (by decide +kernel)) ggX9_memory_X9_fraction
theorem dX9_memory_0 : decode cX9_memory 0 = .ok (.aload_n 0, 1) := by decide +kernel
theorem dX9_memory_1 : decode cX9_memory 1 = .ok (.bipush 16, 2) := by decide +kernel
theorem dX9_memory_3 : decode cX9_memory 3 = .ok (.invokevirtual 61, 3) := by decide +kernel
theorem dX9_memory_6 : decode cX9_memory 6 = .ok (.istore_n 2, 1) := by decide +kernel
theorem dX9_memory_7 : decode cX9_memory 7 = .ok (.iload_n 1, 1) := by decide +kernel
theorem dX9_memory_8 : decode cX9_memory 8 = .ok (.bipush 34, 2) := by decide +kernel
theorem dX9_memory_10 : decode cX9_memory 10 = .ok (.if_icmp .eq 9, 3) := by decide +kernel
theorem dX9_memory_13 : decode cX9_memory 13 = .ok (.iload_n 1, 1) := by decide +kernel
theorem dX9_memory_14 : decode cX9_memory 14 = .ok (.bipush 38, 2) := by decide +kernel
theorem dX9_memory_16 : decode cX9_memory 16 = .ok (.if_icmp .ne 24, 3) := by decide +kernel
theorem dX9_memory_19 : decode cX9_memory 19 = .ok (.aload_n 0, 1) := by decide +kernel
theorem dX9_memory_20 : decode cX9_memory 20 = .ok (.iconst 1, 1) := by decide +kernel
theorem dX9_memory_21 : decode cX9_memory 21 = .ok (.aload_n 0, 1) := by decide +kernel
theorem dX9_memory_22 : decode cX9_memory 22 = .ok (.invokevirtual 128, 3) := by decide +kernel
theorem dX9_memory_25 : decode cX9_memory 25 = .ok (.aload_n 0, 1) := by decide +kernel
theorem dX9_memory_26 : decode cX9_memory 26 = .ok (.invokevirtual 117, 3) := by decide +kernel
theorem dX9_memory_29 : decode cX9_memory 29 = .ok (.lor, 1) := by decide +kernel
theorem dX9_memory_30 : decode cX9_memory 30 = .ok (.aload_n 0, 1) := by decide +kernel
theorem dX9_memory_31 : decode cX9_memory 31 = .ok (.invokevirtual 117, 3) := by decide +kernel
theorem dX9_memory_34 : decode cX9_memory 34 = .ok (.invokevirtual 124, 3) := by decide +kernel
theorem dX9_memory_37 : decode cX9_memory 37 = .ok (.goto 195, 3) := by decide +kernel
theorem dX9_memory_40 : decode cX9_memory 40 = .ok (.iload_n 1, 1) := by decide +kernel
theorem dX9_memory_41 : decode cX9_memory 41 = .ok (.bipush 38, 2) := by decide +kernel
theorem dX9_memory_43 : decode cX9_memory 43 = .ok (.if_icmp .ge 19, 3) := by decide +kernel
theorem dX9_memory_46 : decode cX9_memory 46 = .ok (.aload_n 0, 1) := by decide +kernel
theorem dX9_memory_47 : decode cX9_memory 47 = .ok (.iconst 1, 1) := by decide +kernel
theorem dX9_memory_48 : decode cX9_memory 48 = .ok (.aload_n 0, 1) := by decide +kernel
theorem dX9_memory_49 : decode cX9_memory 49 = .ok (.invokevirtual 128, 3) := by decide +kernel
theorem dX9_memory_52 : decode cX9_memory 52 = .ok (.aload_n 0, 1) := by decide +kernel
theorem dX9_memory_53 : decode cX9_memory 53 = .ok (.invokevirtual 117, 3) := by decide +kernel
theorem dX9_memory_56 : decode cX9_memory 56 = .ok (.invokevirtual 124, 3) := by decide +kernel
theorem dX9_memory_59 : decode cX9_memory 59 = .ok (.goto 173, 3) := by decide +kernel
theorem dX9_memory_62 : decode cX9_memory 62 = .ok (.iload_n 1, 1) := by decide +kernel
theorem dX9_memory_63 : decode cX9_memory 63 = .ok (.bipush 44, 2) := by decide +kernel
theorem dX9_memory_65 : decode cX9_memory 65 = .ok (.if_icmp .ge 9, 3) := by decide +kernel
theorem dX9_memory_68 : decode cX9_memory 68 = .ok (.iload_n 1, 1) := by decide +kernel
theorem dX9_memory_69 : decode cX9_memory 69 = .ok (.bipush 39, 2) := by decide +kernel
theorem dX9_memory_71 : decode cX9_memory 71 = .ok (.if_icmp .gt 9, 3) := by decide +kernel
theorem dX9_memory_74 : decode cX9_memory 74 = .ok (.iload_n 1, 1) := by decide +kernel
theorem dX9_memory_75 : decode cX9_memory 75 = .ok (.bipush 46, 2) := by decide +kernel
theorem dX9_memory_77 : decode cX9_memory 77 = .ok (.if_icmp .ne 21, 3) := by decide +kernel
theorem dX9_memory_80 : decode cX9_memory 80 = .ok (.aload_n 0, 1) := by decide +kernel
theorem dX9_memory_81 : decode cX9_memory 81 = .ok (.iconst 2, 1) := by decide +kernel
theorem dX9_memory_82 : decode cX9_memory 82 = .ok (.aload_n 0, 1) := by decide +kernel
theorem dX9_memory_83 : decode cX9_memory 83 = .ok (.invokevirtual 128, 3) := by decide +kernel
theorem dX9_memory_86 : decode cX9_memory 86 = .ok (.aload_n 0, 1) := by decide +kernel
theorem dX9_memory_87 : decode cX9_memory 87 = .ok (.invokevirtual 117, 3) := by decide +kernel
theorem dX9_memory_90 : decode cX9_memory 90 = .ok (.lor, 1) := by decide +kernel
theorem dX9_memory_91 : decode cX9_memory 91 = .ok (.lconst 0, 1) := by decide +kernel
theorem dX9_memory_92 : decode cX9_memory 92 = .ok (.invokevirtual 124, 3) := by decide +kernel
theorem dX9_memory_95 : decode cX9_memory 95 = .ok (.goto 137, 3) := by decide +kernel
theorem dX9_memory_98 : decode cX9_memory 98 = .ok (.iload_n 1, 1) := by decide +kernel
theorem dX9_memory_99 : decode cX9_memory 99 = .ok (.bipush 48, 2) := by decide +kernel
theorem dX9_memory_101 : decode cX9_memory 101 = .ok (.if_icmp .eq 9, 3) := by decide +kernel
theorem dX9_memory_104 : decode cX9_memory 104 = .ok (.iload_n 1, 1) := by decide +kernel
theorem dX9_memory_105 : decode cX9_memory 105 = .ok (.bipush 56, 2) := by decide +kernel
theorem dX9_memory_107 : decode cX9_memory 107 = .ok (.if_icmp .ne 14, 3) := by decide +kernel
theorem dX9_memory_110 : decode cX9_memory 110 = .ok (.aload_n 0, 1) := by decide +kernel
theorem dX9_memory_111 : decode cX9_memory 111 = .ok (.bipush 8, 2) := by decide +kernel
theorem dX9_memory_113 : decode cX9_memory 113 = .ok (.lconst 0, 1) := by decide +kernel
theorem dX9_memory_114 : decode cX9_memory 114 = .ok (.lconst 0, 1) := by decide +kernel
theorem dX9_memory_115 : decode cX9_memory 115 = .ok (.invokevirtual 124, 3) := by decide +kernel
theorem dX9_memory_118 : decode cX9_memory 118 = .ok (.goto 114, 3) := by decide +kernel
theorem dX9_memory_121 : decode cX9_memory 121 = .ok (.iload_n 1, 1) := by decide +kernel
theorem dX9_memory_122 : decode cX9_memory 122 = .ok (.bipush 51, 2) := by decide +kernel
theorem dX9_memory_124 : decode cX9_memory 124 = .ok (.if_icmp .ne 16, 3) := by decide +kernel
theorem dX9_memory_127 : decode cX9_memory 127 = .ok (.aload_n 0, 1) := by decide +kernel
theorem dX9_memory_128 : decode cX9_memory 128 = .ok (.iconst 0, 1) := by decide +kernel
theorem dX9_memory_129 : decode cX9_memory 129 = .ok (.aload_n 0, 1) := by decide +kernel
theorem dX9_memory_130 : decode cX9_memory 130 = .ok (.invokevirtual 128, 3) := by decide +kernel
theorem dX9_memory_133 : decode cX9_memory 133 = .ok (.lconst 0, 1) := by decide +kernel
theorem dX9_memory_134 : decode cX9_memory 134 = .ok (.invokevirtual 124, 3) := by decide +kernel
theorem dX9_memory_137 : decode cX9_memory 137 = .ok (.goto 95, 3) := by decide +kernel
theorem dX9_memory_140 : decode cX9_memory 140 = .ok (.iload_n 1, 1) := by decide +kernel
theorem dX9_memory_141 : decode cX9_memory 141 = .ok (.bipush 49, 2) := by decide +kernel
theorem dX9_memory_143 : decode cX9_memory 143 = .ok (.if_icmp .eq 9, 3) := by decide +kernel
theorem dX9_memory_146 : decode cX9_memory 146 = .ok (.iload_n 1, 1) := by decide +kernel
theorem dX9_memory_147 : decode cX9_memory 147 = .ok (.bipush 53, 2) := by decide +kernel
theorem dX9_memory_149 : decode cX9_memory 149 = .ok (.if_icmp .ne 36, 3) := by decide +kernel
theorem dX9_memory_152 : decode cX9_memory 152 = .ok (.aload_n 0, 1) := by decide +kernel
theorem dX9_memory_153 : decode cX9_memory 153 = .ok (.iconst 1, 1) := by decide +kernel
theorem dX9_memory_154 : decode cX9_memory 154 = .ok (.aload_n 0, 1) := by decide +kernel
theorem dX9_memory_155 : decode cX9_memory 155 = .ok (.invokevirtual 128, 3) := by decide +kernel
theorem dX9_memory_158 : decode cX9_memory 158 = .ok (.lconst 0, 1) := by decide +kernel
theorem dX9_memory_159 : decode cX9_memory 159 = .ok (.invokevirtual 124, 3) := by decide +kernel
theorem dX9_memory_162 : decode cX9_memory 162 = .ok (.aload_n 0, 1) := by decide +kernel
theorem dX9_memory_163 : decode cX9_memory 163 = .ok (.aload_n 0, 1) := by decide +kernel
theorem dX9_memory_164 : decode cX9_memory 164 = .ok (.iload_n 2, 1) := by decide +kernel
theorem dX9_memory_165 : decode cX9_memory 165 = .ok (.iload_n 1, 1) := by decide +kernel
theorem dX9_memory_166 : decode cX9_memory 166 = .ok (.bipush 53, 2) := by decide +kernel
theorem dX9_memory_168 : decode cX9_memory 168 = .ok (.if_icmp .ne 7, 3) := by decide +kernel
theorem dX9_memory_171 : decode cX9_memory 171 = .ok (.iconst 1, 1) := by decide +kernel
theorem dX9_memory_172 : decode cX9_memory 172 = .ok (.goto 4, 3) := by decide +kernel
theorem dX9_memory_175 : decode cX9_memory 175 = .ok (.iconst 0, 1) := by decide +kernel
theorem dX9_memory_176 : decode cX9_memory 176 = .ok (.invokevirtual 131, 3) := by decide +kernel
theorem dX9_memory_179 : decode cX9_memory 179 = .ok (.putfield 76, 3) := by decide +kernel
theorem dX9_memory_182 : decode cX9_memory 182 = .ok (.goto 50, 3) := by decide +kernel
theorem dX9_memory_185 : decode cX9_memory 185 = .ok (.iload_n 1, 1) := by decide +kernel
theorem dX9_memory_186 : decode cX9_memory 186 = .ok (.bipush 57, 2) := by decide +kernel
theorem dX9_memory_188 : decode cX9_memory 188 = .ok (.if_icmp .eq 9, 3) := by decide +kernel
theorem dX9_memory_191 : decode cX9_memory 191 = .ok (.iload_n 1, 1) := by decide +kernel
theorem dX9_memory_192 : decode cX9_memory 192 = .ok (.bipush 61, 2) := by decide +kernel
theorem dX9_memory_194 : decode cX9_memory 194 = .ok (.if_icmp .ne 38, 3) := by decide +kernel
theorem dX9_memory_197 : decode cX9_memory 197 = .ok (.aload_n 0, 1) := by decide +kernel
theorem dX9_memory_198 : decode cX9_memory 198 = .ok (.iconst 2, 1) := by decide +kernel
theorem dX9_memory_199 : decode cX9_memory 199 = .ok (.aload_n 0, 1) := by decide +kernel
theorem dX9_memory_200 : decode cX9_memory 200 = .ok (.invokevirtual 128, 3) := by decide +kernel
theorem dX9_memory_203 : decode cX9_memory 203 = .ok (.lconst 0, 1) := by decide +kernel
theorem dX9_memory_204 : decode cX9_memory 204 = .ok (.invokevirtual 124, 3) := by decide +kernel
theorem dX9_memory_207 : decode cX9_memory 207 = .ok (.aload_n 0, 1) := by decide +kernel
theorem dX9_memory_208 : decode cX9_memory 208 = .ok (.dup, 1) := by decide +kernel
theorem dX9_memory_209 : decode cX9_memory 209 = .ok (.getfield 72, 3) := by decide +kernel
theorem dX9_memory_212 : decode cX9_memory 212 = .ok (.aload_n 0, 1) := by decide +kernel
theorem dX9_memory_213 : decode cX9_memory 213 = .ok (.iload_n 2, 1) := by decide +kernel
theorem dX9_memory_214 : decode cX9_memory 214 = .ok (.iload_n 1, 1) := by decide +kernel
theorem dX9_memory_215 : decode cX9_memory 215 = .ok (.bipush 61, 2) := by decide +kernel
theorem dX9_memory_217 : decode cX9_memory 217 = .ok (.if_icmp .ne 7, 3) := by decide +kernel
theorem dX9_memory_220 : decode cX9_memory 220 = .ok (.iconst 1, 1) := by decide +kernel
theorem dX9_memory_221 : decode cX9_memory 221 = .ok (.goto 4, 3) := by decide +kernel
theorem dX9_memory_224 : decode cX9_memory 224 = .ok (.iconst 0, 1) := by decide +kernel
theorem dX9_memory_225 : decode cX9_memory 225 = .ok (.invokevirtual 131, 3) := by decide +kernel
theorem dX9_memory_228 : decode cX9_memory 228 = .ok (.lor, 1) := by decide +kernel
theorem dX9_memory_229 : decode cX9_memory 229 = .ok (.putfield 72, 3) := by decide +kernel
theorem dX9_memory_232 : decode cX9_memory 232 = .ok (.return_, 1) := by decide +kernel
set_option maxRecDepth 20000 in
theorem ggX9_fractions_X9_field : GoodIn wsX9_fractions wsX9_field := goodIn_r _ [8, 1, 37, 38, 39, 40, 41, 42, 43, 44, 45, 46, 47, 48, 49, 50, 51, 52, 53, 54, 55, 56, 57, 58, 59, 60, 61, 62] (by decide +kernel) (by decide +kernel)
set_option maxRecDepth 20000 in
theorem gX9_fractions_X9_field : GoodIn wsX9_fractions (wsV RX9 61 RX9 yX9_field wsX9_field) := goodIn_app (goodIn_of _ (by decide +kernel)) ggX9_fractions_X9_field
set_option maxRecDepth 20000 in
theorem ggX9_fractions_X9_t : GoodIn wsX9_fractions wsX9_t := goodIn_r _ [12, 4, 5, 6, 7, 8, 1, 13, 14, 15, 37, 38, 39, 40, 41, 42, 43, 44, 45, 46, 47, 48, 49, 50, 51, 52, 53, 54, 55, 56, 57, 58, 59, 60, 61, 62] (by decide +kernel) (by decide +kernel)
set_option maxRecDepth 20000 in
theorem gX9_fractions_X9_t : GoodIn wsX9_fractions (wsV RX9 117 RX9 yX9_t wsX9_t) := goodIn_app (goodIn_of _ (by decide +kernel)) ggX9_fractions_X9_t
set_option maxRecDepth 20000 in
theorem ggX9_fractions_X9_is : GoodIn wsX9_fractions wsX9_is := goodIn_r _ [19, 20, 21, 3, 37, 38, 39, 40, 41, 42, 43, 44, 45, 46, 47, 48, 49, 50, 51, 52, 53, 54, 55, 56, 57, 58, 59, 60, 61, 62] (by decide +kernel) (by decide +kernel)
set_option maxRecDepth 20000 in
theorem gX9_fractions_X9_is : GoodIn wsX9_fractions (wsV RX9 124 RX9 yX9_is wsX9_is) := goodIn_app (goodIn_of _ (by decide +kernel)) ggX9_fractions_X9_is
set_option maxRecDepth 20000 in
theorem ggX9_fractions_X9_also : GoodIn wsX9_fractions wsX9_also := goodIn_r _ [25, 26, 27, 37, 38, 39, 40, 41, 42, 43, 44, 45, 46, 47, 48, 49, 50, 51, 52, 53, 54, 55, 56, 57, 58, 59, 60, 61, 62] (by decide +kernel) (by decide +kernel)
set_option maxRecDepth 20000 in
theorem gX9_fractions_X9_also : GoodIn wsX9_fractions (wsV RX9 91 RX9 yX9_also wsX9_also) := goodIn_app (goodIn_of _ (by decide +kernel)) ggX9_fractions_X9_also
set_option maxRecDepth 20000 in
theorem ggX9_fractions_X9_reckons : GoodIn wsX9_fractions wsX9_reckons := goodIn_r _ [31, 20, 21, 3, 32, 33, 34, 7, 35, 36, 9, 10, 11, 12, 4, 5, 6, 8, 1, 13, 14, 15, 22, 23, 24, 25, 26, 27, 37, 38, 39, 40, 41, 42, 43, 44, 45, 46, 47, 48, 49, 50, 51, 52, 53, 54, 55, 56, 57, 58, 59, 60, 61, 62] (by decide +kernel) (by decide +kernel)
set_option maxRecDepth 20000 in
theorem gX9_fractions_X9_reckons : GoodIn wsX9_fractions (wsV RX9 135 RX9 yX9_reckons wsX9_reckons) := goodIn_app (goodIn_of _ (by decide +kernel)) ggX9_fractions_X9_reckons
set_option maxRecDepth 20000 in
theorem ggX9_fractions_X9_fraction : GoodIn wsX9_fractions wsX9_fraction := goodIn_r _ [35, 20, 36, 37, 38, 39, 40, 41, 42, 43, 44, 45, 46, 47, 48, 49, 50, 51, 52, 53, 54, 55, 56, 57, 58, 59, 60, 61, 62] (by decide +kernel) (by decide +kernel)
set_option maxRecDepth 20000 in
theorem gX9_fractions_X9_fraction : GoodIn wsX9_fractions (wsV RX9 131 RX9 yX9_fraction wsX9_fraction) := goodIn_app (goodIn_of _ (by decide +kernel)) ggX9_fractions_X9_fraction
theorem dX9_fractions_0 : decode cX9_fractions 0 = .ok (.aload_n 0, 1) := by decide +kernel
theorem dX9_fractions_1 : decode cX9_fractions 1 = .ok (.bipush 21, 2) := by decide +kernel
theorem dX9_fractions_3 : decode cX9_fractions 3 = .ok (.invokevirtual 61, 3) := by decide +kernel
theorem dX9_fractions_6 : decode cX9_fractions 6 = .ok (.istore_n 1, 1) := by decide +kernel
theorem dX9_fractions_7 : decode cX9_fractions 7 = .ok (.aload_n 0, 1) := by decide +kernel
theorem dX9_fractions_8 : decode cX9_fractions 8 = .ok (.bipush 11, 2) := by decide +kernel
theorem dX9_fractions_10 : decode cX9_fractions 10 = .ok (.invokevirtual 61, 3) := by decide +kernel
theorem dX9_fractions_13 : decode cX9_fractions 13 = .ok (.istore_n 2, 1) := by decide +kernel
theorem dX9_fractions_14 : decode cX9_fractions 14 = .ok (.iload_n 1, 1) := by decide +kernel
theorem dX9_fractions_15 : decode cX9_fractions 15 = .ok (.ifCond .ne 21, 3) := by decide +kernel
theorem dX9_fractions_18 : decode cX9_fractions 18 = .ok (.aload_n 0, 1) := by decide +kernel
theorem dX9_fractions_19 : decode cX9_fractions 19 = .ok (.iconst 0, 1) := by decide +kernel
theorem dX9_fractions_20 : decode cX9_fractions 20 = .ok (.lconst 1, 1) := by decide +kernel
theorem dX9_fractions_21 : decode cX9_fractions 21 = .ok (.bipush 32, 2) := by decide +kernel
theorem dX9_fractions_23 : decode cX9_fractions 23 = .ok (.iload_n 2, 1) := by decide +kernel
theorem dX9_fractions_24 : decode cX9_fractions 24 = .ok (.iadd, 1) := by decide +kernel
theorem dX9_fractions_25 : decode cX9_fractions 25 = .ok (.lshl, 1) := by decide +kernel
theorem dX9_fractions_26 : decode cX9_fractions 26 = .ok (.aload_n 0, 1) := by decide +kernel
theorem dX9_fractions_27 : decode cX9_fractions 27 = .ok (.invokevirtual 117, 3) := by decide +kernel
theorem dX9_fractions_30 : decode cX9_fractions 30 = .ok (.invokevirtual 124, 3) := by decide +kernel
theorem dX9_fractions_33 : decode cX9_fractions 33 = .ok (.goto 194, 3) := by decide +kernel
theorem dX9_fractions_36 : decode cX9_fractions 36 = .ok (.iload_n 1, 1) := by decide +kernel
theorem dX9_fractions_37 : decode cX9_fractions 37 = .ok (.iconst 4, 1) := by decide +kernel
theorem dX9_fractions_38 : decode cX9_fractions 38 = .ok (.if_icmp .ne 21, 3) := by decide +kernel
theorem dX9_fractions_41 : decode cX9_fractions 41 = .ok (.aload_n 0, 1) := by decide +kernel
theorem dX9_fractions_42 : decode cX9_fractions 42 = .ok (.iconst 0, 1) := by decide +kernel
theorem dX9_fractions_43 : decode cX9_fractions 43 = .ok (.aload_n 0, 1) := by decide +kernel
theorem dX9_fractions_44 : decode cX9_fractions 44 = .ok (.invokevirtual 117, 3) := by decide +kernel
theorem dX9_fractions_47 : decode cX9_fractions 47 = .ok (.lconst 1, 1) := by decide +kernel
theorem dX9_fractions_48 : decode cX9_fractions 48 = .ok (.bipush 32, 2) := by decide +kernel
theorem dX9_fractions_50 : decode cX9_fractions 50 = .ok (.iload_n 2, 1) := by decide +kernel
theorem dX9_fractions_51 : decode cX9_fractions 51 = .ok (.iadd, 1) := by decide +kernel
theorem dX9_fractions_52 : decode cX9_fractions 52 = .ok (.lshl, 1) := by decide +kernel
theorem dX9_fractions_53 : decode cX9_fractions 53 = .ok (.invokevirtual 124, 3) := by decide +kernel
theorem dX9_fractions_56 : decode cX9_fractions 56 = .ok (.goto 171, 3) := by decide +kernel
theorem dX9_fractions_59 : decode cX9_fractions 59 = .ok (.iload_n 1, 1) := by decide +kernel
theorem dX9_fractions_60 : decode cX9_fractions 60 = .ok (.bipush 8, 2) := by decide +kernel
theorem dX9_fractions_62 : decode cX9_fractions 62 = .ok (.if_icmp .ne 42, 3) := by decide +kernel
theorem dX9_fractions_65 : decode cX9_fractions 65 = .ok (.aload_n 0, 1) := by decide +kernel
theorem dX9_fractions_66 : decode cX9_fractions 66 = .ok (.bipush 7, 2) := by decide +kernel
theorem dX9_fractions_68 : decode cX9_fractions 68 = .ok (.lconst 0, 1) := by decide +kernel
theorem dX9_fractions_69 : decode cX9_fractions 69 = .ok (.lconst 0, 1) := by decide +kernel
theorem dX9_fractions_70 : decode cX9_fractions 70 = .ok (.invokevirtual 124, 3) := by decide +kernel
theorem dX9_fractions_73 : decode cX9_fractions 73 = .ok (.aload_n 0, 1) := by decide +kernel
theorem dX9_fractions_74 : decode cX9_fractions 74 = .ok (.aload_n 0, 1) := by decide +kernel
theorem dX9_fractions_75 : decode cX9_fractions 75 = .ok (.getfield 58, 3) := by decide +kernel
theorem dX9_fractions_78 : decode cX9_fractions 78 = .ok (.bipush 17, 2) := by decide +kernel
theorem dX9_fractions_80 : decode cX9_fractions 80 = .ok (.iushr, 1) := by decide +kernel
theorem dX9_fractions_81 : decode cX9_fractions 81 = .ok (.iconst 1, 1) := by decide +kernel
theorem dX9_fractions_82 : decode cX9_fractions 82 = .ok (.iand, 1) := by decide +kernel
theorem dX9_fractions_83 : decode cX9_fractions 83 = .ok (.iconst 1, 1) := by decide +kernel
theorem dX9_fractions_84 : decode cX9_fractions 84 = .ok (.if_icmp .ne 7, 3) := by decide +kernel
theorem dX9_fractions_87 : decode cX9_fractions 87 = .ok (.iconst 1, 1) := by decide +kernel
theorem dX9_fractions_88 : decode cX9_fractions 88 = .ok (.goto 4, 3) := by decide +kernel
theorem dX9_fractions_91 : decode cX9_fractions 91 = .ok (.iconst 0, 1) := by decide +kernel
theorem dX9_fractions_92 : decode cX9_fractions 92 = .ok (.putfield 87, 3) := by decide +kernel
theorem dX9_fractions_95 : decode cX9_fractions 95 = .ok (.aload_n 0, 1) := by decide +kernel
theorem dX9_fractions_96 : decode cX9_fractions 96 = .ok (.iconst 1, 1) := by decide +kernel
theorem dX9_fractions_97 : decode cX9_fractions 97 = .ok (.iconst 0, 1) := by decide +kernel
theorem dX9_fractions_98 : decode cX9_fractions 98 = .ok (.invokevirtual 91, 3) := by decide +kernel
theorem dX9_fractions_101 : decode cX9_fractions 101 = .ok (.goto 126, 3) := by decide +kernel
theorem dX9_fractions_104 : decode cX9_fractions 104 = .ok (.iload_n 1, 1) := by decide +kernel
theorem dX9_fractions_105 : decode cX9_fractions 105 = .ok (.bipush 16, 2) := by decide +kernel
theorem dX9_fractions_107 : decode cX9_fractions 107 = .ok (.if_icmp .eq 9, 3) := by decide +kernel
theorem dX9_fractions_110 : decode cX9_fractions 110 = .ok (.iload_n 1, 1) := by decide +kernel
theorem dX9_fractions_111 : decode cX9_fractions 111 = .ok (.bipush 17, 2) := by decide +kernel
theorem dX9_fractions_113 : decode cX9_fractions 113 = .ok (.if_icmp .ne 41, 3) := by decide +kernel
theorem dX9_fractions_116 : decode cX9_fractions 116 = .ok (.aload_n 0, 1) := by decide +kernel
theorem dX9_fractions_117 : decode cX9_fractions 117 = .ok (.aload_n 0, 1) := by decide +kernel
theorem dX9_fractions_118 : decode cX9_fractions 118 = .ok (.getfield 58, 3) := by decide +kernel
theorem dX9_fractions_121 : decode cX9_fractions 121 = .ok (.bipush 63, 2) := by decide +kernel
theorem dX9_fractions_123 : decode cX9_fractions 123 = .ok (.iand, 1) := by decide +kernel
theorem dX9_fractions_124 : decode cX9_fractions 124 = .ok (.iload_n 1, 1) := by decide +kernel
theorem dX9_fractions_125 : decode cX9_fractions 125 = .ok (.bipush 17, 2) := by decide +kernel
theorem dX9_fractions_127 : decode cX9_fractions 127 = .ok (.if_icmp .ne 7, 3) := by decide +kernel
theorem dX9_fractions_130 : decode cX9_fractions 130 = .ok (.iconst 1, 1) := by decide +kernel
theorem dX9_fractions_131 : decode cX9_fractions 131 = .ok (.goto 4, 3) := by decide +kernel
theorem dX9_fractions_134 : decode cX9_fractions 134 = .ok (.iconst 0, 1) := by decide +kernel
theorem dX9_fractions_135 : decode cX9_fractions 135 = .ok (.iload_n 2, 1) := by decide +kernel
theorem dX9_fractions_136 : decode cX9_fractions 136 = .ok (.aload_n 0, 1) := by decide +kernel
theorem dX9_fractions_137 : decode cX9_fractions 137 = .ok (.bipush 16, 2) := by decide +kernel
theorem dX9_fractions_139 : decode cX9_fractions 139 = .ok (.invokevirtual 61, 3) := by decide +kernel
theorem dX9_fractions_142 : decode cX9_fractions 142 = .ok (.aload_n 0, 1) := by decide +kernel
theorem dX9_fractions_143 : decode cX9_fractions 143 = .ok (.bipush 6, 2) := by decide +kernel
theorem dX9_fractions_145 : decode cX9_fractions 145 = .ok (.invokevirtual 61, 3) := by decide +kernel
theorem dX9_fractions_148 : decode cX9_fractions 148 = .ok (.invokevirtual 135, 3) := by decide +kernel
theorem dX9_fractions_151 : decode cX9_fractions 151 = .ok (.goto 76, 3) := by decide +kernel
theorem dX9_fractions_154 : decode cX9_fractions 154 = .ok (.iload_n 1, 1) := by decide +kernel
theorem dX9_fractions_155 : decode cX9_fractions 155 = .ok (.bipush 20, 2) := by decide +kernel
theorem dX9_fractions_157 : decode cX9_fractions 157 = .ok (.if_icmp .ne 70, 3) := by decide +kernel
theorem dX9_fractions_160 : decode cX9_fractions 160 = .ok (.aload_n 0, 1) := by decide +kernel
theorem dX9_fractions_161 : decode cX9_fractions 161 = .ok (.getfield 58, 3) := by decide +kernel
theorem dX9_fractions_164 : decode cX9_fractions 164 = .ok (.bipush 63, 2) := by decide +kernel
theorem dX9_fractions_166 : decode cX9_fractions 166 = .ok (.iand, 1) := by decide +kernel
theorem dX9_fractions_167 : decode cX9_fractions 167 = .ok (.bipush 32, 2) := by decide +kernel
theorem dX9_fractions_169 : decode cX9_fractions 169 = .ok (.if_icmp .eq 15, 3) := by decide +kernel
theorem dX9_fractions_172 : decode cX9_fractions 172 = .ok (.aload_n 0, 1) := by decide +kernel
theorem dX9_fractions_173 : decode cX9_fractions 173 = .ok (.getfield 58, 3) := by decide +kernel
theorem dX9_fractions_176 : decode cX9_fractions 176 = .ok (.bipush 63, 2) := by decide +kernel
theorem dX9_fractions_178 : decode cX9_fractions 178 = .ok (.iand, 1) := by decide +kernel
theorem dX9_fractions_179 : decode cX9_fractions 179 = .ok (.bipush 33, 2) := by decide +kernel
theorem dX9_fractions_181 : decode cX9_fractions 181 = .ok (.if_icmp .ne 46, 3) := by decide +kernel
theorem dX9_fractions_184 : decode cX9_fractions 184 = .ok (.aload_n 0, 1) := by decide +kernel
theorem dX9_fractions_185 : decode cX9_fractions 185 = .ok (.iconst 5, 1) := by decide +kernel
theorem dX9_fractions_186 : decode cX9_fractions 186 = .ok (.lconst 1, 1) := by decide +kernel
theorem dX9_fractions_187 : decode cX9_fractions 187 = .ok (.bipush 32, 2) := by decide +kernel
theorem dX9_fractions_189 : decode cX9_fractions 189 = .ok (.iload_n 2, 1) := by decide +kernel
theorem dX9_fractions_190 : decode cX9_fractions 190 = .ok (.iadd, 1) := by decide +kernel
theorem dX9_fractions_191 : decode cX9_fractions 191 = .ok (.lshl, 1) := by decide +kernel
theorem dX9_fractions_192 : decode cX9_fractions 192 = .ok (.lconst 0, 1) := by decide +kernel
theorem dX9_fractions_193 : decode cX9_fractions 193 = .ok (.invokevirtual 124, 3) := by decide +kernel
theorem dX9_fractions_196 : decode cX9_fractions 196 = .ok (.aload_n 0, 1) := by decide +kernel
theorem dX9_fractions_197 : decode cX9_fractions 197 = .ok (.aload_n 0, 1) := by decide +kernel
theorem dX9_fractions_198 : decode cX9_fractions 198 = .ok (.aload_n 0, 1) := by decide +kernel
theorem dX9_fractions_199 : decode cX9_fractions 199 = .ok (.bipush 6, 2) := by decide +kernel
theorem dX9_fractions_201 : decode cX9_fractions 201 = .ok (.invokevirtual 61, 3) := by decide +kernel
theorem dX9_fractions_204 : decode cX9_fractions 204 = .ok (.aload_n 0, 1) := by decide +kernel
theorem dX9_fractions_205 : decode cX9_fractions 205 = .ok (.getfield 58, 3) := by decide +kernel
theorem dX9_fractions_208 : decode cX9_fractions 208 = .ok (.bipush 63, 2) := by decide +kernel
theorem dX9_fractions_210 : decode cX9_fractions 210 = .ok (.iand, 1) := by decide +kernel
theorem dX9_fractions_211 : decode cX9_fractions 211 = .ok (.bipush 33, 2) := by decide +kernel
theorem dX9_fractions_213 : decode cX9_fractions 213 = .ok (.if_icmp .ne 7, 3) := by decide +kernel
theorem dX9_fractions_216 : decode cX9_fractions 216 = .ok (.iconst 1, 1) := by decide +kernel
theorem dX9_fractions_217 : decode cX9_fractions 217 = .ok (.goto 4, 3) := by decide +kernel
theorem dX9_fractions_220 : decode cX9_fractions 220 = .ok (.iconst 0, 1) := by decide +kernel
theorem dX9_fractions_221 : decode cX9_fractions 221 = .ok (.invokevirtual 131, 3) := by decide +kernel
theorem dX9_fractions_224 : decode cX9_fractions 224 = .ok (.putfield 76, 3) := by decide +kernel
theorem dX9_fractions_227 : decode cX9_fractions 227 = .ok (.return_, 1) := by decide +kernel
set_option maxRecDepth 20000 in
theorem ggX9_reckons_X9_fraction : GoodIn wsX9_reckons wsX9_fraction := goodIn_r _ [8, 1, 9, 28, 29, 30, 31, 32, 33, 34, 35, 36, 37, 38, 39, 40, 41, 42, 43, 44, 45, 46, 47, 48, 49, 50, 51, 52, 53] (by decide +kernel) (by decide +kernel)
set_option maxRecDepth 20000 in
theorem gX9_reckons_X9_fraction : GoodIn wsX9_reckons (wsV RX9 131 RX9 yX9_fraction wsX9_fraction) := goodIn_app (goodIn_of _ (by decide +kernel)) ggX9_reckons_X9_fraction
set_option maxRecDepth 20000 in
theorem ggX9_reckons_X9_t : GoodIn wsX9_reckons wsX9_t := goodIn_r _ [13, 14, 15, 16, 7, 17, 18, 19, 20, 21, 28, 29, 30, 31, 32, 33, 34, 35, 36, 37, 38, 39, 40, 41, 42, 43, 44, 45, 46, 47, 48, 49, 50, 51, 52, 53] (by decide +kernel) (by decide +kernel)
set_option maxRecDepth 20000 in
theorem gX9_reckons_X9_t : GoodIn wsX9_reckons (wsV RX9 117 RX9 yX9_t wsX9_t) := goodIn_app (goodIn_of _ (by decide +kernel)) ggX9_reckons_X9_t
set_option maxRecDepth 20000 in
theorem ggX9_reckons_X9_also : GoodIn wsX9_reckons wsX9_also := goodIn_r _ [25, 26, 27, 28, 29, 30, 31, 32, 33, 34, 35, 36, 37, 38, 39, 40, 41, 42, 43, 44, 45, 46, 47, 48, 49, 50, 51, 52, 53] (by decide +kernel) (by decide +kernel)
set_option maxRecDepth 20000 in
theorem gX9_reckons_X9_also : GoodIn wsX9_reckons (wsV RX9 91 RX9 yX9_also wsX9_also) := goodIn_app (goodIn_of _ (by decide +kernel)) ggX9_reckons_X9_also
theorem dX9_reckons_0 : decode cX9_reckons 0 = .ok (.iload_n 1, 1) := by decide +kernel
theorem dX9_reckons_1 : decode cX9_reckons 1 = .ok (.iconst 4, 1) := by decide +kernel
theorem dX9_reckons_2 : decode cX9_reckons 2 = .ok (.if_icmp .ge 50, 3) := by decide +kernel
theorem dX9_reckons_5 : decode cX9_reckons 5 = .ok (.aload_n 0, 1) := by decide +kernel
theorem dX9_reckons_6 : decode cX9_reckons 6 = .ok (.iload_n 1, 1) := by decide +kernel
theorem dX9_reckons_7 : decode cX9_reckons 7 = .ok (.iconst 3, 1) := by decide +kernel
theorem dX9_reckons_8 : decode cX9_reckons 8 = .ok (.if_icmp .ne 8, 3) := by decide +kernel
theorem dX9_reckons_11 : decode cX9_reckons 11 = .ok (.bipush 6, 2) := by decide +kernel
theorem dX9_reckons_13 : decode cX9_reckons 13 = .ok (.goto 4, 3) := by decide +kernel

theorem dX9_reckons_16 : decode cX9_reckons 16 = .ok (.iconst 5, 1) := by decide +kernel
theorem dX9_reckons_17 : decode cX9_reckons 17 = .ok (.putfield 69, 3) := by decide +kernel
theorem dX9_reckons_20 : decode cX9_reckons 20 = .ok (.aload_n 0, 1) := by decide +kernel
theorem dX9_reckons_21 : decode cX9_reckons 21 = .ok (.aload_n 0, 1) := by decide +kernel
theorem dX9_reckons_22 : decode cX9_reckons 22 = .ok (.iload_n 3, 1) := by decide +kernel
theorem dX9_reckons_23 : decode cX9_reckons 23 = .ok (.iload_n 2, 1) := by decide +kernel
theorem dX9_reckons_24 : decode cX9_reckons 24 = .ok (.invokevirtual 131, 3) := by decide +kernel
theorem dX9_reckons_27 : decode cX9_reckons 27 = .ok (.aload_n 0, 1) := by decide +kernel
theorem dX9_reckons_28 : decode cX9_reckons 28 = .ok (.iload 4, 2) := by decide +kernel
theorem dX9_reckons_30 : decode cX9_reckons 30 = .ok (.iload_n 2, 1) := by decide +kernel
theorem dX9_reckons_31 : decode cX9_reckons 31 = .ok (.invokevirtual 131, 3) := by decide +kernel
theorem dX9_reckons_34 : decode cX9_reckons 34 = .ok (.lor, 1) := by decide +kernel
theorem dX9_reckons_35 : decode cX9_reckons 35 = .ok (.putfield 72, 3) := by decide +kernel
theorem dX9_reckons_38 : decode cX9_reckons 38 = .ok (.aload_n 0, 1) := by decide +kernel
theorem dX9_reckons_39 : decode cX9_reckons 39 = .ok (.aload_n 0, 1) := by decide +kernel
theorem dX9_reckons_40 : decode cX9_reckons 40 = .ok (.iload 5, 2) := by decide +kernel
theorem dX9_reckons_42 : decode cX9_reckons 42 = .ok (.iload_n 2, 1) := by decide +kernel
theorem dX9_reckons_43 : decode cX9_reckons 43 = .ok (.invokevirtual 131, 3) := by decide +kernel
theorem dX9_reckons_46 : decode cX9_reckons 46 = .ok (.putfield 76, 3) := by decide +kernel
theorem dX9_reckons_49 : decode cX9_reckons 49 = .ok (.goto 217, 3) := by decide +kernel
theorem dX9_reckons_52 : decode cX9_reckons 52 = .ok (.iload_n 1, 1) := by decide +kernel
theorem dX9_reckons_53 : decode cX9_reckons 53 = .ok (.bipush 8, 2) := by decide +kernel
theorem dX9_reckons_55 : decode cX9_reckons 55 = .ok (.if_icmp .lt 41, 3) := by decide +kernel
theorem dX9_reckons_58 : decode cX9_reckons 58 = .ok (.iload_n 1, 1) := by decide +kernel
theorem dX9_reckons_59 : decode cX9_reckons 59 = .ok (.bipush 12, 2) := by decide +kernel
theorem dX9_reckons_61 : decode cX9_reckons 61 = .ok (.if_icmp .lt 9, 3) := by decide +kernel
theorem dX9_reckons_64 : decode cX9_reckons 64 = .ok (.iload_n 1, 1) := by decide +kernel
theorem dX9_reckons_65 : decode cX9_reckons 65 = .ok (.bipush 16, 2) := by decide +kernel
theorem dX9_reckons_67 : decode cX9_reckons 67 = .ok (.if_icmp .lt 29, 3) := by decide +kernel
theorem dX9_reckons_70 : decode cX9_reckons 70 = .ok (.iload_n 1, 1) := by decide +kernel
theorem dX9_reckons_71 : decode cX9_reckons 71 = .ok (.bipush 36, 2) := by decide +kernel
theorem dX9_reckons_73 : decode cX9_reckons 73 = .ok (.if_icmp .eq 23, 3) := by decide +kernel
theorem dX9_reckons_76 : decode cX9_reckons 76 = .ok (.iload_n 1, 1) := by decide +kernel
theorem dX9_reckons_77 : decode cX9_reckons 77 = .ok (.bipush 32, 2) := by decide +kernel
theorem dX9_reckons_79 : decode cX9_reckons 79 = .ok (.if_icmp .ne 7, 3) := by decide +kernel
theorem dX9_reckons_82 : decode cX9_reckons 82 = .ok (.iload_n 2, 1) := by decide +kernel
theorem dX9_reckons_83 : decode cX9_reckons 83 = .ok (.ifCond .ne 13, 3) := by decide +kernel
theorem dX9_reckons_86 : decode cX9_reckons 86 = .ok (.iload_n 1, 1) := by decide +kernel
theorem dX9_reckons_87 : decode cX9_reckons 87 = .ok (.bipush 33, 2) := by decide +kernel
theorem dX9_reckons_89 : decode cX9_reckons 89 = .ok (.if_icmp .ne 66, 3) := by decide +kernel
theorem dX9_reckons_92 : decode cX9_reckons 92 = .ok (.iload_n 2, 1) := by decide +kernel
theorem dX9_reckons_93 : decode cX9_reckons 93 = .ok (.ifCond .ne 62, 3) := by decide +kernel
theorem dX9_reckons_96 : decode cX9_reckons 96 = .ok (.aload_n 0, 1) := by decide +kernel
theorem dX9_reckons_97 : decode cX9_reckons 97 = .ok (.iload_n 1, 1) := by decide +kernel
theorem dX9_reckons_98 : decode cX9_reckons 98 = .ok (.iconst 4, 1) := by decide +kernel
theorem dX9_reckons_99 : decode cX9_reckons 99 = .ok (.if_icmp .ne 8, 3) := by decide +kernel
theorem dX9_reckons_102 : decode cX9_reckons 102 = .ok (.bipush 6, 2) := by decide +kernel
theorem dX9_reckons_104 : decode cX9_reckons 104 = .ok (.goto 4, 3) := by decide +kernel
theorem dX9_reckons_107 : decode cX9_reckons 107 = .ok (.iconst 5, 1) := by decide +kernel
theorem dX9_reckons_108 : decode cX9_reckons 108 = .ok (.putfield 69, 3) := by decide +kernel
theorem dX9_reckons_111 : decode cX9_reckons 111 = .ok (.aload_n 0, 1) := by decide +kernel
theorem dX9_reckons_112 : decode cX9_reckons 112 = .ok (.aload_n 0, 1) := by decide +kernel
theorem dX9_reckons_113 : decode cX9_reckons 113 = .ok (.iload_n 3, 1) := by decide +kernel
theorem dX9_reckons_114 : decode cX9_reckons 114 = .ok (.iload_n 2, 1) := by decide +kernel
theorem dX9_reckons_115 : decode cX9_reckons 115 = .ok (.invokevirtual 131, 3) := by decide +kernel
theorem dX9_reckons_118 : decode cX9_reckons 118 = .ok (.putfield 72, 3) := by decide +kernel
theorem dX9_reckons_121 : decode cX9_reckons 121 = .ok (.aload_n 0, 1) := by decide +kernel
theorem dX9_reckons_122 : decode cX9_reckons 122 = .ok (.aload_n 0, 1) := by decide +kernel
theorem dX9_reckons_123 : decode cX9_reckons 123 = .ok (.iload 5, 2) := by decide +kernel
theorem dX9_reckons_125 : decode cX9_reckons 125 = .ok (.iload_n 1, 1) := by decide +kernel
theorem dX9_reckons_126 : decode cX9_reckons 126 = .ok (.bipush 8, 2) := by decide +kernel
theorem dX9_reckons_128 : decode cX9_reckons 128 = .ok (.if_icmp .ge 7, 3) := by decide +kernel
theorem dX9_reckons_131 : decode cX9_reckons 131 = .ok (.iload_n 2, 1) := by decide +kernel
theorem dX9_reckons_132 : decode cX9_reckons 132 = .ok (.ifCond .ne 9, 3) := by decide +kernel
theorem dX9_reckons_135 : decode cX9_reckons 135 = .ok (.iload_n 1, 1) := by decide +kernel
theorem dX9_reckons_136 : decode cX9_reckons 136 = .ok (.bipush 33, 2) := by decide +kernel
theorem dX9_reckons_138 : decode cX9_reckons 138 = .ok (.if_icmp .ne 7, 3) := by decide +kernel
theorem dX9_reckons_141 : decode cX9_reckons 141 = .ok (.iconst 1, 1) := by decide +kernel
theorem dX9_reckons_142 : decode cX9_reckons 142 = .ok (.goto 4, 3) := by decide +kernel
theorem dX9_reckons_145 : decode cX9_reckons 145 = .ok (.iconst 0, 1) := by decide +kernel
theorem dX9_reckons_146 : decode cX9_reckons 146 = .ok (.invokevirtual 131, 3) := by decide +kernel
theorem dX9_reckons_149 : decode cX9_reckons 149 = .ok (.putfield 76, 3) := by decide +kernel
theorem dX9_reckons_152 : decode cX9_reckons 152 = .ok (.goto 114, 3) := by decide +kernel
theorem dX9_reckons_155 : decode cX9_reckons 155 = .ok (.iload_n 1, 1) := by decide +kernel
theorem dX9_reckons_156 : decode cX9_reckons 156 = .ok (.bipush 17, 2) := by decide +kernel
theorem dX9_reckons_158 : decode cX9_reckons 158 = .ok (.if_icmp .lt 73, 3) := by decide +kernel
theorem dX9_reckons_161 : decode cX9_reckons 161 = .ok (.iload_n 1, 1) := by decide +kernel
theorem dX9_reckons_162 : decode cX9_reckons 162 = .ok (.bipush 20, 2) := by decide +kernel
theorem dX9_reckons_164 : decode cX9_reckons 164 = .ok (.if_icmp .ge 67, 3) := by decide +kernel
theorem dX9_reckons_167 : decode cX9_reckons 167 = .ok (.aload_n 0, 1) := by decide +kernel
theorem dX9_reckons_168 : decode cX9_reckons 168 = .ok (.iconst 5, 1) := by decide +kernel
theorem dX9_reckons_169 : decode cX9_reckons 169 = .ok (.putfield 69, 3) := by decide +kernel
theorem dX9_reckons_172 : decode cX9_reckons 172 = .ok (.aload_n 0, 1) := by decide +kernel
theorem dX9_reckons_173 : decode cX9_reckons 173 = .ok (.aload_n 0, 1) := by decide +kernel
theorem dX9_reckons_174 : decode cX9_reckons 174 = .ok (.iload_n 3, 1) := by decide +kernel
theorem dX9_reckons_175 : decode cX9_reckons 175 = .ok (.iload_n 2, 1) := by decide +kernel
theorem dX9_reckons_176 : decode cX9_reckons 176 = .ok (.invokevirtual 131, 3) := by decide +kernel
theorem dX9_reckons_179 : decode cX9_reckons 179 = .ok (.aload_n 0, 1) := by decide +kernel
theorem dX9_reckons_180 : decode cX9_reckons 180 = .ok (.iload 5, 2) := by decide +kernel
theorem dX9_reckons_182 : decode cX9_reckons 182 = .ok (.iload_n 2, 1) := by decide +kernel
theorem dX9_reckons_183 : decode cX9_reckons 183 = .ok (.invokevirtual 131, 3) := by decide +kernel
theorem dX9_reckons_186 : decode cX9_reckons 186 = .ok (.lor, 1) := by decide +kernel
theorem dX9_reckons_187 : decode cX9_reckons 187 = .ok (.iload_n 1, 1) := by decide +kernel
theorem dX9_reckons_188 : decode cX9_reckons 188 = .ok (.bipush 17, 2) := by decide +kernel
theorem dX9_reckons_190 : decode cX9_reckons 190 = .ok (.if_icmp .le 10, 3) := by decide +kernel
theorem dX9_reckons_193 : decode cX9_reckons 193 = .ok (.aload_n 0, 1) := by decide +kernel
theorem dX9_reckons_194 : decode cX9_reckons 194 = .ok (.invokevirtual 117, 3) := by decide +kernel
theorem dX9_reckons_197 : decode cX9_reckons 197 = .ok (.goto 4, 3) := by decide +kernel
theorem dX9_reckons_200 : decode cX9_reckons 200 = .ok (.lconst 0, 1) := by decide +kernel
theorem dX9_reckons_201 : decode cX9_reckons 201 = .ok (.lor, 1) := by decide +kernel
theorem dX9_reckons_202 : decode cX9_reckons 202 = .ok (.putfield 72, 3) := by decide +kernel
theorem dX9_reckons_205 : decode cX9_reckons 205 = .ok (.aload_n 0, 1) := by decide +kernel
theorem dX9_reckons_206 : decode cX9_reckons 206 = .ok (.aload_n 0, 1) := by decide +kernel
theorem dX9_reckons_207 : decode cX9_reckons 207 = .ok (.iload 5, 2) := by decide +kernel
theorem dX9_reckons_209 : decode cX9_reckons 209 = .ok (.iload_n 2, 1) := by decide +kernel
theorem dX9_reckons_210 : decode cX9_reckons 210 = .ok (.invokevirtual 131, 3) := by decide +kernel
theorem dX9_reckons_213 : decode cX9_reckons 213 = .ok (.putfield 76, 3) := by decide +kernel
theorem dX9_reckons_216 : decode cX9_reckons 216 = .ok (.iload_n 1, 1) := by decide +kernel
theorem dX9_reckons_217 : decode cX9_reckons 217 = .ok (.bipush 17, 2) := by decide +kernel
theorem dX9_reckons_219 : decode cX9_reckons 219 = .ok (.if_icmp .ne 47, 3) := by decide +kernel
theorem dX9_reckons_222 : decode cX9_reckons 222 = .ok (.aload_n 0, 1) := by decide +kernel
theorem dX9_reckons_223 : decode cX9_reckons 223 = .ok (.iconst 1, 1) := by decide +kernel
theorem dX9_reckons_224 : decode cX9_reckons 224 = .ok (.iconst 0, 1) := by decide +kernel
theorem dX9_reckons_225 : decode cX9_reckons 225 = .ok (.invokevirtual 91, 3) := by decide +kernel
theorem dX9_reckons_228 : decode cX9_reckons 228 = .ok (.goto 38, 3) := by decide +kernel
theorem dX9_reckons_231 : decode cX9_reckons 231 = .ok (.iload_n 1, 1) := by decide +kernel
theorem dX9_reckons_232 : decode cX9_reckons 232 = .ok (.bipush 48, 2) := by decide +kernel
theorem dX9_reckons_234 : decode cX9_reckons 234 = .ok (.if_icmp .lt 32, 3) := by decide +kernel
theorem dX9_reckons_237 : decode cX9_reckons 237 = .ok (.aload_n 0, 1) := by decide +kernel
theorem dX9_reckons_238 : decode cX9_reckons 238 = .ok (.iconst 5, 1) := by decide +kernel
theorem dX9_reckons_239 : decode cX9_reckons 239 = .ok (.putfield 69, 3) := by decide +kernel
theorem dX9_reckons_242 : decode cX9_reckons 242 = .ok (.aload_n 0, 1) := by decide +kernel
theorem dX9_reckons_243 : decode cX9_reckons 243 = .ok (.aload_n 0, 1) := by decide +kernel
theorem dX9_reckons_244 : decode cX9_reckons 244 = .ok (.iload_n 3, 1) := by decide +kernel
theorem dX9_reckons_245 : decode cX9_reckons 245 = .ok (.iload_n 2, 1) := by decide +kernel
theorem dX9_reckons_246 : decode cX9_reckons 246 = .ok (.invokevirtual 131, 3) := by decide +kernel
theorem dX9_reckons_249 : decode cX9_reckons 249 = .ok (.aload_n 0, 1) := by decide +kernel
theorem dX9_reckons_250 : decode cX9_reckons 250 = .ok (.iload 4, 2) := by decide +kernel
theorem dX9_reckons_252 : decode cX9_reckons 252 = .ok (.iload_n 2, 1) := by decide +kernel
theorem dX9_reckons_253 : decode cX9_reckons 253 = .ok (.invokevirtual 131, 3) := by decide +kernel
theorem dX9_reckons_256 : decode cX9_reckons 256 = .ok (.lor, 1) := by decide +kernel
theorem dX9_reckons_257 : decode cX9_reckons 257 = .ok (.putfield 72, 3) := by decide +kernel
theorem dX9_reckons_260 : decode cX9_reckons 260 = .ok (.aload_n 0, 1) := by decide +kernel
theorem dX9_reckons_261 : decode cX9_reckons 261 = .ok (.iconst 1, 1) := by decide +kernel
theorem dX9_reckons_262 : decode cX9_reckons 262 = .ok (.iconst 1, 1) := by decide +kernel
theorem dX9_reckons_263 : decode cX9_reckons 263 = .ok (.invokevirtual 91, 3) := by decide +kernel
theorem dX9_reckons_266 : decode cX9_reckons 266 = .ok (.return_, 1) := by decide +kernel
set_option maxRecDepth 20000 in
theorem ggX9_latency_X9_fail : GoodIn wsX9_latency wsX9_fail := goodIn_r _ [7, 1, 8, 9, 10, 11, 12, 13, 14, 15, 16, 17, 18, 19, 20, 21, 22, 23, 24, 25, 26, 27, 28, 29, 30, 31, 32, 33] (by decide +kernel) (by decide +kernel)
set_option maxRecDepth 20000 in
theorem gX9_latency_X9_fail : GoodIn wsX9_latency (wsV RX9 139 RX9 yX9_fail wsX9_fail) := goodIn_app (goodIn_of _ (by decide +kernel)) ggX9_latency_X9_fail
theorem dX9_latency_0 : decode cX9_latency 0 = .ok (.aload_n 0, 1) := by decide +kernel
theorem dX9_latency_1 : decode cX9_latency 1 = .ok (.iconst 0, 1) := by decide +kernel
theorem dX9_latency_2 : decode cX9_latency 2 = .ok (.putfield 54, 3) := by decide +kernel
theorem dX9_latency_5 : decode cX9_latency 5 = .ok (.iload_n 1, 1) := by decide +kernel
theorem dX9_latency_6 : decode cX9_latency 6 = .ok (.ifCond .lt 20, 3) := by decide +kernel
theorem dX9_latency_9 : decode cX9_latency 9 = .ok (.iload_n 1, 1) := by decide +kernel
theorem dX9_latency_10 : decode cX9_latency 10 = .ok (.bipush 6, 2) := by decide +kernel
theorem dX9_latency_12 : decode cX9_latency 12 = .ok (.if_icmp .gt 14, 3) := by decide +kernel
theorem dX9_latency_15 : decode cX9_latency 15 = .ok (.iload_n 2, 1) := by decide +kernel
theorem dX9_latency_16 : decode cX9_latency 16 = .ok (.iconst 1, 1) := by decide +kernel
theorem dX9_latency_17 : decode cX9_latency 17 = .ok (.if_icmp .lt 9, 3) := by decide +kernel
theorem dX9_latency_20 : decode cX9_latency 20 = .ok (.iload_n 2, 1) := by decide +kernel
theorem dX9_latency_21 : decode cX9_latency 21 = .ok (.bipush 40, 2) := by decide +kernel
theorem dX9_latency_23 : decode cX9_latency 23 = .ok (.if_icmp .le 9, 3) := by decide +kernel
theorem dX9_latency_26 : decode cX9_latency 26 = .ok (.aload_n 0, 1) := by decide +kernel
theorem dX9_latency_27 : decode cX9_latency 27 = .ok (.iconst 1, 1) := by decide +kernel
theorem dX9_latency_28 : decode cX9_latency 28 = .ok (.invokevirtual 139, 3) := by decide +kernel
theorem dX9_latency_31 : decode cX9_latency 31 = .ok (.ireturn, 1) := by decide +kernel
theorem dX9_latency_32 : decode cX9_latency 32 = .ok (.aload_n 0, 1) := by decide +kernel
theorem dX9_latency_33 : decode cX9_latency 33 = .ok (.getfield 7, 3) := by decide +kernel
theorem dX9_latency_36 : decode cX9_latency 36 = .ok (.iload_n 1, 1) := by decide +kernel
theorem dX9_latency_37 : decode cX9_latency 37 = .ok (.iaload, 1) := by decide +kernel
theorem dX9_latency_38 : decode cX9_latency 38 = .ok (.istore_n 3, 1) := by decide +kernel
theorem dX9_latency_39 : decode cX9_latency 39 = .ok (.aload_n 0, 1) := by decide +kernel
theorem dX9_latency_40 : decode cX9_latency 40 = .ok (.getfield 7, 3) := by decide +kernel
theorem dX9_latency_43 : decode cX9_latency 43 = .ok (.iload_n 1, 1) := by decide +kernel
theorem dX9_latency_44 : decode cX9_latency 44 = .ok (.iload_n 2, 1) := by decide +kernel
theorem dX9_latency_45 : decode cX9_latency 45 = .ok (.iastore, 1) := by decide +kernel
theorem dX9_latency_46 : decode cX9_latency 46 = .ok (.iload_n 3, 1) := by decide +kernel
theorem dX9_latency_47 : decode cX9_latency 47 = .ok (.ireturn, 1) := by decide +kernel
set_option maxRecDepth 20000 in
theorem ggX9_add_X9_look : GoodIn wsX9_add wsX9_look := goodIn_r _ [21, 22, 2, 8, 10, 16, 23, 24, 25, 20, 26, 12, 14, 27, 28, 29, 30, 31, 32, 33, 34, 35, 36, 37, 38, 39, 40, 41, 42, 43, 44, 45, 46, 47, 48, 49, 50, 51, 52, 53, 54, 55, 56, 57, 58, 59, 60, 61, 62, 63, 64, 65, 66, 67, 68, 69, 70, 71, 72, 73, 74, 75, 76, 77, 78, 79, 80, 81, 82, 83, 84, 85, 86, 91, 92, 93, 94, 95, 96, 97, 98, 99, 100, 101, 102, 103, 104, 105, 106, 107, 108, 109, 110, 111, 112, 113, 114, 115, 116] rfl (by decide +kernel)
set_option maxRecDepth 20000 in
theorem gX9_add_X9_look : GoodIn wsX9_add (wsV RX9 142 RX9 yX9_look wsX9_look) := goodIn_app (goodIn_of _ (by decide +kernel)) ggX9_add_X9_look
set_option maxRecDepth 20000 in
theorem ggX9_add_X9_fail : GoodIn wsX9_add wsX9_fail := goodIn_r _ [90, 1, 91, 92, 93, 94, 95, 96, 97, 98, 99, 100, 101, 102, 103, 104, 105, 106, 107, 108, 109, 110, 111, 112, 113, 114, 115, 116] (by decide +kernel) (by decide +kernel)
set_option maxRecDepth 20000 in
theorem gX9_add_X9_fail : GoodIn wsX9_add (wsV RX9 139 RX9 yX9_fail wsX9_fail) := goodIn_app (goodIn_of _ (by decide +kernel)) ggX9_add_X9_fail
theorem dX9_add_0 : decode cX9_add 0 = .ok (.aload_n 0, 1) := by decide +kernel
theorem dX9_add_1 : decode cX9_add 1 = .ok (.iconst 0, 1) := by decide +kernel
theorem dX9_add_2 : decode cX9_add 2 = .ok (.putfield 54, 3) := by decide +kernel
theorem dX9_add_5 : decode cX9_add 5 = .ok (.aload_n 0, 1) := by decide +kernel
theorem dX9_add_6 : decode cX9_add 6 = .ok (.iload_n 1, 1) := by decide +kernel
theorem dX9_add_7 : decode cX9_add 7 = .ok (.invokevirtual 142, 3) := by decide +kernel
theorem dX9_add_10 : decode cX9_add 10 = .ok (.aload_n 0, 1) := by decide +kernel
theorem dX9_add_11 : decode cX9_add 11 = .ok (.getfield 69, 3) := by decide +kernel
theorem dX9_add_14 : decode cX9_add 14 = .ok (.iconst (-1), 1) := by decide +kernel
theorem dX9_add_15 : decode cX9_add 15 = .ok (.if_icmp .ne 9, 3) := by decide +kernel
theorem dX9_add_18 : decode cX9_add 18 = .ok (.aload_n 0, 1) := by decide +kernel
theorem dX9_add_19 : decode cX9_add 19 = .ok (.iconst 1, 1) := by decide +kernel
theorem dX9_add_20 : decode cX9_add 20 = .ok (.invokevirtual 139, 3) := by decide +kernel
theorem dX9_add_23 : decode cX9_add 23 = .ok (.ireturn, 1) := by decide +kernel
theorem dX9_add_24 : decode cX9_add 24 = .ok (.aload_n 0, 1) := by decide +kernel
theorem dX9_add_25 : decode cX9_add 25 = .ok (.getfield 145, 3) := by decide +kernel
theorem dX9_add_28 : decode cX9_add 28 = .ok (.ifCond .eq 7, 3) := by decide +kernel
theorem dX9_add_31 : decode cX9_add 31 = .ok (.iconst 0, 1) := by decide +kernel
theorem dX9_add_32 : decode cX9_add 32 = .ok (.goto 7, 3) := by decide +kernel
theorem dX9_add_35 : decode cX9_add 35 = .ok (.aload_n 0, 1) := by decide +kernel
theorem dX9_add_36 : decode cX9_add 36 = .ok (.getfield 148, 3) := by decide +kernel
theorem dX9_add_39 : decode cX9_add 39 = .ok (.istore_n 2, 1) := by decide +kernel
theorem dX9_add_40 : decode cX9_add 40 = .ok (.iload_n 2, 1) := by decide +kernel
theorem dX9_add_41 : decode cX9_add 41 = .ok (.bipush 40, 2) := by decide +kernel
theorem dX9_add_43 : decode cX9_add 43 = .ok (.if_icmp .eq 20, 3) := by decide +kernel
theorem dX9_add_46 : decode cX9_add 46 = .ok (.iload_n 2, 1) := by decide +kernel
theorem dX9_add_47 : decode cX9_add 47 = .ok (.ifCond .le 22, 3) := by decide +kernel
theorem dX9_add_50 : decode cX9_add 50 = .ok (.aload_n 0, 1) := by decide +kernel
theorem dX9_add_51 : decode cX9_add 51 = .ok (.getfield 16, 3) := by decide +kernel
theorem dX9_add_54 : decode cX9_add 54 = .ok (.iload_n 2, 1) := by decide +kernel
theorem dX9_add_55 : decode cX9_add 55 = .ok (.iconst 1, 1) := by decide +kernel
theorem dX9_add_56 : decode cX9_add 56 = .ok (.isub, 1) := by decide +kernel
theorem dX9_add_57 : decode cX9_add 57 = .ok (.iaload, 1) := by decide +kernel
theorem dX9_add_58 : decode cX9_add 58 = .ok (.bipush 7, 2) := by decide +kernel
theorem dX9_add_60 : decode cX9_add 60 = .ok (.if_icmp .ne 9, 3) := by decide +kernel
theorem dX9_add_63 : decode cX9_add 63 = .ok (.aload_n 0, 1) := by decide +kernel
theorem dX9_add_64 : decode cX9_add 64 = .ok (.iconst 2, 1) := by decide +kernel
theorem dX9_add_65 : decode cX9_add 65 = .ok (.invokevirtual 139, 3) := by decide +kernel
theorem dX9_add_68 : decode cX9_add 68 = .ok (.ireturn, 1) := by decide +kernel
theorem dX9_add_69 : decode cX9_add 69 = .ok (.aload_n 0, 1) := by decide +kernel
theorem dX9_add_70 : decode cX9_add 70 = .ok (.iconst 0, 1) := by decide +kernel
theorem dX9_add_71 : decode cX9_add 71 = .ok (.putfield 145, 3) := by decide +kernel
theorem dX9_add_74 : decode cX9_add 74 = .ok (.aload_n 0, 1) := by decide +kernel
theorem dX9_add_75 : decode cX9_add 75 = .ok (.getfield 13, 3) := by decide +kernel
theorem dX9_add_78 : decode cX9_add 78 = .ok (.iload_n 2, 1) := by decide +kernel
theorem dX9_add_79 : decode cX9_add 79 = .ok (.iload_n 1, 1) := by decide +kernel
theorem dX9_add_80 : decode cX9_add 80 = .ok (.iastore, 1) := by decide +kernel
theorem dX9_add_81 : decode cX9_add 81 = .ok (.aload_n 0, 1) := by decide +kernel
theorem dX9_add_82 : decode cX9_add 82 = .ok (.getfield 16, 3) := by decide +kernel
theorem dX9_add_85 : decode cX9_add 85 = .ok (.iload_n 2, 1) := by decide +kernel
theorem dX9_add_86 : decode cX9_add 86 = .ok (.aload_n 0, 1) := by decide +kernel
theorem dX9_add_87 : decode cX9_add 87 = .ok (.getfield 69, 3) := by decide +kernel
theorem dX9_add_90 : decode cX9_add 90 = .ok (.iastore, 1) := by decide +kernel
theorem dX9_add_91 : decode cX9_add 91 = .ok (.aload_n 0, 1) := by decide +kernel
theorem dX9_add_92 : decode cX9_add 92 = .ok (.getfield 25, 3) := by decide +kernel
theorem dX9_add_95 : decode cX9_add 95 = .ok (.iload_n 2, 1) := by decide +kernel
theorem dX9_add_96 : decode cX9_add 96 = .ok (.aload_n 0, 1) := by decide +kernel
theorem dX9_add_97 : decode cX9_add 97 = .ok (.getfield 72, 3) := by decide +kernel
theorem dX9_add_100 : decode cX9_add 100 = .ok (.lastore, 1) := by decide +kernel
theorem dX9_add_101 : decode cX9_add 101 = .ok (.aload_n 0, 1) := by decide +kernel
theorem dX9_add_102 : decode cX9_add 102 = .ok (.getfield 29, 3) := by decide +kernel
theorem dX9_add_105 : decode cX9_add 105 = .ok (.iload_n 2, 1) := by decide +kernel
theorem dX9_add_106 : decode cX9_add 106 = .ok (.aload_n 0, 1) := by decide +kernel
theorem dX9_add_107 : decode cX9_add 107 = .ok (.getfield 76, 3) := by decide +kernel
theorem dX9_add_110 : decode cX9_add 110 = .ok (.lastore, 1) := by decide +kernel
theorem dX9_add_111 : decode cX9_add 111 = .ok (.aload_n 0, 1) := by decide +kernel
theorem dX9_add_112 : decode cX9_add 112 = .ok (.getfield 19, 3) := by decide +kernel
theorem dX9_add_115 : decode cX9_add 115 = .ok (.iload_n 2, 1) := by decide +kernel
theorem dX9_add_116 : decode cX9_add 116 = .ok (.aload_n 0, 1) := by decide +kernel
theorem dX9_add_117 : decode cX9_add 117 = .ok (.getfield 79, 3) := by decide +kernel
theorem dX9_add_120 : decode cX9_add 120 = .ok (.iastore, 1) := by decide +kernel
theorem dX9_add_121 : decode cX9_add 121 = .ok (.aload_n 0, 1) := by decide +kernel
theorem dX9_add_122 : decode cX9_add 122 = .ok (.getfield 22, 3) := by decide +kernel
theorem dX9_add_125 : decode cX9_add 125 = .ok (.iload_n 2, 1) := by decide +kernel
theorem dX9_add_126 : decode cX9_add 126 = .ok (.aload_n 0, 1) := by decide +kernel
theorem dX9_add_127 : decode cX9_add 127 = .ok (.getfield 82, 3) := by decide +kernel
theorem dX9_add_130 : decode cX9_add 130 = .ok (.iastore, 1) := by decide +kernel
theorem dX9_add_131 : decode cX9_add 131 = .ok (.aload_n 0, 1) := by decide +kernel
theorem dX9_add_132 : decode cX9_add 132 = .ok (.getfield 32, 3) := by decide +kernel
theorem dX9_add_135 : decode cX9_add 135 = .ok (.iload_n 2, 1) := by decide +kernel
theorem dX9_add_136 : decode cX9_add 136 = .ok (.aload_n 0, 1) := by decide +kernel

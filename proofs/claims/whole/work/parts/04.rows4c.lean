theorem dX9_schedule_44 : decode cX9_schedule 44 = .ok (.getfield 148, 3) := by decide +kernel
theorem dX9_schedule_47 : decode cX9_schedule 47 = .ok (.iconst 1, 1) := by decide +kernel
theorem dX9_schedule_48 : decode cX9_schedule 48 = .ok (.isub, 1) := by decide +kernel
theorem dX9_schedule_49 : decode cX9_schedule 49 = .ok (.goto 7, 3) := by decide +kernel
theorem dX9_schedule_52 : decode cX9_schedule 52 = .ok (.aload_n 0, 1) := by decide +kernel
theorem dX9_schedule_53 : decode cX9_schedule 53 = .ok (.getfield 148, 3) := by decide +kernel
theorem dX9_schedule_56 : decode cX9_schedule 56 = .ok (.istore 4, 2) := by decide +kernel
theorem dX9_schedule_58 : decode cX9_schedule 58 = .ok (.iconst 0, 1) := by decide +kernel
theorem dX9_schedule_59 : decode cX9_schedule 59 = .ok (.istore 5, 2) := by decide +kernel
theorem dX9_schedule_61 : decode cX9_schedule 61 = .ok (.iload 5, 2) := by decide +kernel
theorem dX9_schedule_63 : decode cX9_schedule 63 = .ok (.iload 4, 2) := by decide +kernel
theorem dX9_schedule_65 : decode cX9_schedule 65 = .ok (.if_icmp .ge 18, 3) := by decide +kernel
theorem dX9_schedule_68 : decode cX9_schedule 68 = .ok (.aload_n 0, 1) := by decide +kernel
theorem dX9_schedule_69 : decode cX9_schedule 69 = .ok (.getfield 45, 3) := by decide +kernel
theorem dX9_schedule_72 : decode cX9_schedule 72 = .ok (.iload 5, 2) := by decide +kernel
theorem dX9_schedule_74 : decode cX9_schedule 74 = .ok (.iload 5, 2) := by decide +kernel
theorem dX9_schedule_76 : decode cX9_schedule 76 = .ok (.iastore, 1) := by decide +kernel
theorem dX9_schedule_77 : decode cX9_schedule 77 = .ok (.iinc 5 1, 3) := by decide +kernel
theorem dX9_schedule_80 : decode cX9_schedule 80 = .ok (.goto (-19), 3) := by decide +kernel
theorem dX9_schedule_83 : decode cX9_schedule 83 = .ok (.iload_n 1, 1) := by decide +kernel
theorem dX9_schedule_84 : decode cX9_schedule 84 = .ok (.ifCond .eq 9, 3) := by decide +kernel
theorem dX9_schedule_87 : decode cX9_schedule 87 = .ok (.aload_n 0, 1) := by decide +kernel
theorem dX9_schedule_88 : decode cX9_schedule 88 = .ok (.iload 4, 2) := by decide +kernel
theorem dX9_schedule_90 : decode cX9_schedule 90 = .ok (.invokevirtual 175, 3) := by decide +kernel
theorem dX9_schedule_93 : decode cX9_schedule 93 = .ok (.iload_n 3, 1) := by decide +kernel
theorem dX9_schedule_94 : decode cX9_schedule 94 = .ok (.ifCond .eq 30, 3) := by decide +kernel
theorem dX9_schedule_97 : decode cX9_schedule 97 = .ok (.iload_n 2, 1) := by decide +kernel
theorem dX9_schedule_98 : decode cX9_schedule 98 = .ok (.ifCond .eq 26, 3) := by decide +kernel
theorem dX9_schedule_101 : decode cX9_schedule 101 = .ok (.aload_n 0, 1) := by decide +kernel
theorem dX9_schedule_102 : decode cX9_schedule 102 = .ok (.getfield 32, 3) := by decide +kernel
theorem dX9_schedule_105 : decode cX9_schedule 105 = .ok (.aload_n 0, 1) := by decide +kernel
theorem dX9_schedule_106 : decode cX9_schedule 106 = .ok (.getfield 148, 3) := by decide +kernel
theorem dX9_schedule_109 : decode cX9_schedule 109 = .ok (.iconst 1, 1) := by decide +kernel
theorem dX9_schedule_110 : decode cX9_schedule 110 = .ok (.isub, 1) := by decide +kernel
theorem dX9_schedule_111 : decode cX9_schedule 111 = .ok (.baload, 1) := by decide +kernel
theorem dX9_schedule_112 : decode cX9_schedule 112 = .ok (.ifCond .ne 12, 3) := by decide +kernel
theorem dX9_schedule_115 : decode cX9_schedule 115 = .ok (.aload_n 0, 1) := by decide +kernel
theorem dX9_schedule_116 : decode cX9_schedule 116 = .ok (.iload 4, 2) := by decide +kernel
theorem dX9_schedule_118 : decode cX9_schedule 118 = .ok (.invokevirtual 178, 3) := by decide +kernel
theorem dX9_schedule_121 : decode cX9_schedule 121 = .ok (.goto 4, 3) := by decide +kernel
theorem dX9_schedule_124 : decode cX9_schedule 124 = .ok (.iconst (-1), 1) := by decide +kernel
theorem dX9_schedule_125 : decode cX9_schedule 125 = .ok (.istore 5, 2) := by decide +kernel
theorem dX9_schedule_127 : decode cX9_schedule 127 = .ok (.aload_n 0, 1) := by decide +kernel
theorem dX9_schedule_128 : decode cX9_schedule 128 = .ok (.iconst 0, 1) := by decide +kernel
theorem dX9_schedule_129 : decode cX9_schedule 129 = .ok (.putfield 181, 3) := by decide +kernel
theorem dX9_schedule_132 : decode cX9_schedule 132 = .ok (.iconst 0, 1) := by decide +kernel
theorem dX9_schedule_133 : decode cX9_schedule 133 = .ok (.istore 6, 2) := by decide +kernel
theorem dX9_schedule_135 : decode cX9_schedule 135 = .ok (.iload 6, 2) := by decide +kernel
theorem dX9_schedule_137 : decode cX9_schedule 137 = .ok (.iload 4, 2) := by decide +kernel
theorem dX9_schedule_139 : decode cX9_schedule 139 = .ok (.if_icmp .ge 27, 3) := by decide +kernel
theorem dX9_schedule_142 : decode cX9_schedule 142 = .ok (.iload 6, 2) := by decide +kernel
theorem dX9_schedule_144 : decode cX9_schedule 144 = .ok (.iload 5, 2) := by decide +kernel
theorem dX9_schedule_146 : decode cX9_schedule 146 = .ok (.if_icmp .eq 14, 3) := by decide +kernel
theorem dX9_schedule_149 : decode cX9_schedule 149 = .ok (.aload_n 0, 1) := by decide +kernel
theorem dX9_schedule_150 : decode cX9_schedule 150 = .ok (.aload_n 0, 1) := by decide +kernel
theorem dX9_schedule_151 : decode cX9_schedule 151 = .ok (.getfield 45, 3) := by decide +kernel
theorem dX9_schedule_154 : decode cX9_schedule 154 = .ok (.iload 6, 2) := by decide +kernel
theorem dX9_schedule_156 : decode cX9_schedule 156 = .ok (.iaload, 1) := by decide +kernel
theorem dX9_schedule_157 : decode cX9_schedule 157 = .ok (.invokevirtual 184, 3) := by decide +kernel
theorem dX9_schedule_160 : decode cX9_schedule 160 = .ok (.iinc 6 1, 3) := by decide +kernel
theorem dX9_schedule_163 : decode cX9_schedule 163 = .ok (.goto (-28), 3) := by decide +kernel
theorem dX9_schedule_166 : decode cX9_schedule 166 = .ok (.iload_n 3, 1) := by decide +kernel
theorem dX9_schedule_167 : decode cX9_schedule 167 = .ok (.ifCond .eq 34, 3) := by decide +kernel
theorem dX9_schedule_170 : decode cX9_schedule 170 = .ok (.aload_n 0, 1) := by decide +kernel
theorem dX9_schedule_171 : decode cX9_schedule 171 = .ok (.aload_n 0, 1) := by decide +kernel
theorem dX9_schedule_172 : decode cX9_schedule 172 = .ok (.getfield 148, 3) := by decide +kernel
theorem dX9_schedule_175 : decode cX9_schedule 175 = .ok (.iconst 1, 1) := by decide +kernel
theorem dX9_schedule_176 : decode cX9_schedule 176 = .ok (.isub, 1) := by decide +kernel
theorem dX9_schedule_177 : decode cX9_schedule 177 = .ok (.invokevirtual 184, 3) := by decide +kernel
theorem dX9_schedule_180 : decode cX9_schedule 180 = .ok (.aload_n 0, 1) := by decide +kernel
theorem dX9_schedule_181 : decode cX9_schedule 181 = .ok (.iload 5, 2) := by decide +kernel
theorem dX9_schedule_183 : decode cX9_schedule 183 = .ok (.iconst (-1), 1) := by decide +kernel
theorem dX9_schedule_184 : decode cX9_schedule 184 = .ok (.if_icmp .ne 7, 3) := by decide +kernel
theorem dX9_schedule_187 : decode cX9_schedule 187 = .ok (.iconst (-1), 1) := by decide +kernel
theorem dX9_schedule_188 : decode cX9_schedule 188 = .ok (.goto 10, 3) := by decide +kernel
theorem dX9_schedule_191 : decode cX9_schedule 191 = .ok (.aload_n 0, 1) := by decide +kernel
theorem dX9_schedule_192 : decode cX9_schedule 192 = .ok (.getfield 45, 3) := by decide +kernel
theorem dX9_schedule_195 : decode cX9_schedule 195 = .ok (.iload 5, 2) := by decide +kernel
theorem dX9_schedule_197 : decode cX9_schedule 197 = .ok (.iaload, 1) := by decide +kernel
theorem dX9_schedule_198 : decode cX9_schedule 198 = .ok (.invokevirtual 184, 3) := by decide +kernel
theorem dX9_schedule_201 : decode cX9_schedule 201 = .ok (.aload_n 0, 1) := by decide +kernel
theorem dX9_schedule_202 : decode cX9_schedule 202 = .ok (.invokevirtual 187, 3) := by decide +kernel
theorem dX9_schedule_205 : decode cX9_schedule 205 = .ok (.aload_n 0, 1) := by decide +kernel
theorem dX9_schedule_206 : decode cX9_schedule 206 = .ok (.getfield 181, 3) := by decide +kernel
theorem dX9_schedule_209 : decode cX9_schedule 209 = .ok (.ireturn, 1) := by decide +kernel
theorem dX9_comes_0 : decode cX9_comes 0 = .ok (.aload_n 0, 1) := by decide +kernel
theorem dX9_comes_1 : decode cX9_comes 1 = .ok (.getfield 36, 3) := by decide +kernel
theorem dX9_comes_4 : decode cX9_comes 4 = .ok (.aload_n 0, 1) := by decide +kernel
theorem dX9_comes_5 : decode cX9_comes 5 = .ok (.getfield 181, 3) := by decide +kernel
theorem dX9_comes_8 : decode cX9_comes 8 = .ok (.iload_n 1, 1) := by decide +kernel
theorem dX9_comes_9 : decode cX9_comes 9 = .ok (.iconst (-1), 1) := by decide +kernel
theorem dX9_comes_10 : decode cX9_comes 10 = .ok (.if_icmp .ne 7, 3) := by decide +kernel
theorem dX9_comes_13 : decode cX9_comes 13 = .ok (.iconst 0, 1) := by decide +kernel
theorem dX9_comes_14 : decode cX9_comes 14 = .ok (.goto 9, 3) := by decide +kernel
theorem dX9_comes_17 : decode cX9_comes 17 = .ok (.aload_n 0, 1) := by decide +kernel
theorem dX9_comes_18 : decode cX9_comes 18 = .ok (.getfield 13, 3) := by decide +kernel
theorem dX9_comes_21 : decode cX9_comes 21 = .ok (.iload_n 1, 1) := by decide +kernel
theorem dX9_comes_22 : decode cX9_comes 22 = .ok (.iaload, 1) := by decide +kernel
theorem dX9_comes_23 : decode cX9_comes 23 = .ok (.iastore, 1) := by decide +kernel
theorem dX9_comes_24 : decode cX9_comes 24 = .ok (.aload_n 0, 1) := by decide +kernel
theorem dX9_comes_25 : decode cX9_comes 25 = .ok (.getfield 39, 3) := by decide +kernel
theorem dX9_comes_28 : decode cX9_comes 28 = .ok (.aload_n 0, 1) := by decide +kernel
theorem dX9_comes_29 : decode cX9_comes 29 = .ok (.getfield 181, 3) := by decide +kernel
theorem dX9_comes_32 : decode cX9_comes 32 = .ok (.iload_n 1, 1) := by decide +kernel
theorem dX9_comes_33 : decode cX9_comes 33 = .ok (.iastore, 1) := by decide +kernel
theorem dX9_comes_34 : decode cX9_comes 34 = .ok (.aload_n 0, 1) := by decide +kernel
theorem dX9_comes_35 : decode cX9_comes 35 = .ok (.dup, 1) := by decide +kernel
theorem dX9_comes_36 : decode cX9_comes 36 = .ok (.getfield 181, 3) := by decide +kernel
theorem dX9_comes_39 : decode cX9_comes 39 = .ok (.iconst 1, 1) := by decide +kernel
theorem dX9_comes_40 : decode cX9_comes 40 = .ok (.iadd, 1) := by decide +kernel
theorem dX9_comes_41 : decode cX9_comes 41 = .ok (.putfield 181, 3) := by decide +kernel
theorem dX9_comes_44 : decode cX9_comes 44 = .ok (.return_, 1) := by decide +kernel
set_option maxRecDepth 20000 in
theorem ggX9_findCycles_X9_after : GoodIn wsX9_findCycles wsX9_after := goodIn_r _ [9, 10, 11, 12, 13, 14, 15, 16, 17, 18, 8, 19, 20, 21, 22, 23, 24, 25, 26, 27, 28, 29, 30, 31, 32, 33, 34, 35, 36, 37, 38, 39, 40, 41, 42, 43, 44, 45, 46, 47, 48, 49, 50, 51, 52, 53, 54, 55, 56, 57, 58, 59, 60, 61] (by decide +kernel) (by decide +kernel)
set_option maxRecDepth 20000 in
theorem gX9_findCycles_X9_after : GoodIn wsX9_findCycles (wsV RX9 165 RX9 yX9_after wsX9_after) := goodIn_app (goodIn_of _ (by decide +kernel)) ggX9_findCycles_X9_after
theorem dX9_findCycles_0 : decode cX9_findCycles 0 = .ok (.aload_n 0, 1) := by decide +kernel
theorem dX9_findCycles_1 : decode cX9_findCycles 1 = .ok (.iconst 0, 1) := by decide +kernel
theorem dX9_findCycles_2 : decode cX9_findCycles 2 = .ok (.putfield 190, 3) := by decide +kernel
theorem dX9_findCycles_5 : decode cX9_findCycles 5 = .ok (.iconst 0, 1) := by decide +kernel
theorem dX9_findCycles_6 : decode cX9_findCycles 6 = .ok (.istore_n 1, 1) := by decide +kernel
theorem dX9_findCycles_7 : decode cX9_findCycles 7 = .ok (.iload_n 1, 1) := by decide +kernel
theorem dX9_findCycles_8 : decode cX9_findCycles 8 = .ok (.aload_n 0, 1) := by decide +kernel
theorem dX9_findCycles_9 : decode cX9_findCycles 9 = .ok (.getfield 181, 3) := by decide +kernel
theorem dX9_findCycles_12 : decode cX9_findCycles 12 = .ok (.if_icmp .ge 133, 3) := by decide +kernel
theorem dX9_findCycles_15 : decode cX9_findCycles 15 = .ok (.iload_n 1, 1) := by decide +kernel
theorem dX9_findCycles_16 : decode cX9_findCycles 16 = .ok (.ifCond .ne 7, 3) := by decide +kernel
theorem dX9_findCycles_19 : decode cX9_findCycles 19 = .ok (.iconst 0, 1) := by decide +kernel
theorem dX9_findCycles_20 : decode cX9_findCycles 20 = .ok (.goto 13, 3) := by decide +kernel
theorem dX9_findCycles_23 : decode cX9_findCycles 23 = .ok (.aload_n 0, 1) := by decide +kernel
theorem dX9_findCycles_24 : decode cX9_findCycles 24 = .ok (.getfield 51, 3) := by decide +kernel
theorem dX9_findCycles_27 : decode cX9_findCycles 27 = .ok (.iload_n 1, 1) := by decide +kernel
theorem dX9_findCycles_28 : decode cX9_findCycles 28 = .ok (.iconst 1, 1) := by decide +kernel
theorem dX9_findCycles_29 : decode cX9_findCycles 29 = .ok (.isub, 1) := by decide +kernel
theorem dX9_findCycles_30 : decode cX9_findCycles 30 = .ok (.iaload, 1) := by decide +kernel
theorem dX9_findCycles_31 : decode cX9_findCycles 31 = .ok (.iconst 1, 1) := by decide +kernel
theorem dX9_findCycles_32 : decode cX9_findCycles 32 = .ok (.iadd, 1) := by decide +kernel
theorem dX9_findCycles_33 : decode cX9_findCycles 33 = .ok (.istore_n 2, 1) := by decide +kernel
theorem dX9_findCycles_34 : decode cX9_findCycles 34 = .ok (.iconst 0, 1) := by decide +kernel
theorem dX9_findCycles_35 : decode cX9_findCycles 35 = .ok (.istore_n 3, 1) := by decide +kernel
theorem dX9_findCycles_36 : decode cX9_findCycles 36 = .ok (.iload_n 3, 1) := by decide +kernel
theorem dX9_findCycles_37 : decode cX9_findCycles 37 = .ok (.iload_n 1, 1) := by decide +kernel
theorem dX9_findCycles_38 : decode cX9_findCycles 38 = .ok (.if_icmp .ge 87, 3) := by decide +kernel
theorem dX9_findCycles_41 : decode cX9_findCycles 41 = .ok (.aload_n 0, 1) := by decide +kernel
theorem dX9_findCycles_42 : decode cX9_findCycles 42 = .ok (.getfield 39, 3) := by decide +kernel
theorem dX9_findCycles_45 : decode cX9_findCycles 45 = .ok (.iload_n 3, 1) := by decide +kernel
theorem dX9_findCycles_46 : decode cX9_findCycles 46 = .ok (.iaload, 1) := by decide +kernel
theorem dX9_findCycles_47 : decode cX9_findCycles 47 = .ok (.istore 4, 2) := by decide +kernel
theorem dX9_findCycles_49 : decode cX9_findCycles 49 = .ok (.aload_n 0, 1) := by decide +kernel
theorem dX9_findCycles_50 : decode cX9_findCycles 50 = .ok (.getfield 39, 3) := by decide +kernel
theorem dX9_findCycles_53 : decode cX9_findCycles 53 = .ok (.iload_n 1, 1) := by decide +kernel
theorem dX9_findCycles_54 : decode cX9_findCycles 54 = .ok (.iaload, 1) := by decide +kernel
theorem dX9_findCycles_55 : decode cX9_findCycles 55 = .ok (.istore 5, 2) := by decide +kernel
theorem dX9_findCycles_57 : decode cX9_findCycles 57 = .ok (.iload 4, 2) := by decide +kernel
theorem dX9_findCycles_59 : decode cX9_findCycles 59 = .ok (.iconst (-1), 1) := by decide +kernel
theorem dX9_findCycles_60 : decode cX9_findCycles 60 = .ok (.if_icmp .eq 16, 3) := by decide +kernel
theorem dX9_findCycles_63 : decode cX9_findCycles 63 = .ok (.iload 5, 2) := by decide +kernel
theorem dX9_findCycles_65 : decode cX9_findCycles 65 = .ok (.iconst (-1), 1) := by decide +kernel
theorem dX9_findCycles_66 : decode cX9_findCycles 66 = .ok (.if_icmp .eq 10, 3) := by decide +kernel
theorem dX9_findCycles_69 : decode cX9_findCycles 69 = .ok (.iload 4, 2) := by decide +kernel
theorem dX9_findCycles_71 : decode cX9_findCycles 71 = .ok (.iload 5, 2) := by decide +kernel
theorem dX9_findCycles_73 : decode cX9_findCycles 73 = .ok (.if_icmp .le 7, 3) := by decide +kernel
theorem dX9_findCycles_76 : decode cX9_findCycles 76 = .ok (.iconst (-1), 1) := by decide +kernel
theorem dX9_findCycles_77 : decode cX9_findCycles 77 = .ok (.goto 11, 3) := by decide +kernel
theorem dX9_findCycles_80 : decode cX9_findCycles 80 = .ok (.aload_n 0, 1) := by decide +kernel
theorem dX9_findCycles_81 : decode cX9_findCycles 81 = .ok (.iload 5, 2) := by decide +kernel
theorem dX9_findCycles_83 : decode cX9_findCycles 83 = .ok (.iload 4, 2) := by decide +kernel
theorem dX9_findCycles_85 : decode cX9_findCycles 85 = .ok (.invokevirtual 165, 3) := by decide +kernel
theorem dX9_findCycles_88 : decode cX9_findCycles 88 = .ok (.istore 6, 2) := by decide +kernel
theorem dX9_findCycles_90 : decode cX9_findCycles 90 = .ok (.iload 6, 2) := by decide +kernel
theorem dX9_findCycles_92 : decode cX9_findCycles 92 = .ok (.iconst (-1), 1) := by decide +kernel
theorem dX9_findCycles_93 : decode cX9_findCycles 93 = .ok (.if_icmp .eq 26, 3) := by decide +kernel
theorem dX9_findCycles_96 : decode cX9_findCycles 96 = .ok (.aload_n 0, 1) := by decide +kernel
theorem dX9_findCycles_97 : decode cX9_findCycles 97 = .ok (.getfield 51, 3) := by decide +kernel
theorem dX9_findCycles_100 : decode cX9_findCycles 100 = .ok (.iload_n 3, 1) := by decide +kernel
theorem dX9_findCycles_101 : decode cX9_findCycles 101 = .ok (.iaload, 1) := by decide +kernel
theorem dX9_findCycles_102 : decode cX9_findCycles 102 = .ok (.iload 6, 2) := by decide +kernel
theorem dX9_findCycles_104 : decode cX9_findCycles 104 = .ok (.iadd, 1) := by decide +kernel
theorem dX9_findCycles_105 : decode cX9_findCycles 105 = .ok (.iload_n 2, 1) := by decide +kernel
theorem dX9_findCycles_106 : decode cX9_findCycles 106 = .ok (.if_icmp .le 13, 3) := by decide +kernel
theorem dX9_findCycles_109 : decode cX9_findCycles 109 = .ok (.aload_n 0, 1) := by decide +kernel
theorem dX9_findCycles_110 : decode cX9_findCycles 110 = .ok (.getfield 51, 3) := by decide +kernel
theorem dX9_findCycles_113 : decode cX9_findCycles 113 = .ok (.iload_n 3, 1) := by decide +kernel
theorem dX9_findCycles_114 : decode cX9_findCycles 114 = .ok (.iaload, 1) := by decide +kernel
theorem dX9_findCycles_115 : decode cX9_findCycles 115 = .ok (.iload 6, 2) := by decide +kernel
theorem dX9_findCycles_117 : decode cX9_findCycles 117 = .ok (.iadd, 1) := by decide +kernel
theorem dX9_findCycles_118 : decode cX9_findCycles 118 = .ok (.istore_n 2, 1) := by decide +kernel
theorem dX9_findCycles_119 : decode cX9_findCycles 119 = .ok (.iinc 3 1, 3) := by decide +kernel
theorem dX9_findCycles_122 : decode cX9_findCycles 122 = .ok (.goto (-86), 3) := by decide +kernel
theorem dX9_findCycles_125 : decode cX9_findCycles 125 = .ok (.aload_n 0, 1) := by decide +kernel
theorem dX9_findCycles_126 : decode cX9_findCycles 126 = .ok (.getfield 51, 3) := by decide +kernel
theorem dX9_findCycles_129 : decode cX9_findCycles 129 = .ok (.iload_n 1, 1) := by decide +kernel
theorem dX9_findCycles_130 : decode cX9_findCycles 130 = .ok (.iload_n 2, 1) := by decide +kernel
theorem dX9_findCycles_131 : decode cX9_findCycles 131 = .ok (.iastore, 1) := by decide +kernel
theorem dX9_findCycles_132 : decode cX9_findCycles 132 = .ok (.aload_n 0, 1) := by decide +kernel
theorem dX9_findCycles_133 : decode cX9_findCycles 133 = .ok (.iload_n 2, 1) := by decide +kernel
theorem dX9_findCycles_134 : decode cX9_findCycles 134 = .ok (.iconst 1, 1) := by decide +kernel
theorem dX9_findCycles_135 : decode cX9_findCycles 135 = .ok (.iadd, 1) := by decide +kernel
theorem dX9_findCycles_136 : decode cX9_findCycles 136 = .ok (.putfield 190, 3) := by decide +kernel
theorem dX9_findCycles_139 : decode cX9_findCycles 139 = .ok (.iinc 1 1, 3) := by decide +kernel
theorem dX9_findCycles_142 : decode cX9_findCycles 142 = .ok (.goto (-135), 3) := by decide +kernel
theorem dX9_findCycles_145 : decode cX9_findCycles 145 = .ok (.return_, 1) := by decide +kernel
set_option maxRecDepth 20000 in
theorem ggX9_word_X9_fail : GoodIn wsX9_word wsX9_fail := goodIn_r _ [8, 1, 9, 10, 11, 12, 13, 14, 15, 16, 17, 18, 19, 20, 21, 22, 23, 24, 25, 26, 27, 28, 29, 30, 31, 32, 33, 34] (by decide +kernel) (by decide +kernel)
set_option maxRecDepth 20000 in
theorem gX9_word_X9_fail : GoodIn wsX9_word (wsV RX9 139 RX9 yX9_fail wsX9_fail) := goodIn_app (goodIn_of _ (by decide +kernel)) ggX9_word_X9_fail
theorem dX9_word_0 : decode cX9_word 0 = .ok (.aload_n 0, 1) := by decide +kernel
theorem dX9_word_1 : decode cX9_word 1 = .ok (.iconst 0, 1) := by decide +kernel
theorem dX9_word_2 : decode cX9_word 2 = .ok (.putfield 54, 3) := by decide +kernel
theorem dX9_word_5 : decode cX9_word 5 = .ok (.iload_n 1, 1) := by decide +kernel
theorem dX9_word_6 : decode cX9_word 6 = .ok (.ifCond .lt 11, 3) := by decide +kernel
theorem dX9_word_9 : decode cX9_word 9 = .ok (.iload_n 1, 1) := by decide +kernel
theorem dX9_word_10 : decode cX9_word 10 = .ok (.aload_n 0, 1) := by decide +kernel
theorem dX9_word_11 : decode cX9_word 11 = .ok (.getfield 181, 3) := by decide +kernel
theorem dX9_word_14 : decode cX9_word 14 = .ok (.if_icmp .lt 11, 3) := by decide +kernel
theorem dX9_word_17 : decode cX9_word 17 = .ok (.aload_n 0, 1) := by decide +kernel
theorem dX9_word_18 : decode cX9_word 18 = .ok (.iconst 1, 1) := by decide +kernel
theorem dX9_word_19 : decode cX9_word 19 = .ok (.invokevirtual 139, 3) := by decide +kernel
theorem dX9_word_22 : decode cX9_word 22 = .ok (.goto 9, 3) := by decide +kernel
theorem dX9_word_25 : decode cX9_word 25 = .ok (.aload_n 0, 1) := by decide +kernel
theorem dX9_word_26 : decode cX9_word 26 = .ok (.getfield 36, 3) := by decide +kernel
theorem dX9_word_29 : decode cX9_word 29 = .ok (.iload_n 1, 1) := by decide +kernel
theorem dX9_word_30 : decode cX9_word 30 = .ok (.iaload, 1) := by decide +kernel
theorem dX9_word_31 : decode cX9_word 31 = .ok (.ireturn, 1) := by decide +kernel
set_option maxRecDepth 20000 in
theorem ggX9_from_X9_fail : GoodIn wsX9_from wsX9_fail := goodIn_r _ [8, 1, 9, 10, 11, 12, 13, 14, 15, 16, 17, 18, 19, 20, 21, 22, 23, 24, 25, 26, 27, 28, 29, 30, 31, 32, 33, 34] (by decide +kernel) (by decide +kernel)
set_option maxRecDepth 20000 in
theorem gX9_from_X9_fail : GoodIn wsX9_from (wsV RX9 139 RX9 yX9_fail wsX9_fail) := goodIn_app (goodIn_of _ (by decide +kernel)) ggX9_from_X9_fail
theorem dX9_from_0 : decode cX9_from 0 = .ok (.aload_n 0, 1) := by decide +kernel
theorem dX9_from_1 : decode cX9_from 1 = .ok (.iconst 0, 1) := by decide +kernel
theorem dX9_from_2 : decode cX9_from 2 = .ok (.putfield 54, 3) := by decide +kernel
theorem dX9_from_5 : decode cX9_from 5 = .ok (.iload_n 1, 1) := by decide +kernel
theorem dX9_from_6 : decode cX9_from 6 = .ok (.ifCond .lt 11, 3) := by decide +kernel
theorem dX9_from_9 : decode cX9_from 9 = .ok (.iload_n 1, 1) := by decide +kernel
theorem dX9_from_10 : decode cX9_from 10 = .ok (.aload_n 0, 1) := by decide +kernel
theorem dX9_from_11 : decode cX9_from 11 = .ok (.getfield 181, 3) := by decide +kernel
theorem dX9_from_14 : decode cX9_from 14 = .ok (.if_icmp .lt 11, 3) := by decide +kernel
theorem dX9_from_17 : decode cX9_from 17 = .ok (.aload_n 0, 1) := by decide +kernel
theorem dX9_from_18 : decode cX9_from 18 = .ok (.iconst 1, 1) := by decide +kernel
theorem dX9_from_19 : decode cX9_from 19 = .ok (.invokevirtual 139, 3) := by decide +kernel
theorem dX9_from_22 : decode cX9_from 22 = .ok (.goto 9, 3) := by decide +kernel
theorem dX9_from_25 : decode cX9_from 25 = .ok (.aload_n 0, 1) := by decide +kernel
theorem dX9_from_26 : decode cX9_from 26 = .ok (.getfield 39, 3) := by decide +kernel
theorem dX9_from_29 : decode cX9_from 29 = .ok (.iload_n 1, 1) := by decide +kernel
theorem dX9_from_30 : decode cX9_from 30 = .ok (.iaload, 1) := by decide +kernel
theorem dX9_from_31 : decode cX9_from 31 = .ok (.ireturn, 1) := by decide +kernel
set_option maxRecDepth 20000 in
theorem ggX9_depends_X9_fail : GoodIn wsX9_depends wsX9_fail := goodIn_r _ [7, 1, 38, 39, 40, 41, 42, 43, 44, 45, 46, 47, 48, 49, 50, 51, 52, 53, 54, 55, 56, 57, 58, 59, 60, 61, 62, 63] (by decide +kernel) (by decide +kernel)
set_option maxRecDepth 20000 in
theorem gX9_depends_X9_fail : GoodIn wsX9_depends (wsV RX9 139 RX9 yX9_fail wsX9_fail) := goodIn_app (goodIn_of _ (by decide +kernel)) ggX9_depends_X9_fail
set_option maxRecDepth 20000 in
theorem ggX9_depends_X9_after : GoodIn wsX9_depends wsX9_after := goodIn_r _ [11, 12, 13, 14, 15, 16, 17, 18, 19, 20, 6, 21, 22, 23, 24, 25, 26, 27, 28, 29, 30, 31, 32, 33, 34, 35, 36, 37, 38, 39, 40, 41, 42, 43, 44, 45, 46, 47, 48, 49, 50, 51, 52, 53, 54, 55, 56, 57, 58, 59, 60, 61, 62, 63] (by decide +kernel) (by decide +kernel)
set_option maxRecDepth 20000 in
theorem gX9_depends_X9_after : GoodIn wsX9_depends (wsV RX9 165 RX9 yX9_after wsX9_after) := goodIn_app (goodIn_of _ (by decide +kernel)) ggX9_depends_X9_after
theorem dX9_depends_0 : decode cX9_depends 0 = .ok (.aload_n 0, 1) := by decide +kernel
theorem dX9_depends_1 : decode cX9_depends 1 = .ok (.iconst 0, 1) := by decide +kernel
theorem dX9_depends_2 : decode cX9_depends 2 = .ok (.putfield 54, 3) := by decide +kernel
theorem dX9_depends_5 : decode cX9_depends 5 = .ok (.iload_n 1, 1) := by decide +kernel
theorem dX9_depends_6 : decode cX9_depends 6 = .ok (.ifCond .lt 23, 3) := by decide +kernel
theorem dX9_depends_9 : decode cX9_depends 9 = .ok (.iload_n 1, 1) := by decide +kernel

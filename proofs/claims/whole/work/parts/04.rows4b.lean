theorem dX9_after_232 : decode cX9_after 232 = .ok (.if_icmp .eq 17, 3) := by decide +kernel
theorem dX9_after_235 : decode cX9_after 235 = .ok (.iload 9, 2) := by decide +kernel
theorem dX9_after_237 : decode cX9_after 237 = .ok (.ifCond .eq 14, 3) := by decide +kernel
theorem dX9_after_240 : decode cX9_after 240 = .ok (.aload_n 0, 1) := by decide +kernel
theorem dX9_after_241 : decode cX9_after 241 = .ok (.iload_n 2, 1) := by decide +kernel
theorem dX9_after_242 : decode cX9_after 242 = .ok (.iload_n 1, 1) := by decide +kernel
theorem dX9_after_243 : decode cX9_after 243 = .ok (.invokevirtual 161, 3) := by decide +kernel
theorem dX9_after_246 : decode cX9_after 246 = .ok (.ifCond .ne 5, 3) := by decide +kernel
theorem dX9_after_249 : decode cX9_after 249 = .ok (.iconst 1, 1) := by decide +kernel
theorem dX9_after_250 : decode cX9_after 250 = .ok (.istore_n 3, 1) := by decide +kernel
theorem dX9_after_251 : decode cX9_after 251 = .ok (.iload 7, 2) := by decide +kernel
theorem dX9_after_253 : decode cX9_after 253 = .ok (.iload 8, 2) := by decide +kernel
theorem dX9_after_255 : decode cX9_after 255 = .ok (.isub, 1) := by decide +kernel
theorem dX9_after_256 : decode cX9_after 256 = .ok (.iconst 1, 1) := by decide +kernel
theorem dX9_after_257 : decode cX9_after 257 = .ok (.iadd, 1) := by decide +kernel
theorem dX9_after_258 : decode cX9_after 258 = .ok (.iconst 1, 1) := by decide +kernel
theorem dX9_after_259 : decode cX9_after 259 = .ok (.if_icmp .le 13, 3) := by decide +kernel
theorem dX9_after_262 : decode cX9_after 262 = .ok (.iload 7, 2) := by decide +kernel
theorem dX9_after_264 : decode cX9_after 264 = .ok (.iload 8, 2) := by decide +kernel
theorem dX9_after_266 : decode cX9_after 266 = .ok (.isub, 1) := by decide +kernel
theorem dX9_after_267 : decode cX9_after 267 = .ok (.iconst 1, 1) := by decide +kernel
theorem dX9_after_268 : decode cX9_after 268 = .ok (.iadd, 1) := by decide +kernel
theorem dX9_after_269 : decode cX9_after 269 = .ok (.goto 4, 3) := by decide +kernel
theorem dX9_after_272 : decode cX9_after 272 = .ok (.iconst 1, 1) := by decide +kernel
theorem dX9_after_273 : decode cX9_after 273 = .ok (.istore 10, 2) := by decide +kernel
theorem dX9_after_275 : decode cX9_after 275 = .ok (.iload 6, 2) := by decide +kernel
theorem dX9_after_277 : decode cX9_after 277 = .ok (.ifCond .eq 12, 3) := by decide +kernel
theorem dX9_after_280 : decode cX9_after 280 = .ok (.iload 10, 2) := by decide +kernel
theorem dX9_after_282 : decode cX9_after 282 = .ok (.iload_n 3, 1) := by decide +kernel
theorem dX9_after_283 : decode cX9_after 283 = .ok (.if_icmp .le 6, 3) := by decide +kernel
theorem dX9_after_286 : decode cX9_after 286 = .ok (.iload 10, 2) := by decide +kernel
theorem dX9_after_288 : decode cX9_after 288 = .ok (.istore_n 3, 1) := by decide +kernel
theorem dX9_after_289 : decode cX9_after 289 = .ok (.iload 4, 2) := by decide +kernel
theorem dX9_after_291 : decode cX9_after 291 = .ok (.ifCond .eq 14, 3) := by decide +kernel
theorem dX9_after_294 : decode cX9_after 294 = .ok (.iload 7, 2) := by decide +kernel
theorem dX9_after_296 : decode cX9_after 296 = .ok (.iload_n 3, 1) := by decide +kernel
theorem dX9_after_297 : decode cX9_after 297 = .ok (.if_icmp .le 8, 3) := by decide +kernel
theorem dX9_after_300 : decode cX9_after 300 = .ok (.iload 7, 2) := by decide +kernel
theorem dX9_after_302 : decode cX9_after 302 = .ok (.goto 4, 3) := by decide +kernel
theorem dX9_after_305 : decode cX9_after 305 = .ok (.iload_n 3, 1) := by decide +kernel
theorem dX9_after_306 : decode cX9_after 306 = .ok (.ireturn, 1) := by decide +kernel
set_option maxRecDepth 20000 in
theorem ggX9_findHeights_X9_after : GoodIn wsX9_findHeights wsX9_after := goodIn_r _ [9, 10, 11, 12, 13, 3, 4, 14, 15, 16, 8, 17, 18, 19, 20, 21, 22, 23, 24, 25, 26, 27, 28, 29, 30, 31, 32, 33, 34, 35, 36, 37, 38, 39, 40, 41, 42, 43, 44, 45, 46, 47, 48, 49, 50, 51, 52, 53, 54, 55, 56, 57, 58, 59] (by decide +kernel) (by decide +kernel)
set_option maxRecDepth 20000 in
theorem gX9_findHeights_X9_after : GoodIn wsX9_findHeights (wsV RX9 165 RX9 yX9_after wsX9_after) := goodIn_app (goodIn_of _ (by decide +kernel)) ggX9_findHeights_X9_after
theorem dX9_findHeights_0 : decode cX9_findHeights 0 = .ok (.aload_n 0, 1) := by decide +kernel
theorem dX9_findHeights_1 : decode cX9_findHeights 1 = .ok (.getfield 148, 3) := by decide +kernel
theorem dX9_findHeights_4 : decode cX9_findHeights 4 = .ok (.iconst 1, 1) := by decide +kernel
theorem dX9_findHeights_5 : decode cX9_findHeights 5 = .ok (.isub, 1) := by decide +kernel
theorem dX9_findHeights_6 : decode cX9_findHeights 6 = .ok (.istore_n 1, 1) := by decide +kernel
theorem dX9_findHeights_7 : decode cX9_findHeights 7 = .ok (.iload_n 1, 1) := by decide +kernel
theorem dX9_findHeights_8 : decode cX9_findHeights 8 = .ok (.ifCond .lt 92, 3) := by decide +kernel
theorem dX9_findHeights_11 : decode cX9_findHeights 11 = .ok (.iconst (-1), 1) := by decide +kernel
theorem dX9_findHeights_12 : decode cX9_findHeights 12 = .ok (.istore_n 2, 1) := by decide +kernel
theorem dX9_findHeights_13 : decode cX9_findHeights 13 = .ok (.iload_n 1, 1) := by decide +kernel
theorem dX9_findHeights_14 : decode cX9_findHeights 14 = .ok (.iconst 1, 1) := by decide +kernel
theorem dX9_findHeights_15 : decode cX9_findHeights 15 = .ok (.iadd, 1) := by decide +kernel
theorem dX9_findHeights_16 : decode cX9_findHeights 16 = .ok (.istore_n 3, 1) := by decide +kernel
theorem dX9_findHeights_17 : decode cX9_findHeights 17 = .ok (.iload_n 3, 1) := by decide +kernel
theorem dX9_findHeights_18 : decode cX9_findHeights 18 = .ok (.aload_n 0, 1) := by decide +kernel
theorem dX9_findHeights_19 : decode cX9_findHeights 19 = .ok (.getfield 148, 3) := by decide +kernel
theorem dX9_findHeights_22 : decode cX9_findHeights 22 = .ok (.if_icmp .ge 46, 3) := by decide +kernel
theorem dX9_findHeights_25 : decode cX9_findHeights 25 = .ok (.aload_n 0, 1) := by decide +kernel
theorem dX9_findHeights_26 : decode cX9_findHeights 26 = .ok (.iload_n 3, 1) := by decide +kernel
theorem dX9_findHeights_27 : decode cX9_findHeights 27 = .ok (.iload_n 1, 1) := by decide +kernel
theorem dX9_findHeights_28 : decode cX9_findHeights 28 = .ok (.invokevirtual 165, 3) := by decide +kernel
theorem dX9_findHeights_31 : decode cX9_findHeights 31 = .ok (.istore 4, 2) := by decide +kernel
theorem dX9_findHeights_33 : decode cX9_findHeights 33 = .ok (.iload 4, 2) := by decide +kernel
theorem dX9_findHeights_35 : decode cX9_findHeights 35 = .ok (.iconst (-1), 1) := by decide +kernel
theorem dX9_findHeights_36 : decode cX9_findHeights 36 = .ok (.if_icmp .eq 26, 3) := by decide +kernel
theorem dX9_findHeights_39 : decode cX9_findHeights 39 = .ok (.aload_n 0, 1) := by decide +kernel
theorem dX9_findHeights_40 : decode cX9_findHeights 40 = .ok (.getfield 42, 3) := by decide +kernel
theorem dX9_findHeights_43 : decode cX9_findHeights 43 = .ok (.iload_n 3, 1) := by decide +kernel
theorem dX9_findHeights_44 : decode cX9_findHeights 44 = .ok (.iaload, 1) := by decide +kernel
theorem dX9_findHeights_45 : decode cX9_findHeights 45 = .ok (.iload 4, 2) := by decide +kernel
theorem dX9_findHeights_47 : decode cX9_findHeights 47 = .ok (.iadd, 1) := by decide +kernel
theorem dX9_findHeights_48 : decode cX9_findHeights 48 = .ok (.iload_n 2, 1) := by decide +kernel
theorem dX9_findHeights_49 : decode cX9_findHeights 49 = .ok (.if_icmp .le 13, 3) := by decide +kernel
theorem dX9_findHeights_52 : decode cX9_findHeights 52 = .ok (.aload_n 0, 1) := by decide +kernel
theorem dX9_findHeights_53 : decode cX9_findHeights 53 = .ok (.getfield 42, 3) := by decide +kernel
theorem dX9_findHeights_56 : decode cX9_findHeights 56 = .ok (.iload_n 3, 1) := by decide +kernel
theorem dX9_findHeights_57 : decode cX9_findHeights 57 = .ok (.iaload, 1) := by decide +kernel
theorem dX9_findHeights_58 : decode cX9_findHeights 58 = .ok (.iload 4, 2) := by decide +kernel
theorem dX9_findHeights_60 : decode cX9_findHeights 60 = .ok (.iadd, 1) := by decide +kernel
theorem dX9_findHeights_61 : decode cX9_findHeights 61 = .ok (.istore_n 2, 1) := by decide +kernel
theorem dX9_findHeights_62 : decode cX9_findHeights 62 = .ok (.iinc 3 1, 3) := by decide +kernel
theorem dX9_findHeights_65 : decode cX9_findHeights 65 = .ok (.goto (-48), 3) := by decide +kernel
theorem dX9_findHeights_68 : decode cX9_findHeights 68 = .ok (.aload_n 0, 1) := by decide +kernel
theorem dX9_findHeights_69 : decode cX9_findHeights 69 = .ok (.getfield 42, 3) := by decide +kernel
theorem dX9_findHeights_72 : decode cX9_findHeights 72 = .ok (.iload_n 1, 1) := by decide +kernel
theorem dX9_findHeights_73 : decode cX9_findHeights 73 = .ok (.iload_n 2, 1) := by decide +kernel
theorem dX9_findHeights_74 : decode cX9_findHeights 74 = .ok (.iconst (-1), 1) := by decide +kernel
theorem dX9_findHeights_75 : decode cX9_findHeights 75 = .ok (.if_icmp .ne 17, 3) := by decide +kernel
theorem dX9_findHeights_78 : decode cX9_findHeights 78 = .ok (.aload_n 0, 1) := by decide +kernel
theorem dX9_findHeights_79 : decode cX9_findHeights 79 = .ok (.getfield 7, 3) := by decide +kernel
theorem dX9_findHeights_82 : decode cX9_findHeights 82 = .ok (.aload_n 0, 1) := by decide +kernel
theorem dX9_findHeights_83 : decode cX9_findHeights 83 = .ok (.getfield 16, 3) := by decide +kernel
theorem dX9_findHeights_86 : decode cX9_findHeights 86 = .ok (.iload_n 1, 1) := by decide +kernel
theorem dX9_findHeights_87 : decode cX9_findHeights 87 = .ok (.iaload, 1) := by decide +kernel
theorem dX9_findHeights_88 : decode cX9_findHeights 88 = .ok (.iaload, 1) := by decide +kernel
theorem dX9_findHeights_89 : decode cX9_findHeights 89 = .ok (.goto 4, 3) := by decide +kernel
theorem dX9_findHeights_92 : decode cX9_findHeights 92 = .ok (.iload_n 2, 1) := by decide +kernel
theorem dX9_findHeights_93 : decode cX9_findHeights 93 = .ok (.iastore, 1) := by decide +kernel
theorem dX9_findHeights_94 : decode cX9_findHeights 94 = .ok (.iinc 1 (-1), 3) := by decide +kernel
theorem dX9_findHeights_97 : decode cX9_findHeights 97 = .ok (.goto (-90), 3) := by decide +kernel
theorem dX9_findHeights_100 : decode cX9_findHeights 100 = .ok (.return_, 1) := by decide +kernel
set_option maxRecDepth 20000 in
theorem ggX9_canCome_X9_after : GoodIn wsX9_canCome wsX9_after := goodIn_r _ [6, 7, 8, 9, 10, 11, 12, 13, 14, 15, 5, 16, 17, 18, 19, 20, 21, 22, 23, 24, 25, 26, 27, 28, 29, 30, 31, 32, 33, 34, 35, 36, 37, 38, 39, 40, 41, 42, 43, 44, 45, 46, 47, 48, 49, 50, 51, 52, 53, 54, 55, 56, 57, 58] (by decide +kernel) (by decide +kernel)
set_option maxRecDepth 20000 in
theorem gX9_canCome_X9_after : GoodIn wsX9_canCome (wsV RX9 165 RX9 yX9_after wsX9_after) := goodIn_app (goodIn_of _ (by decide +kernel)) ggX9_canCome_X9_after
theorem dX9_canCome_0 : decode cX9_canCome 0 = .ok (.iconst 0, 1) := by decide +kernel
theorem dX9_canCome_1 : decode cX9_canCome 1 = .ok (.istore_n 3, 1) := by decide +kernel
theorem dX9_canCome_2 : decode cX9_canCome 2 = .ok (.iload_n 3, 1) := by decide +kernel
theorem dX9_canCome_3 : decode cX9_canCome 3 = .ok (.iload_n 1, 1) := by decide +kernel
theorem dX9_canCome_4 : decode cX9_canCome 4 = .ok (.if_icmp .ge 48, 3) := by decide +kernel
theorem dX9_canCome_7 : decode cX9_canCome 7 = .ok (.aload_n 0, 1) := by decide +kernel
theorem dX9_canCome_8 : decode cX9_canCome 8 = .ok (.iload_n 1, 1) := by decide +kernel
theorem dX9_canCome_9 : decode cX9_canCome 9 = .ok (.iload_n 3, 1) := by decide +kernel
theorem dX9_canCome_10 : decode cX9_canCome 10 = .ok (.invokevirtual 165, 3) := by decide +kernel
theorem dX9_canCome_13 : decode cX9_canCome 13 = .ok (.istore 4, 2) := by decide +kernel
theorem dX9_canCome_15 : decode cX9_canCome 15 = .ok (.iload 4, 2) := by decide +kernel
theorem dX9_canCome_17 : decode cX9_canCome 17 = .ok (.iconst (-1), 1) := by decide +kernel
theorem dX9_canCome_18 : decode cX9_canCome 18 = .ok (.if_icmp .eq 28, 3) := by decide +kernel
theorem dX9_canCome_21 : decode cX9_canCome 21 = .ok (.aload_n 0, 1) := by decide +kernel
theorem dX9_canCome_22 : decode cX9_canCome 22 = .ok (.getfield 48, 3) := by decide +kernel
theorem dX9_canCome_25 : decode cX9_canCome 25 = .ok (.iload_n 3, 1) := by decide +kernel
theorem dX9_canCome_26 : decode cX9_canCome 26 = .ok (.iaload, 1) := by decide +kernel
theorem dX9_canCome_27 : decode cX9_canCome 27 = .ok (.iconst (-1), 1) := by decide +kernel
theorem dX9_canCome_28 : decode cX9_canCome 28 = .ok (.if_icmp .eq 16, 3) := by decide +kernel
theorem dX9_canCome_31 : decode cX9_canCome 31 = .ok (.iload_n 2, 1) := by decide +kernel
theorem dX9_canCome_32 : decode cX9_canCome 32 = .ok (.aload_n 0, 1) := by decide +kernel
theorem dX9_canCome_33 : decode cX9_canCome 33 = .ok (.getfield 48, 3) := by decide +kernel
theorem dX9_canCome_36 : decode cX9_canCome 36 = .ok (.iload_n 3, 1) := by decide +kernel
theorem dX9_canCome_37 : decode cX9_canCome 37 = .ok (.iaload, 1) := by decide +kernel
theorem dX9_canCome_38 : decode cX9_canCome 38 = .ok (.isub, 1) := by decide +kernel
theorem dX9_canCome_39 : decode cX9_canCome 39 = .ok (.iload 4, 2) := by decide +kernel
theorem dX9_canCome_41 : decode cX9_canCome 41 = .ok (.if_icmp .ge 5, 3) := by decide +kernel
theorem dX9_canCome_44 : decode cX9_canCome 44 = .ok (.iconst 0, 1) := by decide +kernel
theorem dX9_canCome_45 : decode cX9_canCome 45 = .ok (.ireturn, 1) := by decide +kernel
theorem dX9_canCome_46 : decode cX9_canCome 46 = .ok (.iinc 3 1, 3) := by decide +kernel
theorem dX9_canCome_49 : decode cX9_canCome 49 = .ok (.goto (-47), 3) := by decide +kernel
theorem dX9_canCome_52 : decode cX9_canCome 52 = .ok (.iconst 1, 1) := by decide +kernel
theorem dX9_canCome_53 : decode cX9_canCome 53 = .ok (.ireturn, 1) := by decide +kernel
set_option maxRecDepth 20000 in
theorem ggX9_place_X9_findHeights : GoodIn wsX9_place wsX9_findHeights := goodIn_r _ [8, 9, 2, 10, 11, 12, 13, 14, 7, 15, 16, 17, 18, 19, 20, 21, 22, 23, 24, 25, 26, 27, 28, 29, 30, 31, 32, 33, 34, 35, 36, 37, 38, 39, 44, 45, 46, 47, 48, 49, 50, 51, 52, 53, 54, 55, 56, 57, 58, 59, 60, 61, 62, 63, 64, 65, 66, 67, 68, 69] (by decide +kernel) (by decide +kernel)
set_option maxRecDepth 20000 in
theorem gX9_place_X9_findHeights : GoodIn wsX9_place (wsV RX9 169 RX9 yX9_findHeights wsX9_findHeights) := goodIn_app (goodIn_of _ (by decide +kernel)) ggX9_place_X9_findHeights
set_option maxRecDepth 20000 in
theorem ggX9_place_X9_canCome : GoodIn wsX9_place wsX9_canCome := goodIn_r _ [43, 1, 12, 13, 14, 7, 15, 16, 17, 18, 19, 10, 11, 20, 21, 22, 23, 24, 25, 26, 27, 28, 29, 30, 31, 32, 33, 34, 35, 36, 37, 38, 39, 44, 45, 46, 47, 48, 49, 50, 51, 52, 53, 54, 55, 56, 57, 58, 59, 60, 61, 62, 63, 64, 65, 66, 67, 68, 69] (by decide +kernel) (by decide +kernel)
set_option maxRecDepth 20000 in
theorem gX9_place_X9_canCome : GoodIn wsX9_place (wsV RX9 172 RX9 yX9_canCome wsX9_canCome) := goodIn_app (goodIn_of _ (by decide +kernel)) ggX9_place_X9_canCome
theorem dX9_place_0 : decode cX9_place 0 = .ok (.aload_n 0, 1) := by decide +kernel
theorem dX9_place_1 : decode cX9_place 1 = .ok (.invokevirtual 169, 3) := by decide +kernel
theorem dX9_place_4 : decode cX9_place 4 = .ok (.iconst 0, 1) := by decide +kernel
theorem dX9_place_5 : decode cX9_place 5 = .ok (.istore_n 2, 1) := by decide +kernel
theorem dX9_place_6 : decode cX9_place 6 = .ok (.iload_n 2, 1) := by decide +kernel
theorem dX9_place_7 : decode cX9_place 7 = .ok (.iload_n 1, 1) := by decide +kernel
theorem dX9_place_8 : decode cX9_place 8 = .ok (.if_icmp .ge 16, 3) := by decide +kernel
theorem dX9_place_11 : decode cX9_place 11 = .ok (.aload_n 0, 1) := by decide +kernel
theorem dX9_place_12 : decode cX9_place 12 = .ok (.getfield 48, 3) := by decide +kernel
theorem dX9_place_15 : decode cX9_place 15 = .ok (.iload_n 2, 1) := by decide +kernel
theorem dX9_place_16 : decode cX9_place 16 = .ok (.iconst (-1), 1) := by decide +kernel
theorem dX9_place_17 : decode cX9_place 17 = .ok (.iastore, 1) := by decide +kernel
theorem dX9_place_18 : decode cX9_place 18 = .ok (.iinc 2 1, 3) := by decide +kernel
theorem dX9_place_21 : decode cX9_place 21 = .ok (.goto (-15), 3) := by decide +kernel
theorem dX9_place_24 : decode cX9_place 24 = .ok (.iconst 0, 1) := by decide +kernel
theorem dX9_place_25 : decode cX9_place 25 = .ok (.istore_n 2, 1) := by decide +kernel
theorem dX9_place_26 : decode cX9_place 26 = .ok (.iconst 0, 1) := by decide +kernel
theorem dX9_place_27 : decode cX9_place 27 = .ok (.istore_n 3, 1) := by decide +kernel
theorem dX9_place_28 : decode cX9_place 28 = .ok (.iload_n 2, 1) := by decide +kernel
theorem dX9_place_29 : decode cX9_place 29 = .ok (.iload_n 1, 1) := by decide +kernel
theorem dX9_place_30 : decode cX9_place 30 = .ok (.if_icmp .ge 103, 3) := by decide +kernel
theorem dX9_place_33 : decode cX9_place 33 = .ok (.iconst (-1), 1) := by decide +kernel
theorem dX9_place_34 : decode cX9_place 34 = .ok (.istore 4, 2) := by decide +kernel
theorem dX9_place_36 : decode cX9_place 36 = .ok (.iconst 0, 1) := by decide +kernel
theorem dX9_place_37 : decode cX9_place 37 = .ok (.istore 5, 2) := by decide +kernel
theorem dX9_place_39 : decode cX9_place 39 = .ok (.iload 5, 2) := by decide +kernel
theorem dX9_place_41 : decode cX9_place 41 = .ok (.iload_n 1, 1) := by decide +kernel
theorem dX9_place_42 : decode cX9_place 42 = .ok (.if_icmp .ge 57, 3) := by decide +kernel
theorem dX9_place_45 : decode cX9_place 45 = .ok (.aload_n 0, 1) := by decide +kernel
theorem dX9_place_46 : decode cX9_place 46 = .ok (.getfield 48, 3) := by decide +kernel
theorem dX9_place_49 : decode cX9_place 49 = .ok (.iload 5, 2) := by decide +kernel
theorem dX9_place_51 : decode cX9_place 51 = .ok (.iaload, 1) := by decide +kernel
theorem dX9_place_52 : decode cX9_place 52 = .ok (.iconst (-1), 1) := by decide +kernel
theorem dX9_place_53 : decode cX9_place 53 = .ok (.if_icmp .ne 40, 3) := by decide +kernel
theorem dX9_place_56 : decode cX9_place 56 = .ok (.iload 4, 2) := by decide +kernel
theorem dX9_place_58 : decode cX9_place 58 = .ok (.iconst (-1), 1) := by decide +kernel
theorem dX9_place_59 : decode cX9_place 59 = .ok (.if_icmp .eq 20, 3) := by decide +kernel
theorem dX9_place_62 : decode cX9_place 62 = .ok (.aload_n 0, 1) := by decide +kernel
theorem dX9_place_63 : decode cX9_place 63 = .ok (.getfield 42, 3) := by decide +kernel
theorem dX9_place_66 : decode cX9_place 66 = .ok (.iload 5, 2) := by decide +kernel
theorem dX9_place_68 : decode cX9_place 68 = .ok (.iaload, 1) := by decide +kernel
theorem dX9_place_69 : decode cX9_place 69 = .ok (.aload_n 0, 1) := by decide +kernel
theorem dX9_place_70 : decode cX9_place 70 = .ok (.getfield 42, 3) := by decide +kernel
theorem dX9_place_73 : decode cX9_place 73 = .ok (.iload 4, 2) := by decide +kernel
theorem dX9_place_75 : decode cX9_place 75 = .ok (.iaload, 1) := by decide +kernel
theorem dX9_place_76 : decode cX9_place 76 = .ok (.if_icmp .le 17, 3) := by decide +kernel
theorem dX9_place_79 : decode cX9_place 79 = .ok (.aload_n 0, 1) := by decide +kernel
theorem dX9_place_80 : decode cX9_place 80 = .ok (.iload 5, 2) := by decide +kernel
theorem dX9_place_82 : decode cX9_place 82 = .ok (.iload_n 3, 1) := by decide +kernel
theorem dX9_place_83 : decode cX9_place 83 = .ok (.invokevirtual 172, 3) := by decide +kernel
theorem dX9_place_86 : decode cX9_place 86 = .ok (.ifCond .eq 7, 3) := by decide +kernel
theorem dX9_place_89 : decode cX9_place 89 = .ok (.iload 5, 2) := by decide +kernel
theorem dX9_place_91 : decode cX9_place 91 = .ok (.istore 4, 2) := by decide +kernel
theorem dX9_place_93 : decode cX9_place 93 = .ok (.iinc 5 1, 3) := by decide +kernel
theorem dX9_place_96 : decode cX9_place 96 = .ok (.goto (-57), 3) := by decide +kernel
theorem dX9_place_99 : decode cX9_place 99 = .ok (.iload 4, 2) := by decide +kernel
theorem dX9_place_101 : decode cX9_place 101 = .ok (.iconst (-1), 1) := by decide +kernel
theorem dX9_place_102 : decode cX9_place 102 = .ok (.if_icmp .ne 6, 3) := by decide +kernel
theorem dX9_place_105 : decode cX9_place 105 = .ok (.goto 22, 3) := by decide +kernel
theorem dX9_place_108 : decode cX9_place 108 = .ok (.aload_n 0, 1) := by decide +kernel
theorem dX9_place_109 : decode cX9_place 109 = .ok (.getfield 48, 3) := by decide +kernel
theorem dX9_place_112 : decode cX9_place 112 = .ok (.iload 4, 2) := by decide +kernel
theorem dX9_place_114 : decode cX9_place 114 = .ok (.iload_n 3, 1) := by decide +kernel
theorem dX9_place_115 : decode cX9_place 115 = .ok (.iastore, 1) := by decide +kernel
theorem dX9_place_116 : decode cX9_place 116 = .ok (.aload_n 0, 1) := by decide +kernel
theorem dX9_place_117 : decode cX9_place 117 = .ok (.getfield 45, 3) := by decide +kernel
theorem dX9_place_120 : decode cX9_place 120 = .ok (.iload_n 2, 1) := by decide +kernel
theorem dX9_place_121 : decode cX9_place 121 = .ok (.iload 4, 2) := by decide +kernel
theorem dX9_place_123 : decode cX9_place 123 = .ok (.iastore, 1) := by decide +kernel
theorem dX9_place_124 : decode cX9_place 124 = .ok (.iinc 2 1, 3) := by decide +kernel
theorem dX9_place_127 : decode cX9_place 127 = .ok (.iinc 3 1, 3) := by decide +kernel
theorem dX9_place_130 : decode cX9_place 130 = .ok (.goto (-102), 3) := by decide +kernel
theorem dX9_place_133 : decode cX9_place 133 = .ok (.return_, 1) := by decide +kernel
set_option maxRecDepth 20000 in
theorem ggX9_filler_X9_after : GoodIn wsX9_filler wsX9_after := goodIn_r _ [8, 9, 10, 11, 12, 13, 2, 14, 15, 16, 7, 17, 18, 19, 20, 21, 22, 23, 24, 25, 26, 27, 28, 29, 30, 31, 32, 33, 34, 35, 36, 37, 38, 39, 40, 41, 42, 43, 44, 45, 46, 47, 48, 49, 50, 51, 52, 53, 54, 55, 56, 57, 58, 59] (by decide +kernel) (by decide +kernel)
set_option maxRecDepth 20000 in
theorem gX9_filler_X9_after : GoodIn wsX9_filler (wsV RX9 165 RX9 yX9_after wsX9_after) := goodIn_app (goodIn_of _ (by decide +kernel)) ggX9_filler_X9_after
theorem dX9_filler_0 : decode cX9_filler 0 = .ok (.iload_n 1, 1) := by decide +kernel
theorem dX9_filler_1 : decode cX9_filler 1 = .ok (.iconst 1, 1) := by decide +kernel
theorem dX9_filler_2 : decode cX9_filler 2 = .ok (.isub, 1) := by decide +kernel
theorem dX9_filler_3 : decode cX9_filler 3 = .ok (.istore_n 2, 1) := by decide +kernel
theorem dX9_filler_4 : decode cX9_filler 4 = .ok (.iload_n 2, 1) := by decide +kernel
theorem dX9_filler_5 : decode cX9_filler 5 = .ok (.ifCond .lt 84, 3) := by decide +kernel
theorem dX9_filler_8 : decode cX9_filler 8 = .ok (.aload_n 0, 1) := by decide +kernel
theorem dX9_filler_9 : decode cX9_filler 9 = .ok (.getfield 45, 3) := by decide +kernel
theorem dX9_filler_12 : decode cX9_filler 12 = .ok (.iload_n 2, 1) := by decide +kernel
theorem dX9_filler_13 : decode cX9_filler 13 = .ok (.iaload, 1) := by decide +kernel
theorem dX9_filler_14 : decode cX9_filler 14 = .ok (.istore_n 3, 1) := by decide +kernel
theorem dX9_filler_15 : decode cX9_filler 15 = .ok (.aload_n 0, 1) := by decide +kernel
theorem dX9_filler_16 : decode cX9_filler 16 = .ok (.getfield 16, 3) := by decide +kernel
theorem dX9_filler_19 : decode cX9_filler 19 = .ok (.iload_n 3, 1) := by decide +kernel
theorem dX9_filler_20 : decode cX9_filler 20 = .ok (.iaload, 1) := by decide +kernel
theorem dX9_filler_21 : decode cX9_filler 21 = .ok (.bipush 8, 2) := by decide +kernel
theorem dX9_filler_23 : decode cX9_filler 23 = .ok (.if_icmp .eq 7, 3) := by decide +kernel
theorem dX9_filler_26 : decode cX9_filler 26 = .ok (.iconst 1, 1) := by decide +kernel
theorem dX9_filler_27 : decode cX9_filler 27 = .ok (.goto 4, 3) := by decide +kernel
theorem dX9_filler_30 : decode cX9_filler 30 = .ok (.iconst 0, 1) := by decide +kernel
theorem dX9_filler_31 : decode cX9_filler 31 = .ok (.istore 4, 2) := by decide +kernel
theorem dX9_filler_33 : decode cX9_filler 33 = .ok (.iload_n 3, 1) := by decide +kernel
theorem dX9_filler_34 : decode cX9_filler 34 = .ok (.iconst 1, 1) := by decide +kernel
theorem dX9_filler_35 : decode cX9_filler 35 = .ok (.iadd, 1) := by decide +kernel
theorem dX9_filler_36 : decode cX9_filler 36 = .ok (.istore 5, 2) := by decide +kernel
theorem dX9_filler_38 : decode cX9_filler 38 = .ok (.iload 5, 2) := by decide +kernel
theorem dX9_filler_40 : decode cX9_filler 40 = .ok (.aload_n 0, 1) := by decide +kernel
theorem dX9_filler_41 : decode cX9_filler 41 = .ok (.getfield 148, 3) := by decide +kernel
theorem dX9_filler_44 : decode cX9_filler 44 = .ok (.if_icmp .ge 32, 3) := by decide +kernel
theorem dX9_filler_47 : decode cX9_filler 47 = .ok (.iload 4, 2) := by decide +kernel
theorem dX9_filler_49 : decode cX9_filler 49 = .ok (.ifCond .eq 27, 3) := by decide +kernel
theorem dX9_filler_52 : decode cX9_filler 52 = .ok (.aload_n 0, 1) := by decide +kernel
theorem dX9_filler_53 : decode cX9_filler 53 = .ok (.iload 5, 2) := by decide +kernel
theorem dX9_filler_55 : decode cX9_filler 55 = .ok (.iload_n 3, 1) := by decide +kernel
theorem dX9_filler_56 : decode cX9_filler 56 = .ok (.invokevirtual 165, 3) := by decide +kernel
theorem dX9_filler_59 : decode cX9_filler 59 = .ok (.iconst (-1), 1) := by decide +kernel
theorem dX9_filler_60 : decode cX9_filler 60 = .ok (.if_icmp .ne 7, 3) := by decide +kernel
theorem dX9_filler_63 : decode cX9_filler 63 = .ok (.iconst 1, 1) := by decide +kernel
theorem dX9_filler_64 : decode cX9_filler 64 = .ok (.goto 4, 3) := by decide +kernel
theorem dX9_filler_67 : decode cX9_filler 67 = .ok (.iconst 0, 1) := by decide +kernel
theorem dX9_filler_68 : decode cX9_filler 68 = .ok (.istore 4, 2) := by decide +kernel
theorem dX9_filler_70 : decode cX9_filler 70 = .ok (.iinc 5 1, 3) := by decide +kernel
theorem dX9_filler_73 : decode cX9_filler 73 = .ok (.goto (-35), 3) := by decide +kernel
theorem dX9_filler_76 : decode cX9_filler 76 = .ok (.iload 4, 2) := by decide +kernel
theorem dX9_filler_78 : decode cX9_filler 78 = .ok (.ifCond .eq 5, 3) := by decide +kernel
theorem dX9_filler_81 : decode cX9_filler 81 = .ok (.iload_n 2, 1) := by decide +kernel
theorem dX9_filler_82 : decode cX9_filler 82 = .ok (.ireturn, 1) := by decide +kernel
theorem dX9_filler_83 : decode cX9_filler 83 = .ok (.iinc 2 (-1), 3) := by decide +kernel
theorem dX9_filler_86 : decode cX9_filler 86 = .ok (.goto (-82), 3) := by decide +kernel
theorem dX9_filler_89 : decode cX9_filler 89 = .ok (.iconst (-1), 1) := by decide +kernel
theorem dX9_filler_90 : decode cX9_filler 90 = .ok (.ireturn, 1) := by decide +kernel
set_option maxRecDepth 20000 in
theorem ggX9_schedule_X9_place : GoodIn wsX9_schedule wsX9_place := goodIn_r _ [12, 13, 14, 5, 15, 16, 17, 11, 18, 3, 19, 4, 20, 21, 22, 23, 24, 25, 26, 27, 28, 29, 30, 31, 32, 33, 34, 35, 36, 37, 38, 39, 40, 41, 42, 43, 44, 45, 46, 47, 48, 49, 50, 51, 68, 69, 70, 71, 72, 73, 74, 75, 76, 77, 78, 79, 80, 81, 82, 83, 84, 85, 86, 87, 88, 89, 90, 91, 92, 93] (by decide +kernel) (by decide +kernel)
set_option maxRecDepth 20000 in
theorem gX9_schedule_X9_place : GoodIn wsX9_schedule (wsV RX9 175 RX9 yX9_place wsX9_place) := goodIn_app (goodIn_of _ (by decide +kernel)) ggX9_schedule_X9_place
set_option maxRecDepth 20000 in
theorem ggX9_schedule_X9_filler : GoodIn wsX9_schedule wsX9_filler := goodIn_r _ [55, 5, 4, 3, 20, 21, 22, 11, 23, 24, 25, 26, 27, 19, 28, 29, 30, 31, 32, 33, 34, 35, 36, 37, 38, 39, 40, 41, 42, 43, 44, 45, 46, 47, 68, 69, 70, 71, 72, 73, 74, 75, 76, 77, 78, 79, 80, 81, 82, 83, 84, 85, 86, 87, 88, 89, 90, 91, 92, 93] (by decide +kernel) (by decide +kernel)
set_option maxRecDepth 20000 in
theorem gX9_schedule_X9_filler : GoodIn wsX9_schedule (wsV RX9 178 RX9 yX9_filler wsX9_filler) := goodIn_app (goodIn_of _ (by decide +kernel)) ggX9_schedule_X9_filler
set_option maxRecDepth 20000 in
theorem ggX9_schedule_X9_comes : GoodIn wsX9_schedule wsX9_comes := goodIn_r _ [59, 60, 7, 32, 61, 68, 69, 70, 71, 72, 73, 74, 75, 76, 77, 78, 79, 80, 81, 82, 83, 84, 85, 86, 87, 88, 89, 90, 91, 92, 93] (by decide +kernel) (by decide +kernel)
set_option maxRecDepth 20000 in
theorem gX9_schedule_X9_comes : GoodIn wsX9_schedule (wsV RX9 184 RX9 yX9_comes wsX9_comes) := goodIn_app (goodIn_of _ (by decide +kernel)) ggX9_schedule_X9_comes
set_option maxRecDepth 20000 in
theorem ggX9_schedule_X9_findCycles : GoodIn wsX9_schedule wsX9_findCycles := goodIn_r _ [65, 66, 7, 67, 61, 20, 21, 22, 11, 23, 24, 25, 26, 27, 19, 4, 28, 29, 30, 31, 32, 33, 34, 35, 36, 37, 38, 39, 40, 41, 42, 43, 44, 45, 46, 47, 68, 69, 70, 71, 72, 73, 74, 75, 76, 77, 78, 79, 80, 81, 82, 83, 84, 85, 86, 87, 88, 89, 90, 91, 92, 93] (by decide +kernel) (by decide +kernel)
set_option maxRecDepth 20000 in
theorem gX9_schedule_X9_findCycles : GoodIn wsX9_schedule (wsV RX9 187 RX9 yX9_findCycles wsX9_findCycles) := goodIn_app (goodIn_of _ (by decide +kernel)) ggX9_schedule_X9_findCycles
theorem dX9_schedule_0 : decode cX9_schedule 0 = .ok (.aload_n 0, 1) := by decide +kernel
theorem dX9_schedule_1 : decode cX9_schedule 1 = .ok (.iconst 0, 1) := by decide +kernel
theorem dX9_schedule_2 : decode cX9_schedule 2 = .ok (.putfield 54, 3) := by decide +kernel
theorem dX9_schedule_5 : decode cX9_schedule 5 = .ok (.aload_n 0, 1) := by decide +kernel
theorem dX9_schedule_6 : decode cX9_schedule 6 = .ok (.iconst 1, 1) := by decide +kernel
theorem dX9_schedule_7 : decode cX9_schedule 7 = .ok (.putfield 145, 3) := by decide +kernel
theorem dX9_schedule_10 : decode cX9_schedule 10 = .ok (.aload_n 0, 1) := by decide +kernel
theorem dX9_schedule_11 : decode cX9_schedule 11 = .ok (.getfield 148, 3) := by decide +kernel
theorem dX9_schedule_14 : decode cX9_schedule 14 = .ok (.ifCond .le 23, 3) := by decide +kernel
theorem dX9_schedule_17 : decode cX9_schedule 17 = .ok (.aload_n 0, 1) := by decide +kernel
theorem dX9_schedule_18 : decode cX9_schedule 18 = .ok (.getfield 16, 3) := by decide +kernel
theorem dX9_schedule_21 : decode cX9_schedule 21 = .ok (.aload_n 0, 1) := by decide +kernel
theorem dX9_schedule_22 : decode cX9_schedule 22 = .ok (.getfield 148, 3) := by decide +kernel
theorem dX9_schedule_25 : decode cX9_schedule 25 = .ok (.iconst 1, 1) := by decide +kernel
theorem dX9_schedule_26 : decode cX9_schedule 26 = .ok (.isub, 1) := by decide +kernel
theorem dX9_schedule_27 : decode cX9_schedule 27 = .ok (.iaload, 1) := by decide +kernel
theorem dX9_schedule_28 : decode cX9_schedule 28 = .ok (.bipush 7, 2) := by decide +kernel
theorem dX9_schedule_30 : decode cX9_schedule 30 = .ok (.if_icmp .ne 7, 3) := by decide +kernel
theorem dX9_schedule_33 : decode cX9_schedule 33 = .ok (.iconst 1, 1) := by decide +kernel
theorem dX9_schedule_34 : decode cX9_schedule 34 = .ok (.goto 4, 3) := by decide +kernel
theorem dX9_schedule_37 : decode cX9_schedule 37 = .ok (.iconst 0, 1) := by decide +kernel
theorem dX9_schedule_38 : decode cX9_schedule 38 = .ok (.istore_n 3, 1) := by decide +kernel
theorem dX9_schedule_39 : decode cX9_schedule 39 = .ok (.iload_n 3, 1) := by decide +kernel
theorem dX9_schedule_40 : decode cX9_schedule 40 = .ok (.ifCond .eq 12, 3) := by decide +kernel
theorem dX9_schedule_43 : decode cX9_schedule 43 = .ok (.aload_n 0, 1) := by decide +kernel

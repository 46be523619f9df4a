theorem dX9_special_192 : decode cX9_special 192 = .ok (.invokevirtual 117, 3) := by decide +kernel
theorem dX9_special_195 : decode cX9_special 195 = .ok (.lor, 1) := by decide +kernel
theorem dX9_special_196 : decode cX9_special 196 = .ok (.aload_n 0, 1) := by decide +kernel
theorem dX9_special_197 : decode cX9_special 197 = .ok (.invokevirtual 121, 3) := by decide +kernel
theorem dX9_special_200 : decode cX9_special 200 = .ok (.lor, 1) := by decide +kernel
theorem dX9_special_201 : decode cX9_special 201 = .ok (.aload_n 0, 1) := by decide +kernel
theorem dX9_special_202 : decode cX9_special 202 = .ok (.invokevirtual 121, 3) := by decide +kernel
theorem dX9_special_205 : decode cX9_special 205 = .ok (.invokevirtual 124, 3) := by decide +kernel
theorem dX9_special_208 : decode cX9_special 208 = .ok (.goto 167, 3) := by decide +kernel
theorem dX9_special_211 : decode cX9_special 211 = .ok (.iload_n 1, 1) := by decide +kernel
theorem dX9_special_212 : decode cX9_special 212 = .ok (.bipush 12, 2) := by decide +kernel
theorem dX9_special_214 : decode cX9_special 214 = .ok (.if_icmp .eq 45, 3) := by decide +kernel
theorem dX9_special_217 : decode cX9_special 217 = .ok (.iload_n 1, 1) := by decide +kernel
theorem dX9_special_218 : decode cX9_special 218 = .ok (.bipush 13, 2) := by decide +kernel
theorem dX9_special_220 : decode cX9_special 220 = .ok (.if_icmp .eq 39, 3) := by decide +kernel
theorem dX9_special_223 : decode cX9_special 223 = .ok (.iload_n 1, 1) := by decide +kernel
theorem dX9_special_224 : decode cX9_special 224 = .ok (.bipush 15, 2) := by decide +kernel
theorem dX9_special_226 : decode cX9_special 226 = .ok (.if_icmp .eq 33, 3) := by decide +kernel
theorem dX9_special_229 : decode cX9_special 229 = .ok (.iload_n 1, 1) := by decide +kernel
theorem dX9_special_230 : decode cX9_special 230 = .ok (.bipush 32, 2) := by decide +kernel
theorem dX9_special_232 : decode cX9_special 232 = .ok (.if_icmp .eq 27, 3) := by decide +kernel
theorem dX9_special_235 : decode cX9_special 235 = .ok (.iload_n 1, 1) := by decide +kernel
theorem dX9_special_236 : decode cX9_special 236 = .ok (.bipush 34, 2) := by decide +kernel
theorem dX9_special_238 : decode cX9_special 238 = .ok (.if_icmp .eq 21, 3) := by decide +kernel
theorem dX9_special_241 : decode cX9_special 241 = .ok (.iload_n 1, 1) := by decide +kernel
theorem dX9_special_242 : decode cX9_special 242 = .ok (.bipush 48, 2) := by decide +kernel
theorem dX9_special_244 : decode cX9_special 244 = .ok (.if_icmp .lt 26, 3) := by decide +kernel
theorem dX9_special_247 : decode cX9_special 247 = .ok (.iload_n 1, 1) := by decide +kernel
theorem dX9_special_248 : decode cX9_special 248 = .ok (.bipush 55, 2) := by decide +kernel
theorem dX9_special_250 : decode cX9_special 250 = .ok (.if_icmp .ge 20, 3) := by decide +kernel
theorem dX9_special_253 : decode cX9_special 253 = .ok (.iload_n 1, 1) := by decide +kernel
theorem dX9_special_254 : decode cX9_special 254 = .ok (.bipush 53, 2) := by decide +kernel
theorem dX9_special_256 : decode cX9_special 256 = .ok (.if_icmp .eq 14, 3) := by decide +kernel
theorem dX9_special_259 : decode cX9_special 259 = .ok (.aload_n 0, 1) := by decide +kernel
theorem dX9_special_260 : decode cX9_special 260 = .ok (.bipush 8, 2) := by decide +kernel
theorem dX9_special_262 : decode cX9_special 262 = .ok (.lconst 0, 1) := by decide +kernel
theorem dX9_special_263 : decode cX9_special 263 = .ok (.lconst 0, 1) := by decide +kernel
theorem dX9_special_264 : decode cX9_special 264 = .ok (.invokevirtual 124, 3) := by decide +kernel
theorem dX9_special_267 : decode cX9_special 267 = .ok (.goto 108, 3) := by decide +kernel
theorem dX9_special_270 : decode cX9_special 270 = .ok (.iload_n 1, 1) := by decide +kernel
theorem dX9_special_271 : decode cX9_special 271 = .ok (.bipush 16, 2) := by decide +kernel
theorem dX9_special_273 : decode cX9_special 273 = .ok (.if_icmp .eq 9, 3) := by decide +kernel
theorem dX9_special_276 : decode cX9_special 276 = .ok (.iload_n 1, 1) := by decide +kernel
theorem dX9_special_277 : decode cX9_special 277 = .ok (.bipush 18, 2) := by decide +kernel
theorem dX9_special_279 : decode cX9_special 279 = .ok (.if_icmp .ne 22, 3) := by decide +kernel
theorem dX9_special_282 : decode cX9_special 282 = .ok (.aload_n 0, 1) := by decide +kernel
theorem dX9_special_283 : decode cX9_special 283 = .ok (.iconst 0, 1) := by decide +kernel
theorem dX9_special_284 : decode cX9_special 284 = .ok (.lconst 0, 1) := by decide +kernel
theorem dX9_special_285 : decode cX9_special 285 = .ok (.aload_n 0, 1) := by decide +kernel
theorem dX9_special_286 : decode cX9_special 286 = .ok (.invokevirtual 121, 3) := by decide +kernel
theorem dX9_special_289 : decode cX9_special 289 = .ok (.invokevirtual 124, 3) := by decide +kernel
theorem dX9_special_292 : decode cX9_special 292 = .ok (.aload_n 0, 1) := by decide +kernel
theorem dX9_special_293 : decode cX9_special 293 = .ok (.iconst 2, 1) := by decide +kernel
theorem dX9_special_294 : decode cX9_special 294 = .ok (.iconst 0, 1) := by decide +kernel
theorem dX9_special_295 : decode cX9_special 295 = .ok (.invokevirtual 91, 3) := by decide +kernel
theorem dX9_special_298 : decode cX9_special 298 = .ok (.goto 77, 3) := by decide +kernel
theorem dX9_special_301 : decode cX9_special 301 = .ok (.iload_n 1, 1) := by decide +kernel
theorem dX9_special_302 : decode cX9_special 302 = .ok (.bipush 17, 2) := by decide +kernel
theorem dX9_special_304 : decode cX9_special 304 = .ok (.if_icmp .eq 9, 3) := by decide +kernel
theorem dX9_special_307 : decode cX9_special 307 = .ok (.iload_n 1, 1) := by decide +kernel
theorem dX9_special_308 : decode cX9_special 308 = .ok (.bipush 19, 2) := by decide +kernel
theorem dX9_special_310 : decode cX9_special 310 = .ok (.if_icmp .ne 22, 3) := by decide +kernel
theorem dX9_special_313 : decode cX9_special 313 = .ok (.aload_n 0, 1) := by decide +kernel
theorem dX9_special_314 : decode cX9_special 314 = .ok (.iconst 0, 1) := by decide +kernel
theorem dX9_special_315 : decode cX9_special 315 = .ok (.aload_n 0, 1) := by decide +kernel
theorem dX9_special_316 : decode cX9_special 316 = .ok (.invokevirtual 128, 3) := by decide +kernel
theorem dX9_special_319 : decode cX9_special 319 = .ok (.lconst 0, 1) := by decide +kernel
theorem dX9_special_320 : decode cX9_special 320 = .ok (.invokevirtual 124, 3) := by decide +kernel
theorem dX9_special_323 : decode cX9_special 323 = .ok (.aload_n 0, 1) := by decide +kernel
theorem dX9_special_324 : decode cX9_special 324 = .ok (.iconst 2, 1) := by decide +kernel
theorem dX9_special_325 : decode cX9_special 325 = .ok (.iconst 2, 1) := by decide +kernel
theorem dX9_special_326 : decode cX9_special 326 = .ok (.invokevirtual 91, 3) := by decide +kernel
theorem dX9_special_329 : decode cX9_special 329 = .ok (.goto 46, 3) := by decide +kernel
theorem dX9_special_332 : decode cX9_special 332 = .ok (.iload_n 1, 1) := by decide +kernel
theorem dX9_special_333 : decode cX9_special 333 = .ok (.bipush 24, 2) := by decide +kernel
theorem dX9_special_335 : decode cX9_special 335 = .ok (.if_icmp .lt 40, 3) := by decide +kernel
theorem dX9_special_338 : decode cX9_special 338 = .ok (.iload_n 1, 1) := by decide +kernel
theorem dX9_special_339 : decode cX9_special 339 = .ok (.bipush 28, 2) := by decide +kernel
theorem dX9_special_341 : decode cX9_special 341 = .ok (.if_icmp .ge 34, 3) := by decide +kernel
theorem dX9_special_344 : decode cX9_special 344 = .ok (.aload_n 0, 1) := by decide +kernel
theorem dX9_special_345 : decode cX9_special 345 = .ok (.iload_n 1, 1) := by decide +kernel
theorem dX9_special_346 : decode cX9_special 346 = .ok (.bipush 26, 2) := by decide +kernel
theorem dX9_special_348 : decode cX9_special 348 = .ok (.if_icmp .ge 7, 3) := by decide +kernel
theorem dX9_special_351 : decode cX9_special 351 = .ok (.iconst 3, 1) := by decide +kernel
theorem dX9_special_352 : decode cX9_special 352 = .ok (.goto 4, 3) := by decide +kernel
theorem dX9_special_355 : decode cX9_special 355 = .ok (.iconst 4, 1) := by decide +kernel
theorem dX9_special_356 : decode cX9_special 356 = .ok (.aload_n 0, 1) := by decide +kernel
theorem dX9_special_357 : decode cX9_special 357 = .ok (.invokevirtual 128, 3) := by decide +kernel
theorem dX9_special_360 : decode cX9_special 360 = .ok (.aload_n 0, 1) := by decide +kernel
theorem dX9_special_361 : decode cX9_special 361 = .ok (.invokevirtual 117, 3) := by decide +kernel
theorem dX9_special_364 : decode cX9_special 364 = .ok (.lor, 1) := by decide +kernel
theorem dX9_special_365 : decode cX9_special 365 = .ok (.lconst 0, 1) := by decide +kernel
theorem dX9_special_366 : decode cX9_special 366 = .ok (.invokevirtual 124, 3) := by decide +kernel
theorem dX9_special_369 : decode cX9_special 369 = .ok (.aload_n 0, 1) := by decide +kernel
theorem dX9_special_370 : decode cX9_special 370 = .ok (.iconst 0, 1) := by decide +kernel
theorem dX9_special_371 : decode cX9_special 371 = .ok (.iconst 2, 1) := by decide +kernel
theorem dX9_special_372 : decode cX9_special 372 = .ok (.invokevirtual 91, 3) := by decide +kernel
theorem dX9_special_375 : decode cX9_special 375 = .ok (.return_, 1) := by decide +kernel
set_option maxRecDepth 20000 in
theorem ggX9_immediate_X9_s : GoodIn wsX9_immediate wsX9_s := goodIn_r _ [6, 7, 8, 9, 5, 10, 11, 12, 13, 14, 22, 23, 24, 25, 26, 27, 28, 29, 30, 31, 32, 33, 34, 35, 36, 37, 38, 39, 40, 41, 42, 43, 44, 45, 46, 47] (by decide +kernel) (by decide +kernel)
set_option maxRecDepth 20000 in
theorem gX9_immediate_X9_s : GoodIn wsX9_immediate (wsV RX9 128 RX9 yX9_s wsX9_s) := goodIn_app (goodIn_of _ (by decide +kernel)) ggX9_immediate_X9_s
set_option maxRecDepth 20000 in
theorem ggX9_immediate_X9_is : GoodIn wsX9_immediate wsX9_is := goodIn_r _ [18, 19, 20, 21, 22, 23, 24, 25, 26, 27, 28, 29, 30, 31, 32, 33, 34, 35, 36, 37, 38, 39, 40, 41, 42, 43, 44, 45, 46, 47] (by decide +kernel) (by decide +kernel)
set_option maxRecDepth 20000 in
theorem gX9_immediate_X9_is : GoodIn wsX9_immediate (wsV RX9 124 RX9 yX9_is wsX9_is) := goodIn_app (goodIn_of _ (by decide +kernel)) ggX9_immediate_X9_is
set_option maxRecDepth 20000 in
theorem ggX9_immediate_X9_register : GoodIn wsX9_immediate wsX9_register := goodIn_r _ [14] (by decide +kernel) (by decide +kernel)
set_option maxRecDepth 20000 in
theorem gX9_immediate_X9_register : GoodIn wsX9_immediate (va_wsS RX9 65 yX9_register wsX9_register) := goodIn_app (goodIn_of _ (by decide +kernel)) ggX9_immediate_X9_register
theorem dX9_immediate_0 : decode cX9_immediate 0 = .ok (.iload_n 1, 1) := by decide +kernel
theorem dX9_immediate_1 : decode cX9_immediate 1 = .ok (.iconst 4, 1) := by decide +kernel
theorem dX9_immediate_2 : decode cX9_immediate 2 = .ok (.if_icmp .ge 31, 3) := by decide +kernel
theorem dX9_immediate_5 : decode cX9_immediate 5 = .ok (.aload_n 0, 1) := by decide +kernel
theorem dX9_immediate_6 : decode cX9_immediate 6 = .ok (.bipush 7, 2) := by decide +kernel
theorem dX9_immediate_8 : decode cX9_immediate 8 = .ok (.aload_n 0, 1) := by decide +kernel
theorem dX9_immediate_9 : decode cX9_immediate 9 = .ok (.invokevirtual 128, 3) := by decide +kernel
theorem dX9_immediate_12 : decode cX9_immediate 12 = .ok (.lconst 0, 1) := by decide +kernel
theorem dX9_immediate_13 : decode cX9_immediate 13 = .ok (.invokevirtual 124, 3) := by decide +kernel
theorem dX9_immediate_16 : decode cX9_immediate 16 = .ok (.aload_n 0, 1) := by decide +kernel
theorem dX9_immediate_17 : decode cX9_immediate 17 = .ok (.iload_n 1, 1) := by decide +kernel
theorem dX9_immediate_18 : decode cX9_immediate 18 = .ok (.iconst 1, 1) := by decide +kernel
theorem dX9_immediate_19 : decode cX9_immediate 19 = .ok (.if_icmp .le 7, 3) := by decide +kernel
theorem dX9_immediate_22 : decode cX9_immediate 22 = .ok (.iconst 1, 1) := by decide +kernel
theorem dX9_immediate_23 : decode cX9_immediate 23 = .ok (.goto 4, 3) := by decide +kernel
theorem dX9_immediate_26 : decode cX9_immediate 26 = .ok (.iconst 0, 1) := by decide +kernel
theorem dX9_immediate_27 : decode cX9_immediate 27 = .ok (.putfield 87, 3) := by decide +kernel
theorem dX9_immediate_30 : decode cX9_immediate 30 = .ok (.goto 59, 3) := by decide +kernel
theorem dX9_immediate_33 : decode cX9_immediate 33 = .ok (.iload_n 1, 1) := by decide +kernel
theorem dX9_immediate_34 : decode cX9_immediate 34 = .ok (.bipush 16, 2) := by decide +kernel
theorem dX9_immediate_36 : decode cX9_immediate 36 = .ok (.if_icmp .eq 9, 3) := by decide +kernel
theorem dX9_immediate_39 : decode cX9_immediate 39 = .ok (.iload_n 1, 1) := by decide +kernel
theorem dX9_immediate_40 : decode cX9_immediate 40 = .ok (.bipush 17, 2) := by decide +kernel
theorem dX9_immediate_42 : decode cX9_immediate 42 = .ok (.if_icmp .ne 21, 3) := by decide +kernel
theorem dX9_immediate_45 : decode cX9_immediate 45 = .ok (.aload_n 0, 1) := by decide +kernel
theorem dX9_immediate_46 : decode cX9_immediate 46 = .ok (.bipush 7, 2) := by decide +kernel
theorem dX9_immediate_48 : decode cX9_immediate 48 = .ok (.aload_n 0, 1) := by decide +kernel
theorem dX9_immediate_49 : decode cX9_immediate 49 = .ok (.invokevirtual 128, 3) := by decide +kernel
theorem dX9_immediate_52 : decode cX9_immediate 52 = .ok (.bipush 31, 2) := by decide +kernel
theorem dX9_immediate_54 : decode cX9_immediate 54 = .ok (.invokestatic 65, 3) := by decide +kernel
theorem dX9_immediate_57 : decode cX9_immediate 57 = .ok (.invokevirtual 124, 3) := by decide +kernel
theorem dX9_immediate_60 : decode cX9_immediate 60 = .ok (.goto 29, 3) := by decide +kernel
theorem dX9_immediate_63 : decode cX9_immediate 63 = .ok (.iload_n 1, 1) := by decide +kernel
theorem dX9_immediate_64 : decode cX9_immediate 64 = .ok (.bipush 8, 2) := by decide +kernel
theorem dX9_immediate_66 : decode cX9_immediate 66 = .ok (.if_icmp .lt 23, 3) := by decide +kernel
theorem dX9_immediate_69 : decode cX9_immediate 69 = .ok (.iload_n 1, 1) := by decide +kernel
theorem dX9_immediate_70 : decode cX9_immediate 70 = .ok (.bipush 15, 2) := by decide +kernel
theorem dX9_immediate_72 : decode cX9_immediate 72 = .ok (.if_icmp .ge 17, 3) := by decide +kernel
theorem dX9_immediate_75 : decode cX9_immediate 75 = .ok (.iload_n 1, 1) := by decide +kernel
theorem dX9_immediate_76 : decode cX9_immediate 76 = .ok (.bipush 13, 2) := by decide +kernel
theorem dX9_immediate_78 : decode cX9_immediate 78 = .ok (.if_icmp .eq 11, 3) := by decide +kernel
theorem dX9_immediate_81 : decode cX9_immediate 81 = .ok (.aload_n 0, 1) := by decide +kernel
theorem dX9_immediate_82 : decode cX9_immediate 82 = .ok (.bipush 8, 2) := by decide +kernel
theorem dX9_immediate_84 : decode cX9_immediate 84 = .ok (.lconst 0, 1) := by decide +kernel
theorem dX9_immediate_85 : decode cX9_immediate 85 = .ok (.lconst 0, 1) := by decide +kernel
theorem dX9_immediate_86 : decode cX9_immediate 86 = .ok (.invokevirtual 124, 3) := by decide +kernel
theorem dX9_immediate_89 : decode cX9_immediate 89 = .ok (.return_, 1) := by decide +kernel
set_option maxRecDepth 20000 in
theorem ggX9_branch_X9_register : GoodIn wsX9_branch wsX9_register := goodIn_r _ [5] (by decide +kernel) (by decide +kernel)
set_option maxRecDepth 20000 in
theorem gX9_branch_X9_register : GoodIn wsX9_branch (va_wsS RX9 65 yX9_register wsX9_register) := goodIn_app (goodIn_of _ (by decide +kernel)) ggX9_branch_X9_register
set_option maxRecDepth 20000 in
theorem ggX9_branch_X9_is : GoodIn wsX9_branch wsX9_is := goodIn_r _ [9, 10, 11, 12, 26, 27, 28, 29, 30, 31, 32, 33, 34, 35, 36, 37, 38, 39, 40, 41, 42, 43, 44, 45, 46, 47, 48, 49, 50, 51] (by decide +kernel) (by decide +kernel)
set_option maxRecDepth 20000 in
theorem gX9_branch_X9_is : GoodIn wsX9_branch (wsV RX9 124 RX9 yX9_is wsX9_is) := goodIn_app (goodIn_of _ (by decide +kernel)) ggX9_branch_X9_is
set_option maxRecDepth 20000 in
theorem ggX9_branch_X9_s : GoodIn wsX9_branch wsX9_s := goodIn_r _ [16, 17, 18, 19, 4, 20, 21, 2, 3, 5, 26, 27, 28, 29, 30, 31, 32, 33, 34, 35, 36, 37, 38, 39, 40, 41, 42, 43, 44, 45, 46, 47, 48, 49, 50, 51] (by decide +kernel) (by decide +kernel)
set_option maxRecDepth 20000 in
theorem gX9_branch_X9_s : GoodIn wsX9_branch (wsV RX9 128 RX9 yX9_s wsX9_s) := goodIn_app (goodIn_of _ (by decide +kernel)) ggX9_branch_X9_s
set_option maxRecDepth 20000 in
theorem ggX9_branch_X9_t : GoodIn wsX9_branch wsX9_t := goodIn_r _ [25, 17, 18, 19, 4, 20, 21, 2, 3, 5, 26, 27, 28, 29, 30, 31, 32, 33, 34, 35, 36, 37, 38, 39, 40, 41, 42, 43, 44, 45, 46, 47, 48, 49, 50, 51] (by decide +kernel) (by decide +kernel)
set_option maxRecDepth 20000 in
theorem gX9_branch_X9_t : GoodIn wsX9_branch (wsV RX9 117 RX9 yX9_t wsX9_t) := goodIn_app (goodIn_of _ (by decide +kernel)) ggX9_branch_X9_t
theorem dX9_branch_0 : decode cX9_branch 0 = .ok (.aload_n 0, 1) := by decide +kernel
theorem dX9_branch_1 : decode cX9_branch 1 = .ok (.iload_n 1, 1) := by decide +kernel
theorem dX9_branch_2 : decode cX9_branch 2 = .ok (.bipush 7, 2) := by decide +kernel
theorem dX9_branch_4 : decode cX9_branch 4 = .ok (.if_icmp .le 7, 3) := by decide +kernel
theorem dX9_branch_7 : decode cX9_branch 7 = .ok (.iconst 1, 1) := by decide +kernel
theorem dX9_branch_8 : decode cX9_branch 8 = .ok (.goto 4, 3) := by decide +kernel
theorem dX9_branch_11 : decode cX9_branch 11 = .ok (.iconst 0, 1) := by decide +kernel
theorem dX9_branch_12 : decode cX9_branch 12 = .ok (.putfield 87, 3) := by decide +kernel
theorem dX9_branch_15 : decode cX9_branch 15 = .ok (.iload_n 1, 1) := by decide +kernel
theorem dX9_branch_16 : decode cX9_branch 16 = .ok (.iconst 4, 1) := by decide +kernel
theorem dX9_branch_17 : decode cX9_branch 17 = .ok (.if_icmp .ge 27, 3) := by decide +kernel
theorem dX9_branch_20 : decode cX9_branch 20 = .ok (.aload_n 0, 1) := by decide +kernel
theorem dX9_branch_21 : decode cX9_branch 21 = .ok (.bipush 7, 2) := by decide +kernel
theorem dX9_branch_23 : decode cX9_branch 23 = .ok (.lconst 0, 1) := by decide +kernel
theorem dX9_branch_24 : decode cX9_branch 24 = .ok (.iload_n 1, 1) := by decide +kernel
theorem dX9_branch_25 : decode cX9_branch 25 = .ok (.iconst 3, 1) := by decide +kernel
theorem dX9_branch_26 : decode cX9_branch 26 = .ok (.if_icmp .ne 11, 3) := by decide +kernel
theorem dX9_branch_29 : decode cX9_branch 29 = .ok (.bipush 31, 2) := by decide +kernel
theorem dX9_branch_31 : decode cX9_branch 31 = .ok (.invokestatic 65, 3) := by decide +kernel
theorem dX9_branch_34 : decode cX9_branch 34 = .ok (.goto 4, 3) := by decide +kernel
theorem dX9_branch_37 : decode cX9_branch 37 = .ok (.lconst 0, 1) := by decide +kernel
theorem dX9_branch_38 : decode cX9_branch 38 = .ok (.invokevirtual 124, 3) := by decide +kernel
theorem dX9_branch_41 : decode cX9_branch 41 = .ok (.goto 33, 3) := by decide +kernel
theorem dX9_branch_44 : decode cX9_branch 44 = .ok (.aload_n 0, 1) := by decide +kernel
theorem dX9_branch_45 : decode cX9_branch 45 = .ok (.bipush 7, 2) := by decide +kernel
theorem dX9_branch_47 : decode cX9_branch 47 = .ok (.iload_n 1, 1) := by decide +kernel
theorem dX9_branch_48 : decode cX9_branch 48 = .ok (.iconst 3, 1) := by decide +kernel
theorem dX9_branch_49 : decode cX9_branch 49 = .ok (.iand, 1) := by decide +kernel
theorem dX9_branch_50 : decode cX9_branch 50 = .ok (.iconst 2, 1) := by decide +kernel
theorem dX9_branch_51 : decode cX9_branch 51 = .ok (.if_icmp .ge 15, 3) := by decide +kernel
theorem dX9_branch_54 : decode cX9_branch 54 = .ok (.aload_n 0, 1) := by decide +kernel
theorem dX9_branch_55 : decode cX9_branch 55 = .ok (.invokevirtual 128, 3) := by decide +kernel
theorem dX9_branch_58 : decode cX9_branch 58 = .ok (.aload_n 0, 1) := by decide +kernel
theorem dX9_branch_59 : decode cX9_branch 59 = .ok (.invokevirtual 117, 3) := by decide +kernel
theorem dX9_branch_62 : decode cX9_branch 62 = .ok (.lor, 1) := by decide +kernel
theorem dX9_branch_63 : decode cX9_branch 63 = .ok (.goto 7, 3) := by decide +kernel
theorem dX9_branch_66 : decode cX9_branch 66 = .ok (.aload_n 0, 1) := by decide +kernel
theorem dX9_branch_67 : decode cX9_branch 67 = .ok (.invokevirtual 128, 3) := by decide +kernel
theorem dX9_branch_70 : decode cX9_branch 70 = .ok (.lconst 0, 1) := by decide +kernel
theorem dX9_branch_71 : decode cX9_branch 71 = .ok (.invokevirtual 124, 3) := by decide +kernel
theorem dX9_branch_74 : decode cX9_branch 74 = .ok (.return_, 1) := by decide +kernel
set_option maxRecDepth 20000 in
theorem ggX9_number_X9_is : GoodIn wsX9_number wsX9_is := goodIn_r _ [5, 6, 7, 8, 25, 26, 27, 28, 29, 30, 31, 32, 33, 34, 35, 36, 37, 38, 39, 40, 41, 42, 43, 44, 45, 46, 47, 48, 49, 50] (by decide +kernel) (by decide +kernel)
set_option maxRecDepth 20000 in
theorem gX9_number_X9_is : GoodIn wsX9_number (wsV RX9 124 RX9 yX9_is wsX9_is) := goodIn_app (goodIn_of _ (by decide +kernel)) ggX9_number_X9_is
set_option maxRecDepth 20000 in
theorem ggX9_number_X9_s : GoodIn wsX9_number wsX9_s := goodIn_r _ [12, 13, 14, 15, 4, 16, 17, 18, 19, 20, 25, 26, 27, 28, 29, 30, 31, 32, 33, 34, 35, 36, 37, 38, 39, 40, 41, 42, 43, 44, 45, 46, 47, 48, 49, 50] (by decide +kernel) (by decide +kernel)
set_option maxRecDepth 20000 in
theorem gX9_number_X9_s : GoodIn wsX9_number (wsV RX9 128 RX9 yX9_s wsX9_s) := goodIn_app (goodIn_of _ (by decide +kernel)) ggX9_number_X9_s
set_option maxRecDepth 20000 in
theorem ggX9_number_X9_t : GoodIn wsX9_number wsX9_t := goodIn_r _ [24, 13, 14, 15, 4, 16, 17, 18, 19, 20, 25, 26, 27, 28, 29, 30, 31, 32, 33, 34, 35, 36, 37, 38, 39, 40, 41, 42, 43, 44, 45, 46, 47, 48, 49, 50] (by decide +kernel) (by decide +kernel)
set_option maxRecDepth 20000 in
theorem gX9_number_X9_t : GoodIn wsX9_number (wsV RX9 117 RX9 yX9_t wsX9_t) := goodIn_app (goodIn_of _ (by decide +kernel)) ggX9_number_X9_t
theorem dX9_number_0 : decode cX9_number 0 = .ok (.iload_n 1, 1) := by decide +kernel
theorem dX9_number_1 : decode cX9_number 1 = .ok (.bipush 8, 2) := by decide +kernel
theorem dX9_number_3 : decode cX9_number 3 = .ok (.if_icmp .ne 14, 3) := by decide +kernel
theorem dX9_number_6 : decode cX9_number 6 = .ok (.aload_n 0, 1) := by decide +kernel
theorem dX9_number_7 : decode cX9_number 7 = .ok (.bipush 8, 2) := by decide +kernel
theorem dX9_number_9 : decode cX9_number 9 = .ok (.lconst 0, 1) := by decide +kernel
theorem dX9_number_10 : decode cX9_number 10 = .ok (.lconst 0, 1) := by decide +kernel
theorem dX9_number_11 : decode cX9_number 11 = .ok (.invokevirtual 124, 3) := by decide +kernel
theorem dX9_number_14 : decode cX9_number 14 = .ok (.goto 26, 3) := by decide +kernel
theorem dX9_number_17 : decode cX9_number 17 = .ok (.aload_n 0, 1) := by decide +kernel
theorem dX9_number_18 : decode cX9_number 18 = .ok (.iconst 0, 1) := by decide +kernel
theorem dX9_number_19 : decode cX9_number 19 = .ok (.iload_n 1, 1) := by decide +kernel
theorem dX9_number_20 : decode cX9_number 20 = .ok (.bipush 15, 2) := by decide +kernel
theorem dX9_number_22 : decode cX9_number 22 = .ok (.if_icmp .ne 7, 3) := by decide +kernel
theorem dX9_number_25 : decode cX9_number 25 = .ok (.lconst 0, 1) := by decide +kernel
theorem dX9_number_26 : decode cX9_number 26 = .ok (.goto 7, 3) := by decide +kernel
theorem dX9_number_29 : decode cX9_number 29 = .ok (.aload_n 0, 1) := by decide +kernel
theorem dX9_number_30 : decode cX9_number 30 = .ok (.invokevirtual 128, 3) := by decide +kernel
theorem dX9_number_33 : decode cX9_number 33 = .ok (.aload_n 0, 1) := by decide +kernel
theorem dX9_number_34 : decode cX9_number 34 = .ok (.invokevirtual 117, 3) := by decide +kernel
theorem dX9_number_37 : decode cX9_number 37 = .ok (.invokevirtual 124, 3) := by decide +kernel
theorem dX9_number_40 : decode cX9_number 40 = .ok (.return_, 1) := by decide +kernel
set_option maxRecDepth 20000 in
theorem ggX9_second_X9_s : GoodIn wsX9_second wsX9_s := goodIn_r _ [5, 6, 7, 8, 4, 9, 10, 11, 12, 13, 35, 36, 37, 38, 39, 40, 41, 42, 43, 44, 45, 46, 47, 48, 49, 50, 51, 52, 53, 54, 55, 56, 57, 58, 59, 60] (by decide +kernel) (by decide +kernel)
set_option maxRecDepth 20000 in
theorem gX9_second_X9_s : GoodIn wsX9_second (wsV RX9 128 RX9 yX9_s wsX9_s) := goodIn_app (goodIn_of _ (by decide +kernel)) ggX9_second_X9_s
set_option maxRecDepth 20000 in
theorem ggX9_second_X9_d : GoodIn wsX9_second wsX9_d := goodIn_r _ [17, 6, 7, 8, 4, 9, 10, 11, 12, 13, 35, 36, 37, 38, 39, 40, 41, 42, 43, 44, 45, 46, 47, 48, 49, 50, 51, 52, 53, 54, 55, 56, 57, 58, 59, 60] (by decide +kernel) (by decide +kernel)
set_option maxRecDepth 20000 in
theorem gX9_second_X9_d : GoodIn wsX9_second (wsV RX9 121 RX9 yX9_d wsX9_d) := goodIn_app (goodIn_of _ (by decide +kernel)) ggX9_second_X9_d
set_option maxRecDepth 20000 in
theorem ggX9_second_X9_is : GoodIn wsX9_second wsX9_is := goodIn_r _ [21, 22, 23, 24, 35, 36, 37, 38, 39, 40, 41, 42, 43, 44, 45, 46, 47, 48, 49, 50, 51, 52, 53, 54, 55, 56, 57, 58, 59, 60] (by decide +kernel) (by decide +kernel)
set_option maxRecDepth 20000 in
theorem gX9_second_X9_is : GoodIn wsX9_second (wsV RX9 124 RX9 yX9_is wsX9_is) := goodIn_app (goodIn_of _ (by decide +kernel)) ggX9_second_X9_is
set_option maxRecDepth 20000 in
theorem ggX9_second_X9_t : GoodIn wsX9_second wsX9_t := goodIn_r _ [28, 6, 7, 8, 4, 9, 10, 11, 12, 13, 35, 36, 37, 38, 39, 40, 41, 42, 43, 44, 45, 46, 47, 48, 49, 50, 51, 52, 53, 54, 55, 56, 57, 58, 59, 60] (by decide +kernel) (by decide +kernel)
set_option maxRecDepth 20000 in
theorem gX9_second_X9_t : GoodIn wsX9_second (wsV RX9 117 RX9 yX9_t wsX9_t) := goodIn_app (goodIn_of _ (by decide +kernel)) ggX9_second_X9_t
set_option maxRecDepth 20000 in
theorem ggX9_second_X9_also : GoodIn wsX9_second wsX9_also := goodIn_r _ [32, 33, 34, 35, 36, 37, 38, 39, 40, 41, 42, 43, 44, 45, 46, 47, 48, 49, 50, 51, 52, 53, 54, 55, 56, 57, 58, 59, 60] (by decide +kernel) (by decide +kernel)
set_option maxRecDepth 20000 in
theorem gX9_second_X9_also : GoodIn wsX9_second (wsV RX9 91 RX9 yX9_also wsX9_also) := goodIn_app (goodIn_of _ (by decide +kernel)) ggX9_second_X9_also
theorem dX9_second_0 : decode cX9_second 0 = .ok (.iload_n 1, 1) := by decide +kernel
theorem dX9_second_1 : decode cX9_second 1 = .ok (.bipush 32, 2) := by decide +kernel
theorem dX9_second_3 : decode cX9_second 3 = .ok (.if_icmp .eq 9, 3) := by decide +kernel
theorem dX9_second_6 : decode cX9_second 6 = .ok (.iload_n 1, 1) := by decide +kernel
theorem dX9_second_7 : decode cX9_second 7 = .ok (.bipush 33, 2) := by decide +kernel
theorem dX9_second_9 : decode cX9_second 9 = .ok (.if_icmp .ne 19, 3) := by decide +kernel
theorem dX9_second_12 : decode cX9_second 12 = .ok (.aload_n 0, 1) := by decide +kernel
theorem dX9_second_13 : decode cX9_second 13 = .ok (.iconst 0, 1) := by decide +kernel
theorem dX9_second_14 : decode cX9_second 14 = .ok (.aload_n 0, 1) := by decide +kernel
theorem dX9_second_15 : decode cX9_second 15 = .ok (.invokevirtual 128, 3) := by decide +kernel
theorem dX9_second_18 : decode cX9_second 18 = .ok (.aload_n 0, 1) := by decide +kernel
theorem dX9_second_19 : decode cX9_second 19 = .ok (.invokevirtual 121, 3) := by decide +kernel
theorem dX9_second_22 : decode cX9_second 22 = .ok (.invokevirtual 124, 3) := by decide +kernel
theorem dX9_second_25 : decode cX9_second 25 = .ok (.goto 71, 3) := by decide +kernel
theorem dX9_second_28 : decode cX9_second 28 = .ok (.iload_n 1, 1) := by decide +kernel
theorem dX9_second_29 : decode cX9_second 29 = .ok (.iconst 2, 1) := by decide +kernel
theorem dX9_second_30 : decode cX9_second 30 = .ok (.if_icmp .lt 13, 3) := by decide +kernel
theorem dX9_second_33 : decode cX9_second 33 = .ok (.iload_n 1, 1) := by decide +kernel
theorem dX9_second_34 : decode cX9_second 34 = .ok (.iconst 4, 1) := by decide +kernel
theorem dX9_second_35 : decode cX9_second 35 = .ok (.if_icmp .eq 8, 3) := by decide +kernel
theorem dX9_second_38 : decode cX9_second 38 = .ok (.iload_n 1, 1) := by decide +kernel
theorem dX9_second_39 : decode cX9_second 39 = .ok (.iconst 5, 1) := by decide +kernel
theorem dX9_second_40 : decode cX9_second 40 = .ok (.if_icmp .ne 27, 3) := by decide +kernel
theorem dX9_second_43 : decode cX9_second 43 = .ok (.aload_n 0, 1) := by decide +kernel
theorem dX9_second_44 : decode cX9_second 44 = .ok (.iconst 3, 1) := by decide +kernel
theorem dX9_second_45 : decode cX9_second 45 = .ok (.aload_n 0, 1) := by decide +kernel
theorem dX9_second_46 : decode cX9_second 46 = .ok (.invokevirtual 128, 3) := by decide +kernel
theorem dX9_second_49 : decode cX9_second 49 = .ok (.aload_n 0, 1) := by decide +kernel
theorem dX9_second_50 : decode cX9_second 50 = .ok (.invokevirtual 117, 3) := by decide +kernel
theorem dX9_second_53 : decode cX9_second 53 = .ok (.lor, 1) := by decide +kernel
theorem dX9_second_54 : decode cX9_second 54 = .ok (.lconst 0, 1) := by decide +kernel
theorem dX9_second_55 : decode cX9_second 55 = .ok (.invokevirtual 124, 3) := by decide +kernel
theorem dX9_second_58 : decode cX9_second 58 = .ok (.aload_n 0, 1) := by decide +kernel
theorem dX9_second_59 : decode cX9_second 59 = .ok (.iconst 2, 1) := by decide +kernel
theorem dX9_second_60 : decode cX9_second 60 = .ok (.iconst 2, 1) := by decide +kernel
theorem dX9_second_61 : decode cX9_second 61 = .ok (.invokevirtual 91, 3) := by decide +kernel
theorem dX9_second_64 : decode cX9_second 64 = .ok (.goto 32, 3) := by decide +kernel
theorem dX9_second_67 : decode cX9_second 67 = .ok (.iload_n 1, 1) := by decide +kernel
theorem dX9_second_68 : decode cX9_second 68 = .ok (.iconst 2, 1) := by decide +kernel
theorem dX9_second_69 : decode cX9_second 69 = .ok (.if_icmp .ne 27, 3) := by decide +kernel
theorem dX9_second_72 : decode cX9_second 72 = .ok (.aload_n 0, 1) := by decide +kernel
theorem dX9_second_73 : decode cX9_second 73 = .ok (.iconst 3, 1) := by decide +kernel
theorem dX9_second_74 : decode cX9_second 74 = .ok (.aload_n 0, 1) := by decide +kernel
theorem dX9_second_75 : decode cX9_second 75 = .ok (.invokevirtual 128, 3) := by decide +kernel
theorem dX9_second_78 : decode cX9_second 78 = .ok (.aload_n 0, 1) := by decide +kernel
theorem dX9_second_79 : decode cX9_second 79 = .ok (.invokevirtual 117, 3) := by decide +kernel
theorem dX9_second_82 : decode cX9_second 82 = .ok (.lor, 1) := by decide +kernel
theorem dX9_second_83 : decode cX9_second 83 = .ok (.aload_n 0, 1) := by decide +kernel
theorem dX9_second_84 : decode cX9_second 84 = .ok (.invokevirtual 121, 3) := by decide +kernel
theorem dX9_second_87 : decode cX9_second 87 = .ok (.invokevirtual 124, 3) := by decide +kernel
theorem dX9_second_90 : decode cX9_second 90 = .ok (.aload_n 0, 1) := by decide +kernel
theorem dX9_second_91 : decode cX9_second 91 = .ok (.iconst 0, 1) := by decide +kernel
theorem dX9_second_92 : decode cX9_second 92 = .ok (.iconst 2, 1) := by decide +kernel
theorem dX9_second_93 : decode cX9_second 93 = .ok (.invokevirtual 91, 3) := by decide +kernel
theorem dX9_second_96 : decode cX9_second 96 = .ok (.return_, 1) := by decide +kernel
set_option maxRecDepth 20000 in
theorem ggX9_memory_X9_field : GoodIn wsX9_memory wsX9_field := goodIn_r _ [7, 8, 30, 31, 32, 33, 34, 35, 36, 37, 38, 39, 40, 41, 42, 43, 44, 45, 46, 47, 48, 49, 50, 51, 52, 53, 54, 55] (by decide +kernel) (by decide +kernel)
set_option maxRecDepth 20000 in
theorem gX9_memory_X9_field : GoodIn wsX9_memory (wsV RX9 61 RX9 yX9_field wsX9_field) := goodIn_app (goodIn_of _ (by decide +kernel)) ggX9_memory_X9_field
set_option maxRecDepth 20000 in
theorem ggX9_memory_X9_s : GoodIn wsX9_memory wsX9_s := goodIn_r _ [12, 3, 4, 5, 6, 7, 8, 13, 14, 15, 30, 31, 32, 33, 34, 35, 36, 37, 38, 39, 40, 41, 42, 43, 44, 45, 46, 47, 48, 49, 50, 51, 52, 53, 54, 55] (by decide +kernel) (by decide +kernel)
set_option maxRecDepth 20000 in
theorem gX9_memory_X9_s : GoodIn wsX9_memory (wsV RX9 128 RX9 yX9_s wsX9_s) := goodIn_app (goodIn_of _ (by decide +kernel)) ggX9_memory_X9_s
set_option maxRecDepth 20000 in
theorem ggX9_memory_X9_t : GoodIn wsX9_memory wsX9_t := goodIn_r _ [19, 3, 4, 5, 6, 7, 8, 13, 14, 15, 30, 31, 32, 33, 34, 35, 36, 37, 38, 39, 40, 41, 42, 43, 44, 45, 46, 47, 48, 49, 50, 51, 52, 53, 54, 55] (by decide +kernel) (by decide +kernel)
set_option maxRecDepth 20000 in
theorem gX9_memory_X9_t : GoodIn wsX9_memory (wsV RX9 117 RX9 yX9_t wsX9_t) := goodIn_app (goodIn_of _ (by decide +kernel)) ggX9_memory_X9_t
set_option maxRecDepth 20000 in
theorem ggX9_memory_X9_is : GoodIn wsX9_memory wsX9_is := goodIn_r _ [23, 24, 2, 1, 30, 31, 32, 33, 34, 35, 36, 37, 38, 39, 40, 41, 42, 43, 44, 45, 46, 47, 48, 49, 50, 51, 52, 53, 54, 55] (by decide +kernel) (by decide +kernel)
set_option maxRecDepth 20000 in
theorem gX9_memory_X9_is : GoodIn wsX9_memory (wsV RX9 124 RX9 yX9_is wsX9_is) := goodIn_app (goodIn_of _ (by decide +kernel)) ggX9_memory_X9_is
set_option maxRecDepth 20000 in
theorem ggX9_memory_X9_fraction : GoodIn wsX9_memory wsX9_fraction := goodIn_r _ [28, 24, 29, 30, 31, 32, 33, 34, 35, 36, 37, 38, 39, 40, 41, 42, 43, 44, 45, 46, 47, 48, 49, 50, 51, 52, 53, 54, 55] (by decide +kernel) (by decide +kernel)
set_option maxRecDepth 20000 in
theorem gX9_memory_X9_fraction : GoodIn wsX9_memory (wsV RX9 131 RX9 yX9_fraction wsX9_fraction) := goodIn_app (goodIn_of _ (by decide +kernel)) ggX9_memory_X9_fraction
theorem dX9_memory_0 : decode cX9_memory 0 = .ok (.aload_n 0, 1) := by decide +kernel
theorem dX9_memory_1 : decode cX9_memory 1 = .ok (.bipush 16, 2) := by decide +kernel
theorem dX9_memory_3 : decode cX9_memory 3 = .ok (.invokevirtual 61, 3) := by decide +kernel
theorem dX9_memory_6 : decode cX9_memory 6 = .ok (.istore_n 2, 1) := by decide +kernel
theorem dX9_memory_7 : decode cX9_memory 7 = .ok (.iload_n 1, 1) := by decide +kernel
theorem dX9_memory_8 : decode cX9_memory 8 = .ok (.bipush 34, 2) := by decide +kernel
theorem dX9_memory_10 : decode cX9_memory 10 = .ok (.if_icmp .eq 9, 3) := by decide +kernel
theorem dX9_memory_13 : decode cX9_memory 13 = .ok (.iload_n 1, 1) := by decide +kernel
theorem dX9_memory_14 : decode cX9_memory 14 = .ok (.bipush 38, 2) := by decide +kernel
theorem dX9_memory_16 : decode cX9_memory 16 = .ok (.if_icmp .ne 24, 3) := by decide +kernel
theorem dX9_memory_19 : decode cX9_memory 19 = .ok (.aload_n 0, 1) := by decide +kernel
theorem dX9_memory_20 : decode cX9_memory 20 = .ok (.iconst 1, 1) := by decide +kernel
theorem dX9_memory_21 : decode cX9_memory 21 = .ok (.aload_n 0, 1) := by decide +kernel
theorem dX9_memory_22 : decode cX9_memory 22 = .ok (.invokevirtual 128, 3) := by decide +kernel
theorem dX9_memory_25 : decode cX9_memory 25 = .ok (.aload_n 0, 1) := by decide +kernel
theorem dX9_memory_26 : decode cX9_memory 26 = .ok (.invokevirtual 117, 3) := by decide +kernel
theorem dX9_memory_29 : decode cX9_memory 29 = .ok (.lor, 1) := by decide +kernel
theorem dX9_memory_30 : decode cX9_memory 30 = .ok (.aload_n 0, 1) := by decide +kernel
theorem dX9_memory_31 : decode cX9_memory 31 = .ok (.invokevirtual 117, 3) := by decide +kernel
theorem dX9_memory_34 : decode cX9_memory 34 = .ok (.invokevirtual 124, 3) := by decide +kernel
theorem dX9_memory_37 : decode cX9_memory 37 = .ok (.goto 195, 3) := by decide +kernel
theorem dX9_memory_40 : decode cX9_memory 40 = .ok (.iload_n 1, 1) := by decide +kernel
theorem dX9_memory_41 : decode cX9_memory 41 = .ok (.bipush 38, 2) := by decide +kernel
theorem dX9_memory_43 : decode cX9_memory 43 = .ok (.if_icmp .ge 19, 3) := by decide +kernel
theorem dX9_memory_46 : decode cX9_memory 46 = .ok (.aload_n 0, 1) := by decide +kernel
theorem dX9_memory_47 : decode cX9_memory 47 = .ok (.iconst 1, 1) := by decide +kernel
theorem dX9_memory_48 : decode cX9_memory 48 = .ok (.aload_n 0, 1) := by decide +kernel
theorem dX9_memory_49 : decode cX9_memory 49 = .ok (.invokevirtual 128, 3) := by decide +kernel
theorem dX9_memory_52 : decode cX9_memory 52 = .ok (.aload_n 0, 1) := by decide +kernel
theorem dX9_memory_53 : decode cX9_memory 53 = .ok (.invokevirtual 117, 3) := by decide +kernel
theorem dX9_memory_56 : decode cX9_memory 56 = .ok (.invokevirtual 124, 3) := by decide +kernel
theorem dX9_memory_59 : decode cX9_memory 59 = .ok (.goto 173, 3) := by decide +kernel
theorem dX9_memory_62 : decode cX9_memory 62 = .ok (.iload_n 1, 1) := by decide +kernel
theorem dX9_memory_63 : decode cX9_memory 63 = .ok (.bipush 44, 2) := by decide +kernel
theorem dX9_memory_65 : decode cX9_memory 65 = .ok (.if_icmp .ge 9, 3) := by decide +kernel
theorem dX9_memory_68 : decode cX9_memory 68 = .ok (.iload_n 1, 1) := by decide +kernel
theorem dX9_memory_69 : decode cX9_memory 69 = .ok (.bipush 39, 2) := by decide +kernel
theorem dX9_memory_71 : decode cX9_memory 71 = .ok (.if_icmp .gt 9, 3) := by decide +kernel
theorem dX9_memory_74 : decode cX9_memory 74 = .ok (.iload_n 1, 1) := by decide +kernel
theorem dX9_memory_75 : decode cX9_memory 75 = .ok (.bipush 46, 2) := by decide +kernel
theorem dX9_memory_77 : decode cX9_memory 77 = .ok (.if_icmp .ne 21, 3) := by decide +kernel
theorem dX9_memory_80 : decode cX9_memory 80 = .ok (.aload_n 0, 1) := by decide +kernel
theorem dX9_memory_81 : decode cX9_memory 81 = .ok (.iconst 2, 1) := by decide +kernel
theorem dX9_memory_82 : decode cX9_memory 82 = .ok (.aload_n 0, 1) := by decide +kernel
theorem dX9_memory_83 : decode cX9_memory 83 = .ok (.invokevirtual 128, 3) := by decide +kernel
theorem dX9_memory_86 : decode cX9_memory 86 = .ok (.aload_n 0, 1) := by decide +kernel
theorem dX9_memory_87 : decode cX9_memory 87 = .ok (.invokevirtual 117, 3) := by decide +kernel
theorem dX9_memory_90 : decode cX9_memory 90 = .ok (.lor, 1) := by decide +kernel
theorem dX9_memory_91 : decode cX9_memory 91 = .ok (.lconst 0, 1) := by decide +kernel
theorem dX9_memory_92 : decode cX9_memory 92 = .ok (.invokevirtual 124, 3) := by decide +kernel
theorem dX9_memory_95 : decode cX9_memory 95 = .ok (.goto 137, 3) := by decide +kernel
theorem dX9_memory_98 : decode cX9_memory 98 = .ok (.iload_n 1, 1) := by decide +kernel
theorem dX9_memory_99 : decode cX9_memory 99 = .ok (.bipush 48, 2) := by decide +kernel
theorem dX9_memory_101 : decode cX9_memory 101 = .ok (.if_icmp .eq 9, 3) := by decide +kernel
theorem dX9_memory_104 : decode cX9_memory 104 = .ok (.iload_n 1, 1) := by decide +kernel
theorem dX9_memory_105 : decode cX9_memory 105 = .ok (.bipush 56, 2) := by decide +kernel
theorem dX9_memory_107 : decode cX9_memory 107 = .ok (.if_icmp .ne 14, 3) := by decide +kernel
theorem dX9_memory_110 : decode cX9_memory 110 = .ok (.aload_n 0, 1) := by decide +kernel
theorem dX9_memory_111 : decode cX9_memory 111 = .ok (.bipush 8, 2) := by decide +kernel
theorem dX9_memory_113 : decode cX9_memory 113 = .ok (.lconst 0, 1) := by decide +kernel
theorem dX9_memory_114 : decode cX9_memory 114 = .ok (.lconst 0, 1) := by decide +kernel
theorem dX9_memory_115 : decode cX9_memory 115 = .ok (.invokevirtual 124, 3) := by decide +kernel
theorem dX9_memory_118 : decode cX9_memory 118 = .ok (.goto 114, 3) := by decide +kernel
theorem dX9_memory_121 : decode cX9_memory 121 = .ok (.iload_n 1, 1) := by decide +kernel
theorem dX9_memory_122 : decode cX9_memory 122 = .ok (.bipush 51, 2) := by decide +kernel
theorem dX9_memory_124 : decode cX9_memory 124 = .ok (.if_icmp .ne 16, 3) := by decide +kernel
theorem dX9_memory_127 : decode cX9_memory 127 = .ok (.aload_n 0, 1) := by decide +kernel
theorem dX9_memory_128 : decode cX9_memory 128 = .ok (.iconst 0, 1) := by decide +kernel
theorem dX9_memory_129 : decode cX9_memory 129 = .ok (.aload_n 0, 1) := by decide +kernel
theorem dX9_memory_130 : decode cX9_memory 130 = .ok (.invokevirtual 128, 3) := by decide +kernel
theorem dX9_memory_133 : decode cX9_memory 133 = .ok (.lconst 0, 1) := by decide +kernel
theorem dX9_memory_134 : decode cX9_memory 134 = .ok (.invokevirtual 124, 3) := by decide +kernel
theorem dX9_memory_137 : decode cX9_memory 137 = .ok (.goto 95, 3) := by decide +kernel
theorem dX9_memory_140 : decode cX9_memory 140 = .ok (.iload_n 1, 1) := by decide +kernel
theorem dX9_memory_141 : decode cX9_memory 141 = .ok (.bipush 49, 2) := by decide +kernel
theorem dX9_memory_143 : decode cX9_memory 143 = .ok (.if_icmp .eq 9, 3) := by decide +kernel
theorem dX9_memory_146 : decode cX9_memory 146 = .ok (.iload_n 1, 1) := by decide +kernel
theorem dX9_memory_147 : decode cX9_memory 147 = .ok (.bipush 53, 2) := by decide +kernel
theorem dX9_memory_149 : decode cX9_memory 149 = .ok (.if_icmp .ne 36, 3) := by decide +kernel
theorem dX9_memory_152 : decode cX9_memory 152 = .ok (.aload_n 0, 1) := by decide +kernel
theorem dX9_memory_153 : decode cX9_memory 153 = .ok (.iconst 1, 1) := by decide +kernel
theorem dX9_memory_154 : decode cX9_memory 154 = .ok (.aload_n 0, 1) := by decide +kernel
theorem dX9_memory_155 : decode cX9_memory 155 = .ok (.invokevirtual 128, 3) := by decide +kernel
theorem dX9_memory_158 : decode cX9_memory 158 = .ok (.lconst 0, 1) := by decide +kernel
theorem dX9_memory_159 : decode cX9_memory 159 = .ok (.invokevirtual 124, 3) := by decide +kernel
theorem dX9_memory_162 : decode cX9_memory 162 = .ok (.aload_n 0, 1) := by decide +kernel
theorem dX9_memory_163 : decode cX9_memory 163 = .ok (.aload_n 0, 1) := by decide +kernel
theorem dX9_memory_164 : decode cX9_memory 164 = .ok (.iload_n 2, 1) := by decide +kernel
theorem dX9_memory_165 : decode cX9_memory 165 = .ok (.iload_n 1, 1) := by decide +kernel
theorem dX9_memory_166 : decode cX9_memory 166 = .ok (.bipush 53, 2) := by decide +kernel
theorem dX9_memory_168 : decode cX9_memory 168 = .ok (.if_icmp .ne 7, 3) := by decide +kernel
theorem dX9_memory_171 : decode cX9_memory 171 = .ok (.iconst 1, 1) := by decide +kernel
theorem dX9_memory_172 : decode cX9_memory 172 = .ok (.goto 4, 3) := by decide +kernel
theorem dX9_memory_175 : decode cX9_memory 175 = .ok (.iconst 0, 1) := by decide +kernel
theorem dX9_memory_176 : decode cX9_memory 176 = .ok (.invokevirtual 131, 3) := by decide +kernel
theorem dX9_memory_179 : decode cX9_memory 179 = .ok (.putfield 76, 3) := by decide +kernel
theorem dX9_memory_182 : decode cX9_memory 182 = .ok (.goto 50, 3) := by decide +kernel
theorem dX9_memory_185 : decode cX9_memory 185 = .ok (.iload_n 1, 1) := by decide +kernel
theorem dX9_memory_186 : decode cX9_memory 186 = .ok (.bipush 57, 2) := by decide +kernel
theorem dX9_memory_188 : decode cX9_memory 188 = .ok (.if_icmp .eq 9, 3) := by decide +kernel
theorem dX9_memory_191 : decode cX9_memory 191 = .ok (.iload_n 1, 1) := by decide +kernel
theorem dX9_memory_192 : decode cX9_memory 192 = .ok (.bipush 61, 2) := by decide +kernel
theorem dX9_memory_194 : decode cX9_memory 194 = .ok (.if_icmp .ne 38, 3) := by decide +kernel
theorem dX9_memory_197 : decode cX9_memory 197 = .ok (.aload_n 0, 1) := by decide +kernel
theorem dX9_memory_198 : decode cX9_memory 198 = .ok (.iconst 2, 1) := by decide +kernel
theorem dX9_memory_199 : decode cX9_memory 199 = .ok (.aload_n 0, 1) := by decide +kernel
theorem dX9_memory_200 : decode cX9_memory 200 = .ok (.invokevirtual 128, 3) := by decide +kernel
theorem dX9_memory_203 : decode cX9_memory 203 = .ok (.lconst 0, 1) := by decide +kernel
theorem dX9_memory_204 : decode cX9_memory 204 = .ok (.invokevirtual 124, 3) := by decide +kernel
theorem dX9_memory_207 : decode cX9_memory 207 = .ok (.aload_n 0, 1) := by decide +kernel
theorem dX9_memory_208 : decode cX9_memory 208 = .ok (.dup, 1) := by decide +kernel
theorem dX9_memory_209 : decode cX9_memory 209 = .ok (.getfield 72, 3) := by decide +kernel
theorem dX9_memory_212 : decode cX9_memory 212 = .ok (.aload_n 0, 1) := by decide +kernel
theorem dX9_memory_213 : decode cX9_memory 213 = .ok (.iload_n 2, 1) := by decide +kernel
theorem dX9_memory_214 : decode cX9_memory 214 = .ok (.iload_n 1, 1) := by decide +kernel
theorem dX9_memory_215 : decode cX9_memory 215 = .ok (.bipush 61, 2) := by decide +kernel
theorem dX9_memory_217 : decode cX9_memory 217 = .ok (.if_icmp .ne 7, 3) := by decide +kernel
theorem dX9_memory_220 : decode cX9_memory 220 = .ok (.iconst 1, 1) := by decide +kernel
theorem dX9_memory_221 : decode cX9_memory 221 = .ok (.goto 4, 3) := by decide +kernel
theorem dX9_memory_224 : decode cX9_memory 224 = .ok (.iconst 0, 1) := by decide +kernel
theorem dX9_memory_225 : decode cX9_memory 225 = .ok (.invokevirtual 131, 3) := by decide +kernel
theorem dX9_memory_228 : decode cX9_memory 228 = .ok (.lor, 1) := by decide +kernel
theorem dX9_memory_229 : decode cX9_memory 229 = .ok (.putfield 72, 3) := by decide +kernel
theorem dX9_memory_232 : decode cX9_memory 232 = .ok (.return_, 1) := by decide +kernel
set_option maxRecDepth 20000 in
theorem ggX9_fractions_X9_field : GoodIn wsX9_fractions wsX9_field := goodIn_r _ [8, 1, 37, 38, 39, 40, 41, 42, 43, 44, 45, 46, 47, 48, 49, 50, 51, 52, 53, 54, 55, 56, 57, 58, 59, 60, 61, 62] (by decide +kernel) (by decide +kernel)
set_option maxRecDepth 20000 in
theorem gX9_fractions_X9_field : GoodIn wsX9_fractions (wsV RX9 61 RX9 yX9_field wsX9_field) := goodIn_app (goodIn_of _ (by decide +kernel)) ggX9_fractions_X9_field
set_option maxRecDepth 20000 in
theorem ggX9_fractions_X9_t : GoodIn wsX9_fractions wsX9_t := goodIn_r _ [12, 4, 5, 6, 7, 8, 1, 13, 14, 15, 37, 38, 39, 40, 41, 42, 43, 44, 45, 46, 47, 48, 49, 50, 51, 52, 53, 54, 55, 56, 57, 58, 59, 60, 61, 62] (by decide +kernel) (by decide +kernel)
set_option maxRecDepth 20000 in
theorem gX9_fractions_X9_t : GoodIn wsX9_fractions (wsV RX9 117 RX9 yX9_t wsX9_t) := goodIn_app (goodIn_of _ (by decide +kernel)) ggX9_fractions_X9_t
set_option maxRecDepth 20000 in
theorem ggX9_fractions_X9_is : GoodIn wsX9_fractions wsX9_is := goodIn_r _ [19, 20, 21, 3, 37, 38, 39, 40, 41, 42, 43, 44, 45, 46, 47, 48, 49, 50, 51, 52, 53, 54, 55, 56, 57, 58, 59, 60, 61, 62] (by decide +kernel) (by decide +kernel)
set_option maxRecDepth 20000 in
theorem gX9_fractions_X9_is : GoodIn wsX9_fractions (wsV RX9 124 RX9 yX9_is wsX9_is) := goodIn_app (goodIn_of _ (by decide +kernel)) ggX9_fractions_X9_is
set_option maxRecDepth 20000 in
theorem ggX9_fractions_X9_also : GoodIn wsX9_fractions wsX9_also := goodIn_r _ [25, 26, 27, 37, 38, 39, 40, 41, 42, 43, 44, 45, 46, 47, 48, 49, 50, 51, 52, 53, 54, 55, 56, 57, 58, 59, 60, 61, 62] (by decide +kernel) (by decide +kernel)
set_option maxRecDepth 20000 in
theorem gX9_fractions_X9_also : GoodIn wsX9_fractions (wsV RX9 91 RX9 yX9_also wsX9_also) := goodIn_app (goodIn_of _ (by decide +kernel)) ggX9_fractions_X9_also
set_option maxRecDepth 20000 in
theorem ggX9_fractions_X9_reckons : GoodIn wsX9_fractions wsX9_reckons := goodIn_r _ [31, 20, 21, 3, 32, 33, 34, 7, 35, 36, 9, 10, 11, 12, 4, 5, 6, 8, 1, 13, 14, 15, 22, 23, 24, 25, 26, 27, 37, 38, 39, 40, 41, 42, 43, 44, 45, 46, 47, 48, 49, 50, 51, 52, 53, 54, 55, 56, 57, 58, 59, 60, 61, 62] (by decide +kernel) (by decide +kernel)
set_option maxRecDepth 20000 in
theorem gX9_fractions_X9_reckons : GoodIn wsX9_fractions (wsV RX9 135 RX9 yX9_reckons wsX9_reckons) := goodIn_app (goodIn_of _ (by decide +kernel)) ggX9_fractions_X9_reckons
set_option maxRecDepth 20000 in
theorem ggX9_fractions_X9_fraction : GoodIn wsX9_fractions wsX9_fraction := goodIn_r _ [35, 20, 36, 37, 38, 39, 40, 41, 42, 43, 44, 45, 46, 47, 48, 49, 50, 51, 52, 53, 54, 55, 56, 57, 58, 59, 60, 61, 62] (by decide +kernel) (by decide +kernel)
set_option maxRecDepth 20000 in
theorem gX9_fractions_X9_fraction : GoodIn wsX9_fractions (wsV RX9 131 RX9 yX9_fraction wsX9_fraction) := goodIn_app (goodIn_of _ (by decide +kernel)) ggX9_fractions_X9_fraction
theorem dX9_fractions_0 : decode cX9_fractions 0 = .ok (.aload_n 0, 1) := by decide +kernel
theorem dX9_fractions_1 : decode cX9_fractions 1 = .ok (.bipush 21, 2) := by decide +kernel
theorem dX9_fractions_3 : decode cX9_fractions 3 = .ok (.invokevirtual 61, 3) := by decide +kernel
theorem dX9_fractions_6 : decode cX9_fractions 6 = .ok (.istore_n 1, 1) := by decide +kernel
theorem dX9_fractions_7 : decode cX9_fractions 7 = .ok (.aload_n 0, 1) := by decide +kernel
theorem dX9_fractions_8 : decode cX9_fractions 8 = .ok (.bipush 11, 2) := by decide +kernel
theorem dX9_fractions_10 : decode cX9_fractions 10 = .ok (.invokevirtual 61, 3) := by decide +kernel
theorem dX9_fractions_13 : decode cX9_fractions 13 = .ok (.istore_n 2, 1) := by decide +kernel
theorem dX9_fractions_14 : decode cX9_fractions 14 = .ok (.iload_n 1, 1) := by decide +kernel
theorem dX9_fractions_15 : decode cX9_fractions 15 = .ok (.ifCond .ne 21, 3) := by decide +kernel
theorem dX9_fractions_18 : decode cX9_fractions 18 = .ok (.aload_n 0, 1) := by decide +kernel
theorem dX9_fractions_19 : decode cX9_fractions 19 = .ok (.iconst 0, 1) := by decide +kernel
theorem dX9_fractions_20 : decode cX9_fractions 20 = .ok (.lconst 1, 1) := by decide +kernel
theorem dX9_fractions_21 : decode cX9_fractions 21 = .ok (.bipush 32, 2) := by decide +kernel
theorem dX9_fractions_23 : decode cX9_fractions 23 = .ok (.iload_n 2, 1) := by decide +kernel
theorem dX9_fractions_24 : decode cX9_fractions 24 = .ok (.iadd, 1) := by decide +kernel
theorem dX9_fractions_25 : decode cX9_fractions 25 = .ok (.lshl, 1) := by decide +kernel
theorem dX9_fractions_26 : decode cX9_fractions 26 = .ok (.aload_n 0, 1) := by decide +kernel
theorem dX9_fractions_27 : decode cX9_fractions 27 = .ok (.invokevirtual 117, 3) := by decide +kernel
theorem dX9_fractions_30 : decode cX9_fractions 30 = .ok (.invokevirtual 124, 3) := by decide +kernel
theorem dX9_fractions_33 : decode cX9_fractions 33 = .ok (.goto 194, 3) := by decide +kernel
theorem dX9_fractions_36 : decode cX9_fractions 36 = .ok (.iload_n 1, 1) := by decide +kernel
theorem dX9_fractions_37 : decode cX9_fractions 37 = .ok (.iconst 4, 1) := by decide +kernel
theorem dX9_fractions_38 : decode cX9_fractions 38 = .ok (.if_icmp .ne 21, 3) := by decide +kernel
theorem dX9_fractions_41 : decode cX9_fractions 41 = .ok (.aload_n 0, 1) := by decide +kernel
theorem dX9_fractions_42 : decode cX9_fractions 42 = .ok (.iconst 0, 1) := by decide +kernel
theorem dX9_fractions_43 : decode cX9_fractions 43 = .ok (.aload_n 0, 1) := by decide +kernel
theorem dX9_fractions_44 : decode cX9_fractions 44 = .ok (.invokevirtual 117, 3) := by decide +kernel
theorem dX9_fractions_47 : decode cX9_fractions 47 = .ok (.lconst 1, 1) := by decide +kernel
theorem dX9_fractions_48 : decode cX9_fractions 48 = .ok (.bipush 32, 2) := by decide +kernel
theorem dX9_fractions_50 : decode cX9_fractions 50 = .ok (.iload_n 2, 1) := by decide +kernel
theorem dX9_fractions_51 : decode cX9_fractions 51 = .ok (.iadd, 1) := by decide +kernel
theorem dX9_fractions_52 : decode cX9_fractions 52 = .ok (.lshl, 1) := by decide +kernel
theorem dX9_fractions_53 : decode cX9_fractions 53 = .ok (.invokevirtual 124, 3) := by decide +kernel
theorem dX9_fractions_56 : decode cX9_fractions 56 = .ok (.goto 171, 3) := by decide +kernel
theorem dX9_fractions_59 : decode cX9_fractions 59 = .ok (.iload_n 1, 1) := by decide +kernel
theorem dX9_fractions_60 : decode cX9_fractions 60 = .ok (.bipush 8, 2) := by decide +kernel
theorem dX9_fractions_62 : decode cX9_fractions 62 = .ok (.if_icmp .ne 42, 3) := by decide +kernel
theorem dX9_fractions_65 : decode cX9_fractions 65 = .ok (.aload_n 0, 1) := by decide +kernel
theorem dX9_fractions_66 : decode cX9_fractions 66 = .ok (.bipush 7, 2) := by decide +kernel
theorem dX9_fractions_68 : decode cX9_fractions 68 = .ok (.lconst 0, 1) := by decide +kernel
theorem dX9_fractions_69 : decode cX9_fractions 69 = .ok (.lconst 0, 1) := by decide +kernel
theorem dX9_fractions_70 : decode cX9_fractions 70 = .ok (.invokevirtual 124, 3) := by decide +kernel
theorem dX9_fractions_73 : decode cX9_fractions 73 = .ok (.aload_n 0, 1) := by decide +kernel
theorem dX9_fractions_74 : decode cX9_fractions 74 = .ok (.aload_n 0, 1) := by decide +kernel
theorem dX9_fractions_75 : decode cX9_fractions 75 = .ok (.getfield 58, 3) := by decide +kernel
theorem dX9_fractions_78 : decode cX9_fractions 78 = .ok (.bipush 17, 2) := by decide +kernel
theorem dX9_fractions_80 : decode cX9_fractions 80 = .ok (.iushr, 1) := by decide +kernel
theorem dX9_fractions_81 : decode cX9_fractions 81 = .ok (.iconst 1, 1) := by decide +kernel
theorem dX9_fractions_82 : decode cX9_fractions 82 = .ok (.iand, 1) := by decide +kernel
theorem dX9_fractions_83 : decode cX9_fractions 83 = .ok (.iconst 1, 1) := by decide +kernel
theorem dX9_fractions_84 : decode cX9_fractions 84 = .ok (.if_icmp .ne 7, 3) := by decide +kernel
theorem dX9_fractions_87 : decode cX9_fractions 87 = .ok (.iconst 1, 1) := by decide +kernel
theorem dX9_fractions_88 : decode cX9_fractions 88 = .ok (.goto 4, 3) := by decide +kernel
theorem dX9_fractions_91 : decode cX9_fractions 91 = .ok (.iconst 0, 1) := by decide +kernel
theorem dX9_fractions_92 : decode cX9_fractions 92 = .ok (.putfield 87, 3) := by decide +kernel
theorem dX9_fractions_95 : decode cX9_fractions 95 = .ok (.aload_n 0, 1) := by decide +kernel
theorem dX9_fractions_96 : decode cX9_fractions 96 = .ok (.iconst 1, 1) := by decide +kernel
theorem dX9_fractions_97 : decode cX9_fractions 97 = .ok (.iconst 0, 1) := by decide +kernel
theorem dX9_fractions_98 : decode cX9_fractions 98 = .ok (.invokevirtual 91, 3) := by decide +kernel
theorem dX9_fractions_101 : decode cX9_fractions 101 = .ok (.goto 126, 3) := by decide +kernel
theorem dX9_fractions_104 : decode cX9_fractions 104 = .ok (.iload_n 1, 1) := by decide +kernel
theorem dX9_fractions_105 : decode cX9_fractions 105 = .ok (.bipush 16, 2) := by decide +kernel
theorem dX9_fractions_107 : decode cX9_fractions 107 = .ok (.if_icmp .eq 9, 3) := by decide +kernel
theorem dX9_fractions_110 : decode cX9_fractions 110 = .ok (.iload_n 1, 1) := by decide +kernel
theorem dX9_fractions_111 : decode cX9_fractions 111 = .ok (.bipush 17, 2) := by decide +kernel
theorem dX9_fractions_113 : decode cX9_fractions 113 = .ok (.if_icmp .ne 41, 3) := by decide +kernel
theorem dX9_fractions_116 : decode cX9_fractions 116 = .ok (.aload_n 0, 1) := by decide +kernel
theorem dX9_fractions_117 : decode cX9_fractions 117 = .ok (.aload_n 0, 1) := by decide +kernel
theorem dX9_fractions_118 : decode cX9_fractions 118 = .ok (.getfield 58, 3) := by decide +kernel
theorem dX9_fractions_121 : decode cX9_fractions 121 = .ok (.bipush 63, 2) := by decide +kernel
theorem dX9_fractions_123 : decode cX9_fractions 123 = .ok (.iand, 1) := by decide +kernel
theorem dX9_fractions_124 : decode cX9_fractions 124 = .ok (.iload_n 1, 1) := by decide +kernel
theorem dX9_fractions_125 : decode cX9_fractions 125 = .ok (.bipush 17, 2) := by decide +kernel
theorem dX9_fractions_127 : decode cX9_fractions 127 = .ok (.if_icmp .ne 7, 3) := by decide +kernel
theorem dX9_fractions_130 : decode cX9_fractions 130 = .ok (.iconst 1, 1) := by decide +kernel
theorem dX9_fractions_131 : decode cX9_fractions 131 = .ok (.goto 4, 3) := by decide +kernel
theorem dX9_fractions_134 : decode cX9_fractions 134 = .ok (.iconst 0, 1) := by decide +kernel
theorem dX9_fractions_135 : decode cX9_fractions 135 = .ok (.iload_n 2, 1) := by decide +kernel
theorem dX9_fractions_136 : decode cX9_fractions 136 = .ok (.aload_n 0, 1) := by decide +kernel
theorem dX9_fractions_137 : decode cX9_fractions 137 = .ok (.bipush 16, 2) := by decide +kernel
theorem dX9_fractions_139 : decode cX9_fractions 139 = .ok (.invokevirtual 61, 3) := by decide +kernel
theorem dX9_fractions_142 : decode cX9_fractions 142 = .ok (.aload_n 0, 1) := by decide +kernel
theorem dX9_fractions_143 : decode cX9_fractions 143 = .ok (.bipush 6, 2) := by decide +kernel
theorem dX9_fractions_145 : decode cX9_fractions 145 = .ok (.invokevirtual 61, 3) := by decide +kernel
theorem dX9_fractions_148 : decode cX9_fractions 148 = .ok (.invokevirtual 135, 3) := by decide +kernel
theorem dX9_fractions_151 : decode cX9_fractions 151 = .ok (.goto 76, 3) := by decide +kernel
theorem dX9_fractions_154 : decode cX9_fractions 154 = .ok (.iload_n 1, 1) := by decide +kernel
theorem dX9_fractions_155 : decode cX9_fractions 155 = .ok (.bipush 20, 2) := by decide +kernel
theorem dX9_fractions_157 : decode cX9_fractions 157 = .ok (.if_icmp .ne 70, 3) := by decide +kernel
theorem dX9_fractions_160 : decode cX9_fractions 160 = .ok (.aload_n 0, 1) := by decide +kernel
theorem dX9_fractions_161 : decode cX9_fractions 161 = .ok (.getfield 58, 3) := by decide +kernel
theorem dX9_fractions_164 : decode cX9_fractions 164 = .ok (.bipush 63, 2) := by decide +kernel
theorem dX9_fractions_166 : decode cX9_fractions 166 = .ok (.iand, 1) := by decide +kernel
theorem dX9_fractions_167 : decode cX9_fractions 167 = .ok (.bipush 32, 2) := by decide +kernel
theorem dX9_fractions_169 : decode cX9_fractions 169 = .ok (.if_icmp .eq 15, 3) := by decide +kernel
theorem dX9_fractions_172 : decode cX9_fractions 172 = .ok (.aload_n 0, 1) := by decide +kernel
theorem dX9_fractions_173 : decode cX9_fractions 173 = .ok (.getfield 58, 3) := by decide +kernel
theorem dX9_fractions_176 : decode cX9_fractions 176 = .ok (.bipush 63, 2) := by decide +kernel
theorem dX9_fractions_178 : decode cX9_fractions 178 = .ok (.iand, 1) := by decide +kernel
theorem dX9_fractions_179 : decode cX9_fractions 179 = .ok (.bipush 33, 2) := by decide +kernel
theorem dX9_fractions_181 : decode cX9_fractions 181 = .ok (.if_icmp .ne 46, 3) := by decide +kernel
theorem dX9_fractions_184 : decode cX9_fractions 184 = .ok (.aload_n 0, 1) := by decide +kernel
theorem dX9_fractions_185 : decode cX9_fractions 185 = .ok (.iconst 5, 1) := by decide +kernel
theorem dX9_fractions_186 : decode cX9_fractions 186 = .ok (.lconst 1, 1) := by decide +kernel
theorem dX9_fractions_187 : decode cX9_fractions 187 = .ok (.bipush 32, 2) := by decide +kernel
theorem dX9_fractions_189 : decode cX9_fractions 189 = .ok (.iload_n 2, 1) := by decide +kernel
theorem dX9_fractions_190 : decode cX9_fractions 190 = .ok (.iadd, 1) := by decide +kernel
theorem dX9_fractions_191 : decode cX9_fractions 191 = .ok (.lshl, 1) := by decide +kernel
theorem dX9_fractions_192 : decode cX9_fractions 192 = .ok (.lconst 0, 1) := by decide +kernel
theorem dX9_fractions_193 : decode cX9_fractions 193 = .ok (.invokevirtual 124, 3) := by decide +kernel
theorem dX9_fractions_196 : decode cX9_fractions 196 = .ok (.aload_n 0, 1) := by decide +kernel
theorem dX9_fractions_197 : decode cX9_fractions 197 = .ok (.aload_n 0, 1) := by decide +kernel
theorem dX9_fractions_198 : decode cX9_fractions 198 = .ok (.aload_n 0, 1) := by decide +kernel
theorem dX9_fractions_199 : decode cX9_fractions 199 = .ok (.bipush 6, 2) := by decide +kernel
theorem dX9_fractions_201 : decode cX9_fractions 201 = .ok (.invokevirtual 61, 3) := by decide +kernel
theorem dX9_fractions_204 : decode cX9_fractions 204 = .ok (.aload_n 0, 1) := by decide +kernel
theorem dX9_fractions_205 : decode cX9_fractions 205 = .ok (.getfield 58, 3) := by decide +kernel
theorem dX9_fractions_208 : decode cX9_fractions 208 = .ok (.bipush 63, 2) := by decide +kernel
theorem dX9_fractions_210 : decode cX9_fractions 210 = .ok (.iand, 1) := by decide +kernel
theorem dX9_fractions_211 : decode cX9_fractions 211 = .ok (.bipush 33, 2) := by decide +kernel
theorem dX9_fractions_213 : decode cX9_fractions 213 = .ok (.if_icmp .ne 7, 3) := by decide +kernel
theorem dX9_fractions_216 : decode cX9_fractions 216 = .ok (.iconst 1, 1) := by decide +kernel
theorem dX9_fractions_217 : decode cX9_fractions 217 = .ok (.goto 4, 3) := by decide +kernel
theorem dX9_fractions_220 : decode cX9_fractions 220 = .ok (.iconst 0, 1) := by decide +kernel
theorem dX9_fractions_221 : decode cX9_fractions 221 = .ok (.invokevirtual 131, 3) := by decide +kernel
theorem dX9_fractions_224 : decode cX9_fractions 224 = .ok (.putfield 76, 3) := by decide +kernel
theorem dX9_fractions_227 : decode cX9_fractions 227 = .ok (.return_, 1) := by decide +kernel
set_option maxRecDepth 20000 in
theorem ggX9_reckons_X9_fraction : GoodIn wsX9_reckons wsX9_fraction := goodIn_r _ [8, 1, 9, 28, 29, 30, 31, 32, 33, 34, 35, 36, 37, 38, 39, 40, 41, 42, 43, 44, 45, 46, 47, 48, 49, 50, 51, 52, 53] (by decide +kernel) (by decide +kernel)
set_option maxRecDepth 20000 in
theorem gX9_reckons_X9_fraction : GoodIn wsX9_reckons (wsV RX9 131 RX9 yX9_fraction wsX9_fraction) := goodIn_app (goodIn_of _ (by decide +kernel)) ggX9_reckons_X9_fraction
set_option maxRecDepth 20000 in
theorem ggX9_reckons_X9_t : GoodIn wsX9_reckons wsX9_t := goodIn_r _ [13, 14, 15, 16, 7, 17, 18, 19, 20, 21, 28, 29, 30, 31, 32, 33, 34, 35, 36, 37, 38, 39, 40, 41, 42, 43, 44, 45, 46, 47, 48, 49, 50, 51, 52, 53] (by decide +kernel) (by decide +kernel)
set_option maxRecDepth 20000 in
theorem gX9_reckons_X9_t : GoodIn wsX9_reckons (wsV RX9 117 RX9 yX9_t wsX9_t) := goodIn_app (goodIn_of _ (by decide +kernel)) ggX9_reckons_X9_t
set_option maxRecDepth 20000 in
theorem ggX9_reckons_X9_also : GoodIn wsX9_reckons wsX9_also := goodIn_r _ [25, 26, 27, 28, 29, 30, 31, 32, 33, 34, 35, 36, 37, 38, 39, 40, 41, 42, 43, 44, 45, 46, 47, 48, 49, 50, 51, 52, 53] (by decide +kernel) (by decide +kernel)
set_option maxRecDepth 20000 in
theorem gX9_reckons_X9_also : GoodIn wsX9_reckons (wsV RX9 91 RX9 yX9_also wsX9_also) := goodIn_app (goodIn_of _ (by decide +kernel)) ggX9_reckons_X9_also
theorem dX9_reckons_0 : decode cX9_reckons 0 = .ok (.iload_n 1, 1) := by decide +kernel
theorem dX9_reckons_1 : decode cX9_reckons 1 = .ok (.iconst 4, 1) := by decide +kernel
theorem dX9_reckons_2 : decode cX9_reckons 2 = .ok (.if_icmp .ge 50, 3) := by decide +kernel
theorem dX9_reckons_5 : decode cX9_reckons 5 = .ok (.aload_n 0, 1) := by decide +kernel
theorem dX9_reckons_6 : decode cX9_reckons 6 = .ok (.iload_n 1, 1) := by decide +kernel
theorem dX9_reckons_7 : decode cX9_reckons 7 = .ok (.iconst 3, 1) := by decide +kernel
theorem dX9_reckons_8 : decode cX9_reckons 8 = .ok (.if_icmp .ne 8, 3) := by decide +kernel
theorem dX9_reckons_11 : decode cX9_reckons 11 = .ok (.bipush 6, 2) := by decide +kernel
theorem dX9_reckons_13 : decode cX9_reckons 13 = .ok (.goto 4, 3) := by decide +kernel
theorem dX9_reckons_16 : decode cX9_reckons 16 = .ok (.iconst 5, 1) := by decide +kernel
theorem dX9_reckons_17 : decode cX9_reckons 17 = .ok (.putfield 69, 3) := by decide +kernel
theorem dX9_reckons_20 : decode cX9_reckons 20 = .ok (.aload_n 0, 1) := by decide +kernel
theorem dX9_reckons_21 : decode cX9_reckons 21 = .ok (.aload_n 0, 1) := by decide +kernel
theorem dX9_reckons_22 : decode cX9_reckons 22 = .ok (.iload_n 3, 1) := by decide +kernel
theorem dX9_reckons_23 : decode cX9_reckons 23 = .ok (.iload_n 2, 1) := by decide +kernel
theorem dX9_reckons_24 : decode cX9_reckons 24 = .ok (.invokevirtual 131, 3) := by decide +kernel
theorem dX9_reckons_27 : decode cX9_reckons 27 = .ok (.aload_n 0, 1) := by decide +kernel
theorem dX9_reckons_28 : decode cX9_reckons 28 = .ok (.iload 4, 2) := by decide +kernel
theorem dX9_reckons_30 : decode cX9_reckons 30 = .ok (.iload_n 2, 1) := by decide +kernel
theorem dX9_reckons_31 : decode cX9_reckons 31 = .ok (.invokevirtual 131, 3) := by decide +kernel
theorem dX9_reckons_34 : decode cX9_reckons 34 = .ok (.lor, 1) := by decide +kernel
theorem dX9_reckons_35 : decode cX9_reckons 35 = .ok (.putfield 72, 3) := by decide +kernel
theorem dX9_reckons_38 : decode cX9_reckons 38 = .ok (.aload_n 0, 1) := by decide +kernel
theorem dX9_reckons_39 : decode cX9_reckons 39 = .ok (.aload_n 0, 1) := by decide +kernel
theorem dX9_reckons_40 : decode cX9_reckons 40 = .ok (.iload 5, 2) := by decide +kernel
theorem dX9_reckons_42 : decode cX9_reckons 42 = .ok (.iload_n 2, 1) := by decide +kernel
theorem dX9_reckons_43 : decode cX9_reckons 43 = .ok (.invokevirtual 131, 3) := by decide +kernel
theorem dX9_reckons_46 : decode cX9_reckons 46 = .ok (.putfield 76, 3) := by decide +kernel
theorem dX9_reckons_49 : decode cX9_reckons 49 = .ok (.goto 217, 3) := by decide +kernel
theorem dX9_reckons_52 : decode cX9_reckons 52 = .ok (.iload_n 1, 1) := by decide +kernel
theorem dX9_reckons_53 : decode cX9_reckons 53 = .ok (.bipush 8, 2) := by decide +kernel
theorem dX9_reckons_55 : decode cX9_reckons 55 = .ok (.if_icmp .lt 41, 3) := by decide +kernel
theorem dX9_reckons_58 : decode cX9_reckons 58 = .ok (.iload_n 1, 1) := by decide +kernel
theorem dX9_reckons_59 : decode cX9_reckons 59 = .ok (.bipush 12, 2) := by decide +kernel
theorem dX9_reckons_61 : decode cX9_reckons 61 = .ok (.if_icmp .lt 9, 3) := by decide +kernel
theorem dX9_reckons_64 : decode cX9_reckons 64 = .ok (.iload_n 1, 1) := by decide +kernel
theorem dX9_reckons_65 : decode cX9_reckons 65 = .ok (.bipush 16, 2) := by decide +kernel
theorem dX9_reckons_67 : decode cX9_reckons 67 = .ok (.if_icmp .lt 29, 3) := by decide +kernel
theorem dX9_reckons_70 : decode cX9_reckons 70 = .ok (.iload_n 1, 1) := by decide +kernel
theorem dX9_reckons_71 : decode cX9_reckons 71 = .ok (.bipush 36, 2) := by decide +kernel
theorem dX9_reckons_73 : decode cX9_reckons 73 = .ok (.if_icmp .eq 23, 3) := by decide +kernel
theorem dX9_reckons_76 : decode cX9_reckons 76 = .ok (.iload_n 1, 1) := by decide +kernel
theorem dX9_reckons_77 : decode cX9_reckons 77 = .ok (.bipush 32, 2) := by decide +kernel
theorem dX9_reckons_79 : decode cX9_reckons 79 = .ok (.if_icmp .ne 7, 3) := by decide +kernel
theorem dX9_reckons_82 : decode cX9_reckons 82 = .ok (.iload_n 2, 1) := by decide +kernel
theorem dX9_reckons_83 : decode cX9_reckons 83 = .ok (.ifCond .ne 13, 3) := by decide +kernel
theorem dX9_reckons_86 : decode cX9_reckons 86 = .ok (.iload_n 1, 1) := by decide +kernel
theorem dX9_reckons_87 : decode cX9_reckons 87 = .ok (.bipush 33, 2) := by decide +kernel
theorem dX9_reckons_89 : decode cX9_reckons 89 = .ok (.if_icmp .ne 66, 3) := by decide +kernel
theorem dX9_reckons_92 : decode cX9_reckons 92 = .ok (.iload_n 2, 1) := by decide +kernel
theorem dX9_reckons_93 : decode cX9_reckons 93 = .ok (.ifCond .ne 62, 3) := by decide +kernel
theorem dX9_reckons_96 : decode cX9_reckons 96 = .ok (.aload_n 0, 1) := by decide +kernel
theorem dX9_reckons_97 : decode cX9_reckons 97 = .ok (.iload_n 1, 1) := by decide +kernel
theorem dX9_reckons_98 : decode cX9_reckons 98 = .ok (.iconst 4, 1) := by decide +kernel
theorem dX9_reckons_99 : decode cX9_reckons 99 = .ok (.if_icmp .ne 8, 3) := by decide +kernel
theorem dX9_reckons_102 : decode cX9_reckons 102 = .ok (.bipush 6, 2) := by decide +kernel
theorem dX9_reckons_104 : decode cX9_reckons 104 = .ok (.goto 4, 3) := by decide +kernel
theorem dX9_reckons_107 : decode cX9_reckons 107 = .ok (.iconst 5, 1) := by decide +kernel
theorem dX9_reckons_108 : decode cX9_reckons 108 = .ok (.putfield 69, 3) := by decide +kernel
theorem dX9_reckons_111 : decode cX9_reckons 111 = .ok (.aload_n 0, 1) := by decide +kernel
theorem dX9_reckons_112 : decode cX9_reckons 112 = .ok (.aload_n 0, 1) := by decide +kernel
theorem dX9_reckons_113 : decode cX9_reckons 113 = .ok (.iload_n 3, 1) := by decide +kernel
theorem dX9_reckons_114 : decode cX9_reckons 114 = .ok (.iload_n 2, 1) := by decide +kernel
theorem dX9_reckons_115 : decode cX9_reckons 115 = .ok (.invokevirtual 131, 3) := by decide +kernel
theorem dX9_reckons_118 : decode cX9_reckons 118 = .ok (.putfield 72, 3) := by decide +kernel
theorem dX9_reckons_121 : decode cX9_reckons 121 = .ok (.aload_n 0, 1) := by decide +kernel
theorem dX9_reckons_122 : decode cX9_reckons 122 = .ok (.aload_n 0, 1) := by decide +kernel
theorem dX9_reckons_123 : decode cX9_reckons 123 = .ok (.iload 5, 2) := by decide +kernel
theorem dX9_reckons_125 : decode cX9_reckons 125 = .ok (.iload_n 1, 1) := by decide +kernel
theorem dX9_reckons_126 : decode cX9_reckons 126 = .ok (.bipush 8, 2) := by decide +kernel
theorem dX9_reckons_128 : decode cX9_reckons 128 = .ok (.if_icmp .ge 7, 3) := by decide +kernel
theorem dX9_reckons_131 : decode cX9_reckons 131 = .ok (.iload_n 2, 1) := by decide +kernel
theorem dX9_reckons_132 : decode cX9_reckons 132 = .ok (.ifCond .ne 9, 3) := by decide +kernel
theorem dX9_reckons_135 : decode cX9_reckons 135 = .ok (.iload_n 1, 1) := by decide +kernel
theorem dX9_reckons_136 : decode cX9_reckons 136 = .ok (.bipush 33, 2) := by decide +kernel
theorem dX9_reckons_138 : decode cX9_reckons 138 = .ok (.if_icmp .ne 7, 3) := by decide +kernel
theorem dX9_reckons_141 : decode cX9_reckons 141 = .ok (.iconst 1, 1) := by decide +kernel
theorem dX9_reckons_142 : decode cX9_reckons 142 = .ok (.goto 4, 3) := by decide +kernel
theorem dX9_reckons_145 : decode cX9_reckons 145 = .ok (.iconst 0, 1) := by decide +kernel
theorem dX9_reckons_146 : decode cX9_reckons 146 = .ok (.invokevirtual 131, 3) := by decide +kernel
theorem dX9_reckons_149 : decode cX9_reckons 149 = .ok (.putfield 76, 3) := by decide +kernel
theorem dX9_reckons_152 : decode cX9_reckons 152 = .ok (.goto 114, 3) := by decide +kernel
theorem dX9_reckons_155 : decode cX9_reckons 155 = .ok (.iload_n 1, 1) := by decide +kernel
theorem dX9_reckons_156 : decode cX9_reckons 156 = .ok (.bipush 17, 2) := by decide +kernel
theorem dX9_reckons_158 : decode cX9_reckons 158 = .ok (.if_icmp .lt 73, 3) := by decide +kernel
theorem dX9_reckons_161 : decode cX9_reckons 161 = .ok (.iload_n 1, 1) := by decide +kernel
theorem dX9_reckons_162 : decode cX9_reckons 162 = .ok (.bipush 20, 2) := by decide +kernel
theorem dX9_reckons_164 : decode cX9_reckons 164 = .ok (.if_icmp .ge 67, 3) := by decide +kernel
theorem dX9_reckons_167 : decode cX9_reckons 167 = .ok (.aload_n 0, 1) := by decide +kernel
theorem dX9_reckons_168 : decode cX9_reckons 168 = .ok (.iconst 5, 1) := by decide +kernel
theorem dX9_reckons_169 : decode cX9_reckons 169 = .ok (.putfield 69, 3) := by decide +kernel
theorem dX9_reckons_172 : decode cX9_reckons 172 = .ok (.aload_n 0, 1) := by decide +kernel
theorem dX9_reckons_173 : decode cX9_reckons 173 = .ok (.aload_n 0, 1) := by decide +kernel
theorem dX9_reckons_174 : decode cX9_reckons 174 = .ok (.iload_n 3, 1) := by decide +kernel
theorem dX9_reckons_175 : decode cX9_reckons 175 = .ok (.iload_n 2, 1) := by decide +kernel
theorem dX9_reckons_176 : decode cX9_reckons 176 = .ok (.invokevirtual 131, 3) := by decide +kernel
theorem dX9_reckons_179 : decode cX9_reckons 179 = .ok (.aload_n 0, 1) := by decide +kernel
theorem dX9_reckons_180 : decode cX9_reckons 180 = .ok (.iload 5, 2) := by decide +kernel
theorem dX9_reckons_182 : decode cX9_reckons 182 = .ok (.iload_n 2, 1) := by decide +kernel
theorem dX9_reckons_183 : decode cX9_reckons 183 = .ok (.invokevirtual 131, 3) := by decide +kernel
theorem dX9_reckons_186 : decode cX9_reckons 186 = .ok (.lor, 1) := by decide +kernel
theorem dX9_reckons_187 : decode cX9_reckons 187 = .ok (.iload_n 1, 1) := by decide +kernel
theorem dX9_reckons_188 : decode cX9_reckons 188 = .ok (.bipush 17, 2) := by decide +kernel
theorem dX9_reckons_190 : decode cX9_reckons 190 = .ok (.if_icmp .le 10, 3) := by decide +kernel
theorem dX9_reckons_193 : decode cX9_reckons 193 = .ok (.aload_n 0, 1) := by decide +kernel
theorem dX9_reckons_194 : decode cX9_reckons 194 = .ok (.invokevirtual 117, 3) := by decide +kernel
theorem dX9_reckons_197 : decode cX9_reckons 197 = .ok (.goto 4, 3) := by decide +kernel
theorem dX9_reckons_200 : decode cX9_reckons 200 = .ok (.lconst 0, 1) := by decide +kernel
theorem dX9_reckons_201 : decode cX9_reckons 201 = .ok (.lor, 1) := by decide +kernel
theorem dX9_reckons_202 : decode cX9_reckons 202 = .ok (.putfield 72, 3) := by decide +kernel
theorem dX9_reckons_205 : decode cX9_reckons 205 = .ok (.aload_n 0, 1) := by decide +kernel
theorem dX9_reckons_206 : decode cX9_reckons 206 = .ok (.aload_n 0, 1) := by decide +kernel
theorem dX9_reckons_207 : decode cX9_reckons 207 = .ok (.iload 5, 2) := by decide +kernel
theorem dX9_reckons_209 : decode cX9_reckons 209 = .ok (.iload_n 2, 1) := by decide +kernel
theorem dX9_reckons_210 : decode cX9_reckons 210 = .ok (.invokevirtual 131, 3) := by decide +kernel
theorem dX9_reckons_213 : decode cX9_reckons 213 = .ok (.putfield 76, 3) := by decide +kernel
theorem dX9_reckons_216 : decode cX9_reckons 216 = .ok (.iload_n 1, 1) := by decide +kernel
theorem dX9_reckons_217 : decode cX9_reckons 217 = .ok (.bipush 17, 2) := by decide +kernel
theorem dX9_reckons_219 : decode cX9_reckons 219 = .ok (.if_icmp .ne 47, 3) := by decide +kernel
theorem dX9_reckons_222 : decode cX9_reckons 222 = .ok (.aload_n 0, 1) := by decide +kernel
theorem dX9_reckons_223 : decode cX9_reckons 223 = .ok (.iconst 1, 1) := by decide +kernel
theorem dX9_reckons_224 : decode cX9_reckons 224 = .ok (.iconst 0, 1) := by decide +kernel
theorem dX9_reckons_225 : decode cX9_reckons 225 = .ok (.invokevirtual 91, 3) := by decide +kernel
theorem dX9_reckons_228 : decode cX9_reckons 228 = .ok (.goto 38, 3) := by decide +kernel
theorem dX9_reckons_231 : decode cX9_reckons 231 = .ok (.iload_n 1, 1) := by decide +kernel
theorem dX9_reckons_232 : decode cX9_reckons 232 = .ok (.bipush 48, 2) := by decide +kernel
theorem dX9_reckons_234 : decode cX9_reckons 234 = .ok (.if_icmp .lt 32, 3) := by decide +kernel
theorem dX9_reckons_237 : decode cX9_reckons 237 = .ok (.aload_n 0, 1) := by decide +kernel
theorem dX9_reckons_238 : decode cX9_reckons 238 = .ok (.iconst 5, 1) := by decide +kernel
theorem dX9_reckons_239 : decode cX9_reckons 239 = .ok (.putfield 69, 3) := by decide +kernel
theorem dX9_reckons_242 : decode cX9_reckons 242 = .ok (.aload_n 0, 1) := by decide +kernel
theorem dX9_reckons_243 : decode cX9_reckons 243 = .ok (.aload_n 0, 1) := by decide +kernel
theorem dX9_reckons_244 : decode cX9_reckons 244 = .ok (.iload_n 3, 1) := by decide +kernel
theorem dX9_reckons_245 : decode cX9_reckons 245 = .ok (.iload_n 2, 1) := by decide +kernel
theorem dX9_reckons_246 : decode cX9_reckons 246 = .ok (.invokevirtual 131, 3) := by decide +kernel
theorem dX9_reckons_249 : decode cX9_reckons 249 = .ok (.aload_n 0, 1) := by decide +kernel
theorem dX9_reckons_250 : decode cX9_reckons 250 = .ok (.iload 4, 2) := by decide +kernel
theorem dX9_reckons_252 : decode cX9_reckons 252 = .ok (.iload_n 2, 1) := by decide +kernel
theorem dX9_reckons_253 : decode cX9_reckons 253 = .ok (.invokevirtual 131, 3) := by decide +kernel
theorem dX9_reckons_256 : decode cX9_reckons 256 = .ok (.lor, 1) := by decide +kernel
theorem dX9_reckons_257 : decode cX9_reckons 257 = .ok (.putfield 72, 3) := by decide +kernel
theorem dX9_reckons_260 : decode cX9_reckons 260 = .ok (.aload_n 0, 1) := by decide +kernel
theorem dX9_reckons_261 : decode cX9_reckons 261 = .ok (.iconst 1, 1) := by decide +kernel
theorem dX9_reckons_262 : decode cX9_reckons 262 = .ok (.iconst 1, 1) := by decide +kernel
theorem dX9_reckons_263 : decode cX9_reckons 263 = .ok (.invokevirtual 91, 3) := by decide +kernel
theorem dX9_reckons_266 : decode cX9_reckons 266 = .ok (.return_, 1) := by decide +kernel
set_option maxRecDepth 20000 in
theorem ggX9_latency_X9_fail : GoodIn wsX9_latency wsX9_fail := goodIn_r _ [7, 1, 8, 9, 10, 11, 12, 13, 14, 15, 16, 17, 18, 19, 20, 21, 22, 23, 24, 25, 26, 27, 28, 29, 30, 31, 32, 33] (by decide +kernel) (by decide +kernel)
set_option maxRecDepth 20000 in
theorem gX9_latency_X9_fail : GoodIn wsX9_latency (wsV RX9 139 RX9 yX9_fail wsX9_fail) := goodIn_app (goodIn_of _ (by decide +kernel)) ggX9_latency_X9_fail
theorem dX9_latency_0 : decode cX9_latency 0 = .ok (.aload_n 0, 1) := by decide +kernel
theorem dX9_latency_1 : decode cX9_latency 1 = .ok (.iconst 0, 1) := by decide +kernel
theorem dX9_latency_2 : decode cX9_latency 2 = .ok (.putfield 54, 3) := by decide +kernel
theorem dX9_latency_5 : decode cX9_latency 5 = .ok (.iload_n 1, 1) := by decide +kernel
theorem dX9_latency_6 : decode cX9_latency 6 = .ok (.ifCond .lt 20, 3) := by decide +kernel
theorem dX9_latency_9 : decode cX9_latency 9 = .ok (.iload_n 1, 1) := by decide +kernel
theorem dX9_latency_10 : decode cX9_latency 10 = .ok (.bipush 6, 2) := by decide +kernel
theorem dX9_latency_12 : decode cX9_latency 12 = .ok (.if_icmp .gt 14, 3) := by decide +kernel
theorem dX9_latency_15 : decode cX9_latency 15 = .ok (.iload_n 2, 1) := by decide +kernel
theorem dX9_latency_16 : decode cX9_latency 16 = .ok (.iconst 1, 1) := by decide +kernel
theorem dX9_latency_17 : decode cX9_latency 17 = .ok (.if_icmp .lt 9, 3) := by decide +kernel
theorem dX9_latency_20 : decode cX9_latency 20 = .ok (.iload_n 2, 1) := by decide +kernel
theorem dX9_latency_21 : decode cX9_latency 21 = .ok (.bipush 40, 2) := by decide +kernel
theorem dX9_latency_23 : decode cX9_latency 23 = .ok (.if_icmp .le 9, 3) := by decide +kernel
theorem dX9_latency_26 : decode cX9_latency 26 = .ok (.aload_n 0, 1) := by decide +kernel
theorem dX9_latency_27 : decode cX9_latency 27 = .ok (.iconst 1, 1) := by decide +kernel
theorem dX9_latency_28 : decode cX9_latency 28 = .ok (.invokevirtual 139, 3) := by decide +kernel
theorem dX9_latency_31 : decode cX9_latency 31 = .ok (.ireturn, 1) := by decide +kernel
theorem dX9_latency_32 : decode cX9_latency 32 = .ok (.aload_n 0, 1) := by decide +kernel
theorem dX9_latency_33 : decode cX9_latency 33 = .ok (.getfield 7, 3) := by decide +kernel
theorem dX9_latency_36 : decode cX9_latency 36 = .ok (.iload_n 1, 1) := by decide +kernel
theorem dX9_latency_37 : decode cX9_latency 37 = .ok (.iaload, 1) := by decide +kernel
theorem dX9_latency_38 : decode cX9_latency 38 = .ok (.istore_n 3, 1) := by decide +kernel
theorem dX9_latency_39 : decode cX9_latency 39 = .ok (.aload_n 0, 1) := by decide +kernel
theorem dX9_latency_40 : decode cX9_latency 40 = .ok (.getfield 7, 3) := by decide +kernel
theorem dX9_latency_43 : decode cX9_latency 43 = .ok (.iload_n 1, 1) := by decide +kernel
theorem dX9_latency_44 : decode cX9_latency 44 = .ok (.iload_n 2, 1) := by decide +kernel
theorem dX9_latency_45 : decode cX9_latency 45 = .ok (.iastore, 1) := by decide +kernel
theorem dX9_latency_46 : decode cX9_latency 46 = .ok (.iload_n 3, 1) := by decide +kernel
theorem dX9_latency_47 : decode cX9_latency 47 = .ok (.ireturn, 1) := by decide +kernel
set_option maxRecDepth 20000 in
theorem ggX9_add_X9_look : GoodIn wsX9_add wsX9_look := goodIn_r _ [21, 22, 2, 8, 10, 16, 23, 24, 25, 20, 26, 12, 14, 27, 28, 29, 30, 31, 32, 33, 34, 35, 36, 37, 38, 39, 40, 41, 42, 43, 44, 45, 46, 47, 48, 49, 50, 51, 52, 53, 54, 55, 56, 57, 58, 59, 60, 61, 62, 63, 64, 65, 66, 67, 68, 69, 70, 71, 72, 73, 74, 75, 76, 77, 78, 79, 80, 81, 82, 83, 84, 85, 86, 91, 92, 93, 94, 95, 96, 97, 98, 99, 100, 101, 102, 103, 104, 105, 106, 107, 108, 109, 110, 111, 112, 113, 114, 115, 116] (by decide +kernel) (by decide +kernel)
set_option maxRecDepth 20000 in
theorem gX9_add_X9_look : GoodIn wsX9_add (wsV RX9 142 RX9 yX9_look wsX9_look) := goodIn_app (goodIn_of _ (by decide +kernel)) ggX9_add_X9_look
set_option maxRecDepth 20000 in
theorem ggX9_add_X9_fail : GoodIn wsX9_add wsX9_fail := goodIn_r _ [90, 1, 91, 92, 93, 94, 95, 96, 97, 98, 99, 100, 101, 102, 103, 104, 105, 106, 107, 108, 109, 110, 111, 112, 113, 114, 115, 116] (by decide +kernel) (by decide +kernel)
set_option maxRecDepth 20000 in
theorem gX9_add_X9_fail : GoodIn wsX9_add (wsV RX9 139 RX9 yX9_fail wsX9_fail) := goodIn_app (goodIn_of _ (by decide +kernel)) ggX9_add_X9_fail
theorem dX9_add_0 : decode cX9_add 0 = .ok (.aload_n 0, 1) := by decide +kernel
theorem dX9_add_1 : decode cX9_add 1 = .ok (.iconst 0, 1) := by decide +kernel
theorem dX9_add_2 : decode cX9_add 2 = .ok (.putfield 54, 3) := by decide +kernel
theorem dX9_add_5 : decode cX9_add 5 = .ok (.aload_n 0, 1) := by decide +kernel
theorem dX9_add_6 : decode cX9_add 6 = .ok (.iload_n 1, 1) := by decide +kernel
theorem dX9_add_7 : decode cX9_add 7 = .ok (.invokevirtual 142, 3) := by decide +kernel
theorem dX9_add_10 : decode cX9_add 10 = .ok (.aload_n 0, 1) := by decide +kernel
theorem dX9_add_11 : decode cX9_add 11 = .ok (.getfield 69, 3) := by decide +kernel
theorem dX9_add_14 : decode cX9_add 14 = .ok (.iconst (-1), 1) := by decide +kernel
theorem dX9_add_15 : decode cX9_add 15 = .ok (.if_icmp .ne 9, 3) := by decide +kernel
theorem dX9_add_18 : decode cX9_add 18 = .ok (.aload_n 0, 1) := by decide +kernel
theorem dX9_add_19 : decode cX9_add 19 = .ok (.iconst 1, 1) := by decide +kernel
theorem dX9_add_20 : decode cX9_add 20 = .ok (.invokevirtual 139, 3) := by decide +kernel
theorem dX9_add_23 : decode cX9_add 23 = .ok (.ireturn, 1) := by decide +kernel
theorem dX9_add_24 : decode cX9_add 24 = .ok (.aload_n 0, 1) := by decide +kernel
theorem dX9_add_25 : decode cX9_add 25 = .ok (.getfield 145, 3) := by decide +kernel
theorem dX9_add_28 : decode cX9_add 28 = .ok (.ifCond .eq 7, 3) := by decide +kernel
theorem dX9_add_31 : decode cX9_add 31 = .ok (.iconst 0, 1) := by decide +kernel
theorem dX9_add_32 : decode cX9_add 32 = .ok (.goto 7, 3) := by decide +kernel
theorem dX9_add_35 : decode cX9_add 35 = .ok (.aload_n 0, 1) := by decide +kernel
theorem dX9_add_36 : decode cX9_add 36 = .ok (.getfield 148, 3) := by decide +kernel
theorem dX9_add_39 : decode cX9_add 39 = .ok (.istore_n 2, 1) := by decide +kernel
theorem dX9_add_40 : decode cX9_add 40 = .ok (.iload_n 2, 1) := by decide +kernel
theorem dX9_add_41 : decode cX9_add 41 = .ok (.bipush 40, 2) := by decide +kernel
theorem dX9_add_43 : decode cX9_add 43 = .ok (.if_icmp .eq 20, 3) := by decide +kernel
theorem dX9_add_46 : decode cX9_add 46 = .ok (.iload_n 2, 1) := by decide +kernel
theorem dX9_add_47 : decode cX9_add 47 = .ok (.ifCond .le 22, 3) := by decide +kernel
theorem dX9_add_50 : decode cX9_add 50 = .ok (.aload_n 0, 1) := by decide +kernel
theorem dX9_add_51 : decode cX9_add 51 = .ok (.getfield 16, 3) := by decide +kernel
theorem dX9_add_54 : decode cX9_add 54 = .ok (.iload_n 2, 1) := by decide +kernel
theorem dX9_add_55 : decode cX9_add 55 = .ok (.iconst 1, 1) := by decide +kernel
theorem dX9_add_56 : decode cX9_add 56 = .ok (.isub, 1) := by decide +kernel
theorem dX9_add_57 : decode cX9_add 57 = .ok (.iaload, 1) := by decide +kernel
theorem dX9_add_58 : decode cX9_add 58 = .ok (.bipush 7, 2) := by decide +kernel
theorem dX9_add_60 : decode cX9_add 60 = .ok (.if_icmp .ne 9, 3) := by decide +kernel
theorem dX9_add_63 : decode cX9_add 63 = .ok (.aload_n 0, 1) := by decide +kernel
theorem dX9_add_64 : decode cX9_add 64 = .ok (.iconst 2, 1) := by decide +kernel
theorem dX9_add_65 : decode cX9_add 65 = .ok (.invokevirtual 139, 3) := by decide +kernel
theorem dX9_add_68 : decode cX9_add 68 = .ok (.ireturn, 1) := by decide +kernel
theorem dX9_add_69 : decode cX9_add 69 = .ok (.aload_n 0, 1) := by decide +kernel
theorem dX9_add_70 : decode cX9_add 70 = .ok (.iconst 0, 1) := by decide +kernel
theorem dX9_add_71 : decode cX9_add 71 = .ok (.putfield 145, 3) := by decide +kernel
theorem dX9_add_74 : decode cX9_add 74 = .ok (.aload_n 0, 1) := by decide +kernel
theorem dX9_add_75 : decode cX9_add 75 = .ok (.getfield 13, 3) := by decide +kernel
theorem dX9_add_78 : decode cX9_add 78 = .ok (.iload_n 2, 1) := by decide +kernel
theorem dX9_add_79 : decode cX9_add 79 = .ok (.iload_n 1, 1) := by decide +kernel
theorem dX9_add_80 : decode cX9_add 80 = .ok (.iastore, 1) := by decide +kernel
theorem dX9_add_81 : decode cX9_add 81 = .ok (.aload_n 0, 1) := by decide +kernel
theorem dX9_add_82 : decode cX9_add 82 = .ok (.getfield 16, 3) := by decide +kernel
theorem dX9_add_85 : decode cX9_add 85 = .ok (.iload_n 2, 1) := by decide +kernel
theorem dX9_add_86 : decode cX9_add 86 = .ok (.aload_n 0, 1) := by decide +kernel
theorem dX9_add_87 : decode cX9_add 87 = .ok (.getfield 69, 3) := by decide +kernel
theorem dX9_add_90 : decode cX9_add 90 = .ok (.iastore, 1) := by decide +kernel
theorem dX9_add_91 : decode cX9_add 91 = .ok (.aload_n 0, 1) := by decide +kernel
theorem dX9_add_92 : decode cX9_add 92 = .ok (.getfield 25, 3) := by decide +kernel
theorem dX9_add_95 : decode cX9_add 95 = .ok (.iload_n 2, 1) := by decide +kernel
theorem dX9_add_96 : decode cX9_add 96 = .ok (.aload_n 0, 1) := by decide +kernel
theorem dX9_add_97 : decode cX9_add 97 = .ok (.getfield 72, 3) := by decide +kernel
theorem dX9_add_100 : decode cX9_add 100 = .ok (.lastore, 1) := by decide +kernel
theorem dX9_add_101 : decode cX9_add 101 = .ok (.aload_n 0, 1) := by decide +kernel
theorem dX9_add_102 : decode cX9_add 102 = .ok (.getfield 29, 3) := by decide +kernel
theorem dX9_add_105 : decode cX9_add 105 = .ok (.iload_n 2, 1) := by decide +kernel
theorem dX9_add_106 : decode cX9_add 106 = .ok (.aload_n 0, 1) := by decide +kernel
theorem dX9_add_107 : decode cX9_add 107 = .ok (.getfield 76, 3) := by decide +kernel
theorem dX9_add_110 : decode cX9_add 110 = .ok (.lastore, 1) := by decide +kernel
theorem dX9_add_111 : decode cX9_add 111 = .ok (.aload_n 0, 1) := by decide +kernel
theorem dX9_add_112 : decode cX9_add 112 = .ok (.getfield 19, 3) := by decide +kernel
theorem dX9_add_115 : decode cX9_add 115 = .ok (.iload_n 2, 1) := by decide +kernel
theorem dX9_add_116 : decode cX9_add 116 = .ok (.aload_n 0, 1) := by decide +kernel
theorem dX9_add_117 : decode cX9_add 117 = .ok (.getfield 79, 3) := by decide +kernel
theorem dX9_add_120 : decode cX9_add 120 = .ok (.iastore, 1) := by decide +kernel
theorem dX9_add_121 : decode cX9_add 121 = .ok (.aload_n 0, 1) := by decide +kernel
theorem dX9_add_122 : decode cX9_add 122 = .ok (.getfield 22, 3) := by decide +kernel
theorem dX9_add_125 : decode cX9_add 125 = .ok (.iload_n 2, 1) := by decide +kernel
theorem dX9_add_126 : decode cX9_add 126 = .ok (.aload_n 0, 1) := by decide +kernel
theorem dX9_add_127 : decode cX9_add 127 = .ok (.getfield 82, 3) := by decide +kernel
theorem dX9_add_130 : decode cX9_add 130 = .ok (.iastore, 1) := by decide +kernel
theorem dX9_add_131 : decode cX9_add 131 = .ok (.aload_n 0, 1) := by decide +kernel
theorem dX9_add_132 : decode cX9_add 132 = .ok (.getfield 32, 3) := by decide +kernel
theorem dX9_add_135 : decode cX9_add 135 = .ok (.iload_n 2, 1) := by decide +kernel
theorem dX9_add_136 : decode cX9_add 136 = .ok (.aload_n 0, 1) := by decide +kernel

theorem dX9_special_192 : decode cX9_special 192 = .ok (.invokevirtual 117, 3) := by decide +kernel
theorem dX9_special_195 : decode cX9_special 195 = .ok (.lor, 1) := by decide +kernel
theorem dX9_special_196 : decode cX9_special 196 = .ok (.aload_n 0, 1) := by decide +kernel
theorem dX9_special_197 : decode cX9_special 197 = .ok (.invokevirtual 121, 3) := by decide +kernel
theorem dX9_special_200 : decode cX9_special 200 = .ok (.lor, 1) := by decide +kernel
theorem dX9_special_201 : decode cX9_special 201 = .ok (.aload_n 0, 1) := by decide +kernel
theorem dX9_special_202 : decode cX9_special 202 = .ok (.invokevirtual 121, 3) := by decide +kernel
theorem dX9_special_205 : decode cX9_special 205 = .ok (.invokevirtual 124, 3) := by decide +kernel
theorem dX9_special_208 : decode cX9_special 208 = .ok (.goto 167, 3) := by decide +kernel
theorem dX9_special_211 : decode cX9_special 211 = .ok (.iload_n 1, 1) := by decide +kernel
theorem dX9_special_212 : decode cX9_special 212 = .ok (.bipush 12, 2) := by decide +kernel
theorem dX9_special_214 : decode cX9_special 214 = .ok (.if_icmp .eq 45, 3) := by decide +kernel
theorem dX9_special_217 : decode cX9_special 217 = .ok (.iload_n 1, 1) := by decide +kernel
theorem dX9_special_218 : decode cX9_special 218 = .ok (.bipush 13, 2) := by decide +kernel
theorem dX9_special_220 : decode cX9_special 220 = .ok (.if_icmp .eq 39, 3) := by decide +kernel
theorem dX9_special_223 : decode cX9_special 223 = .ok (.iload_n 1, 1) := by decide +kernel
theorem dX9_special_224 : decode cX9_special 224 = .ok (.bipush 15, 2) := by decide +kernel
theorem dX9_special_226 : decode cX9_special 226 = .ok (.if_icmp .eq 33, 3) := by decide +kernel
theorem dX9_special_229 : decode cX9_special 229 = .ok (.iload_n 1, 1) := by decide +kernel
theorem dX9_special_230 : decode cX9_special 230 = .ok (.bipush 32, 2) := by decide +kernel
theorem dX9_special_232 : decode cX9_special 232 = .ok (.if_icmp .eq 27, 3) := by decide +kernel
theorem dX9_special_235 : decode cX9_special 235 = .ok (.iload_n 1, 1) := by decide +kernel
theorem dX9_special_236 : decode cX9_special 236 = .ok (.bipush 34, 2) := by decide +kernel
theorem dX9_special_238 : decode cX9_special 238 = .ok (.if_icmp .eq 21, 3) := by decide +kernel
theorem dX9_special_241 : decode cX9_special 241 = .ok (.iload_n 1, 1) := by decide +kernel
theorem dX9_special_242 : decode cX9_special 242 = .ok (.bipush 48, 2) := by decide +kernel
theorem dX9_special_244 : decode cX9_special 244 = .ok (.if_icmp .lt 26, 3) := by decide +kernel
theorem dX9_special_247 : decode cX9_special 247 = .ok (.iload_n 1, 1) := by decide +kernel
theorem dX9_special_248 : decode cX9_special 248 = .ok (.bipush 55, 2) := by decide +kernel
theorem dX9_special_250 : decode cX9_special 250 = .ok (.if_icmp .ge 20, 3) := by decide +kernel
theorem dX9_special_253 : decode cX9_special 253 = .ok (.iload_n 1, 1) := by decide +kernel
theorem dX9_special_254 : decode cX9_special 254 = .ok (.bipush 53, 2) := by decide +kernel
theorem dX9_special_256 : decode cX9_special 256 = .ok (.if_icmp .eq 14, 3) := by decide +kernel
theorem dX9_special_259 : decode cX9_special 259 = .ok (.aload_n 0, 1) := by decide +kernel
theorem dX9_special_260 : decode cX9_special 260 = .ok (.bipush 8, 2) := by decide +kernel
theorem dX9_special_262 : decode cX9_special 262 = .ok (.lconst 0, 1) := by decide +kernel
theorem dX9_special_263 : decode cX9_special 263 = .ok (.lconst 0, 1) := by decide +kernel
theorem dX9_special_264 : decode cX9_special 264 = .ok (.invokevirtual 124, 3) := by decide +kernel
theorem dX9_special_267 : decode cX9_special 267 = .ok (.goto 108, 3) := by decide +kernel
theorem dX9_special_270 : decode cX9_special 270 = .ok (.iload_n 1, 1) := by decide +kernel
theorem dX9_special_271 : decode cX9_special 271 = .ok (.bipush 16, 2) := by decide +kernel
theorem dX9_special_273 : decode cX9_special 273 = .ok (.if_icmp .eq 9, 3) := by decide +kernel
theorem dX9_special_276 : decode cX9_special 276 = .ok (.iload_n 1, 1) := by decide +kernel
theorem dX9_special_277 : decode cX9_special 277 = .ok (.bipush 18, 2) := by decide +kernel
theorem dX9_special_279 : decode cX9_special 279 = .ok (.if_icmp .ne 22, 3) := by decide +kernel
theorem dX9_special_282 : decode cX9_special 282 = .ok (.aload_n 0, 1) := by decide +kernel
theorem dX9_special_283 : decode cX9_special 283 = .ok (.iconst 0, 1) := by decide +kernel
theorem dX9_special_284 : decode cX9_special 284 = .ok (.lconst 0, 1) := by decide +kernel
theorem dX9_special_285 : decode cX9_special 285 = .ok (.aload_n 0, 1) := by decide +kernel
theorem dX9_special_286 : decode cX9_special 286 = .ok (.invokevirtual 121, 3) := by decide +kernel
theorem dX9_special_289 : decode cX9_special 289 = .ok (.invokevirtual 124, 3) := by decide +kernel
theorem dX9_special_292 : decode cX9_special 292 = .ok (.aload_n 0, 1) := by decide +kernel
theorem dX9_special_293 : decode cX9_special 293 = .ok (.iconst 2, 1) := by decide +kernel
theorem dX9_special_294 : decode cX9_special 294 = .ok (.iconst 0, 1) := by decide +kernel
theorem dX9_special_295 : decode cX9_special 295 = .ok (.invokevirtual 91, 3) := by decide +kernel
theorem dX9_special_298 : decode cX9_special 298 = .ok (.goto 77, 3) := by decide +kernel
theorem dX9_special_301 : decode cX9_special 301 = .ok (.iload_n 1, 1) := by decide +kernel
theorem dX9_special_302 : decode cX9_special 302 = .ok (.bipush 17, 2) := by decide +kernel
theorem dX9_special_304 : decode cX9_special 304 = .ok (.if_icmp .eq 9, 3) := by decide +kernel
theorem dX9_special_307 : decode cX9_special 307 = .ok (.iload_n 1, 1) := by decide +kernel
theorem dX9_special_308 : decode cX9_special 308 = .ok (.bipush 19, 2) := by decide +kernel
theorem dX9_special_310 : decode cX9_special 310 = .ok (.if_icmp .ne 22, 3) := by decide +kernel
theorem dX9_special_313 : decode cX9_special 313 = .ok (.aload_n 0, 1) := by decide +kernel
theorem dX9_special_314 : decode cX9_special 314 = .ok (.iconst 0, 1) := by decide +kernel
theorem dX9_special_315 : decode cX9_special 315 = .ok (.aload_n 0, 1) := by decide +kernel
theorem dX9_special_316 : decode cX9_special 316 = .ok (.invokevirtual 128, 3) := by decide +kernel
theorem dX9_special_319 : decode cX9_special 319 = .ok (.lconst 0, 1) := by decide +kernel
theorem dX9_special_320 : decode cX9_special 320 = .ok (.invokevirtual 124, 3) := by decide +kernel
theorem dX9_special_323 : decode cX9_special 323 = .ok (.aload_n 0, 1) := by decide +kernel
theorem dX9_special_324 : decode cX9_special 324 = .ok (.iconst 2, 1) := by decide +kernel
theorem dX9_special_325 : decode cX9_special 325 = .ok (.iconst 2, 1) := by decide +kernel
theorem dX9_special_326 : decode cX9_special 326 = .ok (.invokevirtual 91, 3) := by decide +kernel
theorem dX9_special_329 : decode cX9_special 329 = .ok (.goto 46, 3) := by decide +kernel
theorem dX9_special_332 : decode cX9_special 332 = .ok (.iload_n 1, 1) := by decide +kernel
theorem dX9_special_333 : decode cX9_special 333 = .ok (.bipush 24, 2) := by decide +kernel
theorem dX9_special_335 : decode cX9_special 335 = .ok (.if_icmp .lt 40, 3) := by decide +kernel
theorem dX9_special_338 : decode cX9_special 338 = .ok (.iload_n 1, 1) := by decide +kernel
theorem dX9_special_339 : decode cX9_special 339 = .ok (.bipush 28, 2) := by decide +kernel
theorem dX9_special_341 : decode cX9_special 341 = .ok (.if_icmp .ge 34, 3) := by decide +kernel
theorem dX9_special_344 : decode cX9_special 344 = .ok (.aload_n 0, 1) := by decide +kernel
theorem dX9_special_345 : decode cX9_special 345 = .ok (.iload_n 1, 1) := by decide +kernel
theorem dX9_special_346 : decode cX9_special 346 = .ok (.bipush 26, 2) := by decide +kernel
theorem dX9_special_348 : decode cX9_special 348 = .ok (.if_icmp .ge 7, 3) := by decide +kernel
theorem dX9_special_351 : decode cX9_special 351 = .ok (.iconst 3, 1) := by decide +kernel
theorem dX9_special_352 : decode cX9_special 352 = .ok (.goto 4, 3) := by decide +kernel
theorem dX9_special_355 : decode cX9_special 355 = .ok (.iconst 4, 1) := by decide +kernel
theorem dX9_special_356 : decode cX9_special 356 = .ok (.aload_n 0, 1) := by decide +kernel
theorem dX9_special_357 : decode cX9_special 357 = .ok (.invokevirtual 128, 3) := by decide +kernel
theorem dX9_special_360 : decode cX9_special 360 = .ok (.aload_n 0, 1) := by decide +kernel
theorem dX9_special_361 : decode cX9_special 361 = .ok (.invokevirtual 117, 3) := by decide +kernel
theorem dX9_special_364 : decode cX9_special 364 = .ok (.lor, 1) := by decide +kernel
theorem dX9_special_365 : decode cX9_special 365 = .ok (.lconst 0, 1) := by decide +kernel
theorem dX9_special_366 : decode cX9_special 366 = .ok (.invokevirtual 124, 3) := by decide +kernel
theorem dX9_special_369 : decode cX9_special 369 = .ok (.aload_n 0, 1) := by decide +kernel
theorem dX9_special_370 : decode cX9_special 370 = .ok (.iconst 0, 1) := by decide +kernel
theorem dX9_special_371 : decode cX9_special 371 = .ok (.iconst 2, 1) := by decide +kernel
theorem dX9_special_372 : decode cX9_special 372 = .ok (.invokevirtual 91, 3) := by decide +kernel
theorem dX9_special_375 : decode cX9_special 375 = .ok (.return_, 1) := by decide +kernel
set_option maxRecDepth 20000 in
theorem ggX9_immediate_X9_s : GoodIn wsX9_immediate wsX9_s := goodIn_r _ [6, 7, 8, 9, 5, 10, 11, 12, 13, 14, 22, 23, 24, 25, 26, 27, 28, 29, 30, 31, 32, 33, 34, 35, 36, 37, 38, 39, 40, 41, 42, 43, 44, 45, 46, 47] (by decide +kernel) (by decide +kernel)
set_option maxRecDepth 20000 in
theorem gX9_immediate_X9_s : GoodIn wsX9_immediate (wsV RX9 128 RX9 yX9_s wsX9_s) := goodIn_app (goodIn_of _ (by decide +kernel)) ggX9_immediate_X9_s
set_option maxRecDepth 20000 in
theorem ggX9_immediate_X9_is : GoodIn wsX9_immediate wsX9_is := goodIn_r _ [18, 19, 20, 21, 22, 23, 24, 25, 26, 27, 28, 29, 30, 31, 32, 33, 34, 35, 36, 37, 38, 39, 40, 41, 42, 43, 44, 45, 46, 47] (by decide +kernel) (by decide +kernel)
set_option maxRecDepth 20000 in
theorem gX9_immediate_X9_is : GoodIn wsX9_immediate (wsV RX9 124 RX9 yX9_is wsX9_is) := goodIn_app (goodIn_of _ (by decide +kernel)) ggX9_immediate_X9_is
set_option maxRecDepth 20000 in
theorem ggX9_immediate_X9_register : GoodIn wsX9_immediate wsX9_register := goodIn_r _ [14] (by decide +kernel) (by decide +kernel)
set_option maxRecDepth 20000 in
theorem gX9_immediate_X9_register : GoodIn wsX9_immediate (va_wsS RX9 65 yX9_register wsX9_register) := goodIn_app (goodIn_of _ (by decide +kernel)) ggX9_immediate_X9_register
theorem dX9_immediate_0 : decode cX9_immediate 0 = .ok (.iload_n 1, 1) := by decide +kernel
theorem dX9_immediate_1 : decode cX9_immediate 1 = .ok (.iconst 4, 1) := by decide +kernel
theorem dX9_immediate_2 : decode cX9_immediate 2 = .ok (.if_icmp .ge 31, 3) := by decide +kernel
theorem dX9_immediate_5 : decode cX9_immediate 5 = .ok (.aload_n 0, 1) := by decide +kernel
theorem dX9_immediate_6 : decode cX9_immediate 6 = .ok (.bipush 7, 2) := by decide +kernel
theorem dX9_immediate_8 : decode cX9_immediate 8 = .ok (.aload_n 0, 1) := by decide +kernel
theorem dX9_immediate_9 : decode cX9_immediate 9 = .ok (.invokevirtual 128, 3) := by decide +kernel
theorem dX9_immediate_12 : decode cX9_immediate 12 = .ok (.lconst 0, 1) := by decide +kernel
theorem dX9_immediate_13 : decode cX9_immediate 13 = .ok (.invokevirtual 124, 3) := by decide +kernel
theorem dX9_immediate_16 : decode cX9_immediate 16 = .ok (.aload_n 0, 1) := by decide +kernel
theorem dX9_immediate_17 : decode cX9_immediate 17 = .ok (.iload_n 1, 1) := by decide +kernel
theorem dX9_immediate_18 : decode cX9_immediate 18 = .ok (.iconst 1, 1) := by decide +kernel
theorem dX9_immediate_19 : decode cX9_immediate 19 = .ok (.if_icmp .le 7, 3) := by decide +kernel
theorem dX9_immediate_22 : decode cX9_immediate 22 = .ok (.iconst 1, 1) := by decide +kernel
theorem dX9_immediate_23 : decode cX9_immediate 23 = .ok (.goto 4, 3) := by decide +kernel
theorem dX9_immediate_26 : decode cX9_immediate 26 = .ok (.iconst 0, 1) := by decide +kernel
theorem dX9_immediate_27 : decode cX9_immediate 27 = .ok (.putfield 87, 3) := by decide +kernel
theorem dX9_immediate_30 : decode cX9_immediate 30 = .ok (.goto 59, 3) := by decide +kernel
theorem dX9_immediate_33 : decode cX9_immediate 33 = .ok (.iload_n 1, 1) := by decide +kernel
theorem dX9_immediate_34 : decode cX9_immediate 34 = .ok (.bipush 16, 2) := by decide +kernel
theorem dX9_immediate_36 : decode cX9_immediate 36 = .ok (.if_icmp .eq 9, 3) := by decide +kernel
theorem dX9_immediate_39 : decode cX9_immediate 39 = .ok (.iload_n 1, 1) := by decide +kernel
theorem dX9_immediate_40 : decode cX9_immediate 40 = .ok (.bipush 17, 2) := by decide +kernel
theorem dX9_immediate_42 : decode cX9_immediate 42 = .ok (.if_icmp .ne 21, 3) := by decide +kernel
theorem dX9_immediate_45 : decode cX9_immediate 45 = .ok (.aload_n 0, 1) := by decide +kernel
theorem dX9_immediate_46 : decode cX9_immediate 46 = .ok (.bipush 7, 2) := by decide +kernel
theorem dX9_immediate_48 : decode cX9_immediate 48 = .ok (.aload_n 0, 1) := by decide +kernel
theorem dX9_immediate_49 : decode cX9_immediate 49 = .ok (.invokevirtual 128, 3) := by decide +kernel
theorem dX9_immediate_52 : decode cX9_immediate 52 = .ok (.bipush 31, 2) := by decide +kernel
theorem dX9_immediate_54 : decode cX9_immediate 54 = .ok (.invokestatic 65, 3) := by decide +kernel
theorem dX9_immediate_57 : decode cX9_immediate 57 = .ok (.invokevirtual 124, 3) := by decide +kernel
theorem dX9_immediate_60 : decode cX9_immediate 60 = .ok (.goto 29, 3) := by decide +kernel
theorem dX9_immediate_63 : decode cX9_immediate 63 = .ok (.iload_n 1, 1) := by decide +kernel
theorem dX9_immediate_64 : decode cX9_immediate 64 = .ok (.bipush 8, 2) := by decide +kernel
theorem dX9_immediate_66 : decode cX9_immediate 66 = .ok (.if_icmp .lt 23, 3) := by decide +kernel
theorem dX9_immediate_69 : decode cX9_immediate 69 = .ok (.iload_n 1, 1) := by decide +kernel
theorem dX9_immediate_70 : decode cX9_immediate 70 = .ok (.bipush 15, 2) := by decide +kernel
theorem dX9_immediate_72 : decode cX9_immediate 72 = .ok (.if_icmp .ge 17, 3) := by decide +kernel
theorem dX9_immediate_75 : decode cX9_immediate 75 = .ok (.iload_n 1, 1) := by decide +kernel
theorem dX9_immediate_76 : decode cX9_immediate 76 = .ok (.bipush 13, 2) := by decide +kernel
theorem dX9_immediate_78 : decode cX9_immediate 78 = .ok (.if_icmp .eq 11, 3) := by decide +kernel
theorem dX9_immediate_81 : decode cX9_immediate 81 = .ok (.aload_n 0, 1) := by decide +kernel
theorem dX9_immediate_82 : decode cX9_immediate 82 = .ok (.bipush 8, 2) := by decide +kernel
theorem dX9_immediate_84 : decode cX9_immediate 84 = .ok (.lconst 0, 1) := by decide +kernel
theorem dX9_immediate_85 : decode cX9_immediate 85 = .ok (.lconst 0, 1) := by decide +kernel
theorem dX9_immediate_86 : decode cX9_immediate 86 = .ok (.invokevirtual 124, 3) := by decide +kernel
theorem dX9_immediate_89 : decode cX9_immediate 89 = .ok (.return_, 1) := by decide +kernel
set_option maxRecDepth 20000 in
theorem ggX9_branch_X9_register : GoodIn wsX9_branch wsX9_register := goodIn_r _ [5] (by decide +kernel) (by decide +kernel)
set_option maxRecDepth 20000 in
theorem gX9_branch_X9_register : GoodIn wsX9_branch (va_wsS RX9 65 yX9_register wsX9_register) := goodIn_app (goodIn_of _ (by decide +kernel)) ggX9_branch_X9_register
set_option maxRecDepth 20000 in
theorem ggX9_branch_X9_is : GoodIn wsX9_branch wsX9_is := goodIn_r _ [9, 10, 11, 12, 26, 27, 28, 29, 30, 31, 32, 33, 34, 35, 36, 37, 38, 39, 40, 41, 42, 43, 44, 45, 46, 47, 48, 49, 50, 51] (by decide +kernel) (by decide +kernel)
set_option maxRecDepth 20000 in
theorem gX9_branch_X9_is : GoodIn wsX9_branch (wsV RX9 124 RX9 yX9_is wsX9_is) := goodIn_app (goodIn_of _ (by decide +kernel)) ggX9_branch_X9_is
set_option maxRecDepth 20000 in
theorem ggX9_branch_X9_s : GoodIn wsX9_branch wsX9_s := goodIn_r _ [16, 17, 18, 19, 4, 20, 21, 2, 3, 5, 26, 27, 28, 29, 30, 31, 32, 33, 34, 35, 36, 37, 38, 39, 40, 41, 42, 43, 44, 45, 46, 47, 48, 49, 50, 51] (by decide +kernel) (by decide +kernel)
set_option maxRecDepth 20000 in
theorem gX9_branch_X9_s : GoodIn wsX9_branch (wsV RX9 128 RX9 yX9_s wsX9_s) := goodIn_app (goodIn_of _ (by decide +kernel)) ggX9_branch_X9_s
set_option maxRecDepth 20000 in
theorem ggX9_branch_X9_t : GoodIn wsX9_branch wsX9_t := goodIn_r _ [25, 17, 18, 19, 4, 20, 21, 2, 3, 5, 26, 27, 28, 29, 30, 31, 32, 33, 34, 35, 36, 37, 38, 39, 40, 41, 42, 43, 44, 45, 46, 47, 48, 49, 50, 51] (by decide +kernel) (by decide +kernel)
set_option maxRecDepth 20000 in
theorem gX9_branch_X9_t : GoodIn wsX9_branch (wsV RX9 117 RX9 yX9_t wsX9_t) := goodIn_app (goodIn_of _ (by decide +kernel)) ggX9_branch_X9_t
theorem dX9_branch_0 : decode cX9_branch 0 = .ok (.aload_n 0, 1) := by decide +kernel
theorem dX9_branch_1 : decode cX9_branch 1 = .ok (.iload_n 1, 1) := by decide +kernel
theorem dX9_branch_2 : decode cX9_branch 2 = .ok (.bipush 7, 2) := by decide +kernel
theorem dX9_branch_4 : decode cX9_branch 4 = .ok (.if_icmp .le 7, 3) := by decide +kernel
theorem dX9_branch_7 : decode cX9_branch 7 = .ok (.iconst 1, 1) := by decide +kernel
theorem dX9_branch_8 : decode cX9_branch 8 = .ok (.goto 4, 3) := by decide +kernel
theorem dX9_branch_11 : decode cX9_branch 11 = .ok (.iconst 0, 1) := by decide +kernel
theorem dX9_branch_12 : decode cX9_branch 12 = .ok (.putfield 87, 3) := by decide +kernel
theorem dX9_branch_15 : decode cX9_branch 15 = .ok (.iload_n 1, 1) := by decide +kernel
theorem dX9_branch_16 : decode cX9_branch 16 = .ok (.iconst 4, 1) := by decide +kernel
theorem dX9_branch_17 : decode cX9_branch 17 = .ok (.if_icmp .ge 27, 3) := by decide +kernel
theorem dX9_branch_20 : decode cX9_branch 20 = .ok (.aload_n 0, 1) := by decide +kernel
theorem dX9_branch_21 : decode cX9_branch 21 = .ok (.bipush 7, 2) := by decide +kernel
theorem dX9_branch_23 : decode cX9_branch 23 = .ok (.lconst 0, 1) := by decide +kernel
theorem dX9_branch_24 : decode cX9_branch 24 = .ok (.iload_n 1, 1) := by decide +kernel
theorem dX9_branch_25 : decode cX9_branch 25 = .ok (.iconst 3, 1) := by decide +kernel
theorem dX9_branch_26 : decode cX9_branch 26 = .ok (.if_icmp .ne 11, 3) := by decide +kernel
theorem dX9_branch_29 : decode cX9_branch 29 = .ok (.bipush 31, 2) := by decide +kernel
theorem dX9_branch_31 : decode cX9_branch 31 = .ok (.invokestatic 65, 3) := by decide +kernel
theorem dX9_branch_34 : decode cX9_branch 34 = .ok (.goto 4, 3) := by decide +kernel
theorem dX9_branch_37 : decode cX9_branch 37 = .ok (.lconst 0, 1) := by decide +kernel
theorem dX9_branch_38 : decode cX9_branch 38 = .ok (.invokevirtual 124, 3) := by decide +kernel
theorem dX9_branch_41 : decode cX9_branch 41 = .ok (.goto 33, 3) := by decide +kernel
theorem dX9_branch_44 : decode cX9_branch 44 = .ok (.aload_n 0, 1) := by decide +kernel
theorem dX9_branch_45 : decode cX9_branch 45 = .ok (.bipush 7, 2) := by decide +kernel
theorem dX9_branch_47 : decode cX9_branch 47 = .ok (.iload_n 1, 1) := by decide +kernel
theorem dX9_branch_48 : decode cX9_branch 48 = .ok (.iconst 3, 1) := by decide +kernel
theorem dX9_branch_49 : decode cX9_branch 49 = .ok (.iand, 1) := by decide +kernel
theorem dX9_branch_50 : decode cX9_branch 50 = .ok (.iconst 2, 1) := by decide +kernel
theorem dX9_branch_51 : decode cX9_branch 51 = .ok (.if_icmp .ge 15, 3) := by decide +kernel
theorem dX9_branch_54 : decode cX9_branch 54 = .ok (.aload_n 0, 1) := by decide +kernel
theorem dX9_branch_55 : decode cX9_branch 55 = .ok (.invokevirtual 128, 3) := by decide +kernel
theorem dX9_branch_58 : decode cX9_branch 58 = .ok (.aload_n 0, 1) := by decide +kernel
theorem dX9_branch_59 : decode cX9_branch 59 = .ok (.invokevirtual 117, 3) := by decide +kernel
theorem dX9_branch_62 : decode cX9_branch 62 = .ok (.lor, 1) := by decide +kernel
theorem dX9_branch_63 : decode cX9_branch 63 = .ok (.goto 7, 3) := by decide +kernel
theorem dX9_branch_66 : decode cX9_branch 66 = .ok (.aload_n 0, 1) := by decide +kernel
theorem dX9_branch_67 : decode cX9_branch 67 = .ok (.invokevirtual 128, 3) := by decide +kernel
theorem dX9_branch_70 : decode cX9_branch 70 = .ok (.lconst 0, 1) := by decide +kernel
theorem dX9_branch_71 : decode cX9_branch 71 = .ok (.invokevirtual 124, 3) := by decide +kernel
theorem dX9_branch_74 : decode cX9_branch 74 = .ok (.return_, 1) := by decide +kernel
set_option maxRecDepth 20000 in
theorem ggX9_number_X9_is : GoodIn wsX9_number wsX9_is := goodIn_r _ [5, 6, 7, 8, 25, 26, 27, 28, 29, 30, 31, 32, 33, 34, 35, 36, 37, 38, 39, 40, 41, 42, 43, 44, 45, 46, 47, 48, 49, 50] (by decide +kernel) (by decide +kernel)
set_option maxRecDepth 20000 in
theorem gX9_number_X9_is : GoodIn wsX9_number (wsV RX9 124 RX9 yX9_is wsX9_is) := goodIn_app (goodIn_of _ (by decide +kernel)) ggX9_number_X9_is
set_option maxRecDepth 20000 in
theorem ggX9_number_X9_s : GoodIn wsX9_number wsX9_s := goodIn_r _ [12, 13, 14, 15, 4, 16, 17, 18, 19, 20, 25, 26, 27, 28, 29, 30, 31, 32, 33, 34, 35, 36, 37, 38, 39, 40, 41, 42, 43, 44, 45, 46, 47, 48, 49, 50] (by decide +kernel) (by decide +kernel)
set_option maxRecDepth 20000 in
theorem gX9_number_X9_s : GoodIn wsX9_number (wsV RX9 128 RX9 yX9_s wsX9_s) := goodIn_app (goodIn_of _ (by decide +kernel)) ggX9_number_X9_s
set_option maxRecDepth 20000 in
theorem ggX9_number_X9_t : GoodIn wsX9_number wsX9_t := goodIn_r _ [24, 13, 14, 15, 4, 16, 17, 18, 19, 20, 25, 26, 27, 28, 29, 30, 31, 32, 33, 34, 35, 36, 37, 38, 39, 40, 41, 42, 43, 44, 45, 46, 47, 48, 49, 50] (by decide +kernel) (by decide +kernel)
set_option maxRecDepth 20000 in
theorem gX9_number_X9_t : GoodIn wsX9_number (wsV RX9 117 RX9 yX9_t wsX9_t) := goodIn_app (goodIn_of _ (by decide +kernel)) ggX9_number_X9_t
theorem dX9_number_0 : decode cX9_number 0 = .ok (.iload_n 1, 1) := by decide +kernel
theorem dX9_number_1 : decode cX9_number 1 = .ok (.bipush 8, 2) := by decide +kernel
theorem dX9_number_3 : decode cX9_number 3 = .ok (.if_icmp .ne 14, 3) := by decide +kernel
theorem dX9_number_6 : decode cX9_number 6 = .ok (.aload_n 0, 1) := by decide +kernel
theorem dX9_number_7 : decode cX9_number 7 = .ok (.bipush 8, 2) := by decide +kernel
theorem dX9_number_9 : decode cX9_number 9 = .ok (.lconst 0, 1) := by decide +kernel
theorem dX9_number_10 : decode cX9_number 10 = .ok (.lconst 0, 1) := by decide +kernel
theorem dX9_number_11 : decode cX9_number 11 = .ok (.invokevirtual 124, 3) := by decide +kernel
theorem dX9_number_14 : decode cX9_number 14 = .ok (.goto 26, 3) := by decide +kernel
theorem dX9_number_17 : decode cX9_number 17 = .ok (.aload_n 0, 1) := by decide +kernel
theorem dX9_number_18 : decode cX9_number 18 = .ok (.iconst 0, 1) := by decide +kernel
theorem dX9_number_19 : decode cX9_number 19 = .ok (.iload_n 1, 1) := by decide +kernel
theorem dX9_number_20 : decode cX9_number 20 = .ok (.bipush 15, 2) := by decide +kernel
theorem dX9_number_22 : decode cX9_number 22 = .ok (.if_icmp .ne 7, 3) := by decide +kernel
theorem dX9_number_25 : decode cX9_number 25 = .ok (.lconst 0, 1) := by decide +kernel
theorem dX9_number_26 : decode cX9_number 26 = .ok (.goto 7, 3) := by decide +kernel
theorem dX9_number_29 : decode cX9_number 29 = .ok (.aload_n 0, 1) := by decide +kernel
theorem dX9_number_30 : decode cX9_number 30 = .ok (.invokevirtual 128, 3) := by decide +kernel
theorem dX9_number_33 : decode cX9_number 33 = .ok (.aload_n 0, 1) := by decide +kernel
theorem dX9_number_34 : decode cX9_number 34 = .ok (.invokevirtual 117, 3) := by decide +kernel
theorem dX9_number_37 : decode cX9_number 37 = .ok (.invokevirtual 124, 3) := by decide +kernel
theorem dX9_number_40 : decode cX9_number 40 = .ok (.return_, 1) := by decide +kernel
set_option maxRecDepth 20000 in
theorem ggX9_second_X9_s : GoodIn wsX9_second wsX9_s := goodIn_r _ [5, 6, 7, 8, 4, 9, 10, 11, 12, 13, 35, 36, 37, 38, 39, 40, 41, 42, 43, 44, 45, 46, 47, 48, 49, 50, 51, 52, 53, 54, 55, 56, 57, 58, 59, 60] (by decide +kernel) (by decide +kernel)
set_option maxRecDepth 20000 in
theorem gX9_second_X9_s : GoodIn wsX9_second (wsV RX9 128 RX9 yX9_s wsX9_s) := goodIn_app (goodIn_of _ (by decide +kernel)) ggX9_second_X9_s
set_option maxRecDepth 20000 in
theorem ggX9_second_X9_d : GoodIn wsX9_second wsX9_d := goodIn_r _ [17, 6, 7, 8, 4, 9, 10, 11, 12, 13, 35, 36, 37, 38, 39, 40, 41, 42, 43, 44, 45, 46, 47, 48, 49, 50, 51, 52, 53, 54, 55, 56, 57, 58, 59, 60] (by decide +kernel) (by decide +kernel)
set_option maxRecDepth 20000 in
theorem gX9_second_X9_d : GoodIn wsX9_second (wsV RX9 121 RX9 yX9_d wsX9_d) := goodIn_app (goodIn_of _ (by decide +kernel)) ggX9_second_X9_d
set_option maxRecDepth 20000 in
theorem ggX9_second_X9_is : GoodIn wsX9_second wsX9_is := goodIn_r _ [21, 22, 23, 24, 35, 36, 37, 38, 39, 40, 41, 42, 43, 44, 45, 46, 47, 48, 49, 50, 51, 52, 53, 54, 55, 56, 57, 58, 59, 60] (by decide +kernel) (by decide +kernel)
set_option maxRecDepth 20000 in
theorem gX9_second_X9_is : GoodIn wsX9_second (wsV RX9 124 RX9 yX9_is wsX9_is) := goodIn_app (goodIn_of _ (by decide +kernel)) ggX9_second_X9_is
set_option maxRecDepth 20000 in
theorem ggX9_second_X9_t : GoodIn wsX9_second wsX9_t := goodIn_r _ [28, 6, 7, 8, 4, 9, 10, 11, 12, 13, 35, 36, 37, 38, 39, 40, 41, 42, 43, 44, 45, 46, 47, 48, 49, 50, 51, 52, 53, 54, 55, 56, 57, 58, 59, 60] (by decide +kernel) (by decide +kernel)
set_option maxRecDepth 20000 in
theorem gX9_second_X9_t : GoodIn wsX9_second (wsV RX9 117 RX9 yX9_t wsX9_t) := goodIn_app (goodIn_of _ (by decide +kernel)) ggX9_second_X9_t
set_option maxRecDepth 20000 in
theorem ggX9_second_X9_also : GoodIn wsX9_second wsX9_also := goodIn_r _ [32, 33, 34, 35, 36, 37, 38, 39, 40, 41, 42, 43, 44, 45, 46, 47, 48, 49, 50, 51, 52, 53, 54, 55, 56, 57, 58, 59, 60] (by decide +kernel) (by decide +kernel)
set_option maxRecDepth 20000 in
theorem gX9_second_X9_also : GoodIn wsX9_second (wsV RX9 91 RX9 yX9_also wsX9_also) := goodIn_app (goodIn_of _ (by decide +kernel)) ggX9_second_X9_also
theorem dX9_second_0 : decode cX9_second 0 = .ok (.iload_n 1, 1) := by decide +kernel
theorem dX9_second_1 : decode cX9_second 1 = .ok (.bipush 32, 2) := by decide +kernel
theorem dX9_second_3 : decode cX9_second 3 = .ok (.if_icmp .eq 9, 3) := by decide +kernel
theorem dX9_second_6 : decode cX9_second 6 = .ok (.iload_n 1, 1) := by decide +kernel
theorem dX9_second_7 : decode cX9_second 7 = .ok (.bipush 33, 2) := by decide +kernel
theorem dX9_second_9 : decode cX9_second 9 = .ok (.if_icmp .ne 19, 3) := by decide +kernel
theorem dX9_second_12 : decode cX9_second 12 = .ok (.aload_n 0, 1) := by decide +kernel
theorem dX9_second_13 : decode cX9_second 13 = .ok (.iconst 0, 1) := by decide +kernel
theorem dX9_second_14 : decode cX9_second 14 = .ok (.aload_n 0, 1) := by decide +kernel
theorem dX9_second_15 : decode cX9_second 15 = .ok (.invokevirtual 128, 3) := by decide +kernel
theorem dX9_second_18 : decode cX9_second 18 = .ok (.aload_n 0, 1) := by decide +kernel
theorem dX9_second_19 : decode cX9_second 19 = .ok (.invokevirtual 121, 3) := by decide +kernel
theorem dX9_second_22 : decode cX9_second 22 = .ok (.invokevirtual 124, 3) := by decide +kernel
theorem dX9_second_25 : decode cX9_second 25 = .ok (.goto 71, 3) := by decide +kernel
theorem dX9_second_28 : decode cX9_second 28 = .ok (.iload_n 1, 1) := by decide +kernel
theorem dX9_second_29 : decode cX9_second 29 = .ok (.iconst 2, 1) := by decide +kernel
theorem dX9_second_30 : decode cX9_second 30 = .ok (.if_icmp .lt 13, 3) := by decide +kernel
theorem dX9_second_33 : decode cX9_second 33 = .ok (.iload_n 1, 1) := by decide +kernel
theorem dX9_second_34 : decode cX9_second 34 = .ok (.iconst 4, 1) := by decide +kernel
theorem dX9_second_35 : decode cX9_second 35 = .ok (.if_icmp .eq 8, 3) := by decide +kernel
theorem dX9_second_38 : decode cX9_second 38 = .ok (.iload_n 1, 1) := by decide +kernel
theorem dX9_second_39 : decode cX9_second 39 = .ok (.iconst 5, 1) := by decide +kernel
theorem dX9_second_40 : decode cX9_second 40 = .ok (.if_icmp .ne 27, 3) := by decide +kernel
theorem dX9_second_43 : decode cX9_second 43 = .ok (.aload_n 0, 1) := by decide +kernel
theorem dX9_second_44 : decode cX9_second 44 = .ok (.iconst 3, 1) := by decide +kernel
theorem dX9_second_45 : decode cX9_second 45 = .ok (.aload_n 0, 1) := by decide +kernel
theorem dX9_second_46 : decode cX9_second 46 = .ok (.invokevirtual 128, 3) := by decide +kernel
theorem dX9_second_49 : decode cX9_second 49 = .ok (.aload_n 0, 1) := by decide +kernel
theorem dX9_second_50 : decode cX9_second 50 = .ok (.invokevirtual 117, 3) := by decide +kernel
theorem dX9_second_53 : decode cX9_second 53 = .ok (.lor, 1) := by decide +kernel
theorem dX9_second_54 : decode cX9_second 54 = .ok (.lconst 0, 1) := by decide +kernel
theorem dX9_second_55 : decode cX9_second 55 = .ok (.invokevirtual 124, 3) := by decide +kernel
theorem dX9_second_58 : decode cX9_second 58 = .ok (.aload_n 0, 1) := by decide +kernel
theorem dX9_second_59 : decode cX9_second 59 = .ok (.iconst 2, 1) := by decide +kernel
theorem dX9_second_60 : decode cX9_second 60 = .ok (.iconst 2, 1) := by decide +kernel
theorem dX9_second_61 : decode cX9_second 61 = .ok (.invokevirtual 91, 3) := by decide +kernel
theorem dX9_second_64 : decode cX9_second 64 = .ok (.goto 32, 3) := by decide +kernel
theorem dX9_second_67 : decode cX9_second 67 = .ok (.iload_n 1, 1) := by decide +kernel
theorem dX9_second_68 : decode cX9_second 68 = .ok (.iconst 2, 1) := by decide +kernel
theorem dX9_second_69 : decode cX9_second 69 = .ok (.if_icmp .ne 27, 3) := by decide +kernel
theorem dX9_second_72 : decode cX9_second 72 = .ok (.aload_n 0, 1) := by decide +kernel
theorem dX9_second_73 : decode cX9_second 73 = .ok (.iconst 3, 1) := by decide +kernel
theorem dX9_second_74 : decode cX9_second 74 = .ok (.aload_n 0, 1) := by decide +kernel
theorem dX9_second_75 : decode cX9_second 75 = .ok (.invokevirtual 128, 3) := by decide +kernel
theorem dX9_second_78 : decode cX9_second 78 = .ok (.aload_n 0, 1) := by decide +kernel
theorem dX9_second_79 : decode cX9_second 79 = .ok (.invokevirtual 117, 3) := by decide +kernel
theorem dX9_second_82 : decode cX9_second 82 = .ok (.lor, 1) := by decide +kernel
theorem dX9_second_83 : decode cX9_second 83 = .ok (.aload_n 0, 1) := by decide +kernel
theorem dX9_second_84 : decode cX9_second 84 = .ok (.invokevirtual 121, 3) := by decide +kernel
theorem dX9_second_87 : decode cX9_second 87 = .ok (.invokevirtual 124, 3) := by decide +kernel
theorem dX9_second_90 : decode cX9_second 90 = .ok (.aload_n 0, 1) := by decide +kernel
theorem dX9_second_91 : decode cX9_second 91 = .ok (.iconst 0, 1) := by decide +kernel

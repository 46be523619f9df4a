set_option maxRecDepth 20000 in
theorem gX7_readsFractions_X7_fractionS : GoodIn wsX7_readsFractions (va_wsS RX7 35 yX7_fractionS wsX7_fractionS) := goodIn_app (goodIn_of _ (by decide +kernel)) ggX7_readsFractions_X7_fractionS
set_option maxRecDepth 20000 in
theorem ggX7_readsFractions_X7_fractionT : GoodIn wsX7_readsFractions wsX7_fractionT := goodIn_r _ [24, 25, 26, 27, 14, 28, 29, 30, 31, 3, 4, 5, 6, 19, 20, 9, 21] (by decide +kernel) (by decide +kernel)
set_option maxRecDepth 20000 in
theorem gX7_readsFractions_X7_fractionT : GoodIn wsX7_readsFractions (va_wsS RX7 40 yX7_fractionT wsX7_fractionT) := goodIn_app (goodIn_of _ (by decide +kernel)) ggX7_readsFractions_X7_fractionT
set_option maxRecDepth 20000 in
theorem ggX7_readsFractions_X7_fractionD : GoodIn wsX7_readsFractions wsX7_fractionD := goodIn_r _ [34, 35, 36, 37, 14, 38, 3, 4, 5, 6, 19, 20, 9, 21] (by decide +kernel) (by decide +kernel)
set_option maxRecDepth 20000 in
theorem gX7_readsFractions_X7_fractionD : GoodIn wsX7_readsFractions (va_wsS RX7 44 yX7_fractionD wsX7_fractionD) := goodIn_app (goodIn_of _ (by decide +kernel)) ggX7_readsFractions_X7_fractionD
theorem dX7_readsFractions_0 : decode cX7_readsFractions 0 = .ok (.iconst 0, 1) := by decide +kernel
theorem dX7_readsFractions_1 : decode cX7_readsFractions 1 = .ok (.istore_n 2, 1) := by decide +kernel
theorem dX7_readsFractions_2 : decode cX7_readsFractions 2 = .ok (.iload_n 1, 1) := by decide +kernel
theorem dX7_readsFractions_3 : decode cX7_readsFractions 3 = .ok (.sipush 16384, 3) := by decide +kernel
theorem dX7_readsFractions_6 : decode cX7_readsFractions 6 = .ok (.invokestatic 9, 3) := by decide +kernel
theorem dX7_readsFractions_9 : decode cX7_readsFractions 9 = .ok (.ifCond .eq 11, 3) := by decide +kernel
theorem dX7_readsFractions_12 : decode cX7_readsFractions 12 = .ok (.iload_n 2, 1) := by decide +kernel
theorem dX7_readsFractions_13 : decode cX7_readsFractions 13 = .ok (.iload_n 0, 1) := by decide +kernel
theorem dX7_readsFractions_14 : decode cX7_readsFractions 14 = .ok (.iload_n 1, 1) := by decide +kernel
theorem dX7_readsFractions_15 : decode cX7_readsFractions 15 = .ok (.invokestatic 35, 3) := by decide +kernel
theorem dX7_readsFractions_18 : decode cX7_readsFractions 18 = .ok (.ior, 1) := by decide +kernel
theorem dX7_readsFractions_19 : decode cX7_readsFractions 19 = .ok (.istore_n 2, 1) := by decide +kernel
theorem dX7_readsFractions_20 : decode cX7_readsFractions 20 = .ok (.iload_n 1, 1) := by decide +kernel
theorem dX7_readsFractions_21 : decode cX7_readsFractions 21 = .ok (.ldc 39, 2) := by decide +kernel
theorem dX7_readsFractions_23 : decode cX7_readsFractions 23 = .ok (.invokestatic 9, 3) := by decide +kernel
theorem dX7_readsFractions_26 : decode cX7_readsFractions 26 = .ok (.ifCond .eq 11, 3) := by decide +kernel
theorem dX7_readsFractions_29 : decode cX7_readsFractions 29 = .ok (.iload_n 2, 1) := by decide +kernel
theorem dX7_readsFractions_30 : decode cX7_readsFractions 30 = .ok (.iload_n 0, 1) := by decide +kernel
theorem dX7_readsFractions_31 : decode cX7_readsFractions 31 = .ok (.iload_n 1, 1) := by decide +kernel
theorem dX7_readsFractions_32 : decode cX7_readsFractions 32 = .ok (.invokestatic 40, 3) := by decide +kernel
theorem dX7_readsFractions_35 : decode cX7_readsFractions 35 = .ok (.ior, 1) := by decide +kernel
theorem dX7_readsFractions_36 : decode cX7_readsFractions 36 = .ok (.istore_n 2, 1) := by decide +kernel
theorem dX7_readsFractions_37 : decode cX7_readsFractions 37 = .ok (.iload_n 1, 1) := by decide +kernel
theorem dX7_readsFractions_38 : decode cX7_readsFractions 38 = .ok (.ldc 43, 2) := by decide +kernel
theorem dX7_readsFractions_40 : decode cX7_readsFractions 40 = .ok (.invokestatic 9, 3) := by decide +kernel
theorem dX7_readsFractions_43 : decode cX7_readsFractions 43 = .ok (.ifCond .eq 11, 3) := by decide +kernel
theorem dX7_readsFractions_46 : decode cX7_readsFractions 46 = .ok (.iload_n 2, 1) := by decide +kernel
theorem dX7_readsFractions_47 : decode cX7_readsFractions 47 = .ok (.iload_n 0, 1) := by decide +kernel
theorem dX7_readsFractions_48 : decode cX7_readsFractions 48 = .ok (.iload_n 1, 1) := by decide +kernel
theorem dX7_readsFractions_49 : decode cX7_readsFractions 49 = .ok (.invokestatic 44, 3) := by decide +kernel
theorem dX7_readsFractions_52 : decode cX7_readsFractions 52 = .ok (.ior, 1) := by decide +kernel
theorem dX7_readsFractions_53 : decode cX7_readsFractions 53 = .ok (.istore_n 2, 1) := by decide +kernel
theorem dX7_readsFractions_54 : decode cX7_readsFractions 54 = .ok (.iload_n 2, 1) := by decide +kernel
theorem dX7_readsFractions_55 : decode cX7_readsFractions 55 = .ok (.ireturn, 1) := by decide +kernel
set_option maxRecDepth 20000 in
theorem ggX7_writesFractions_X4_has : GoodIn wsX7_writesFractions wsX4_has := goodIn_r _ [7] (by decide +kernel) (by decide +kernel)
set_option maxRecDepth 20000 in
theorem gX7_writesFractions_X4_has : GoodIn wsX7_writesFractions (va_wsS RX7 9 yX4_has wsX4_has) := goodIn_app (goodIn_of _ (by decide +kernel)) ggX7_writesFractions_X4_has
set_option maxRecDepth 20000 in
theorem ggX7_writesFractions_X7_fractionS : GoodIn wsX7_writesFractions wsX7_fractionS := goodIn_r _ [11, 12, 13, 14, 15, 16, 17, 18, 19, 4, 5, 6, 7, 20, 21, 10, 22] (by decide +kernel) (by decide +kernel)
set_option maxRecDepth 20000 in
theorem gX7_writesFractions_X7_fractionS : GoodIn wsX7_writesFractions (va_wsS RX7 35 yX7_fractionS wsX7_fractionS) := goodIn_app (goodIn_of _ (by decide +kernel)) ggX7_writesFractions_X7_fractionS
set_option maxRecDepth 20000 in
theorem ggX7_writesFractions_X7_fractionT : GoodIn wsX7_writesFractions wsX7_fractionT := goodIn_r _ [25, 26, 27, 28, 15, 29, 30, 31, 32, 4, 5, 6, 7, 20, 21, 10, 22] (by decide +kernel) (by decide +kernel)
set_option maxRecDepth 20000 in
theorem gX7_writesFractions_X7_fractionT : GoodIn wsX7_writesFractions (va_wsS RX7 40 yX7_fractionT wsX7_fractionT) := goodIn_app (goodIn_of _ (by decide +kernel)) ggX7_writesFractions_X7_fractionT
set_option maxRecDepth 20000 in
theorem ggX7_writesFractions_X7_fractionD : GoodIn wsX7_writesFractions wsX7_fractionD := goodIn_r _ [35, 36, 37, 38, 15, 39, 4, 5, 6, 7, 20, 21, 10, 22] (by decide +kernel) (by decide +kernel)
set_option maxRecDepth 20000 in
theorem gX7_writesFractions_X7_fractionD : GoodIn wsX7_writesFractions (va_wsS RX7 44 yX7_fractionD wsX7_fractionD) := goodIn_app (goodIn_of _ (by decide +kernel)) ggX7_writesFractions_X7_fractionD
theorem dX7_writesFractions_0 : decode cX7_writesFractions 0 = .ok (.iconst 0, 1) := by decide +kernel
theorem dX7_writesFractions_1 : decode cX7_writesFractions 1 = .ok (.istore_n 2, 1) := by decide +kernel
theorem dX7_writesFractions_2 : decode cX7_writesFractions 2 = .ok (.iload_n 1, 1) := by decide +kernel
theorem dX7_writesFractions_3 : decode cX7_writesFractions 3 = .ok (.ldc 47, 2) := by decide +kernel
theorem dX7_writesFractions_5 : decode cX7_writesFractions 5 = .ok (.invokestatic 9, 3) := by decide +kernel
theorem dX7_writesFractions_8 : decode cX7_writesFractions 8 = .ok (.ifCond .eq 11, 3) := by decide +kernel
theorem dX7_writesFractions_11 : decode cX7_writesFractions 11 = .ok (.iload_n 2, 1) := by decide +kernel
theorem dX7_writesFractions_12 : decode cX7_writesFractions 12 = .ok (.iload_n 0, 1) := by decide +kernel
theorem dX7_writesFractions_13 : decode cX7_writesFractions 13 = .ok (.iload_n 1, 1) := by decide +kernel
theorem dX7_writesFractions_14 : decode cX7_writesFractions 14 = .ok (.invokestatic 35, 3) := by decide +kernel
theorem dX7_writesFractions_17 : decode cX7_writesFractions 17 = .ok (.ior, 1) := by decide +kernel
theorem dX7_writesFractions_18 : decode cX7_writesFractions 18 = .ok (.istore_n 2, 1) := by decide +kernel
theorem dX7_writesFractions_19 : decode cX7_writesFractions 19 = .ok (.iload_n 1, 1) := by decide +kernel
theorem dX7_writesFractions_20 : decode cX7_writesFractions 20 = .ok (.ldc 48, 2) := by decide +kernel
theorem dX7_writesFractions_22 : decode cX7_writesFractions 22 = .ok (.invokestatic 9, 3) := by decide +kernel
theorem dX7_writesFractions_25 : decode cX7_writesFractions 25 = .ok (.ifCond .eq 11, 3) := by decide +kernel
theorem dX7_writesFractions_28 : decode cX7_writesFractions 28 = .ok (.iload_n 2, 1) := by decide +kernel
theorem dX7_writesFractions_29 : decode cX7_writesFractions 29 = .ok (.iload_n 0, 1) := by decide +kernel
theorem dX7_writesFractions_30 : decode cX7_writesFractions 30 = .ok (.iload_n 1, 1) := by decide +kernel
theorem dX7_writesFractions_31 : decode cX7_writesFractions 31 = .ok (.invokestatic 40, 3) := by decide +kernel
theorem dX7_writesFractions_34 : decode cX7_writesFractions 34 = .ok (.ior, 1) := by decide +kernel
theorem dX7_writesFractions_35 : decode cX7_writesFractions 35 = .ok (.istore_n 2, 1) := by decide +kernel
theorem dX7_writesFractions_36 : decode cX7_writesFractions 36 = .ok (.iload_n 1, 1) := by decide +kernel
theorem dX7_writesFractions_37 : decode cX7_writesFractions 37 = .ok (.ldc 49, 2) := by decide +kernel
theorem dX7_writesFractions_39 : decode cX7_writesFractions 39 = .ok (.invokestatic 9, 3) := by decide +kernel
theorem dX7_writesFractions_42 : decode cX7_writesFractions 42 = .ok (.ifCond .eq 11, 3) := by decide +kernel
theorem dX7_writesFractions_45 : decode cX7_writesFractions 45 = .ok (.iload_n 2, 1) := by decide +kernel
theorem dX7_writesFractions_46 : decode cX7_writesFractions 46 = .ok (.iload_n 0, 1) := by decide +kernel
theorem dX7_writesFractions_47 : decode cX7_writesFractions 47 = .ok (.iload_n 1, 1) := by decide +kernel
theorem dX7_writesFractions_48 : decode cX7_writesFractions 48 = .ok (.invokestatic 44, 3) := by decide +kernel
theorem dX7_writesFractions_51 : decode cX7_writesFractions 51 = .ok (.ior, 1) := by decide +kernel
theorem dX7_writesFractions_52 : decode cX7_writesFractions 52 = .ok (.istore_n 2, 1) := by decide +kernel
theorem dX7_writesFractions_53 : decode cX7_writesFractions 53 = .ok (.iload_n 2, 1) := by decide +kernel
theorem dX7_writesFractions_54 : decode cX7_writesFractions 54 = .ok (.ireturn, 1) := by decide +kernel
theorem dX7_register_0 : decode cX7_register 0 = .ok (.iload_n 0, 1) := by decide +kernel
theorem dX7_register_1 : decode cX7_register 1 = .ok (.ifCond .ne 7, 3) := by decide +kernel
theorem dX7_register_4 : decode cX7_register 4 = .ok (.lconst 0, 1) := by decide +kernel
theorem dX7_register_5 : decode cX7_register 5 = .ok (.goto 6, 3) := by decide +kernel
theorem dX7_register_8 : decode cX7_register 8 = .ok (.lconst 1, 1) := by decide +kernel
theorem dX7_register_9 : decode cX7_register 9 = .ok (.iload_n 0, 1) := by decide +kernel
theorem dX7_register_10 : decode cX7_register 10 = .ok (.lshl, 1) := by decide +kernel
theorem dX7_register_11 : decode cX7_register 11 = .ok (.lreturn, 1) := by decide +kernel
set_option maxRecDepth 20000 in
theorem ggX7_fractionS_X3_fractionS : GoodIn wsX7_fractionS wsX3_fractionS := goodIn_r _ [5, 6, 7, 4, 8] (by decide +kernel) (by decide +kernel)
set_option maxRecDepth 20000 in
theorem gX7_fractionS_X3_fractionS : GoodIn wsX7_fractionS (va_wsS RX7 50 yX3_fractionS wsX3_fractionS) := goodIn_app (goodIn_of _ (by decide +kernel)) ggX7_fractionS_X3_fractionS
set_option maxRecDepth 20000 in
theorem ggX7_fractionS_X4_has : GoodIn wsX7_fractionS wsX4_has := goodIn_r _ [12] (by decide +kernel) (by decide +kernel)
set_option maxRecDepth 20000 in
theorem gX7_fractionS_X4_has : GoodIn wsX7_fractionS (va_wsS RX7 9 yX4_has wsX4_has) := goodIn_app (goodIn_of _ (by decide +kernel)) ggX7_fractionS_X4_has
set_option maxRecDepth 20000 in
theorem ggX7_fractionS_X7_fraction : GoodIn wsX7_fractionS wsX7_fraction := goodIn_r _ [16] (by decide +kernel) (by decide +kernel)
set_option maxRecDepth 20000 in
theorem gX7_fractionS_X7_fraction : GoodIn wsX7_fractionS (va_wsS RX7 53 yX7_fraction wsX7_fraction) := goodIn_app (goodIn_of _ (by decide +kernel)) ggX7_fractionS_X7_fraction
theorem dX7_fractionS_0 : decode cX7_fractionS 0 = .ok (.iload_n 0, 1) := by decide +kernel
theorem dX7_fractionS_1 : decode cX7_fractionS 1 = .ok (.invokestatic 50, 3) := by decide +kernel
theorem dX7_fractionS_4 : decode cX7_fractionS 4 = .ok (.iload_n 1, 1) := by decide +kernel
theorem dX7_fractionS_5 : decode cX7_fractionS 5 = .ok (.ldc 52, 2) := by decide +kernel
theorem dX7_fractionS_7 : decode cX7_fractionS 7 = .ok (.invokestatic 9, 3) := by decide +kernel
theorem dX7_fractionS_10 : decode cX7_fractionS 10 = .ok (.invokestatic 53, 3) := by decide +kernel
theorem dX7_fractionS_13 : decode cX7_fractionS 13 = .ok (.ireturn, 1) := by decide +kernel
set_option maxRecDepth 20000 in
theorem ggX7_fractionT_X3_fractionT : GoodIn wsX7_fractionT wsX3_fractionT := goodIn_r _ [5, 6, 7, 4, 8] (by decide +kernel) (by decide +kernel)
set_option maxRecDepth 20000 in
theorem gX7_fractionT_X3_fractionT : GoodIn wsX7_fractionT (va_wsS RX7 57 yX3_fractionT wsX3_fractionT) := goodIn_app (goodIn_of _ (by decide +kernel)) ggX7_fractionT_X3_fractionT
set_option maxRecDepth 20000 in
theorem ggX7_fractionT_X4_has : GoodIn wsX7_fractionT wsX4_has := goodIn_r _ [12] (by decide +kernel) (by decide +kernel)
set_option maxRecDepth 20000 in
theorem gX7_fractionT_X4_has : GoodIn wsX7_fractionT (va_wsS RX7 9 yX4_has wsX4_has) := goodIn_app (goodIn_of _ (by decide +kernel)) ggX7_fractionT_X4_has
set_option maxRecDepth 20000 in
theorem ggX7_fractionT_X7_fraction : GoodIn wsX7_fractionT wsX7_fraction := goodIn_r _ [16] (by decide +kernel) (by decide +kernel)
set_option maxRecDepth 20000 in
theorem gX7_fractionT_X7_fraction : GoodIn wsX7_fractionT (va_wsS RX7 53 yX7_fraction wsX7_fraction) := goodIn_app (goodIn_of _ (by decide +kernel)) ggX7_fractionT_X7_fraction
theorem dX7_fractionT_0 : decode cX7_fractionT 0 = .ok (.iload_n 0, 1) := by decide +kernel
theorem dX7_fractionT_1 : decode cX7_fractionT 1 = .ok (.invokestatic 57, 3) := by decide +kernel
theorem dX7_fractionT_4 : decode cX7_fractionT 4 = .ok (.iload_n 1, 1) := by decide +kernel
theorem dX7_fractionT_5 : decode cX7_fractionT 5 = .ok (.ldc 59, 2) := by decide +kernel
theorem dX7_fractionT_7 : decode cX7_fractionT 7 = .ok (.invokestatic 9, 3) := by decide +kernel
theorem dX7_fractionT_10 : decode cX7_fractionT 10 = .ok (.invokestatic 53, 3) := by decide +kernel
theorem dX7_fractionT_13 : decode cX7_fractionT 13 = .ok (.ireturn, 1) := by decide +kernel
set_option maxRecDepth 20000 in
theorem ggX7_fractionD_X3_fractionD : GoodIn wsX7_fractionD wsX3_fractionD := goodIn_r _ [5] (by decide +kernel) (by decide +kernel)
set_option maxRecDepth 20000 in
theorem gX7_fractionD_X3_fractionD : GoodIn wsX7_fractionD (va_wsS RX7 60 yX3_fractionD wsX3_fractionD) := goodIn_app (goodIn_of _ (by decide +kernel)) ggX7_fractionD_X3_fractionD
set_option maxRecDepth 20000 in
theorem ggX7_fractionD_X4_has : GoodIn wsX7_fractionD wsX4_has := goodIn_r _ [9] (by decide +kernel) (by decide +kernel)
set_option maxRecDepth 20000 in
theorem gX7_fractionD_X4_has : GoodIn wsX7_fractionD (va_wsS RX7 9 yX4_has wsX4_has) := goodIn_app (goodIn_of _ (by decide +kernel)) ggX7_fractionD_X4_has
set_option maxRecDepth 20000 in
theorem ggX7_fractionD_X7_fraction : GoodIn wsX7_fractionD wsX7_fraction := goodIn_r _ [13] (by decide +kernel) (by decide +kernel)
set_option maxRecDepth 20000 in
theorem gX7_fractionD_X7_fraction : GoodIn wsX7_fractionD (va_wsS RX7 53 yX7_fraction wsX7_fraction) := goodIn_app (goodIn_of _ (by decide +kernel)) ggX7_fractionD_X7_fraction
theorem dX7_fractionD_0 : decode cX7_fractionD 0 = .ok (.iload_n 0, 1) := by decide +kernel
theorem dX7_fractionD_1 : decode cX7_fractionD 1 = .ok (.invokestatic 60, 3) := by decide +kernel
theorem dX7_fractionD_4 : decode cX7_fractionD 4 = .ok (.iload_n 1, 1) := by decide +kernel
theorem dX7_fractionD_5 : decode cX7_fractionD 5 = .ok (.ldc 62, 2) := by decide +kernel
theorem dX7_fractionD_7 : decode cX7_fractionD 7 = .ok (.invokestatic 9, 3) := by decide +kernel
theorem dX7_fractionD_10 : decode cX7_fractionD 10 = .ok (.invokestatic 53, 3) := by decide +kernel
theorem dX7_fractionD_13 : decode cX7_fractionD 13 = .ok (.ireturn, 1) := by decide +kernel
theorem dX7_fraction_0 : decode cX7_fraction 0 = .ok (.iload_n 1, 1) := by decide +kernel
theorem dX7_fraction_1 : decode cX7_fraction 1 = .ok (.ifCond .eq 7, 3) := by decide +kernel
theorem dX7_fraction_4 : decode cX7_fraction 4 = .ok (.iconst 3, 1) := by decide +kernel
theorem dX7_fraction_5 : decode cX7_fraction 5 = .ok (.goto 4, 3) := by decide +kernel
theorem dX7_fraction_8 : decode cX7_fraction 8 = .ok (.iconst 1, 1) := by decide +kernel
theorem dX7_fraction_9 : decode cX7_fraction 9 = .ok (.iload_n 0, 1) := by decide +kernel
theorem dX7_fraction_10 : decode cX7_fraction 10 = .ok (.ishl, 1) := by decide +kernel
theorem dX7_fraction_11 : decode cX7_fraction 11 = .ok (.ireturn, 1) := by decide +kernel
set_option maxRecDepth 20000 in
theorem ggX8_init_X0_init : GoodIn wsX8_init wsX0_init := goodIn_r _ [18, 19, 2, 3, 20, 21, 22, 23, 24, 25, 26, 27, 28, 29, 30, 31, 32, 33, 34, 35, 36, 37, 38, 39, 40, 41, 42, 43, 44, 63, 64, 65, 66, 67, 68, 69, 70, 71, 72, 73, 74, 75, 76, 77] (by decide +kernel) (by decide +kernel)
set_option maxRecDepth 20000 in
theorem gX8_init_X0_init_n11 : GoodIn wsX8_init (wsX0_init) := ggX8_init_X0_init
set_option maxRecDepth 20000 in
theorem ggX8_init_X5_init : GoodIn wsX8_init wsX5_init := goodIn_r _ [46, 47, 2, 3, 48, 29, 49, 32, 50, 51, 52, 82, 83, 84, 85, 86] (by decide +kernel) (by decide +kernel)
set_option maxRecDepth 20000 in
theorem gX8_init_X5_init_n18 : GoodIn wsX8_init (wsX5_init) := ggX8_init_X5_init
set_option maxRecDepth 20000 in
theorem ggX8_init_X6_init : GoodIn wsX8_init wsX6_init := goodIn_r _ [54, 55, 2, 3, 56, 29, 57, 58, 59, 60, 61, 62, 87, 88, 89, 90, 91, 92, 93] (by decide +kernel) (by decide +kernel)
set_option maxRecDepth 20000 in
theorem gX8_init_X6_init_n25 : GoodIn wsX8_init (wsX6_init) := ggX8_init_X6_init
theorem dX8_init_0 : decode cX8_init 0 = .ok (.aload_n 0, 1) := by decide +kernel
theorem dX8_init_1 : decode cX8_init 1 = .ok (.invokespecial 3, 3) := by decide +kernel
theorem dX8_init_4 : decode cX8_init 4 = .ok (.aload_n 0, 1) := by decide +kernel
theorem dX8_init_5 : decode cX8_init 5 = .ok (.new 9, 3) := by decide +kernel
theorem dX8_init_8 : decode cX8_init 8 = .ok (.dup, 1) := by decide +kernel
theorem dX8_init_9 : decode cX8_init 9 = .ok (.invokespecial 11, 3) := by decide +kernel
theorem dX8_init_12 : decode cX8_init 12 = .ok (.putfield 12, 3) := by decide +kernel
theorem dX8_init_15 : decode cX8_init 15 = .ok (.aload_n 0, 1) := by decide +kernel
theorem dX8_init_16 : decode cX8_init 16 = .ok (.new 16, 3) := by decide +kernel
theorem dX8_init_19 : decode cX8_init 19 = .ok (.dup, 1) := by decide +kernel
theorem dX8_init_20 : decode cX8_init 20 = .ok (.invokespecial 18, 3) := by decide +kernel
theorem dX8_init_23 : decode cX8_init 23 = .ok (.putfield 19, 3) := by decide +kernel
theorem dX8_init_26 : decode cX8_init 26 = .ok (.aload_n 0, 1) := by decide +kernel
theorem dX8_init_27 : decode cX8_init 27 = .ok (.new 23, 3) := by decide +kernel
theorem dX8_init_30 : decode cX8_init 30 = .ok (.dup, 1) := by decide +kernel
theorem dX8_init_31 : decode cX8_init 31 = .ok (.invokespecial 25, 3) := by decide +kernel
theorem dX8_init_34 : decode cX8_init 34 = .ok (.putfield 26, 3) := by decide +kernel
theorem dX8_init_37 : decode cX8_init 37 = .ok (.aload_n 0, 1) := by decide +kernel
theorem dX8_init_38 : decode cX8_init 38 = .ok (.iconst 0, 1) := by decide +kernel
theorem dX8_init_39 : decode cX8_init 39 = .ok (.putfield 30, 3) := by decide +kernel
theorem dX8_init_42 : decode cX8_init 42 = .ok (.return_, 1) := by decide +kernel
theorem dX8_latency_0 : decode cX8_latency 0 = .ok (.iload_n 1, 1) := by decide +kernel
theorem dX8_latency_1 : decode cX8_latency 1 = .ok (.ifCond .lt 9, 3) := by decide +kernel
theorem dX8_latency_4 : decode cX8_latency 4 = .ok (.iload_n 1, 1) := by decide +kernel
theorem dX8_latency_5 : decode cX8_latency 5 = .ok (.bipush 6, 2) := by decide +kernel
theorem dX8_latency_7 : decode cX8_latency 7 = .ok (.if_icmp .le 13, 3) := by decide +kernel
theorem dX8_latency_10 : decode cX8_latency 10 = .ok (.new 36, 3) := by decide +kernel
theorem dX8_latency_13 : decode cX8_latency 13 = .ok (.dup, 1) := by decide +kernel
theorem dX8_latency_14 : decode cX8_latency 14 = .ok (.ldc 38, 2) := by decide +kernel
theorem dX8_latency_16 : decode cX8_latency 16 = .ok (.invokespecial 40, 3) := by decide +kernel
theorem dX8_latency_19 : decode cX8_latency 19 = .ok (.athrow, 1) := by decide +kernel
theorem dX8_latency_20 : decode cX8_latency 20 = .ok (.iload_n 2, 1) := by decide +kernel
theorem dX8_latency_21 : decode cX8_latency 21 = .ok (.iconst 1, 1) := by decide +kernel
theorem dX8_latency_22 : decode cX8_latency 22 = .ok (.if_icmp .lt 9, 3) := by decide +kernel
theorem dX8_latency_25 : decode cX8_latency 25 = .ok (.iload_n 2, 1) := by decide +kernel
theorem dX8_latency_26 : decode cX8_latency 26 = .ok (.bipush 40, 2) := by decide +kernel
theorem dX8_latency_28 : decode cX8_latency 28 = .ok (.if_icmp .le 13, 3) := by decide +kernel
theorem dX8_latency_31 : decode cX8_latency 31 = .ok (.new 36, 3) := by decide +kernel
theorem dX8_latency_34 : decode cX8_latency 34 = .ok (.dup, 1) := by decide +kernel
theorem dX8_latency_35 : decode cX8_latency 35 = .ok (.ldc 43, 2) := by decide +kernel
theorem dX8_latency_37 : decode cX8_latency 37 = .ok (.invokespecial 40, 3) := by decide +kernel
theorem dX8_latency_40 : decode cX8_latency 40 = .ok (.athrow, 1) := by decide +kernel
theorem dX8_latency_41 : decode cX8_latency 41 = .ok (.aload_n 0, 1) := by decide +kernel
theorem dX8_latency_42 : decode cX8_latency 42 = .ok (.getfield 12, 3) := by decide +kernel
theorem dX8_latency_45 : decode cX8_latency 45 = .ok (.getfield 45, 3) := by decide +kernel
theorem dX8_latency_48 : decode cX8_latency 48 = .ok (.iload_n 1, 1) := by decide +kernel
theorem dX8_latency_49 : decode cX8_latency 49 = .ok (.iaload, 1) := by decide +kernel
theorem dX8_latency_50 : decode cX8_latency 50 = .ok (.istore_n 3, 1) := by decide +kernel
theorem dX8_latency_51 : decode cX8_latency 51 = .ok (.aload_n 0, 1) := by decide +kernel
theorem dX8_latency_52 : decode cX8_latency 52 = .ok (.getfield 12, 3) := by decide +kernel
theorem dX8_latency_55 : decode cX8_latency 55 = .ok (.getfield 45, 3) := by decide +kernel
theorem dX8_latency_58 : decode cX8_latency 58 = .ok (.iload_n 1, 1) := by decide +kernel
theorem dX8_latency_59 : decode cX8_latency 59 = .ok (.iload_n 2, 1) := by decide +kernel
theorem dX8_latency_60 : decode cX8_latency 60 = .ok (.iastore, 1) := by decide +kernel
theorem dX8_latency_61 : decode cX8_latency 61 = .ok (.iload_n 3, 1) := by decide +kernel
theorem dX8_latency_62 : decode cX8_latency 62 = .ok (.ireturn, 1) := by decide +kernel
set_option maxRecDepth 20000 in
theorem ggX8_add_X2_formOf : GoodIn wsX8_add wsX2_formOf := goodIn_r _ [10, 11, 12, 9, 13, 14, 15, 16, 17, 18, 19, 20, 21, 22, 23, 24, 25, 26, 27, 28, 29, 30, 31, 32, 33, 34, 35, 36, 37, 38, 39, 40, 41, 42, 43, 44, 45, 46, 47, 48, 49, 50, 51, 52, 53, 54, 55, 56, 57, 58, 59, 60, 61, 62, 63, 64, 65, 66, 67, 68, 69, 70, 71, 72, 73, 74, 75, 76, 77, 78, 79, 80, 81, 82, 83, 84, 85, 86, 87, 88, 89, 90, 91, 92, 93, 94, 95, 96, 97, 98, 99, 100, 101] (by decide +kernel) (by decide +kernel)
set_option maxRecDepth 20000 in
theorem gX8_add_X2_formOf : GoodIn wsX8_add (va_wsS RX8 49 yX2_formOf wsX2_formOf) := goodIn_app (goodIn_of _ (by decide +kernel)) ggX8_add_X2_formOf
set_option maxRecDepth 20000 in
theorem ggX8_add_X0_isClosed : GoodIn wsX8_add wsX0_isClosed := goodIn_r _ [106, 107, 108, 109, 110, 105, 111, 112, 206, 207, 208, 209, 210, 211, 212, 213, 214, 215, 216, 217, 218, 219, 220] (by decide +kernel) (by decide +kernel)
set_option maxRecDepth 20000 in
theorem gX8_add_X0_isClosed : GoodIn wsX8_add (wsV RX8 57 RX0 yX0_isClosed wsX0_isClosed) := goodIn_app (goodIn_of _ (by decide +kernel)) ggX8_add_X0_isClosed
set_option maxRecDepth 20000 in
theorem ggX8_add_X0_empty : GoodIn wsX8_add wsX0_empty := goodIn_r _ [116, 107, 206, 207, 208, 209, 210, 211, 212, 213, 214, 215, 216, 217, 218, 219, 220] (by decide +kernel) (by decide +kernel)
set_option maxRecDepth 20000 in
theorem gX8_add_X0_empty : GoodIn wsX8_add (wsV RX8 66 RX0 yX0_empty wsX0_empty) := goodIn_app (goodIn_of _ (by decide +kernel)) ggX8_add_X0_empty
set_option maxRecDepth 20000 in
theorem ggX8_add_X0_append : GoodIn wsX8_add wsX0_append := goodIn_r _ [120, 107, 121, 112, 122, 123, 124, 125, 126, 127, 128, 129, 130, 131, 132, 133, 64, 134, 135, 63, 65, 136, 137, 138, 139, 140, 141, 142, 143, 42, 16, 43, 144, 145, 146, 147, 28, 29, 148, 93, 94, 149, 150, 151, 152, 153, 154, 155, 156, 157, 158, 159, 160, 161, 90, 91, 92, 162, 163, 164, 165, 166, 167, 168, 169, 96, 97, 98, 170, 171, 172, 173, 174, 100, 101, 175, 176, 177, 178, 179, 180, 181, 182, 183, 184, 185, 186, 187, 188, 189, 15, 17, 190, 191, 192, 193, 194, 195, 196, 197, 198, 199, 105, 200, 206, 207, 208, 209, 210, 211, 212, 213, 214, 215, 216, 217, 218, 219, 220] (by decide +kernel) (by decide +kernel)
set_option maxRecDepth 20000 in
theorem gX8_add_X0_append : GoodIn wsX8_add (wsV RX8 69 RX0 yX0_append wsX0_append) := goodIn_app (goodIn_of _ (by decide +kernel)) ggX8_add_X0_append
set_option maxRecDepth 20000 in
theorem ggX8_add_X4_kindOf : GoodIn wsX8_add wsX4_kindOf := goodIn_r _ [134] (by decide +kernel) (by decide +kernel)
set_option maxRecDepth 20000 in
theorem gX8_add_X4_kindOf : GoodIn wsX8_add (va_wsS RX8 73 yX4_kindOf wsX4_kindOf) := goodIn_app (goodIn_of _ (by decide +kernel)) ggX8_add_X4_kindOf
theorem dX8_add_0 : decode cX8_add 0 = .ok (.iload_n 1, 1) := by decide +kernel
theorem dX8_add_1 : decode cX8_add 1 = .ok (.invokestatic 49, 3) := by decide +kernel
theorem dX8_add_4 : decode cX8_add 4 = .ok (.istore_n 2, 1) := by decide +kernel
theorem dX8_add_5 : decode cX8_add 5 = .ok (.iload_n 2, 1) := by decide +kernel
theorem dX8_add_6 : decode cX8_add 6 = .ok (.iconst (-1), 1) := by decide +kernel
theorem dX8_add_7 : decode cX8_add 7 = .ok (.if_icmp .ne 13, 3) := by decide +kernel
theorem dX8_add_10 : decode cX8_add 10 = .ok (.new 36, 3) := by decide +kernel
theorem dX8_add_13 : decode cX8_add 13 = .ok (.dup, 1) := by decide +kernel
theorem dX8_add_14 : decode cX8_add 14 = .ok (.ldc 55, 2) := by decide +kernel
theorem dX8_add_16 : decode cX8_add 16 = .ok (.invokespecial 40, 3) := by decide +kernel
theorem dX8_add_19 : decode cX8_add 19 = .ok (.athrow, 1) := by decide +kernel
theorem dX8_add_20 : decode cX8_add 20 = .ok (.aload_n 0, 1) := by decide +kernel
theorem dX8_add_21 : decode cX8_add 21 = .ok (.getfield 30, 3) := by decide +kernel
theorem dX8_add_24 : decode cX8_add 24 = .ok (.ifCond .ne 23, 3) := by decide +kernel
theorem dX8_add_27 : decode cX8_add 27 = .ok (.aload_n 0, 1) := by decide +kernel
theorem dX8_add_28 : decode cX8_add 28 = .ok (.getfield 12, 3) := by decide +kernel
theorem dX8_add_31 : decode cX8_add 31 = .ok (.invokevirtual 57, 3) := by decide +kernel
theorem dX8_add_34 : decode cX8_add 34 = .ok (.ifCond .eq 13, 3) := by decide +kernel
theorem dX8_add_37 : decode cX8_add 37 = .ok (.new 61, 3) := by decide +kernel
theorem dX8_add_40 : decode cX8_add 40 = .ok (.dup, 1) := by decide +kernel
theorem dX8_add_41 : decode cX8_add 41 = .ok (.ldc 63, 2) := by decide +kernel
theorem dX8_add_43 : decode cX8_add 43 = .ok (.invokespecial 65, 3) := by decide +kernel
theorem dX8_add_46 : decode cX8_add 46 = .ok (.athrow, 1) := by decide +kernel
theorem dX8_add_47 : decode cX8_add 47 = .ok (.aload_n 0, 1) := by decide +kernel
theorem dX8_add_48 : decode cX8_add 48 = .ok (.getfield 30, 3) := by decide +kernel
theorem dX8_add_51 : decode cX8_add 51 = .ok (.ifCond .eq 15, 3) := by decide +kernel
theorem dX8_add_54 : decode cX8_add 54 = .ok (.aload_n 0, 1) := by decide +kernel
theorem dX8_add_55 : decode cX8_add 55 = .ok (.getfield 12, 3) := by decide +kernel
theorem dX8_add_58 : decode cX8_add 58 = .ok (.invokevirtual 66, 3) := by decide +kernel
theorem dX8_add_61 : decode cX8_add 61 = .ok (.aload_n 0, 1) := by decide +kernel
theorem dX8_add_62 : decode cX8_add 62 = .ok (.iconst 0, 1) := by decide +kernel
theorem dX8_add_63 : decode cX8_add 63 = .ok (.putfield 30, 3) := by decide +kernel
theorem dX8_add_66 : decode cX8_add 66 = .ok (.aload_n 0, 1) := by decide +kernel
theorem dX8_add_67 : decode cX8_add 67 = .ok (.getfield 12, 3) := by decide +kernel
theorem dX8_add_70 : decode cX8_add 70 = .ok (.iload_n 1, 1) := by decide +kernel
theorem dX8_add_71 : decode cX8_add 71 = .ok (.iload_n 2, 1) := by decide +kernel
theorem dX8_add_72 : decode cX8_add 72 = .ok (.invokevirtual 69, 3) := by decide +kernel
theorem dX8_add_75 : decode cX8_add 75 = .ok (.iload_n 2, 1) := by decide +kernel
theorem dX8_add_76 : decode cX8_add 76 = .ok (.invokestatic 73, 3) := by decide +kernel
theorem dX8_add_79 : decode cX8_add 79 = .ok (.ireturn, 1) := by decide +kernel
set_option maxRecDepth 20000 in
theorem ggX8_schedule_X0_survey : GoodIn wsX8_schedule wsX0_survey := goodIn_r _ [10, 11, 12, 13, 14, 15, 16, 17, 18, 19, 20, 9, 21, 22, 23, 24, 25, 26, 27, 28, 29, 30, 31, 32, 33, 34, 35, 36, 37, 38, 39, 40, 41, 42, 43, 44, 45, 46, 47, 48, 49, 50, 140, 141, 142, 143, 144, 145, 146, 147, 148, 149, 150, 151, 152, 153, 154] (by decide +kernel) (by decide +kernel)
set_option maxRecDepth 20000 in
theorem gX8_schedule_X0_survey : GoodIn wsX8_schedule (wsV RX8 76 RX0 yX0_survey wsX0_survey) := goodIn_app (goodIn_of _ (by decide +kernel)) ggX8_schedule_X0_survey
set_option maxRecDepth 20000 in
theorem ggX8_schedule_X5_byHeights : GoodIn wsX8_schedule wsX5_byHeights := goodIn_r _ [55, 56, 57, 58, 59, 9, 60, 11, 61, 62, 63, 64, 30, 65, 66, 67, 54, 68, 69, 70, 71, 72, 19, 20, 21, 22, 23, 24, 25, 13, 14, 15, 16, 26, 27, 28, 29, 31, 32, 33, 34, 35, 36, 37, 38, 39, 40, 41, 42, 43, 44, 45, 46, 47, 48, 49, 50, 73, 74, 75, 76, 77, 78, 79, 80, 81, 82, 83, 155, 156, 157, 158, 159, 140, 141, 142, 143, 144, 145, 146, 147, 148, 149, 150, 151, 152, 153, 154] (by decide +kernel) (by decide +kernel)
set_option maxRecDepth 20000 in
theorem gX8_schedule_X5_byHeights : GoodIn wsX8_schedule (wsV RX8 79 RX5 yX5_byHeights wsX5_byHeights) := goodIn_app (goodIn_of _ (by decide +kernel)) ggX8_schedule_X5_byHeights
set_option maxRecDepth 20000 in
theorem ggX8_schedule_X5_asInBlock : GoodIn wsX8_schedule wsX5_asInBlock := goodIn_r _ [87, 56, 82, 57, 58, 59, 9, 60, 11, 61, 62, 63, 64, 30, 155, 156, 157, 158, 159, 140, 141, 142, 143, 144, 145, 146, 147, 148, 149, 150, 151, 152, 153, 154] (by decide +kernel) (by decide +kernel)
set_option maxRecDepth 20000 in
theorem gX8_schedule_X5_asInBlock : GoodIn wsX8_schedule (wsV RX8 83 RX5 yX5_asInBlock wsX5_asInBlock) := goodIn_app (goodIn_of _ (by decide +kernel)) ggX8_schedule_X5_asInBlock
set_option maxRecDepth 20000 in
theorem ggX8_schedule_X6_take : GoodIn wsX8_schedule wsX6_take := goodIn_r _ [92, 93, 94, 95, 96, 97, 98, 99, 100, 101, 91, 102, 103, 104, 105, 106, 62, 63, 9, 64, 11, 30, 107, 108, 109, 110, 111, 112, 113, 114, 115, 116, 117, 118, 119, 120, 121, 122, 123, 14, 15, 16, 124, 125, 126, 127, 128, 19, 20, 21, 22, 23, 24, 25, 13, 26, 27, 28, 29, 31, 32, 33, 34, 35, 36, 37, 38, 39, 40, 41, 42, 43, 44, 45, 46, 47, 48, 49, 50, 133, 134, 135, 136, 137, 138, 139, 155, 156, 157, 158, 159, 140, 141, 142, 143, 144, 145, 146, 147, 148, 149, 150, 151, 152, 153, 154] (by decide +kernel) (by decide +kernel)
set_option maxRecDepth 20000 in
theorem gX8_schedule_X6_take : GoodIn wsX8_schedule (wsV RX8 86 RX6 yX6_take wsX6_take) := goodIn_app (goodIn_of _ (by decide +kernel)) ggX8_schedule_X6_take
theorem dX8_schedule_0 : decode cX8_schedule 0 = .ok (.aload_n 0, 1) := by decide +kernel
theorem dX8_schedule_1 : decode cX8_schedule 1 = .ok (.iconst 1, 1) := by decide +kernel
theorem dX8_schedule_2 : decode cX8_schedule 2 = .ok (.putfield 30, 3) := by decide +kernel
theorem dX8_schedule_5 : decode cX8_schedule 5 = .ok (.aload_n 0, 1) := by decide +kernel
theorem dX8_schedule_6 : decode cX8_schedule 6 = .ok (.getfield 12, 3) := by decide +kernel
theorem dX8_schedule_9 : decode cX8_schedule 9 = .ok (.invokevirtual 76, 3) := by decide +kernel
theorem dX8_schedule_12 : decode cX8_schedule 12 = .ok (.iload_n 1, 1) := by decide +kernel
theorem dX8_schedule_13 : decode cX8_schedule 13 = .ok (.ifCond .eq 17, 3) := by decide +kernel
theorem dX8_schedule_16 : decode cX8_schedule 16 = .ok (.aload_n 0, 1) := by decide +kernel
theorem dX8_schedule_17 : decode cX8_schedule 17 = .ok (.getfield 19, 3) := by decide +kernel
theorem dX8_schedule_20 : decode cX8_schedule 20 = .ok (.aload_n 0, 1) := by decide +kernel
theorem dX8_schedule_21 : decode cX8_schedule 21 = .ok (.getfield 12, 3) := by decide +kernel
theorem dX8_schedule_24 : decode cX8_schedule 24 = .ok (.invokevirtual 79, 3) := by decide +kernel
theorem dX8_schedule_27 : decode cX8_schedule 27 = .ok (.goto 14, 3) := by decide +kernel
theorem dX8_schedule_30 : decode cX8_schedule 30 = .ok (.aload_n 0, 1) := by decide +kernel
theorem dX8_schedule_31 : decode cX8_schedule 31 = .ok (.getfield 19, 3) := by decide +kernel
theorem dX8_schedule_34 : decode cX8_schedule 34 = .ok (.aload_n 0, 1) := by decide +kernel
theorem dX8_schedule_35 : decode cX8_schedule 35 = .ok (.getfield 12, 3) := by decide +kernel
theorem dX8_schedule_38 : decode cX8_schedule 38 = .ok (.invokevirtual 83, 3) := by decide +kernel
theorem dX8_schedule_41 : decode cX8_schedule 41 = .ok (.aload_n 0, 1) := by decide +kernel
theorem dX8_schedule_42 : decode cX8_schedule 42 = .ok (.getfield 26, 3) := by decide +kernel
theorem dX8_schedule_45 : decode cX8_schedule 45 = .ok (.aload_n 0, 1) := by decide +kernel
theorem dX8_schedule_46 : decode cX8_schedule 46 = .ok (.getfield 12, 3) := by decide +kernel
theorem dX8_schedule_49 : decode cX8_schedule 49 = .ok (.aload_n 0, 1) := by decide +kernel
theorem dX8_schedule_50 : decode cX8_schedule 50 = .ok (.getfield 19, 3) := by decide +kernel
theorem dX8_schedule_53 : decode cX8_schedule 53 = .ok (.iload_n 2, 1) := by decide +kernel
theorem dX8_schedule_54 : decode cX8_schedule 54 = .ok (.invokevirtual 86, 3) := by decide +kernel
theorem dX8_schedule_57 : decode cX8_schedule 57 = .ok (.aload_n 0, 1) := by decide +kernel
theorem dX8_schedule_58 : decode cX8_schedule 58 = .ok (.getfield 26, 3) := by decide +kernel
theorem dX8_schedule_61 : decode cX8_schedule 61 = .ok (.getfield 90, 3) := by decide +kernel
theorem dX8_schedule_64 : decode cX8_schedule 64 = .ok (.ireturn, 1) := by decide +kernel
theorem dX8_word_0 : decode cX8_word 0 = .ok (.iload_n 1, 1) := by decide +kernel
theorem dX8_word_1 : decode cX8_word 1 = .ok (.ifCond .lt 14, 3) := by decide +kernel
theorem dX8_word_4 : decode cX8_word 4 = .ok (.iload_n 1, 1) := by decide +kernel
theorem dX8_word_5 : decode cX8_word 5 = .ok (.aload_n 0, 1) := by decide +kernel
theorem dX8_word_6 : decode cX8_word 6 = .ok (.getfield 26, 3) := by decide +kernel
theorem dX8_word_9 : decode cX8_word 9 = .ok (.getfield 90, 3) := by decide +kernel
theorem dX8_word_12 : decode cX8_word 12 = .ok (.if_icmp .lt 13, 3) := by decide +kernel
theorem dX8_word_15 : decode cX8_word 15 = .ok (.new 94, 3) := by decide +kernel
theorem dX8_word_18 : decode cX8_word 18 = .ok (.dup, 1) := by decide +kernel
theorem dX8_word_19 : decode cX8_word 19 = .ok (.ldc 96, 2) := by decide +kernel
theorem dX8_word_21 : decode cX8_word 21 = .ok (.invokespecial 98, 3) := by decide +kernel
theorem dX8_word_24 : decode cX8_word 24 = .ok (.athrow, 1) := by decide +kernel
theorem dX8_word_25 : decode cX8_word 25 = .ok (.aload_n 0, 1) := by decide +kernel
theorem dX8_word_26 : decode cX8_word 26 = .ok (.getfield 26, 3) := by decide +kernel
theorem dX8_word_29 : decode cX8_word 29 = .ok (.getfield 99, 3) := by decide +kernel
theorem dX8_word_32 : decode cX8_word 32 = .ok (.iload_n 1, 1) := by decide +kernel
theorem dX8_word_33 : decode cX8_word 33 = .ok (.iaload, 1) := by decide +kernel
theorem dX8_word_34 : decode cX8_word 34 = .ok (.ireturn, 1) := by decide +kernel
theorem dX8_from_0 : decode cX8_from 0 = .ok (.iload_n 1, 1) := by decide +kernel
theorem dX8_from_1 : decode cX8_from 1 = .ok (.ifCond .lt 14, 3) := by decide +kernel
theorem dX8_from_4 : decode cX8_from 4 = .ok (.iload_n 1, 1) := by decide +kernel
theorem dX8_from_5 : decode cX8_from 5 = .ok (.aload_n 0, 1) := by decide +kernel
theorem dX8_from_6 : decode cX8_from 6 = .ok (.getfield 26, 3) := by decide +kernel
theorem dX8_from_9 : decode cX8_from 9 = .ok (.getfield 90, 3) := by decide +kernel
theorem dX8_from_12 : decode cX8_from 12 = .ok (.if_icmp .lt 13, 3) := by decide +kernel
theorem dX8_from_15 : decode cX8_from 15 = .ok (.new 94, 3) := by decide +kernel
theorem dX8_from_18 : decode cX8_from 18 = .ok (.dup, 1) := by decide +kernel
theorem dX8_from_19 : decode cX8_from 19 = .ok (.ldc 96, 2) := by decide +kernel
theorem dX8_from_21 : decode cX8_from 21 = .ok (.invokespecial 98, 3) := by decide +kernel
theorem dX8_from_24 : decode cX8_from 24 = .ok (.athrow, 1) := by decide +kernel
theorem dX8_from_25 : decode cX8_from 25 = .ok (.aload_n 0, 1) := by decide +kernel
theorem dX8_from_26 : decode cX8_from 26 = .ok (.getfield 26, 3) := by decide +kernel
theorem dX8_from_29 : decode cX8_from 29 = .ok (.getfield 102, 3) := by decide +kernel
theorem dX8_from_32 : decode cX8_from 32 = .ok (.iload_n 1, 1) := by decide +kernel
theorem dX8_from_33 : decode cX8_from 33 = .ok (.iaload, 1) := by decide +kernel
theorem dX8_from_34 : decode cX8_from 34 = .ok (.ireturn, 1) := by decide +kernel
set_option maxRecDepth 20000 in
theorem ggX8_depends_X0_holds : GoodIn wsX8_depends wsX0_holds := goodIn_r _ [8, 9, 51, 52, 53, 54, 55, 56, 57, 58, 59, 60, 61, 62, 63, 64, 65] (by decide +kernel) (by decide +kernel)
set_option maxRecDepth 20000 in
theorem gX8_depends_X0_holds : GoodIn wsX8_depends (wsV RX8 105 RX0 yX0_holds wsX0_holds) := goodIn_app (goodIn_of _ (by decide +kernel)) ggX8_depends_X0_holds
set_option maxRecDepth 20000 in
theorem ggX8_depends_X0_distance : GoodIn wsX8_depends wsX0_distance := goodIn_r _ [13, 14, 15, 16, 17, 18, 19, 20, 21, 22, 23, 24, 7, 25, 26, 27, 28, 29, 30, 31, 32, 33, 34, 35, 36, 37, 38, 39, 40, 41, 42, 43, 44, 45, 46, 51, 52, 53, 54, 55, 56, 57, 58, 59, 60, 61, 62, 63, 64, 65] (by decide +kernel) (by decide +kernel)
set_option maxRecDepth 20000 in
theorem gX8_depends_X0_distance : GoodIn wsX8_depends (wsV RX8 111 RX0 yX0_distance wsX0_distance) := goodIn_app (goodIn_of _ (by decide +kernel)) ggX8_depends_X0_distance
theorem dX8_depends_0 : decode cX8_depends 0 = .ok (.aload_n 0, 1) := by decide +kernel
theorem dX8_depends_1 : decode cX8_depends 1 = .ok (.getfield 12, 3) := by decide +kernel
theorem dX8_depends_4 : decode cX8_depends 4 = .ok (.iload_n 1, 1) := by decide +kernel
theorem dX8_depends_5 : decode cX8_depends 5 = .ok (.invokevirtual 105, 3) := by decide +kernel
theorem dX8_depends_8 : decode cX8_depends 8 = .ok (.ifCond .eq 14, 3) := by decide +kernel
theorem dX8_depends_11 : decode cX8_depends 11 = .ok (.aload_n 0, 1) := by decide +kernel
theorem dX8_depends_12 : decode cX8_depends 12 = .ok (.getfield 12, 3) := by decide +kernel
theorem dX8_depends_15 : decode cX8_depends 15 = .ok (.iload_n 2, 1) := by decide +kernel
theorem dX8_depends_16 : decode cX8_depends 16 = .ok (.invokevirtual 105, 3) := by decide +kernel
theorem dX8_depends_19 : decode cX8_depends 19 = .ok (.ifCond .ne 13, 3) := by decide +kernel
theorem dX8_depends_22 : decode cX8_depends 22 = .ok (.new 94, 3) := by decide +kernel
theorem dX8_depends_25 : decode cX8_depends 25 = .ok (.dup, 1) := by decide +kernel
theorem dX8_depends_26 : decode cX8_depends 26 = .ok (.ldc 109, 2) := by decide +kernel
theorem dX8_depends_28 : decode cX8_depends 28 = .ok (.invokespecial 98, 3) := by decide +kernel
theorem dX8_depends_31 : decode cX8_depends 31 = .ok (.athrow, 1) := by decide +kernel
theorem dX8_depends_32 : decode cX8_depends 32 = .ok (.aload_n 0, 1) := by decide +kernel
theorem dX8_depends_33 : decode cX8_depends 33 = .ok (.getfield 12, 3) := by decide +kernel
theorem dX8_depends_36 : decode cX8_depends 36 = .ok (.iload_n 1, 1) := by decide +kernel
theorem dX8_depends_37 : decode cX8_depends 37 = .ok (.iload_n 2, 1) := by decide +kernel
theorem dX8_depends_38 : decode cX8_depends 38 = .ok (.invokevirtual 111, 3) := by decide +kernel
theorem dX8_depends_41 : decode cX8_depends 41 = .ok (.istore_n 3, 1) := by decide +kernel
theorem dX8_depends_42 : decode cX8_depends 42 = .ok (.iload_n 3, 1) := by decide +kernel
theorem dX8_depends_43 : decode cX8_depends 43 = .ok (.ifCond .ne 7, 3) := by decide +kernel
theorem dX8_depends_46 : decode cX8_depends 46 = .ok (.iconst (-1), 1) := by decide +kernel
theorem dX8_depends_47 : decode cX8_depends 47 = .ok (.goto 4, 3) := by decide +kernel
theorem dX8_depends_50 : decode cX8_depends 50 = .ok (.iload_n 3, 1) := by decide +kernel
theorem dX8_depends_51 : decode cX8_depends 51 = .ok (.ireturn, 1) := by decide +kernel
set_option maxRecDepth 20000 in
theorem ggX8_height_X0_holds : GoodIn wsX8_height wsX0_holds := goodIn_r _ [9, 10, 58, 59, 60, 61, 62, 63, 64, 65, 66, 67, 68, 69, 70, 71, 72] (by decide +kernel) (by decide +kernel)
set_option maxRecDepth 20000 in
theorem gX8_height_X0_holds : GoodIn wsX8_height (wsV RX8 105 RX0 yX0_holds wsX0_holds) := goodIn_app (goodIn_of _ (by decide +kernel)) ggX8_height_X0_holds
set_option maxRecDepth 20000 in
theorem ggX8_height_X0_survey : GoodIn wsX8_height wsX0_survey := goodIn_r _ [14, 10, 15, 16, 17, 18, 19, 20, 21, 22, 23, 8, 24, 25, 26, 27, 28, 29, 30, 31, 32, 33, 34, 35, 36, 37, 38, 39, 40, 41, 42, 43, 44, 45, 46, 47, 48, 49, 50, 51, 52, 53, 58, 59, 60, 61, 62, 63, 64, 65, 66, 67, 68, 69, 70, 71, 72] (by decide +kernel) (by decide +kernel)
set_option maxRecDepth 20000 in
theorem gX8_height_X0_survey : GoodIn wsX8_height (wsV RX8 76 RX0 yX0_survey wsX0_survey) := goodIn_app (goodIn_of _ (by decide +kernel)) ggX8_height_X0_survey
theorem dX8_height_0 : decode cX8_height 0 = .ok (.aload_n 0, 1) := by decide +kernel
theorem dX8_height_1 : decode cX8_height 1 = .ok (.getfield 12, 3) := by decide +kernel
theorem dX8_height_4 : decode cX8_height 4 = .ok (.iload_n 1, 1) := by decide +kernel
theorem dX8_height_5 : decode cX8_height 5 = .ok (.invokevirtual 105, 3) := by decide +kernel
theorem dX8_height_8 : decode cX8_height 8 = .ok (.ifCond .ne 13, 3) := by decide +kernel
theorem dX8_height_11 : decode cX8_height 11 = .ok (.new 94, 3) := by decide +kernel
theorem dX8_height_14 : decode cX8_height 14 = .ok (.dup, 1) := by decide +kernel
theorem dX8_height_15 : decode cX8_height 15 = .ok (.ldc 109, 2) := by decide +kernel
theorem dX8_height_17 : decode cX8_height 17 = .ok (.invokespecial 98, 3) := by decide +kernel
theorem dX8_height_20 : decode cX8_height 20 = .ok (.athrow, 1) := by decide +kernel
theorem dX8_height_21 : decode cX8_height 21 = .ok (.aload_n 0, 1) := by decide +kernel
theorem dX8_height_22 : decode cX8_height 22 = .ok (.getfield 12, 3) := by decide +kernel
theorem dX8_height_25 : decode cX8_height 25 = .ok (.invokevirtual 76, 3) := by decide +kernel
theorem dX8_height_28 : decode cX8_height 28 = .ok (.aload_n 0, 1) := by decide +kernel
theorem dX8_height_29 : decode cX8_height 29 = .ok (.getfield 12, 3) := by decide +kernel
theorem dX8_height_32 : decode cX8_height 32 = .ok (.getfield 115, 3) := by decide +kernel
theorem dX8_height_35 : decode cX8_height 35 = .ok (.iload_n 1, 1) := by decide +kernel
theorem dX8_height_36 : decode cX8_height 36 = .ok (.iaload, 1) := by decide +kernel
theorem dX8_height_37 : decode cX8_height 37 = .ok (.ireturn, 1) := by decide +kernel
theorem dX8_cycles_0 : decode cX8_cycles 0 = .ok (.aload_n 0, 1) := by decide +kernel
theorem dX8_cycles_1 : decode cX8_cycles 1 = .ok (.getfield 26, 3) := by decide +kernel
theorem dX8_cycles_4 : decode cX8_cycles 4 = .ok (.getfield 118, 3) := by decide +kernel
theorem dX8_cycles_7 : decode cX8_cycles 7 = .ok (.ireturn, 1) := by decide +kernel
theorem dX8_count_0 : decode cX8_count 0 = .ok (.iload_n 1, 1) := by decide +kernel
theorem dX8_count_1 : decode cX8_count 1 = .ok (.tableswitch 63 0 3 #[31, 39, 47, 55], 31) := by decide +kernel
theorem dX8_count_32 : decode cX8_count 32 = .ok (.aload_n 0, 1) := by decide +kernel
theorem dX8_count_33 : decode cX8_count 33 = .ok (.getfield 12, 3) := by decide +kernel
theorem dX8_count_36 : decode cX8_count 36 = .ok (.getfield 121, 3) := by decide +kernel
theorem dX8_count_39 : decode cX8_count 39 = .ok (.ireturn, 1) := by decide +kernel
theorem dX8_count_40 : decode cX8_count 40 = .ok (.aload_n 0, 1) := by decide +kernel
theorem dX8_count_41 : decode cX8_count 41 = .ok (.getfield 26, 3) := by decide +kernel
theorem dX8_count_44 : decode cX8_count 44 = .ok (.getfield 90, 3) := by decide +kernel
theorem dX8_count_47 : decode cX8_count 47 = .ok (.ireturn, 1) := by decide +kernel
theorem dX8_count_48 : decode cX8_count 48 = .ok (.aload_n 0, 1) := by decide +kernel
theorem dX8_count_49 : decode cX8_count 49 = .ok (.getfield 26, 3) := by decide +kernel
theorem dX8_count_52 : decode cX8_count 52 = .ok (.getfield 122, 3) := by decide +kernel
theorem dX8_count_55 : decode cX8_count 55 = .ok (.ireturn, 1) := by decide +kernel
theorem dX8_count_56 : decode cX8_count 56 = .ok (.aload_n 0, 1) := by decide +kernel
theorem dX8_count_57 : decode cX8_count 57 = .ok (.getfield 26, 3) := by decide +kernel
theorem dX8_count_60 : decode cX8_count 60 = .ok (.getfield 125, 3) := by decide +kernel
theorem dX8_count_63 : decode cX8_count 63 = .ok (.ireturn, 1) := by decide +kernel
theorem dX8_count_64 : decode cX8_count 64 = .ok (.iconst (-1), 1) := by decide +kernel
theorem dX8_count_65 : decode cX8_count 65 = .ok (.ireturn, 1) := by decide +kernel
theorem dX9_init_0 : decode cX9_init 0 = .ok (.aload_n 0, 1) := by decide +kernel
theorem dX9_init_1 : decode cX9_init 1 = .ok (.invokespecial 1, 3) := by decide +kernel
theorem dX9_init_4 : decode cX9_init 4 = .ok (.aload_n 0, 1) := by decide +kernel
theorem dX9_init_5 : decode cX9_init 5 = .ok (.bipush 9, 2) := by decide +kernel
theorem dX9_init_7 : decode cX9_init 7 = .ok (.newarray .int, 2) := by decide +kernel
theorem dX9_init_9 : decode cX9_init 9 = .ok (.dup, 1) := by decide +kernel
theorem dX9_init_10 : decode cX9_init 10 = .ok (.iconst 0, 1) := by decide +kernel
theorem dX9_init_11 : decode cX9_init 11 = .ok (.iconst 1, 1) := by decide +kernel
theorem dX9_init_12 : decode cX9_init 12 = .ok (.iastore, 1) := by decide +kernel
theorem dX9_init_13 : decode cX9_init 13 = .ok (.dup, 1) := by decide +kernel
theorem dX9_init_14 : decode cX9_init 14 = .ok (.iconst 1, 1) := by decide +kernel
theorem dX9_init_15 : decode cX9_init 15 = .ok (.iconst 2, 1) := by decide +kernel
theorem dX9_init_16 : decode cX9_init 16 = .ok (.iastore, 1) := by decide +kernel
theorem dX9_init_17 : decode cX9_init 17 = .ok (.dup, 1) := by decide +kernel
theorem dX9_init_18 : decode cX9_init 18 = .ok (.iconst 2, 1) := by decide +kernel
theorem dX9_init_19 : decode cX9_init 19 = .ok (.iconst 1, 1) := by decide +kernel
theorem dX9_init_20 : decode cX9_init 20 = .ok (.iastore, 1) := by decide +kernel
theorem dX9_init_21 : decode cX9_init 21 = .ok (.dup, 1) := by decide +kernel
theorem dX9_init_22 : decode cX9_init 22 = .ok (.iconst 3, 1) := by decide +kernel
theorem dX9_init_23 : decode cX9_init 23 = .ok (.iconst 4, 1) := by decide +kernel
theorem dX9_init_24 : decode cX9_init 24 = .ok (.iastore, 1) := by decide +kernel
theorem dX9_init_25 : decode cX9_init 25 = .ok (.dup, 1) := by decide +kernel
theorem dX9_init_26 : decode cX9_init 26 = .ok (.iconst 4, 1) := by decide +kernel
theorem dX9_init_27 : decode cX9_init 27 = .ok (.bipush 20, 2) := by decide +kernel
theorem dX9_init_29 : decode cX9_init 29 = .ok (.iastore, 1) := by decide +kernel
theorem dX9_init_30 : decode cX9_init 30 = .ok (.dup, 1) := by decide +kernel
theorem dX9_init_31 : decode cX9_init 31 = .ok (.iconst 5, 1) := by decide +kernel
theorem dX9_init_32 : decode cX9_init 32 = .ok (.iconst 3, 1) := by decide +kernel
theorem dX9_init_33 : decode cX9_init 33 = .ok (.iastore, 1) := by decide +kernel
theorem dX9_init_34 : decode cX9_init 34 = .ok (.dup, 1) := by decide +kernel
theorem dX9_init_35 : decode cX9_init 35 = .ok (.bipush 6, 2) := by decide +kernel
theorem dX9_init_37 : decode cX9_init 37 = .ok (.bipush 15, 2) := by decide +kernel
theorem dX9_init_39 : decode cX9_init 39 = .ok (.iastore, 1) := by decide +kernel
theorem dX9_init_40 : decode cX9_init 40 = .ok (.dup, 1) := by decide +kernel
theorem dX9_init_41 : decode cX9_init 41 = .ok (.bipush 7, 2) := by decide +kernel
theorem dX9_init_43 : decode cX9_init 43 = .ok (.iconst 1, 1) := by decide +kernel
theorem dX9_init_44 : decode cX9_init 44 = .ok (.iastore, 1) := by decide +kernel
theorem dX9_init_45 : decode cX9_init 45 = .ok (.dup, 1) := by decide +kernel
theorem dX9_init_46 : decode cX9_init 46 = .ok (.bipush 8, 2) := by decide +kernel
theorem dX9_init_48 : decode cX9_init 48 = .ok (.iconst 1, 1) := by decide +kernel
theorem dX9_init_49 : decode cX9_init 49 = .ok (.iastore, 1) := by decide +kernel
theorem dX9_init_50 : decode cX9_init 50 = .ok (.putfield 7, 3) := by decide +kernel
theorem dX9_init_53 : decode cX9_init 53 = .ok (.aload_n 0, 1) := by decide +kernel
theorem dX9_init_54 : decode cX9_init 54 = .ok (.bipush 40, 2) := by decide +kernel
theorem dX9_init_56 : decode cX9_init 56 = .ok (.newarray .int, 2) := by decide +kernel
theorem dX9_init_58 : decode cX9_init 58 = .ok (.putfield 13, 3) := by decide +kernel
theorem dX9_init_61 : decode cX9_init 61 = .ok (.aload_n 0, 1) := by decide +kernel
theorem dX9_init_62 : decode cX9_init 62 = .ok (.bipush 40, 2) := by decide +kernel
theorem dX9_init_64 : decode cX9_init 64 = .ok (.newarray .int, 2) := by decide +kernel
theorem dX9_init_66 : decode cX9_init 66 = .ok (.putfield 16, 3) := by decide +kernel
theorem dX9_init_69 : decode cX9_init 69 = .ok (.aload_n 0, 1) := by decide +kernel
theorem dX9_init_70 : decode cX9_init 70 = .ok (.bipush 40, 2) := by decide +kernel
theorem dX9_init_72 : decode cX9_init 72 = .ok (.newarray .int, 2) := by decide +kernel
theorem dX9_init_74 : decode cX9_init 74 = .ok (.putfield 19, 3) := by decide +kernel
theorem dX9_init_77 : decode cX9_init 77 = .ok (.aload_n 0, 1) := by decide +kernel
theorem dX9_init_78 : decode cX9_init 78 = .ok (.bipush 40, 2) := by decide +kernel
theorem dX9_init_80 : decode cX9_init 80 = .ok (.newarray .int, 2) := by decide +kernel
theorem dX9_init_82 : decode cX9_init 82 = .ok (.putfield 22, 3) := by decide +kernel
theorem dX9_init_85 : decode cX9_init 85 = .ok (.aload_n 0, 1) := by decide +kernel
theorem dX9_init_86 : decode cX9_init 86 = .ok (.bipush 40, 2) := by decide +kernel
theorem dX9_init_88 : decode cX9_init 88 = .ok (.newarray .long, 2) := by decide +kernel
theorem dX9_init_90 : decode cX9_init 90 = .ok (.putfield 25, 3) := by decide +kernel
theorem dX9_init_93 : decode cX9_init 93 = .ok (.aload_n 0, 1) := by decide +kernel
theorem dX9_init_94 : decode cX9_init 94 = .ok (.bipush 40, 2) := by decide +kernel
theorem dX9_init_96 : decode cX9_init 96 = .ok (.newarray .long, 2) := by decide +kernel
theorem dX9_init_98 : decode cX9_init 98 = .ok (.putfield 29, 3) := by decide +kernel
theorem dX9_init_101 : decode cX9_init 101 = .ok (.aload_n 0, 1) := by decide +kernel
theorem dX9_init_102 : decode cX9_init 102 = .ok (.bipush 40, 2) := by decide +kernel
theorem dX9_init_104 : decode cX9_init 104 = .ok (.newarray .boolean, 2) := by decide +kernel
theorem dX9_init_106 : decode cX9_init 106 = .ok (.putfield 32, 3) := by decide +kernel
theorem dX9_init_109 : decode cX9_init 109 = .ok (.aload_n 0, 1) := by decide +kernel
theorem dX9_init_110 : decode cX9_init 110 = .ok (.bipush 41, 2) := by decide +kernel
theorem dX9_init_112 : decode cX9_init 112 = .ok (.newarray .int, 2) := by decide +kernel
theorem dX9_init_114 : decode cX9_init 114 = .ok (.putfield 36, 3) := by decide +kernel
theorem dX9_init_117 : decode cX9_init 117 = .ok (.aload_n 0, 1) := by decide +kernel
theorem dX9_init_118 : decode cX9_init 118 = .ok (.bipush 41, 2) := by decide +kernel
theorem dX9_init_120 : decode cX9_init 120 = .ok (.newarray .int, 2) := by decide +kernel
theorem dX9_init_122 : decode cX9_init 122 = .ok (.putfield 39, 3) := by decide +kernel
theorem dX9_init_125 : decode cX9_init 125 = .ok (.aload_n 0, 1) := by decide +kernel
theorem dX9_init_126 : decode cX9_init 126 = .ok (.bipush 40, 2) := by decide +kernel
theorem dX9_init_128 : decode cX9_init 128 = .ok (.newarray .int, 2) := by decide +kernel
theorem dX9_init_130 : decode cX9_init 130 = .ok (.putfield 42, 3) := by decide +kernel
theorem dX9_init_133 : decode cX9_init 133 = .ok (.aload_n 0, 1) := by decide +kernel
theorem dX9_init_134 : decode cX9_init 134 = .ok (.bipush 41, 2) := by decide +kernel
theorem dX9_init_136 : decode cX9_init 136 = .ok (.newarray .int, 2) := by decide +kernel
theorem dX9_init_138 : decode cX9_init 138 = .ok (.putfield 45, 3) := by decide +kernel
theorem dX9_init_141 : decode cX9_init 141 = .ok (.aload_n 0, 1) := by decide +kernel
theorem dX9_init_142 : decode cX9_init 142 = .ok (.bipush 40, 2) := by decide +kernel
theorem dX9_init_144 : decode cX9_init 144 = .ok (.newarray .int, 2) := by decide +kernel
theorem dX9_init_146 : decode cX9_init 146 = .ok (.putfield 48, 3) := by decide +kernel
theorem dX9_init_149 : decode cX9_init 149 = .ok (.aload_n 0, 1) := by decide +kernel
theorem dX9_init_150 : decode cX9_init 150 = .ok (.bipush 41, 2) := by decide +kernel
theorem dX9_init_152 : decode cX9_init 152 = .ok (.newarray .int, 2) := by decide +kernel
theorem dX9_init_154 : decode cX9_init 154 = .ok (.putfield 51, 3) := by decide +kernel
theorem dX9_init_157 : decode cX9_init 157 = .ok (.return_, 1) := by decide +kernel
theorem dX9_thrown_0 : decode cX9_thrown 0 = .ok (.aload_n 0, 1) := by decide +kernel
theorem dX9_thrown_1 : decode cX9_thrown 1 = .ok (.getfield 54, 3) := by decide +kernel
theorem dX9_thrown_4 : decode cX9_thrown 4 = .ok (.ireturn, 1) := by decide +kernel
theorem dX9_fail_0 : decode cX9_fail 0 = .ok (.aload_n 0, 1) := by decide +kernel
theorem dX9_fail_1 : decode cX9_fail 1 = .ok (.iload_n 1, 1) := by decide +kernel
theorem dX9_fail_2 : decode cX9_fail 2 = .ok (.putfield 54, 3) := by decide +kernel
theorem dX9_fail_5 : decode cX9_fail 5 = .ok (.iconst 0, 1) := by decide +kernel
theorem dX9_fail_6 : decode cX9_fail 6 = .ok (.ireturn, 1) := by decide +kernel
theorem dX9_field_0 : decode cX9_field 0 = .ok (.aload_n 0, 1) := by decide +kernel
theorem dX9_field_1 : decode cX9_field 1 = .ok (.getfield 58, 3) := by decide +kernel
theorem dX9_field_4 : decode cX9_field 4 = .ok (.iload_n 1, 1) := by decide +kernel
theorem dX9_field_5 : decode cX9_field 5 = .ok (.iushr, 1) := by decide +kernel
theorem dX9_field_6 : decode cX9_field 6 = .ok (.bipush 31, 2) := by decide +kernel
theorem dX9_field_8 : decode cX9_field 8 = .ok (.iand, 1) := by decide +kernel
theorem dX9_field_9 : decode cX9_field 9 = .ok (.ireturn, 1) := by decide +kernel
theorem dX9_register_0 : decode cX9_register 0 = .ok (.iload_n 0, 1) := by decide +kernel
theorem dX9_register_1 : decode cX9_register 1 = .ok (.ifCond .ne 7, 3) := by decide +kernel
theorem dX9_register_4 : decode cX9_register 4 = .ok (.lconst 0, 1) := by decide +kernel
theorem dX9_register_5 : decode cX9_register 5 = .ok (.goto 6, 3) := by decide +kernel
theorem dX9_register_8 : decode cX9_register 8 = .ok (.lconst 1, 1) := by decide +kernel
theorem dX9_register_9 : decode cX9_register 9 = .ok (.iload_n 0, 1) := by decide +kernel
theorem dX9_register_10 : decode cX9_register 10 = .ok (.lshl, 1) := by decide +kernel
theorem dX9_register_11 : decode cX9_register 11 = .ok (.lreturn, 1) := by decide +kernel
set_option maxRecDepth 20000 in
theorem ggX9_s_X9_field : GoodIn wsX9_s wsX9_field := goodIn_r _ [5, 6, 10, 11, 12, 13, 14, 15, 16, 17, 18, 19, 20, 21, 22, 23, 24, 25, 26, 27, 28, 29, 30, 31, 32, 33, 34, 35] (by decide +kernel) (by decide +kernel)
set_option maxRecDepth 20000 in
theorem gX9_s_X9_field : GoodIn wsX9_s (wsV RX9 61 RX9 yX9_field wsX9_field) := goodIn_app (goodIn_of _ (by decide +kernel)) ggX9_s_X9_field
set_option maxRecDepth 20000 in
theorem ggX9_s_X9_register : GoodIn wsX9_s wsX9_register := goodIn_r _ [9] (by decide +kernel) (by decide +kernel)
set_option maxRecDepth 20000 in
theorem gX9_s_X9_register : GoodIn wsX9_s (va_wsS RX9 65 yX9_register wsX9_register) := goodIn_app (goodIn_of _ (by decide +kernel)) ggX9_s_X9_register
theorem dX9_s_0 : decode cX9_s 0 = .ok (.aload_n 0, 1) := by decide +kernel
theorem dX9_s_1 : decode cX9_s 1 = .ok (.bipush 21, 2) := by decide +kernel
theorem dX9_s_3 : decode cX9_s 3 = .ok (.invokevirtual 61, 3) := by decide +kernel
theorem dX9_s_6 : decode cX9_s 6 = .ok (.invokestatic 65, 3) := by decide +kernel
theorem dX9_s_9 : decode cX9_s 9 = .ok (.lreturn, 1) := by decide +kernel
set_option maxRecDepth 20000 in
theorem ggX9_t_X9_field : GoodIn wsX9_t wsX9_field := goodIn_r _ [5, 6, 10, 11, 12, 13, 14, 15, 16, 17, 18, 19, 20, 21, 22, 23, 24, 25, 26, 27, 28, 29, 30, 31, 32, 33, 34, 35] (by decide +kernel) (by decide +kernel)
set_option maxRecDepth 20000 in
theorem gX9_t_X9_field : GoodIn wsX9_t (wsV RX9 61 RX9 yX9_field wsX9_field) := goodIn_app (goodIn_of _ (by decide +kernel)) ggX9_t_X9_field
set_option maxRecDepth 20000 in
theorem ggX9_t_X9_register : GoodIn wsX9_t wsX9_register := goodIn_r _ [9] (by decide +kernel) (by decide +kernel)
set_option maxRecDepth 20000 in
theorem gX9_t_X9_register : GoodIn wsX9_t (va_wsS RX9 65 yX9_register wsX9_register) := goodIn_app (goodIn_of _ (by decide +kernel)) ggX9_t_X9_register
theorem dX9_t_0 : decode cX9_t 0 = .ok (.aload_n 0, 1) := by decide +kernel
theorem dX9_t_1 : decode cX9_t 1 = .ok (.bipush 16, 2) := by decide +kernel
theorem dX9_t_3 : decode cX9_t 3 = .ok (.invokevirtual 61, 3) := by decide +kernel
theorem dX9_t_6 : decode cX9_t 6 = .ok (.invokestatic 65, 3) := by decide +kernel
theorem dX9_t_9 : decode cX9_t 9 = .ok (.lreturn, 1) := by decide +kernel
set_option maxRecDepth 20000 in
theorem ggX9_d_X9_field : GoodIn wsX9_d wsX9_field := goodIn_r _ [5, 6, 10, 11, 12, 13, 14, 15, 16, 17, 18, 19, 20, 21, 22, 23, 24, 25, 26, 27, 28, 29, 30, 31, 32, 33, 34, 35] (by decide +kernel) (by decide +kernel)
set_option maxRecDepth 20000 in
theorem gX9_d_X9_field : GoodIn wsX9_d (wsV RX9 61 RX9 yX9_field wsX9_field) := goodIn_app (goodIn_of _ (by decide +kernel)) ggX9_d_X9_field
set_option maxRecDepth 20000 in
theorem ggX9_d_X9_register : GoodIn wsX9_d wsX9_register := goodIn_r _ [9] (by decide +kernel) (by decide +kernel)
set_option maxRecDepth 20000 in
theorem gX9_d_X9_register : GoodIn wsX9_d (va_wsS RX9 65 yX9_register wsX9_register) := goodIn_app (goodIn_of _ (by decide +kernel)) ggX9_d_X9_register
theorem dX9_d_0 : decode cX9_d 0 = .ok (.aload_n 0, 1) := by decide +kernel
theorem dX9_d_1 : decode cX9_d 1 = .ok (.bipush 11, 2) := by decide +kernel
theorem dX9_d_3 : decode cX9_d 3 = .ok (.invokevirtual 61, 3) := by decide +kernel
theorem dX9_d_6 : decode cX9_d 6 = .ok (.invokestatic 65, 3) := by decide +kernel
theorem dX9_d_9 : decode cX9_d 9 = .ok (.lreturn, 1) := by decide +kernel
theorem dX9_is_0 : decode cX9_is 0 = .ok (.aload_n 0, 1) := by decide +kernel
theorem dX9_is_1 : decode cX9_is 1 = .ok (.iload_n 1, 1) := by decide +kernel
theorem dX9_is_2 : decode cX9_is 2 = .ok (.putfield 69, 3) := by decide +kernel
theorem dX9_is_5 : decode cX9_is 5 = .ok (.aload_n 0, 1) := by decide +kernel
theorem dX9_is_6 : decode cX9_is 6 = .ok (.lload_n 2, 1) := by decide +kernel
theorem dX9_is_7 : decode cX9_is 7 = .ok (.putfield 72, 3) := by decide +kernel
theorem dX9_is_10 : decode cX9_is 10 = .ok (.aload_n 0, 1) := by decide +kernel
theorem dX9_is_11 : decode cX9_is 11 = .ok (.lload 4, 2) := by decide +kernel
theorem dX9_is_13 : decode cX9_is 13 = .ok (.putfield 76, 3) := by decide +kernel
theorem dX9_is_16 : decode cX9_is 16 = .ok (.return_, 1) := by decide +kernel
theorem dX9_also_0 : decode cX9_also 0 = .ok (.aload_n 0, 1) := by decide +kernel
theorem dX9_also_1 : decode cX9_also 1 = .ok (.iload_n 1, 1) := by decide +kernel
theorem dX9_also_2 : decode cX9_also 2 = .ok (.putfield 79, 3) := by decide +kernel
theorem dX9_also_5 : decode cX9_also 5 = .ok (.aload_n 0, 1) := by decide +kernel
theorem dX9_also_6 : decode cX9_also 6 = .ok (.iload_n 2, 1) := by decide +kernel
theorem dX9_also_7 : decode cX9_also 7 = .ok (.putfield 82, 3) := by decide +kernel
theorem dX9_also_10 : decode cX9_also 10 = .ok (.return_, 1) := by decide +kernel
theorem dX9_fraction_0 : decode cX9_fraction 0 = .ok (.iload_n 2, 1) := by decide +kernel
theorem dX9_fraction_1 : decode cX9_fraction 1 = .ok (.ifCond .eq 15, 3) := by decide +kernel
theorem dX9_fraction_4 : decode cX9_fraction 4 = .ok (.iload_n 1, 1) := by decide +kernel
theorem dX9_fraction_5 : decode cX9_fraction 5 = .ok (.iconst 1, 1) := by decide +kernel
theorem dX9_fraction_6 : decode cX9_fraction 6 = .ok (.iand, 1) := by decide +kernel
theorem dX9_fraction_7 : decode cX9_fraction 7 = .ok (.iconst 1, 1) := by decide +kernel
theorem dX9_fraction_8 : decode cX9_fraction 8 = .ok (.if_icmp .ne 8, 3) := by decide +kernel
theorem dX9_fraction_11 : decode cX9_fraction 11 = .ok (.aload_n 0, 1) := by decide +kernel
theorem dX9_fraction_12 : decode cX9_fraction 12 = .ok (.iconst (-1), 1) := by decide +kernel
theorem dX9_fraction_13 : decode cX9_fraction 13 = .ok (.putfield 69, 3) := by decide +kernel
theorem dX9_fraction_16 : decode cX9_fraction 16 = .ok (.iload_n 2, 1) := by decide +kernel
theorem dX9_fraction_17 : decode cX9_fraction 17 = .ok (.ifCond .eq 9, 3) := by decide +kernel
theorem dX9_fraction_20 : decode cX9_fraction 20 = .ok (.ldc2_w 85, 3) := by decide +kernel
theorem dX9_fraction_23 : decode cX9_fraction 23 = .ok (.goto 4, 3) := by decide +kernel
theorem dX9_fraction_26 : decode cX9_fraction 26 = .ok (.lconst 1, 1) := by decide +kernel
theorem dX9_fraction_27 : decode cX9_fraction 27 = .ok (.bipush 32, 2) := by decide +kernel
theorem dX9_fraction_29 : decode cX9_fraction 29 = .ok (.iload_n 1, 1) := by decide +kernel
theorem dX9_fraction_30 : decode cX9_fraction 30 = .ok (.iadd, 1) := by decide +kernel
theorem dX9_fraction_31 : decode cX9_fraction 31 = .ok (.lshl, 1) := by decide +kernel
theorem dX9_fraction_32 : decode cX9_fraction 32 = .ok (.lreturn, 1) := by decide +kernel
set_option maxRecDepth 20000 in
theorem ggX9_look_X9_also : GoodIn wsX9_look wsX9_also := goodIn_r _ [10, 11, 12, 73, 74, 75, 76, 77, 78, 79, 80, 81, 82, 83, 84, 85, 86, 87, 88, 89, 90, 91, 92, 93, 94, 95, 96, 97, 98] (by decide +kernel) (by decide +kernel)
set_option maxRecDepth 20000 in
theorem gX9_look_X9_also : GoodIn wsX9_look (wsV RX9 91 RX9 yX9_also wsX9_also) := goodIn_app (goodIn_of _ (by decide +kernel)) ggX9_look_X9_also
set_option maxRecDepth 20000 in
theorem ggX9_look_X9_special : GoodIn wsX9_look wsX9_special := goodIn_r _ [16, 17, 18, 19, 9, 20, 21, 22, 23, 24, 1, 25, 26, 27, 28, 29, 30, 31, 32, 33, 34, 35, 2, 3, 4, 36, 37, 38, 39, 6, 7, 8, 10, 11, 12, 73, 74, 75, 76, 77, 78, 79, 80, 81, 82, 83, 84, 85, 86, 87, 88, 89, 90, 91, 92, 93, 94, 95, 96, 97, 98] (by decide +kernel) (by decide +kernel)
set_option maxRecDepth 20000 in
theorem gX9_look_X9_special : GoodIn wsX9_look (wsV RX9 95 RX9 yX9_special wsX9_special) := goodIn_app (goodIn_of _ (by decide +kernel)) ggX9_look_X9_special
set_option maxRecDepth 20000 in
theorem ggX9_look_X9_field : GoodIn wsX9_look wsX9_field := goodIn_r _ [24, 1, 73, 74, 75, 76, 77, 78, 79, 80, 81, 82, 83, 84, 85, 86, 87, 88, 89, 90, 91, 92, 93, 94, 95, 96, 97, 98] (by decide +kernel) (by decide +kernel)
set_option maxRecDepth 20000 in
theorem gX9_look_X9_field : GoodIn wsX9_look (wsV RX9 61 RX9 yX9_field wsX9_field) := goodIn_app (goodIn_of _ (by decide +kernel)) ggX9_look_X9_field
set_option maxRecDepth 20000 in
theorem ggX9_look_X9_immediate : GoodIn wsX9_look wsX9_immediate := goodIn_r _ [43, 5, 36, 37, 38, 9, 39, 21, 22, 23, 24, 1, 25, 26, 27, 32, 33, 34, 35, 2, 3, 4, 73, 74, 75, 76, 77, 78, 79, 80, 81, 82, 83, 84, 85, 86, 87, 88, 89, 90, 91, 92, 93, 94, 95, 96, 97, 98] (by decide +kernel) (by decide +kernel)
set_option maxRecDepth 20000 in
theorem gX9_look_X9_immediate : GoodIn wsX9_look (wsV RX9 99 RX9 yX9_immediate wsX9_immediate) := goodIn_app (goodIn_of _ (by decide +kernel)) ggX9_look_X9_immediate
set_option maxRecDepth 20000 in
theorem ggX9_look_X9_branch : GoodIn wsX9_look wsX9_branch := goodIn_r _ [47, 5, 25, 26, 9, 27, 32, 33, 34, 35, 2, 3, 4, 36, 37, 38, 39, 21, 22, 23, 24, 1, 17, 18, 19, 20, 73, 74, 75, 76, 77, 78, 79, 80, 81, 82, 83, 84, 85, 86, 87, 88, 89, 90, 91, 92, 93, 94, 95, 96, 97, 98] (by decide +kernel) (by decide +kernel)
set_option maxRecDepth 20000 in
theorem gX9_look_X9_branch : GoodIn wsX9_look (wsV RX9 102 RX9 yX9_branch wsX9_branch) := goodIn_app (goodIn_of _ (by decide +kernel)) ggX9_look_X9_branch
set_option maxRecDepth 20000 in
theorem ggX9_look_X9_number : GoodIn wsX9_look wsX9_number := goodIn_r _ [51, 32, 33, 34, 9, 35, 2, 3, 4, 36, 37, 38, 39, 21, 22, 23, 24, 1, 25, 26, 27, 17, 18, 19, 20, 73, 74, 75, 76, 77, 78, 79, 80, 81, 82, 83, 84, 85, 86, 87, 88, 89, 90, 91, 92, 93, 94, 95, 96, 97, 98] (by decide +kernel) (by decide +kernel)
set_option maxRecDepth 20000 in
theorem gX9_look_X9_number : GoodIn wsX9_look (wsV RX9 105 RX9 yX9_number wsX9_number) := goodIn_app (goodIn_of _ (by decide +kernel)) ggX9_look_X9_number
set_option maxRecDepth 20000 in
theorem ggX9_look_X9_fractions : GoodIn wsX9_look wsX9_fractions := goodIn_r _ [55, 1, 5, 4, 21, 22, 23, 9, 24, 17, 18, 19, 20, 25, 26, 27, 32, 33, 34, 35, 2, 3, 6, 7, 8, 10, 11, 12, 56, 57, 58, 59, 60, 61, 62, 63, 64, 73, 74, 75, 76, 77, 78, 79, 80, 81, 82, 83, 84, 85, 86, 87, 88, 89, 90, 91, 92, 93, 94, 95, 96, 97, 98] (by decide +kernel) (by decide +kernel)
set_option maxRecDepth 20000 in
theorem gX9_look_X9_fractions : GoodIn wsX9_look (wsV RX9 108 RX9 yX9_fractions wsX9_fractions) := goodIn_app (goodIn_of _ (by decide +kernel)) ggX9_look_X9_fractions
set_option maxRecDepth 20000 in
theorem ggX9_look_X9_second : GoodIn wsX9_look wsX9_second := goodIn_r _ [68, 36, 37, 38, 9, 39, 21, 22, 23, 24, 1, 25, 26, 27, 28, 29, 30, 31, 32, 33, 34, 35, 2, 3, 4, 17, 18, 19, 20, 6, 7, 8, 10, 11, 12, 73, 74, 75, 76, 77, 78, 79, 80, 81, 82, 83, 84, 85, 86, 87, 88, 89, 90, 91, 92, 93, 94, 95, 96, 97, 98] (by decide +kernel) (by decide +kernel)
set_option maxRecDepth 20000 in
theorem gX9_look_X9_second : GoodIn wsX9_look (wsV RX9 111 RX9 yX9_second wsX9_second) := goodIn_app (goodIn_of _ (by decide +kernel)) ggX9_look_X9_second
set_option maxRecDepth 20000 in
theorem ggX9_look_X9_memory : GoodIn wsX9_look wsX9_memory := goodIn_r _ [72, 4, 3, 21, 22, 23, 9, 24, 1, 36, 37, 38, 39, 25, 26, 27, 17, 18, 19, 20, 32, 33, 34, 35, 2, 60, 61, 62, 63, 64, 73, 74, 75, 76, 77, 78, 79, 80, 81, 82, 83, 84, 85, 86, 87, 88, 89, 90, 91, 92, 93, 94, 95, 96, 97, 98] (by decide +kernel) (by decide +kernel)
set_option maxRecDepth 20000 in
theorem gX9_look_X9_memory : GoodIn wsX9_look (wsV RX9 114 RX9 yX9_memory wsX9_memory) := goodIn_app (goodIn_of _ (by decide +kernel)) ggX9_look_X9_memory
theorem dX9_look_0 : decode cX9_look 0 = .ok (.aload_n 0, 1) := by decide +kernel
theorem dX9_look_1 : decode cX9_look 1 = .ok (.iload_n 1, 1) := by decide +kernel
theorem dX9_look_2 : decode cX9_look 2 = .ok (.putfield 58, 3) := by decide +kernel
theorem dX9_look_5 : decode cX9_look 5 = .ok (.aload_n 0, 1) := by decide +kernel
theorem dX9_look_6 : decode cX9_look 6 = .ok (.iconst (-1), 1) := by decide +kernel
theorem dX9_look_7 : decode cX9_look 7 = .ok (.putfield 69, 3) := by decide +kernel
theorem dX9_look_10 : decode cX9_look 10 = .ok (.aload_n 0, 1) := by decide +kernel
theorem dX9_look_11 : decode cX9_look 11 = .ok (.lconst 0, 1) := by decide +kernel
theorem dX9_look_12 : decode cX9_look 12 = .ok (.putfield 72, 3) := by decide +kernel
theorem dX9_look_15 : decode cX9_look 15 = .ok (.aload_n 0, 1) := by decide +kernel
theorem dX9_look_16 : decode cX9_look 16 = .ok (.lconst 0, 1) := by decide +kernel
theorem dX9_look_17 : decode cX9_look 17 = .ok (.putfield 76, 3) := by decide +kernel
theorem dX9_look_20 : decode cX9_look 20 = .ok (.aload_n 0, 1) := by decide +kernel
theorem dX9_look_21 : decode cX9_look 21 = .ok (.iconst 0, 1) := by decide +kernel
theorem dX9_look_22 : decode cX9_look 22 = .ok (.putfield 87, 3) := by decide +kernel
theorem dX9_look_25 : decode cX9_look 25 = .ok (.aload_n 0, 1) := by decide +kernel
theorem dX9_look_26 : decode cX9_look 26 = .ok (.iconst 0, 1) := by decide +kernel
theorem dX9_look_27 : decode cX9_look 27 = .ok (.iconst 0, 1) := by decide +kernel
theorem dX9_look_28 : decode cX9_look 28 = .ok (.invokevirtual 91, 3) := by decide +kernel
theorem dX9_look_31 : decode cX9_look 31 = .ok (.aload_n 0, 1) := by decide +kernel
theorem dX9_look_32 : decode cX9_look 32 = .ok (.getfield 58, 3) := by decide +kernel
theorem dX9_look_35 : decode cX9_look 35 = .ok (.bipush 26, 2) := by decide +kernel
theorem dX9_look_37 : decode cX9_look 37 = .ok (.iushr, 1) := by decide +kernel
theorem dX9_look_38 : decode cX9_look 38 = .ok (.istore_n 2, 1) := by decide +kernel
theorem dX9_look_39 : decode cX9_look 39 = .ok (.iload_n 2, 1) := by decide +kernel
theorem dX9_look_40 : decode cX9_look 40 = .ok (.ifCond .ne 17, 3) := by decide +kernel
theorem dX9_look_43 : decode cX9_look 43 = .ok (.aload_n 0, 1) := by decide +kernel
theorem dX9_look_44 : decode cX9_look 44 = .ok (.aload_n 0, 1) := by decide +kernel
theorem dX9_look_45 : decode cX9_look 45 = .ok (.getfield 58, 3) := by decide +kernel
theorem dX9_look_48 : decode cX9_look 48 = .ok (.bipush 63, 2) := by decide +kernel
theorem dX9_look_50 : decode cX9_look 50 = .ok (.iand, 1) := by decide +kernel
theorem dX9_look_51 : decode cX9_look 51 = .ok (.invokevirtual 95, 3) := by decide +kernel
theorem dX9_look_54 : decode cX9_look 54 = .ok (.goto 105, 3) := by decide +kernel
theorem dX9_look_57 : decode cX9_look 57 = .ok (.iload_n 2, 1) := by decide +kernel
theorem dX9_look_58 : decode cX9_look 58 = .ok (.iconst 1, 1) := by decide +kernel
theorem dX9_look_59 : decode cX9_look 59 = .ok (.if_icmp .ne 16, 3) := by decide +kernel
theorem dX9_look_62 : decode cX9_look 62 = .ok (.aload_n 0, 1) := by decide +kernel
theorem dX9_look_63 : decode cX9_look 63 = .ok (.aload_n 0, 1) := by decide +kernel
theorem dX9_look_64 : decode cX9_look 64 = .ok (.bipush 16, 2) := by decide +kernel
theorem dX9_look_66 : decode cX9_look 66 = .ok (.invokevirtual 61, 3) := by decide +kernel
theorem dX9_look_69 : decode cX9_look 69 = .ok (.invokevirtual 99, 3) := by decide +kernel
theorem dX9_look_72 : decode cX9_look 72 = .ok (.goto 87, 3) := by decide +kernel
theorem dX9_look_75 : decode cX9_look 75 = .ok (.iload_n 2, 1) := by decide +kernel
theorem dX9_look_76 : decode cX9_look 76 = .ok (.bipush 8, 2) := by decide +kernel
theorem dX9_look_78 : decode cX9_look 78 = .ok (.if_icmp .lt 15, 3) := by decide +kernel
theorem dX9_look_81 : decode cX9_look 81 = .ok (.iload_n 2, 1) := by decide +kernel
theorem dX9_look_82 : decode cX9_look 82 = .ok (.bipush 20, 2) := by decide +kernel
theorem dX9_look_84 : decode cX9_look 84 = .ok (.if_icmp .lt 17, 3) := by decide +kernel
theorem dX9_look_87 : decode cX9_look 87 = .ok (.iload_n 2, 1) := by decide +kernel
theorem dX9_look_88 : decode cX9_look 88 = .ok (.bipush 24, 2) := by decide +kernel
theorem dX9_look_90 : decode cX9_look 90 = .ok (.if_icmp .ge 11, 3) := by decide +kernel
theorem dX9_look_93 : decode cX9_look 93 = .ok (.aload_n 0, 1) := by decide +kernel
theorem dX9_look_94 : decode cX9_look 94 = .ok (.iload_n 2, 1) := by decide +kernel
theorem dX9_look_95 : decode cX9_look 95 = .ok (.invokevirtual 102, 3) := by decide +kernel
theorem dX9_look_98 : decode cX9_look 98 = .ok (.goto 61, 3) := by decide +kernel
theorem dX9_look_101 : decode cX9_look 101 = .ok (.iload_n 2, 1) := by decide +kernel
theorem dX9_look_102 : decode cX9_look 102 = .ok (.bipush 16, 2) := by decide +kernel
theorem dX9_look_104 : decode cX9_look 104 = .ok (.if_icmp .ge 11, 3) := by decide +kernel
theorem dX9_look_107 : decode cX9_look 107 = .ok (.aload_n 0, 1) := by decide +kernel
theorem dX9_look_108 : decode cX9_look 108 = .ok (.iload_n 2, 1) := by decide +kernel
theorem dX9_look_109 : decode cX9_look 109 = .ok (.invokevirtual 105, 3) := by decide +kernel
theorem dX9_look_112 : decode cX9_look 112 = .ok (.goto 47, 3) := by decide +kernel
theorem dX9_look_115 : decode cX9_look 115 = .ok (.iload_n 2, 1) := by decide +kernel
theorem dX9_look_116 : decode cX9_look 116 = .ok (.bipush 17, 2) := by decide +kernel
theorem dX9_look_118 : decode cX9_look 118 = .ok (.if_icmp .ne 10, 3) := by decide +kernel
theorem dX9_look_121 : decode cX9_look 121 = .ok (.aload_n 0, 1) := by decide +kernel
theorem dX9_look_122 : decode cX9_look 122 = .ok (.invokevirtual 108, 3) := by decide +kernel
theorem dX9_look_125 : decode cX9_look 125 = .ok (.goto 34, 3) := by decide +kernel
theorem dX9_look_128 : decode cX9_look 128 = .ok (.iload_n 2, 1) := by decide +kernel
theorem dX9_look_129 : decode cX9_look 129 = .ok (.bipush 28, 2) := by decide +kernel
theorem dX9_look_131 : decode cX9_look 131 = .ok (.if_icmp .ne 17, 3) := by decide +kernel
theorem dX9_look_134 : decode cX9_look 134 = .ok (.aload_n 0, 1) := by decide +kernel
theorem dX9_look_135 : decode cX9_look 135 = .ok (.aload_n 0, 1) := by decide +kernel
theorem dX9_look_136 : decode cX9_look 136 = .ok (.getfield 58, 3) := by decide +kernel
theorem dX9_look_139 : decode cX9_look 139 = .ok (.bipush 63, 2) := by decide +kernel
theorem dX9_look_141 : decode cX9_look 141 = .ok (.iand, 1) := by decide +kernel
theorem dX9_look_142 : decode cX9_look 142 = .ok (.invokevirtual 111, 3) := by decide +kernel
theorem dX9_look_145 : decode cX9_look 145 = .ok (.goto 14, 3) := by decide +kernel
theorem dX9_look_148 : decode cX9_look 148 = .ok (.iload_n 2, 1) := by decide +kernel
theorem dX9_look_149 : decode cX9_look 149 = .ok (.bipush 32, 2) := by decide +kernel
theorem dX9_look_151 : decode cX9_look 151 = .ok (.if_icmp .lt 8, 3) := by decide +kernel
theorem dX9_look_154 : decode cX9_look 154 = .ok (.aload_n 0, 1) := by decide +kernel
theorem dX9_look_155 : decode cX9_look 155 = .ok (.iload_n 2, 1) := by decide +kernel
theorem dX9_look_156 : decode cX9_look 156 = .ok (.invokevirtual 114, 3) := by decide +kernel
theorem dX9_look_159 : decode cX9_look 159 = .ok (.return_, 1) := by decide +kernel
set_option maxRecDepth 20000 in
theorem ggX9_special_X9_t : GoodIn wsX9_special wsX9_t := goodIn_r _ [5, 6, 7, 8, 4, 9, 10, 11, 12, 13, 35, 36, 37, 38, 39, 40, 41, 42, 43, 44, 45, 46, 47, 48, 49, 50, 51, 52, 53, 54, 55, 56, 57, 58, 59, 60] (by decide +kernel) (by decide +kernel)
set_option maxRecDepth 20000 in
theorem gX9_special_X9_t : GoodIn wsX9_special (wsV RX9 117 RX9 yX9_t wsX9_t) := goodIn_app (goodIn_of _ (by decide +kernel)) ggX9_special_X9_t
set_option maxRecDepth 20000 in
theorem ggX9_special_X9_d : GoodIn wsX9_special wsX9_d := goodIn_r _ [17, 6, 7, 8, 4, 9, 10, 11, 12, 13, 35, 36, 37, 38, 39, 40, 41, 42, 43, 44, 45, 46, 47, 48, 49, 50, 51, 52, 53, 54, 55, 56, 57, 58, 59, 60] (by decide +kernel) (by decide +kernel)
set_option maxRecDepth 20000 in
theorem gX9_special_X9_d : GoodIn wsX9_special (wsV RX9 121 RX9 yX9_d wsX9_d) := goodIn_app (goodIn_of _ (by decide +kernel)) ggX9_special_X9_d
set_option maxRecDepth 20000 in
theorem ggX9_special_X9_is : GoodIn wsX9_special wsX9_is := goodIn_r _ [21, 22, 23, 24, 35, 36, 37, 38, 39, 40, 41, 42, 43, 44, 45, 46, 47, 48, 49, 50, 51, 52, 53, 54, 55, 56, 57, 58, 59, 60] (by decide +kernel) (by decide +kernel)
set_option maxRecDepth 20000 in
theorem gX9_special_X9_is : GoodIn wsX9_special (wsV RX9 124 RX9 yX9_is wsX9_is) := goodIn_app (goodIn_of _ (by decide +kernel)) ggX9_special_X9_is
set_option maxRecDepth 20000 in
theorem ggX9_special_X9_s : GoodIn wsX9_special wsX9_s := goodIn_r _ [28, 6, 7, 8, 4, 9, 10, 11, 12, 13, 35, 36, 37, 38, 39, 40, 41, 42, 43, 44, 45, 46, 47, 48, 49, 50, 51, 52, 53, 54, 55, 56, 57, 58, 59, 60] (by decide +kernel) (by decide +kernel)
set_option maxRecDepth 20000 in
theorem gX9_special_X9_s : GoodIn wsX9_special (wsV RX9 128 RX9 yX9_s wsX9_s) := goodIn_app (goodIn_of _ (by decide +kernel)) ggX9_special_X9_s
set_option maxRecDepth 20000 in
theorem ggX9_special_X9_also : GoodIn wsX9_special wsX9_also := goodIn_r _ [32, 33, 34, 35, 36, 37, 38, 39, 40, 41, 42, 43, 44, 45, 46, 47, 48, 49, 50, 51, 52, 53, 54, 55, 56, 57, 58, 59, 60] (by decide +kernel) (by decide +kernel)
set_option maxRecDepth 20000 in
theorem gX9_special_X9_also : GoodIn wsX9_special (wsV RX9 91 RX9 yX9_also wsX9_also) := goodIn_app (goodIn_of _ (by decide +kernel)) ggX9_special_X9_also
theorem dX9_special_0 : decode cX9_special 0 = .ok (.iload_n 1, 1) := by decide +kernel
theorem dX9_special_1 : decode cX9_special 1 = .ok (.ifCond .eq 13, 3) := by decide +kernel
theorem dX9_special_4 : decode cX9_special 4 = .ok (.iload_n 1, 1) := by decide +kernel
theorem dX9_special_5 : decode cX9_special 5 = .ok (.iconst 2, 1) := by decide +kernel
theorem dX9_special_6 : decode cX9_special 6 = .ok (.if_icmp .eq 8, 3) := by decide +kernel
theorem dX9_special_9 : decode cX9_special 9 = .ok (.iload_n 1, 1) := by decide +kernel
theorem dX9_special_10 : decode cX9_special 10 = .ok (.iconst 3, 1) := by decide +kernel
theorem dX9_special_11 : decode cX9_special 11 = .ok (.if_icmp .ne 19, 3) := by decide +kernel
theorem dX9_special_14 : decode cX9_special 14 = .ok (.aload_n 0, 1) := by decide +kernel
theorem dX9_special_15 : decode cX9_special 15 = .ok (.iconst 0, 1) := by decide +kernel
theorem dX9_special_16 : decode cX9_special 16 = .ok (.aload_n 0, 1) := by decide +kernel
theorem dX9_special_17 : decode cX9_special 17 = .ok (.invokevirtual 117, 3) := by decide +kernel
theorem dX9_special_20 : decode cX9_special 20 = .ok (.aload_n 0, 1) := by decide +kernel
theorem dX9_special_21 : decode cX9_special 21 = .ok (.invokevirtual 121, 3) := by decide +kernel
theorem dX9_special_24 : decode cX9_special 24 = .ok (.invokevirtual 124, 3) := by decide +kernel
theorem dX9_special_27 : decode cX9_special 27 = .ok (.goto 348, 3) := by decide +kernel
theorem dX9_special_30 : decode cX9_special 30 = .ok (.iload_n 1, 1) := by decide +kernel
theorem dX9_special_31 : decode cX9_special 31 = .ok (.iconst 1, 1) := by decide +kernel
theorem dX9_special_32 : decode cX9_special 32 = .ok (.if_icmp .ne 30, 3) := by decide +kernel
theorem dX9_special_35 : decode cX9_special 35 = .ok (.aload_n 0, 1) := by decide +kernel
theorem dX9_special_36 : decode cX9_special 36 = .ok (.iconst 0, 1) := by decide +kernel
theorem dX9_special_37 : decode cX9_special 37 = .ok (.aload_n 0, 1) := by decide +kernel
theorem dX9_special_38 : decode cX9_special 38 = .ok (.invokevirtual 128, 3) := by decide +kernel
theorem dX9_special_41 : decode cX9_special 41 = .ok (.aload_n 0, 1) := by decide +kernel
theorem dX9_special_42 : decode cX9_special 42 = .ok (.invokevirtual 121, 3) := by decide +kernel
theorem dX9_special_45 : decode cX9_special 45 = .ok (.lor, 1) := by decide +kernel
theorem dX9_special_46 : decode cX9_special 46 = .ok (.aload_n 0, 1) := by decide +kernel
theorem dX9_special_47 : decode cX9_special 47 = .ok (.invokevirtual 121, 3) := by decide +kernel
theorem dX9_special_50 : decode cX9_special 50 = .ok (.invokevirtual 124, 3) := by decide +kernel
theorem dX9_special_53 : decode cX9_special 53 = .ok (.aload_n 0, 1) := by decide +kernel
theorem dX9_special_54 : decode cX9_special 54 = .ok (.iconst 1, 1) := by decide +kernel
theorem dX9_special_55 : decode cX9_special 55 = .ok (.iconst 0, 1) := by decide +kernel
theorem dX9_special_56 : decode cX9_special 56 = .ok (.invokevirtual 91, 3) := by decide +kernel
theorem dX9_special_59 : decode cX9_special 59 = .ok (.goto 316, 3) := by decide +kernel
theorem dX9_special_62 : decode cX9_special 62 = .ok (.iload_n 1, 1) := by decide +kernel
theorem dX9_special_63 : decode cX9_special 63 = .ok (.iconst 4, 1) := by decide +kernel
theorem dX9_special_64 : decode cX9_special 64 = .ok (.if_icmp .eq 45, 3) := by decide +kernel
theorem dX9_special_67 : decode cX9_special 67 = .ok (.iload_n 1, 1) := by decide +kernel
theorem dX9_special_68 : decode cX9_special 68 = .ok (.bipush 6, 2) := by decide +kernel
theorem dX9_special_70 : decode cX9_special 70 = .ok (.if_icmp .eq 39, 3) := by decide +kernel
theorem dX9_special_73 : decode cX9_special 73 = .ok (.iload_n 1, 1) := by decide +kernel
theorem dX9_special_74 : decode cX9_special 74 = .ok (.bipush 7, 2) := by decide +kernel
theorem dX9_special_76 : decode cX9_special 76 = .ok (.if_icmp .eq 33, 3) := by decide +kernel
theorem dX9_special_79 : decode cX9_special 79 = .ok (.iload_n 1, 1) := by decide +kernel
theorem dX9_special_80 : decode cX9_special 80 = .ok (.bipush 33, 2) := by decide +kernel
theorem dX9_special_82 : decode cX9_special 82 = .ok (.if_icmp .eq 27, 3) := by decide +kernel
theorem dX9_special_85 : decode cX9_special 85 = .ok (.iload_n 1, 1) := by decide +kernel
theorem dX9_special_86 : decode cX9_special 86 = .ok (.bipush 35, 2) := by decide +kernel
theorem dX9_special_88 : decode cX9_special 88 = .ok (.if_icmp .lt 9, 3) := by decide +kernel
theorem dX9_special_91 : decode cX9_special 91 = .ok (.iload_n 1, 1) := by decide +kernel
theorem dX9_special_92 : decode cX9_special 92 = .ok (.bipush 40, 2) := by decide +kernel
theorem dX9_special_94 : decode cX9_special 94 = .ok (.if_icmp .lt 15, 3) := by decide +kernel
theorem dX9_special_97 : decode cX9_special 97 = .ok (.iload_n 1, 1) := by decide +kernel
theorem dX9_special_98 : decode cX9_special 98 = .ok (.bipush 42, 2) := by decide +kernel
theorem dX9_special_100 : decode cX9_special 100 = .ok (.if_icmp .eq 9, 3) := by decide +kernel
theorem dX9_special_103 : decode cX9_special 103 = .ok (.iload_n 1, 1) := by decide +kernel
theorem dX9_special_104 : decode cX9_special 104 = .ok (.bipush 43, 2) := by decide +kernel
theorem dX9_special_106 : decode cX9_special 106 = .ok (.if_icmp .ne 24, 3) := by decide +kernel
theorem dX9_special_109 : decode cX9_special 109 = .ok (.aload_n 0, 1) := by decide +kernel
theorem dX9_special_110 : decode cX9_special 110 = .ok (.iconst 0, 1) := by decide +kernel
theorem dX9_special_111 : decode cX9_special 111 = .ok (.aload_n 0, 1) := by decide +kernel
theorem dX9_special_112 : decode cX9_special 112 = .ok (.invokevirtual 128, 3) := by decide +kernel
theorem dX9_special_115 : decode cX9_special 115 = .ok (.aload_n 0, 1) := by decide +kernel
theorem dX9_special_116 : decode cX9_special 116 = .ok (.invokevirtual 117, 3) := by decide +kernel
theorem dX9_special_119 : decode cX9_special 119 = .ok (.lor, 1) := by decide +kernel
theorem dX9_special_120 : decode cX9_special 120 = .ok (.aload_n 0, 1) := by decide +kernel
theorem dX9_special_121 : decode cX9_special 121 = .ok (.invokevirtual 121, 3) := by decide +kernel
theorem dX9_special_124 : decode cX9_special 124 = .ok (.invokevirtual 124, 3) := by decide +kernel
theorem dX9_special_127 : decode cX9_special 127 = .ok (.goto 248, 3) := by decide +kernel
theorem dX9_special_130 : decode cX9_special 130 = .ok (.iload_n 1, 1) := by decide +kernel
theorem dX9_special_131 : decode cX9_special 131 = .ok (.bipush 8, 2) := by decide +kernel
theorem dX9_special_133 : decode cX9_special 133 = .ok (.if_icmp .ne 17, 3) := by decide +kernel
theorem dX9_special_136 : decode cX9_special 136 = .ok (.aload_n 0, 1) := by decide +kernel
theorem dX9_special_137 : decode cX9_special 137 = .ok (.bipush 7, 2) := by decide +kernel
theorem dX9_special_139 : decode cX9_special 139 = .ok (.aload_n 0, 1) := by decide +kernel
theorem dX9_special_140 : decode cX9_special 140 = .ok (.invokevirtual 128, 3) := by decide +kernel
theorem dX9_special_143 : decode cX9_special 143 = .ok (.lconst 0, 1) := by decide +kernel
theorem dX9_special_144 : decode cX9_special 144 = .ok (.invokevirtual 124, 3) := by decide +kernel
theorem dX9_special_147 : decode cX9_special 147 = .ok (.goto 228, 3) := by decide +kernel
theorem dX9_special_150 : decode cX9_special 150 = .ok (.iload_n 1, 1) := by decide +kernel
theorem dX9_special_151 : decode cX9_special 151 = .ok (.bipush 9, 2) := by decide +kernel
theorem dX9_special_153 : decode cX9_special 153 = .ok (.if_icmp .ne 20, 3) := by decide +kernel
theorem dX9_special_156 : decode cX9_special 156 = .ok (.aload_n 0, 1) := by decide +kernel
theorem dX9_special_157 : decode cX9_special 157 = .ok (.bipush 7, 2) := by decide +kernel
theorem dX9_special_159 : decode cX9_special 159 = .ok (.aload_n 0, 1) := by decide +kernel
theorem dX9_special_160 : decode cX9_special 160 = .ok (.invokevirtual 128, 3) := by decide +kernel
theorem dX9_special_163 : decode cX9_special 163 = .ok (.aload_n 0, 1) := by decide +kernel
theorem dX9_special_164 : decode cX9_special 164 = .ok (.invokevirtual 121, 3) := by decide +kernel
theorem dX9_special_167 : decode cX9_special 167 = .ok (.invokevirtual 124, 3) := by decide +kernel
theorem dX9_special_170 : decode cX9_special 170 = .ok (.goto 205, 3) := by decide +kernel
theorem dX9_special_173 : decode cX9_special 173 = .ok (.iload_n 1, 1) := by decide +kernel
theorem dX9_special_174 : decode cX9_special 174 = .ok (.bipush 10, 2) := by decide +kernel
theorem dX9_special_176 : decode cX9_special 176 = .ok (.if_icmp .eq 9, 3) := by decide +kernel
theorem dX9_special_179 : decode cX9_special 179 = .ok (.iload_n 1, 1) := by decide +kernel
theorem dX9_special_180 : decode cX9_special 180 = .ok (.bipush 11, 2) := by decide +kernel
theorem dX9_special_182 : decode cX9_special 182 = .ok (.if_icmp .ne 29, 3) := by decide +kernel
theorem dX9_special_185 : decode cX9_special 185 = .ok (.aload_n 0, 1) := by decide +kernel
theorem dX9_special_186 : decode cX9_special 186 = .ok (.iconst 0, 1) := by decide +kernel
theorem dX9_special_187 : decode cX9_special 187 = .ok (.aload_n 0, 1) := by decide +kernel
theorem dX9_special_188 : decode cX9_special 188 = .ok (.invokevirtual 128, 3) := by decide +kernel
theorem dX9_special_191 : decode cX9_special 191 = .ok (.aload_n 0, 1) := by decide +kernel

set_option maxRecDepth 20000 in
theorem ggX3_init_X1_init : GoodIn wsX3_init wsX1_init := goodIn_r _ [17, 18, 2, 3, 19, 20, 21, 22, 23, 24, 25, 35, 36, 37, 38, 39, 40] (by decide +kernel) (by decide +kernel)
set_option maxRecDepth 20000 in
theorem gX3_init_X1_init_n9 : GoodIn wsX3_init (wsX1_init) := ggX3_init_X1_init
set_option maxRecDepth 20000 in
theorem ggX3_init_X0_init : GoodIn wsX3_init wsX0_init := goodIn_r _ [27, 28, 2, 3, 19, 29, 30, 44, 45, 46] (by decide +kernel) (by decide +kernel)
set_option maxRecDepth 20000 in
theorem gX3_init_X0_init_n18 : GoodIn wsX3_init (wsX0_init) := ggX3_init_X0_init
set_option maxRecDepth 20000 in
theorem ggX3_init_X2_init : GoodIn wsX3_init wsX2_init := goodIn_r _ [32, 33, 2, 3, 24, 34, 47, 48] (by decide +kernel) (by decide +kernel)
set_option maxRecDepth 20000 in
theorem gX3_init_X2_init_n25 : GoodIn wsX3_init (wsX2_init) := ggX3_init_X2_init
theorem dX3_init_0 : decode cX3_init 0 = .ok (.aload_n 0, 1) := by decide +kernel
theorem dX3_init_1 : decode cX3_init 1 = .ok (.invokespecial 1, 3) := by decide +kernel
theorem dX3_init_4 : decode cX3_init 4 = .ok (.aload_n 0, 1) := by decide +kernel
theorem dX3_init_5 : decode cX3_init 5 = .ok (.new 7, 3) := by decide +kernel
theorem dX3_init_8 : decode cX3_init 8 = .ok (.dup, 1) := by decide +kernel
theorem dX3_init_9 : decode cX3_init 9 = .ok (.invokespecial 9, 3) := by decide +kernel
theorem dX3_init_12 : decode cX3_init 12 = .ok (.putfield 10, 3) := by decide +kernel
theorem dX3_init_15 : decode cX3_init 15 = .ok (.aload_n 0, 1) := by decide +kernel
theorem dX3_init_16 : decode cX3_init 16 = .ok (.new 16, 3) := by decide +kernel
theorem dX3_init_19 : decode cX3_init 19 = .ok (.dup, 1) := by decide +kernel
theorem dX3_init_20 : decode cX3_init 20 = .ok (.invokespecial 18, 3) := by decide +kernel
theorem dX3_init_23 : decode cX3_init 23 = .ok (.putfield 19, 3) := by decide +kernel
theorem dX3_init_26 : decode cX3_init 26 = .ok (.aload_n 0, 1) := by decide +kernel
theorem dX3_init_27 : decode cX3_init 27 = .ok (.new 23, 3) := by decide +kernel
theorem dX3_init_30 : decode cX3_init 30 = .ok (.dup, 1) := by decide +kernel
theorem dX3_init_31 : decode cX3_init 31 = .ok (.invokespecial 25, 3) := by decide +kernel
theorem dX3_init_34 : decode cX3_init 34 = .ok (.putfield 26, 3) := by decide +kernel
theorem dX3_init_37 : decode cX3_init 37 = .ok (.return_, 1) := by decide +kernel
set_option maxRecDepth 20000 in
theorem ggX3_step_X3_isWithin : GoodIn wsX3_step wsX3_isWithin := goodIn_r _ [7] (by decide +kernel) (by decide +kernel)
set_option maxRecDepth 20000 in
theorem gX3_step_X3_isWithin : GoodIn wsX3_step (va_wsS RX3 31 yX3_isWithin wsX3_isWithin) := goodIn_app (goodIn_of _ (by decide +kernel)) ggX3_step_X3_isWithin
set_option maxRecDepth 20000 in
theorem ggX3_step_X1_isInsideSlope : GoodIn wsX3_step wsX1_isInsideSlope := goodIn_r _ [12, 13, 14, 15, 16, 17, 11, 18, 19, 65, 66, 67, 68, 69, 70] (by decide +kernel) (by decide +kernel)
set_option maxRecDepth 20000 in
theorem gX3_step_X1_isInsideSlope : GoodIn wsX3_step (wsV RX3 36 RX1 yX1_isInsideSlope wsX1_isInsideSlope) := goodIn_app (goodIn_of _ (by decide +kernel)) ggX3_step_X1_isInsideSlope
set_option maxRecDepth 20000 in
theorem ggX3_step_X1_putStep : GoodIn wsX3_step wsX1_putStep := goodIn_r _ [23, 24, 25, 26, 11, 27, 13, 19, 14, 28, 29, 15, 16, 17, 18, 30, 31, 32, 33, 34, 35, 36, 37, 38, 39, 40, 41, 42, 43, 44, 45, 46, 47, 48, 49, 50, 51, 52, 6, 53, 54, 55, 56, 57, 58, 59, 60, 61, 65, 66, 67, 68, 69, 70] (by decide +kernel) (by decide +kernel)
set_option maxRecDepth 20000 in
theorem gX3_step_X1_putStep : GoodIn wsX3_step (wsV RX3 40 RX1 yX1_putStep wsX1_putStep) := goodIn_app (goodIn_of _ (by decide +kernel)) ggX3_step_X1_putStep
theorem dX3_step_0 : decode cX3_step 0 = .ok (.iload_n 1, 1) := by decide +kernel
theorem dX3_step_1 : decode cX3_step 1 = .ok (.iconst 0, 1) := by decide +kernel
theorem dX3_step_2 : decode cX3_step 2 = .ok (.ldc 30, 2) := by decide +kernel
theorem dX3_step_4 : decode cX3_step 4 = .ok (.invokestatic 31, 3) := by decide +kernel
theorem dX3_step_7 : decode cX3_step 7 = .ok (.ifCond .eq 13, 3) := by decide +kernel
theorem dX3_step_10 : decode cX3_step 10 = .ok (.iload_n 2, 1) := by decide +kernel
theorem dX3_step_11 : decode cX3_step 11 = .ok (.iconst 1, 1) := by decide +kernel
theorem dX3_step_12 : decode cX3_step 12 = .ok (.ldc 35, 2) := by decide +kernel
theorem dX3_step_14 : decode cX3_step 14 = .ok (.invokestatic 31, 3) := by decide +kernel
theorem dX3_step_17 : decode cX3_step 17 = .ok (.ifCond .ne 6, 3) := by decide +kernel
theorem dX3_step_20 : decode cX3_step 20 = .ok (.bipush (-2), 2) := by decide +kernel
theorem dX3_step_22 : decode cX3_step 22 = .ok (.ireturn, 1) := by decide +kernel
theorem dX3_step_23 : decode cX3_step 23 = .ok (.aload_n 0, 1) := by decide +kernel
theorem dX3_step_24 : decode cX3_step 24 = .ok (.getfield 10, 3) := by decide +kernel
theorem dX3_step_27 : decode cX3_step 27 = .ok (.iload_n 1, 1) := by decide +kernel
theorem dX3_step_28 : decode cX3_step 28 = .ok (.invokevirtual 36, 3) := by decide +kernel
theorem dX3_step_31 : decode cX3_step 31 = .ok (.ifCond .eq 6, 3) := by decide +kernel
theorem dX3_step_34 : decode cX3_step 34 = .ok (.bipush (-3), 2) := by decide +kernel
theorem dX3_step_36 : decode cX3_step 36 = .ok (.ireturn, 1) := by decide +kernel
theorem dX3_step_37 : decode cX3_step 37 = .ok (.aload_n 0, 1) := by decide +kernel
theorem dX3_step_38 : decode cX3_step 38 = .ok (.getfield 10, 3) := by decide +kernel
theorem dX3_step_41 : decode cX3_step 41 = .ok (.iload_n 1, 1) := by decide +kernel
theorem dX3_step_42 : decode cX3_step 42 = .ok (.iload_n 2, 1) := by decide +kernel
theorem dX3_step_43 : decode cX3_step 43 = .ok (.invokevirtual 40, 3) := by decide +kernel
theorem dX3_step_46 : decode cX3_step 46 = .ok (.ireturn, 1) := by decide +kernel
set_option maxRecDepth 20000 in
theorem ggX3_slope_X3_isWithin : GoodIn wsX3_slope wsX3_isWithin := goodIn_r _ [7] (by decide +kernel) (by decide +kernel)
set_option maxRecDepth 20000 in
theorem gX3_slope_X3_isWithin : GoodIn wsX3_slope (va_wsS RX3 31 yX3_isWithin wsX3_isWithin) := goodIn_app (goodIn_of _ (by decide +kernel)) ggX3_slope_X3_isWithin
set_option maxRecDepth 20000 in
theorem ggX3_slope_X1_isInsideSlope : GoodIn wsX3_slope wsX1_isInsideSlope := goodIn_r _ [12, 13, 14, 15, 16, 17, 11, 18, 19, 65, 66, 67, 68, 69, 70] (by decide +kernel) (by decide +kernel)
set_option maxRecDepth 20000 in
theorem gX3_slope_X1_isInsideSlope : GoodIn wsX3_slope (wsV RX3 36 RX1 yX1_isInsideSlope wsX1_isInsideSlope) := goodIn_app (goodIn_of _ (by decide +kernel)) ggX3_slope_X1_isInsideSlope
set_option maxRecDepth 20000 in
theorem ggX3_slope_X1_isAnyBetween : GoodIn wsX3_slope wsX1_isAnyBetween := goodIn_r _ [23, 13, 15, 16, 17, 11, 18, 19, 65, 66, 67, 68, 69, 70] (by decide +kernel) (by decide +kernel)
set_option maxRecDepth 20000 in
theorem gX3_slope_X1_isAnyBetween : GoodIn wsX3_slope (wsV RX3 44 RX1 yX1_isAnyBetween wsX1_isAnyBetween) := goodIn_app (goodIn_of _ (by decide +kernel)) ggX3_slope_X1_isAnyBetween
set_option maxRecDepth 20000 in
theorem ggX3_slope_X1_put : GoodIn wsX3_slope wsX1_put := goodIn_r _ [27, 13, 19, 14, 28, 29, 15, 16, 17, 11, 18, 30, 31, 32, 33, 34, 35, 36, 37, 38, 39, 40, 41, 42, 43, 44, 45, 46, 47, 48, 49, 50, 51, 52, 6, 53, 54, 55, 56, 57, 58, 59, 60, 61, 65, 66, 67, 68, 69, 70] (by decide +kernel) (by decide +kernel)
set_option maxRecDepth 20000 in
theorem gX3_slope_X1_put : GoodIn wsX3_slope (wsV RX3 48 RX1 yX1_put wsX1_put) := goodIn_app (goodIn_of _ (by decide +kernel)) ggX3_slope_X1_put
theorem dX3_slope_0 : decode cX3_slope 0 = .ok (.iload_n 1, 1) := by decide +kernel
theorem dX3_slope_1 : decode cX3_slope 1 = .ok (.iconst 0, 1) := by decide +kernel
theorem dX3_slope_2 : decode cX3_slope 2 = .ok (.ldc 30, 2) := by decide +kernel
theorem dX3_slope_4 : decode cX3_slope 4 = .ok (.invokestatic 31, 3) := by decide +kernel
theorem dX3_slope_7 : decode cX3_slope 7 = .ok (.ifCond .eq 43, 3) := by decide +kernel
theorem dX3_slope_10 : decode cX3_slope 10 = .ok (.iload_n 2, 1) := by decide +kernel
theorem dX3_slope_11 : decode cX3_slope 11 = .ok (.iconst 1, 1) := by decide +kernel
theorem dX3_slope_12 : decode cX3_slope 12 = .ok (.sipush 2000, 3) := by decide +kernel
theorem dX3_slope_15 : decode cX3_slope 15 = .ok (.invokestatic 31, 3) := by decide +kernel
theorem dX3_slope_18 : decode cX3_slope 18 = .ok (.ifCond .eq 32, 3) := by decide +kernel
theorem dX3_slope_21 : decode cX3_slope 21 = .ok (.iload_n 3, 1) := by decide +kernel
theorem dX3_slope_22 : decode cX3_slope 22 = .ok (.iconst 1, 1) := by decide +kernel
theorem dX3_slope_23 : decode cX3_slope 23 = .ok (.ldc 35, 2) := by decide +kernel
theorem dX3_slope_25 : decode cX3_slope 25 = .ok (.invokestatic 31, 3) := by decide +kernel
theorem dX3_slope_28 : decode cX3_slope 28 = .ok (.ifCond .eq 22, 3) := by decide +kernel
theorem dX3_slope_31 : decode cX3_slope 31 = .ok (.iload 4, 2) := by decide +kernel
theorem dX3_slope_33 : decode cX3_slope 33 = .ok (.iconst 1, 1) := by decide +kernel
theorem dX3_slope_34 : decode cX3_slope 34 = .ok (.ldc 35, 2) := by decide +kernel
theorem dX3_slope_36 : decode cX3_slope 36 = .ok (.invokestatic 31, 3) := by decide +kernel
theorem dX3_slope_39 : decode cX3_slope 39 = .ok (.ifCond .eq 11, 3) := by decide +kernel
theorem dX3_slope_42 : decode cX3_slope 42 = .ok (.iload_n 1, 1) := by decide +kernel
theorem dX3_slope_43 : decode cX3_slope 43 = .ok (.iload_n 2, 1) := by decide +kernel
theorem dX3_slope_44 : decode cX3_slope 44 = .ok (.iadd, 1) := by decide +kernel
theorem dX3_slope_45 : decode cX3_slope 45 = .ok (.ldc 35, 2) := by decide +kernel
theorem dX3_slope_47 : decode cX3_slope 47 = .ok (.if_icmp .le 6, 3) := by decide +kernel
theorem dX3_slope_50 : decode cX3_slope 50 = .ok (.bipush (-2), 2) := by decide +kernel
theorem dX3_slope_52 : decode cX3_slope 52 = .ok (.ireturn, 1) := by decide +kernel
theorem dX3_slope_53 : decode cX3_slope 53 = .ok (.aload_n 0, 1) := by decide +kernel
theorem dX3_slope_54 : decode cX3_slope 54 = .ok (.getfield 10, 3) := by decide +kernel
theorem dX3_slope_57 : decode cX3_slope 57 = .ok (.iload_n 1, 1) := by decide +kernel
theorem dX3_slope_58 : decode cX3_slope 58 = .ok (.invokevirtual 36, 3) := by decide +kernel
theorem dX3_slope_61 : decode cX3_slope 61 = .ok (.ifCond .ne 17, 3) := by decide +kernel
theorem dX3_slope_64 : decode cX3_slope 64 = .ok (.aload_n 0, 1) := by decide +kernel
theorem dX3_slope_65 : decode cX3_slope 65 = .ok (.getfield 10, 3) := by decide +kernel
theorem dX3_slope_68 : decode cX3_slope 68 = .ok (.iload_n 1, 1) := by decide +kernel
theorem dX3_slope_69 : decode cX3_slope 69 = .ok (.iload_n 1, 1) := by decide +kernel
theorem dX3_slope_70 : decode cX3_slope 70 = .ok (.iload_n 2, 1) := by decide +kernel
theorem dX3_slope_71 : decode cX3_slope 71 = .ok (.iadd, 1) := by decide +kernel
theorem dX3_slope_72 : decode cX3_slope 72 = .ok (.invokevirtual 44, 3) := by decide +kernel
theorem dX3_slope_75 : decode cX3_slope 75 = .ok (.ifCond .eq 6, 3) := by decide +kernel
theorem dX3_slope_78 : decode cX3_slope 78 = .ok (.bipush (-3), 2) := by decide +kernel
theorem dX3_slope_80 : decode cX3_slope 80 = .ok (.ireturn, 1) := by decide +kernel
theorem dX3_slope_81 : decode cX3_slope 81 = .ok (.aload_n 0, 1) := by decide +kernel
theorem dX3_slope_82 : decode cX3_slope 82 = .ok (.getfield 10, 3) := by decide +kernel
theorem dX3_slope_85 : decode cX3_slope 85 = .ok (.iload_n 1, 1) := by decide +kernel
theorem dX3_slope_86 : decode cX3_slope 86 = .ok (.iload_n 2, 1) := by decide +kernel
theorem dX3_slope_87 : decode cX3_slope 87 = .ok (.iload_n 3, 1) := by decide +kernel
theorem dX3_slope_88 : decode cX3_slope 88 = .ok (.iload 4, 2) := by decide +kernel
theorem dX3_slope_90 : decode cX3_slope 90 = .ok (.invokevirtual 48, 3) := by decide +kernel
theorem dX3_slope_93 : decode cX3_slope 93 = .ok (.ireturn, 1) := by decide +kernel
set_option maxRecDepth 20000 in
theorem ggX3_modulate_X3_isWithin : GoodIn wsX3_modulate wsX3_isWithin := goodIn_r _ [7] (by decide +kernel) (by decide +kernel)
set_option maxRecDepth 20000 in
theorem gX3_modulate_X3_isWithin : GoodIn wsX3_modulate (va_wsS RX3 31 yX3_isWithin wsX3_isWithin) := goodIn_app (goodIn_of _ (by decide +kernel)) ggX3_modulate_X3_isWithin
set_option maxRecDepth 20000 in
theorem ggX3_modulate_X1_unitsOfTick : GoodIn wsX3_modulate wsX1_unitsOfTick := goodIn_r _ [12, 13, 14, 15, 16, 17, 18, 19, 11, 20, 21, 22, 23, 24, 25, 72, 73, 74, 75, 76, 77] (by decide +kernel) (by decide +kernel)
set_option maxRecDepth 20000 in
theorem gX3_modulate_X1_unitsOfTick : GoodIn wsX3_modulate (wsV RX3 52 RX1 yX1_unitsOfTick wsX1_unitsOfTick) := goodIn_app (goodIn_of _ (by decide +kernel)) ggX3_modulate_X1_unitsOfTick
set_option maxRecDepth 20000 in
theorem ggX3_modulate_X1_isInsideSlope : GoodIn wsX3_modulate wsX1_isInsideSlope := goodIn_r _ [29, 13, 14, 17, 18, 19, 11, 20, 21, 72, 73, 74, 75, 76, 77] (by decide +kernel) (by decide +kernel)
set_option maxRecDepth 20000 in
theorem gX3_modulate_X1_isInsideSlope : GoodIn wsX3_modulate (wsV RX3 36 RX1 yX1_isInsideSlope wsX1_isInsideSlope) := goodIn_app (goodIn_of _ (by decide +kernel)) ggX3_modulate_X1_isInsideSlope
set_option maxRecDepth 20000 in
theorem ggX3_modulate_X1_putStep : GoodIn wsX3_modulate wsX1_putStep := goodIn_r _ [33, 34, 35, 36, 11, 37, 13, 21, 14, 16, 15, 17, 18, 19, 20, 38, 39, 40, 41, 42, 43, 44, 45, 46, 47, 48, 49, 50, 51, 52, 53, 54, 55, 56, 57, 58, 59, 60, 6, 61, 62, 63, 64, 24, 65, 66, 67, 68, 72, 73, 74, 75, 76, 77] (by decide +kernel) (by decide +kernel)
set_option maxRecDepth 20000 in
theorem gX3_modulate_X1_putStep : GoodIn wsX3_modulate (wsV RX3 40 RX1 yX1_putStep wsX1_putStep) := goodIn_app (goodIn_of _ (by decide +kernel)) ggX3_modulate_X1_putStep
theorem dX3_modulate_0 : decode cX3_modulate 0 = .ok (.iload_n 1, 1) := by decide +kernel
theorem dX3_modulate_1 : decode cX3_modulate 1 = .ok (.iconst 1, 1) := by decide +kernel
theorem dX3_modulate_2 : decode cX3_modulate 2 = .ok (.ldc 30, 2) := by decide +kernel
theorem dX3_modulate_4 : decode cX3_modulate 4 = .ok (.invokestatic 31, 3) := by decide +kernel
theorem dX3_modulate_7 : decode cX3_modulate 7 = .ok (.ifCond .eq 25, 3) := by decide +kernel
theorem dX3_modulate_10 : decode cX3_modulate 10 = .ok (.iload_n 2, 1) := by decide +kernel
theorem dX3_modulate_11 : decode cX3_modulate 11 = .ok (.iconst 1, 1) := by decide +kernel
theorem dX3_modulate_12 : decode cX3_modulate 12 = .ok (.sipush 1000, 3) := by decide +kernel
theorem dX3_modulate_15 : decode cX3_modulate 15 = .ok (.invokestatic 31, 3) := by decide +kernel
theorem dX3_modulate_18 : decode cX3_modulate 18 = .ok (.ifCond .eq 14, 3) := by decide +kernel
theorem dX3_modulate_21 : decode cX3_modulate 21 = .ok (.iload_n 3, 1) := by decide +kernel
theorem dX3_modulate_22 : decode cX3_modulate 22 = .ok (.iconst 1, 1) := by decide +kernel
theorem dX3_modulate_23 : decode cX3_modulate 23 = .ok (.sipush 1000, 3) := by decide +kernel
theorem dX3_modulate_26 : decode cX3_modulate 26 = .ok (.invokestatic 31, 3) := by decide +kernel
theorem dX3_modulate_29 : decode cX3_modulate 29 = .ok (.ifCond .ne 6, 3) := by decide +kernel
theorem dX3_modulate_32 : decode cX3_modulate 32 = .ok (.bipush (-2), 2) := by decide +kernel
theorem dX3_modulate_34 : decode cX3_modulate 34 = .ok (.ireturn, 1) := by decide +kernel
theorem dX3_modulate_35 : decode cX3_modulate 35 = .ok (.aload_n 0, 1) := by decide +kernel
theorem dX3_modulate_36 : decode cX3_modulate 36 = .ok (.getfield 10, 3) := by decide +kernel
theorem dX3_modulate_39 : decode cX3_modulate 39 = .ok (.iload_n 1, 1) := by decide +kernel
theorem dX3_modulate_40 : decode cX3_modulate 40 = .ok (.iconst 1, 1) := by decide +kernel
theorem dX3_modulate_41 : decode cX3_modulate 41 = .ok (.isub, 1) := by decide +kernel
theorem dX3_modulate_42 : decode cX3_modulate 42 = .ok (.invokevirtual 52, 3) := by decide +kernel
theorem dX3_modulate_45 : decode cX3_modulate 45 = .ok (.iload_n 2, 1) := by decide +kernel
theorem dX3_modulate_46 : decode cX3_modulate 46 = .ok (.imul, 1) := by decide +kernel
theorem dX3_modulate_47 : decode cX3_modulate 47 = .ok (.iload_n 3, 1) := by decide +kernel
theorem dX3_modulate_48 : decode cX3_modulate 48 = .ok (.idiv, 1) := by decide +kernel
theorem dX3_modulate_49 : decode cX3_modulate 49 = .ok (.istore 4, 2) := by decide +kernel
theorem dX3_modulate_51 : decode cX3_modulate 51 = .ok (.aload_n 0, 1) := by decide +kernel
theorem dX3_modulate_52 : decode cX3_modulate 52 = .ok (.getfield 10, 3) := by decide +kernel
theorem dX3_modulate_55 : decode cX3_modulate 55 = .ok (.iload_n 1, 1) := by decide +kernel
theorem dX3_modulate_56 : decode cX3_modulate 56 = .ok (.invokevirtual 36, 3) := by decide +kernel
theorem dX3_modulate_59 : decode cX3_modulate 59 = .ok (.ifCond .ne 14, 3) := by decide +kernel
theorem dX3_modulate_62 : decode cX3_modulate 62 = .ok (.iload 4, 2) := by decide +kernel
theorem dX3_modulate_64 : decode cX3_modulate 64 = .ok (.iconst 1, 1) := by decide +kernel
theorem dX3_modulate_65 : decode cX3_modulate 65 = .ok (.ldc 35, 2) := by decide +kernel
theorem dX3_modulate_67 : decode cX3_modulate 67 = .ok (.invokestatic 31, 3) := by decide +kernel
theorem dX3_modulate_70 : decode cX3_modulate 70 = .ok (.ifCond .ne 6, 3) := by decide +kernel
theorem dX3_modulate_73 : decode cX3_modulate 73 = .ok (.bipush (-3), 2) := by decide +kernel
theorem dX3_modulate_75 : decode cX3_modulate 75 = .ok (.ireturn, 1) := by decide +kernel
theorem dX3_modulate_76 : decode cX3_modulate 76 = .ok (.aload_n 0, 1) := by decide +kernel
theorem dX3_modulate_77 : decode cX3_modulate 77 = .ok (.getfield 10, 3) := by decide +kernel
theorem dX3_modulate_80 : decode cX3_modulate 80 = .ok (.iload_n 1, 1) := by decide +kernel
theorem dX3_modulate_81 : decode cX3_modulate 81 = .ok (.iload 4, 2) := by decide +kernel
theorem dX3_modulate_83 : decode cX3_modulate 83 = .ok (.invokevirtual 40, 3) := by decide +kernel
theorem dX3_modulate_86 : decode cX3_modulate 86 = .ok (.bipush (-4), 2) := by decide +kernel
theorem dX3_modulate_88 : decode cX3_modulate 88 = .ok (.if_icmp .ne 8, 3) := by decide +kernel
theorem dX3_modulate_91 : decode cX3_modulate 91 = .ok (.bipush (-4), 2) := by decide +kernel
theorem dX3_modulate_93 : decode cX3_modulate 93 = .ok (.goto 5, 3) := by decide +kernel
theorem dX3_modulate_96 : decode cX3_modulate 96 = .ok (.iload 4, 2) := by decide +kernel
theorem dX3_modulate_98 : decode cX3_modulate 98 = .ok (.ireturn, 1) := by decide +kernel
set_option maxRecDepth 20000 in
theorem ggX3_drop_X1_remove : GoodIn wsX3_drop wsX1_remove := goodIn_r _ [6, 7, 8, 9, 10, 11, 5, 12, 13, 14, 15, 16, 17, 18, 19, 20, 21, 22, 23, 24, 25, 26, 27, 28, 29, 30, 31, 32, 33, 34, 35, 36, 37, 38, 39, 40, 41, 42, 43, 44, 48, 49, 50, 51, 52, 53] (by decide +kernel) (by decide +kernel)
set_option maxRecDepth 20000 in
theorem gX3_drop_X1_remove : GoodIn wsX3_drop (wsV RX3 56 RX1 yX1_remove wsX1_remove) := goodIn_app (goodIn_of _ (by decide +kernel)) ggX3_drop_X1_remove
theorem dX3_drop_0 : decode cX3_drop 0 = .ok (.aload_n 0, 1) := by decide +kernel
theorem dX3_drop_1 : decode cX3_drop 1 = .ok (.getfield 10, 3) := by decide +kernel
theorem dX3_drop_4 : decode cX3_drop 4 = .ok (.iload_n 1, 1) := by decide +kernel
theorem dX3_drop_5 : decode cX3_drop 5 = .ok (.invokevirtual 56, 3) := by decide +kernel
theorem dX3_drop_8 : decode cX3_drop 8 = .ok (.ireturn, 1) := by decide +kernel
set_option maxRecDepth 20000 in
theorem ggX3_hold_X3_isWithin : GoodIn wsX3_hold wsX3_isWithin := goodIn_r _ [7] (by decide +kernel) (by decide +kernel)
set_option maxRecDepth 20000 in
theorem gX3_hold_X3_isWithin : GoodIn wsX3_hold (va_wsS RX3 31 yX3_isWithin wsX3_isWithin) := goodIn_app (goodIn_of _ (by decide +kernel)) ggX3_hold_X3_isWithin
set_option maxRecDepth 20000 in
theorem ggX3_hold_X0_remove : GoodIn wsX3_hold wsX0_remove := goodIn_r _ [12, 13, 14, 15, 16, 17, 18, 11, 19, 27, 28, 29] (by decide +kernel) (by decide +kernel)
set_option maxRecDepth 20000 in
theorem gX3_hold_X0_remove : GoodIn wsX3_hold (wsV RX3 60 RX0 yX0_remove wsX0_remove) := goodIn_app (goodIn_of _ (by decide +kernel)) ggX3_hold_X0_remove
set_option maxRecDepth 20000 in
theorem ggX3_hold_X0_put : GoodIn wsX3_hold wsX0_put := goodIn_r _ [23, 13, 14, 15, 16, 17, 18, 11, 19, 27, 28, 29] (by decide +kernel) (by decide +kernel)
set_option maxRecDepth 20000 in
theorem gX3_hold_X0_put : GoodIn wsX3_hold (wsV RX3 61 RX0 yX0_put wsX0_put) := goodIn_app (goodIn_of _ (by decide +kernel)) ggX3_hold_X0_put
theorem dX3_hold_0 : decode cX3_hold 0 = .ok (.iload_n 1, 1) := by decide +kernel
theorem dX3_hold_1 : decode cX3_hold 1 = .ok (.iconst 0, 1) := by decide +kernel
theorem dX3_hold_2 : decode cX3_hold 2 = .ok (.ldc 35, 2) := by decide +kernel
theorem dX3_hold_4 : decode cX3_hold 4 = .ok (.invokestatic 31, 3) := by decide +kernel
theorem dX3_hold_7 : decode cX3_hold 7 = .ok (.ifCond .eq 13, 3) := by decide +kernel
theorem dX3_hold_10 : decode cX3_hold 10 = .ok (.iload_n 2, 1) := by decide +kernel
theorem dX3_hold_11 : decode cX3_hold 11 = .ok (.iconst 0, 1) := by decide +kernel
theorem dX3_hold_12 : decode cX3_hold 12 = .ok (.ldc 59, 2) := by decide +kernel
theorem dX3_hold_14 : decode cX3_hold 14 = .ok (.invokestatic 31, 3) := by decide +kernel
theorem dX3_hold_17 : decode cX3_hold 17 = .ok (.ifCond .ne 6, 3) := by decide +kernel
theorem dX3_hold_20 : decode cX3_hold 20 = .ok (.bipush (-2), 2) := by decide +kernel
theorem dX3_hold_22 : decode cX3_hold 22 = .ok (.ireturn, 1) := by decide +kernel
theorem dX3_hold_23 : decode cX3_hold 23 = .ok (.iload_n 2, 1) := by decide +kernel
theorem dX3_hold_24 : decode cX3_hold 24 = .ok (.ifCond .ne 14, 3) := by decide +kernel
theorem dX3_hold_27 : decode cX3_hold 27 = .ok (.aload_n 0, 1) := by decide +kernel
theorem dX3_hold_28 : decode cX3_hold 28 = .ok (.getfield 19, 3) := by decide +kernel
theorem dX3_hold_31 : decode cX3_hold 31 = .ok (.iload_n 1, 1) := by decide +kernel
theorem dX3_hold_32 : decode cX3_hold 32 = .ok (.invokevirtual 60, 3) := by decide +kernel
theorem dX3_hold_35 : decode cX3_hold 35 = .ok (.goto 12, 3) := by decide +kernel
theorem dX3_hold_38 : decode cX3_hold 38 = .ok (.aload_n 0, 1) := by decide +kernel
theorem dX3_hold_39 : decode cX3_hold 39 = .ok (.getfield 19, 3) := by decide +kernel
theorem dX3_hold_42 : decode cX3_hold 42 = .ok (.iload_n 1, 1) := by decide +kernel
theorem dX3_hold_43 : decode cX3_hold 43 = .ok (.iload_n 2, 1) := by decide +kernel
theorem dX3_hold_44 : decode cX3_hold 44 = .ok (.invokevirtual 61, 3) := by decide +kernel
theorem dX3_hold_47 : decode cX3_hold 47 = .ok (.ireturn, 1) := by decide +kernel
set_option maxRecDepth 20000 in
theorem ggX3_mark_X3_isWithin : GoodIn wsX3_mark wsX3_isWithin := goodIn_r _ [5] (by decide +kernel) (by decide +kernel)
set_option maxRecDepth 20000 in
theorem gX3_mark_X3_isWithin : GoodIn wsX3_mark (va_wsS RX3 31 yX3_isWithin wsX3_isWithin) := goodIn_app (goodIn_of _ (by decide +kernel)) ggX3_mark_X3_isWithin
set_option maxRecDepth 20000 in
theorem ggX3_mark_X1_tell : GoodIn wsX3_mark wsX1_tell := goodIn_r _ [10, 11, 12, 13, 14, 15, 19, 20, 21, 22, 23, 24] (by decide +kernel) (by decide +kernel)
set_option maxRecDepth 20000 in
theorem gX3_mark_X1_tell : GoodIn wsX3_mark (wsV RX3 63 RX1 yX1_tell wsX1_tell) := goodIn_app (goodIn_of _ (by decide +kernel)) ggX3_mark_X1_tell
theorem dX3_mark_0 : decode cX3_mark 0 = .ok (.iload_n 2, 1) := by decide +kernel
theorem dX3_mark_1 : decode cX3_mark 1 = .ok (.iconst 0, 1) := by decide +kernel
theorem dX3_mark_2 : decode cX3_mark 2 = .ok (.iconst 4, 1) := by decide +kernel
theorem dX3_mark_3 : decode cX3_mark 3 = .ok (.invokestatic 31, 3) := by decide +kernel
theorem dX3_mark_6 : decode cX3_mark 6 = .ok (.ifCond .ne 6, 3) := by decide +kernel
theorem dX3_mark_9 : decode cX3_mark 9 = .ok (.bipush (-2), 2) := by decide +kernel
theorem dX3_mark_11 : decode cX3_mark 11 = .ok (.ireturn, 1) := by decide +kernel
theorem dX3_mark_12 : decode cX3_mark 12 = .ok (.aload_n 0, 1) := by decide +kernel
theorem dX3_mark_13 : decode cX3_mark 13 = .ok (.getfield 10, 3) := by decide +kernel
theorem dX3_mark_16 : decode cX3_mark 16 = .ok (.iload_n 1, 1) := by decide +kernel
theorem dX3_mark_17 : decode cX3_mark 17 = .ok (.iload_n 2, 1) := by decide +kernel
theorem dX3_mark_18 : decode cX3_mark 18 = .ok (.invokevirtual 63, 3) := by decide +kernel
theorem dX3_mark_21 : decode cX3_mark 21 = .ok (.ireturn, 1) := by decide +kernel
theorem dX3_count_0 : decode cX3_count 0 = .ok (.iload_n 1, 1) := by decide +kernel
theorem dX3_count_1 : decode cX3_count 1 = .ok (.tableswitch 51 0 2 #[27, 35, 43], 27) := by decide +kernel
theorem dX3_count_28 : decode cX3_count 28 = .ok (.aload_n 0, 1) := by decide +kernel
theorem dX3_count_29 : decode cX3_count 29 = .ok (.getfield 10, 3) := by decide +kernel
theorem dX3_count_32 : decode cX3_count 32 = .ok (.getfield 66, 3) := by decide +kernel
theorem dX3_count_35 : decode cX3_count 35 = .ok (.ireturn, 1) := by decide +kernel
theorem dX3_count_36 : decode cX3_count 36 = .ok (.aload_n 0, 1) := by decide +kernel
theorem dX3_count_37 : decode cX3_count 37 = .ok (.getfield 19, 3) := by decide +kernel
theorem dX3_count_40 : decode cX3_count 40 = .ok (.getfield 70, 3) := by decide +kernel
theorem dX3_count_43 : decode cX3_count 43 = .ok (.ireturn, 1) := by decide +kernel
theorem dX3_count_44 : decode cX3_count 44 = .ok (.aload_n 0, 1) := by decide +kernel
theorem dX3_count_45 : decode cX3_count 45 = .ok (.getfield 26, 3) := by decide +kernel
theorem dX3_count_48 : decode cX3_count 48 = .ok (.getfield 71, 3) := by decide +kernel
theorem dX3_count_51 : decode cX3_count 51 = .ok (.ireturn, 1) := by decide +kernel
theorem dX3_count_52 : decode cX3_count 52 = .ok (.bipush (-2), 2) := by decide +kernel
theorem dX3_count_54 : decode cX3_count 54 = .ok (.ireturn, 1) := by decide +kernel
set_option maxRecDepth 20000 in
theorem ggX3_lasts_X3_isWithin : GoodIn wsX3_lasts wsX3_isWithin := goodIn_r _ [6] (by decide +kernel) (by decide +kernel)
set_option maxRecDepth 20000 in
theorem gX3_lasts_X3_isWithin : GoodIn wsX3_lasts (va_wsS RX3 31 yX3_isWithin wsX3_isWithin) := goodIn_app (goodIn_of _ (by decide +kernel)) ggX3_lasts_X3_isWithin
set_option maxRecDepth 20000 in
theorem ggX3_lasts_X1_unitsOfTick : GoodIn wsX3_lasts wsX1_unitsOfTick := goodIn_r _ [11, 12, 13, 14, 15, 16, 17, 18, 10, 19, 20, 21, 22, 23, 24, 28, 29, 30, 31, 32, 33] (by decide +kernel) (by decide +kernel)
set_option maxRecDepth 20000 in
theorem gX3_lasts_X1_unitsOfTick : GoodIn wsX3_lasts (wsV RX3 52 RX1 yX1_unitsOfTick wsX1_unitsOfTick) := goodIn_app (goodIn_of _ (by decide +kernel)) ggX3_lasts_X1_unitsOfTick
theorem dX3_lasts_0 : decode cX3_lasts 0 = .ok (.iload_n 1, 1) := by decide +kernel
theorem dX3_lasts_1 : decode cX3_lasts 1 = .ok (.iconst 0, 1) := by decide +kernel
theorem dX3_lasts_2 : decode cX3_lasts 2 = .ok (.ldc 30, 2) := by decide +kernel
theorem dX3_lasts_4 : decode cX3_lasts 4 = .ok (.invokestatic 31, 3) := by decide +kernel
theorem dX3_lasts_7 : decode cX3_lasts 7 = .ok (.ifCond .ne 6, 3) := by decide +kernel
theorem dX3_lasts_10 : decode cX3_lasts 10 = .ok (.bipush (-2), 2) := by decide +kernel
theorem dX3_lasts_12 : decode cX3_lasts 12 = .ok (.ireturn, 1) := by decide +kernel
theorem dX3_lasts_13 : decode cX3_lasts 13 = .ok (.aload_n 0, 1) := by decide +kernel
theorem dX3_lasts_14 : decode cX3_lasts 14 = .ok (.getfield 10, 3) := by decide +kernel
theorem dX3_lasts_17 : decode cX3_lasts 17 = .ok (.iload_n 1, 1) := by decide +kernel
theorem dX3_lasts_18 : decode cX3_lasts 18 = .ok (.invokevirtual 52, 3) := by decide +kernel
theorem dX3_lasts_21 : decode cX3_lasts 21 = .ok (.ireturn, 1) := by decide +kernel
set_option maxRecDepth 20000 in
theorem ggX3_time_X3_isWithin : GoodIn wsX3_time wsX3_isWithin := goodIn_r _ [6] (by decide +kernel) (by decide +kernel)
set_option maxRecDepth 20000 in
theorem gX3_time_X3_isWithin : GoodIn wsX3_time (va_wsS RX3 31 yX3_isWithin wsX3_isWithin) := goodIn_app (goodIn_of _ (by decide +kernel)) ggX3_time_X3_isWithin
set_option maxRecDepth 20000 in
theorem ggX3_time_X3_beginOf : GoodIn wsX3_time wsX3_beginOf := goodIn_r _ [10, 11, 12, 13, 14, 15, 16, 17, 18, 19, 20, 21, 22, 23, 24, 25, 26, 27, 28, 29, 30, 31, 32, 33, 34, 35, 36, 37, 5, 38, 39, 40, 41, 42, 43, 44, 45, 46, 47, 48, 49, 50, 51, 52, 53, 54, 55, 56, 57, 58, 59, 60, 61, 62, 63, 64, 65, 66] (by decide +kernel) (by decide +kernel)
set_option maxRecDepth 20000 in
theorem gX3_time_X3_beginOf : GoodIn wsX3_time (wsV RX3 74 RX3 yX3_beginOf wsX3_beginOf) := goodIn_app (goodIn_of _ (by decide +kernel)) ggX3_time_X3_beginOf
theorem dX3_time_0 : decode cX3_time 0 = .ok (.iload_n 1, 1) := by decide +kernel
theorem dX3_time_1 : decode cX3_time 1 = .ok (.iconst 0, 1) := by decide +kernel
theorem dX3_time_2 : decode cX3_time 2 = .ok (.ldc 35, 2) := by decide +kernel
theorem dX3_time_4 : decode cX3_time 4 = .ok (.invokestatic 31, 3) := by decide +kernel
theorem dX3_time_7 : decode cX3_time 7 = .ok (.ifCond .ne 7, 3) := by decide +kernel
theorem dX3_time_10 : decode cX3_time 10 = .ok (.ldc2_w 72, 3) := by decide +kernel
theorem dX3_time_13 : decode cX3_time 13 = .ok (.lreturn, 1) := by decide +kernel
theorem dX3_time_14 : decode cX3_time 14 = .ok (.aload_n 0, 1) := by decide +kernel
theorem dX3_time_15 : decode cX3_time 15 = .ok (.iload_n 1, 1) := by decide +kernel
theorem dX3_time_16 : decode cX3_time 16 = .ok (.invokevirtual 74, 3) := by decide +kernel
theorem dX3_time_19 : decode cX3_time 19 = .ok (.lreturn, 1) := by decide +kernel
set_option maxRecDepth 20000 in
theorem ggX3_tick_X3_lastBegun : GoodIn wsX3_tick wsX3_lastBegun := goodIn_r _ [5, 6, 7, 8, 9, 4, 10, 11, 12, 13, 14, 15, 16, 17, 18, 19, 20, 21, 22, 23, 24, 25, 26, 27, 28, 29, 30, 31, 32, 33, 34, 35, 36, 37, 38, 39, 40, 41, 42, 43, 44, 45, 46, 47, 48, 49, 50, 51, 52, 53, 54, 55, 56, 57, 58, 59, 60, 61, 62, 63, 64, 65, 66, 67, 68, 69, 70, 71] (by decide +kernel) (by decide +kernel)
set_option maxRecDepth 20000 in
theorem gX3_tick_X3_lastBegun : GoodIn wsX3_tick (wsV RX3 78 RX3 yX3_lastBegun wsX3_lastBegun) := goodIn_app (goodIn_of _ (by decide +kernel)) ggX3_tick_X3_lastBegun
theorem dX3_tick_0 : decode cX3_tick 0 = .ok (.lload_n 1, 1) := by decide +kernel
theorem dX3_tick_1 : decode cX3_tick 1 = .ok (.lconst 0, 1) := by decide +kernel
theorem dX3_tick_2 : decode cX3_tick 2 = .ok (.lcmp, 1) := by decide +kernel
theorem dX3_tick_3 : decode cX3_tick 3 = .ok (.ifCond .ge 6, 3) := by decide +kernel
theorem dX3_tick_6 : decode cX3_tick 6 = .ok (.bipush (-2), 2) := by decide +kernel
theorem dX3_tick_8 : decode cX3_tick 8 = .ok (.ireturn, 1) := by decide +kernel
theorem dX3_tick_9 : decode cX3_tick 9 = .ok (.aload_n 0, 1) := by decide +kernel
theorem dX3_tick_10 : decode cX3_tick 10 = .ok (.lload_n 1, 1) := by decide +kernel
theorem dX3_tick_11 : decode cX3_tick 11 = .ok (.invokevirtual 78, 3) := by decide +kernel
theorem dX3_tick_14 : decode cX3_tick 14 = .ok (.ireturn, 1) := by decide +kernel
set_option maxRecDepth 20000 in
theorem ggX3_held_X3_lastBegun : GoodIn wsX3_held wsX3_lastBegun := goodIn_r _ [7, 1, 8, 9, 10, 6, 11, 2, 12, 13, 14, 15, 16, 17, 18, 19, 20, 21, 22, 23, 24, 25, 26, 27, 28, 29, 30, 31, 32, 33, 34, 35, 36, 37, 38, 39, 40, 41, 42, 43, 44, 45, 46, 47, 48, 49, 50, 51, 52, 53, 54, 55, 56, 57, 58, 59, 67, 68, 69, 70, 71, 72, 73, 74, 75, 76, 77, 78] (by decide +kernel) (by decide +kernel)
set_option maxRecDepth 20000 in
theorem gX3_held_X3_lastBegun : GoodIn wsX3_held (wsV RX3 78 RX3 yX3_lastBegun wsX3_lastBegun) := goodIn_app (goodIn_of _ (by decide +kernel)) ggX3_held_X3_lastBegun
set_option maxRecDepth 20000 in
theorem ggX3_held_X3_beginOf : GoodIn wsX3_held wsX3_beginOf := goodIn_r _ [11, 2, 12, 13, 14, 15, 16, 17, 18, 19, 20, 21, 22, 23, 24, 25, 26, 27, 28, 29, 30, 31, 32, 33, 34, 35, 36, 37, 6, 38, 39, 40, 41, 42, 43, 44, 45, 46, 47, 48, 49, 50, 51, 52, 53, 54, 67, 68, 69, 70, 71, 72, 73, 74, 75, 76, 77, 78] (by decide +kernel) (by decide +kernel)
set_option maxRecDepth 20000 in
theorem gX3_held_X3_beginOf : GoodIn wsX3_held (wsV RX3 74 RX3 yX3_beginOf wsX3_beginOf) := goodIn_app (goodIn_of _ (by decide +kernel)) ggX3_held_X3_beginOf
set_option maxRecDepth 20000 in
theorem ggX3_held_X1_unitsOfTick : GoodIn wsX3_held wsX1_unitsOfTick := goodIn_r _ [63, 23, 29, 34, 35, 18, 19, 20, 16, 21, 22, 64, 65, 42, 66, 70, 71, 72, 73, 74, 75] (by decide +kernel) (by decide +kernel)
set_option maxRecDepth 20000 in
theorem gX3_held_X1_unitsOfTick : GoodIn wsX3_held (wsV RX3 52 RX1 yX1_unitsOfTick wsX1_unitsOfTick) := goodIn_app (goodIn_of _ (by decide +kernel)) ggX3_held_X1_unitsOfTick
theorem dX3_held_0 : decode cX3_held 0 = .ok (.lload_n 1, 1) := by decide +kernel
theorem dX3_held_1 : decode cX3_held 1 = .ok (.lconst 0, 1) := by decide +kernel
theorem dX3_held_2 : decode cX3_held 2 = .ok (.lcmp, 1) := by decide +kernel
theorem dX3_held_3 : decode cX3_held 3 = .ok (.ifCond .ge 6, 3) := by decide +kernel
theorem dX3_held_6 : decode cX3_held 6 = .ok (.bipush (-2), 2) := by decide +kernel
theorem dX3_held_8 : decode cX3_held 8 = .ok (.ireturn, 1) := by decide +kernel
theorem dX3_held_9 : decode cX3_held 9 = .ok (.aload_n 0, 1) := by decide +kernel
theorem dX3_held_10 : decode cX3_held 10 = .ok (.lload_n 1, 1) := by decide +kernel
theorem dX3_held_11 : decode cX3_held 11 = .ok (.invokevirtual 78, 3) := by decide +kernel
theorem dX3_held_14 : decode cX3_held 14 = .ok (.istore_n 3, 1) := by decide +kernel
theorem dX3_held_15 : decode cX3_held 15 = .ok (.iload_n 3, 1) := by decide +kernel
theorem dX3_held_16 : decode cX3_held 16 = .ok (.iconst (-1), 1) := by decide +kernel
theorem dX3_held_17 : decode cX3_held 17 = .ok (.if_icmp .eq 9, 3) := by decide +kernel
theorem dX3_held_20 : decode cX3_held 20 = .ok (.iload_n 3, 1) := by decide +kernel
theorem dX3_held_21 : decode cX3_held 21 = .ok (.ldc 35, 2) := by decide +kernel
theorem dX3_held_23 : decode cX3_held 23 = .ok (.if_icmp .ne 5, 3) := by decide +kernel
theorem dX3_held_26 : decode cX3_held 26 = .ok (.iconst 1, 1) := by decide +kernel
theorem dX3_held_27 : decode cX3_held 27 = .ok (.ireturn, 1) := by decide +kernel
theorem dX3_held_28 : decode cX3_held 28 = .ok (.lload_n 1, 1) := by decide +kernel
theorem dX3_held_29 : decode cX3_held 29 = .ok (.aload_n 0, 1) := by decide +kernel
theorem dX3_held_30 : decode cX3_held 30 = .ok (.iload_n 3, 1) := by decide +kernel
theorem dX3_held_31 : decode cX3_held 31 = .ok (.invokevirtual 74, 3) := by decide +kernel
theorem dX3_held_34 : decode cX3_held 34 = .ok (.lsub, 1) := by decide +kernel
theorem dX3_held_35 : decode cX3_held 35 = .ok (.aload_n 0, 1) := by decide +kernel
theorem dX3_held_36 : decode cX3_held 36 = .ok (.getfield 10, 3) := by decide +kernel
theorem dX3_held_39 : decode cX3_held 39 = .ok (.iload_n 3, 1) := by decide +kernel
theorem dX3_held_40 : decode cX3_held 40 = .ok (.invokevirtual 52, 3) := by decide +kernel
theorem dX3_held_43 : decode cX3_held 43 = .ok (.i2l, 1) := by decide +kernel
theorem dX3_held_44 : decode cX3_held 44 = .ok (.lcmp, 1) := by decide +kernel
theorem dX3_held_45 : decode cX3_held 45 = .ok (.ifCond .lt 7, 3) := by decide +kernel
theorem dX3_held_48 : decode cX3_held 48 = .ok (.iconst 1, 1) := by decide +kernel
theorem dX3_held_49 : decode cX3_held 49 = .ok (.goto 4, 3) := by decide +kernel
theorem dX3_held_52 : decode cX3_held 52 = .ok (.iconst 0, 1) := by decide +kernel
theorem dX3_held_53 : decode cX3_held 53 = .ok (.ireturn, 1) := by decide +kernel
set_option maxRecDepth 20000 in
theorem ggX3_frame_X3_isWithin : GoodIn wsX3_frame wsX3_isWithin := goodIn_r _ [7] (by decide +kernel) (by decide +kernel)
set_option maxRecDepth 20000 in
theorem gX3_frame_X3_isWithin : GoodIn wsX3_frame (va_wsS RX3 31 yX3_isWithin wsX3_isWithin) := goodIn_app (goodIn_of _ (by decide +kernel)) ggX3_frame_X3_isWithin
set_option maxRecDepth 20000 in
theorem ggX3_frame_X3_framesAt : GoodIn wsX3_frame wsX3_framesAt := goodIn_r _ [11, 12, 13, 14, 15, 6, 16, 17, 18, 19, 20, 21, 22, 23, 24, 25, 26, 27, 28, 29, 30, 31, 32, 33, 34, 35, 36, 37, 38, 39, 40, 41, 42, 43, 44, 45, 46, 47, 48, 49, 50, 51, 52, 53, 54, 55, 56, 57, 58, 59, 60, 61, 62, 63, 64, 65, 66, 67, 68, 69, 70, 71, 72] (by decide +kernel) (by decide +kernel)
set_option maxRecDepth 20000 in
theorem gX3_frame_X3_framesAt : GoodIn wsX3_frame (wsV RX3 83 RX3 yX3_framesAt wsX3_framesAt) := goodIn_app (goodIn_of _ (by decide +kernel)) ggX3_frame_X3_framesAt
theorem dX3_frame_0 : decode cX3_frame 0 = .ok (.iload_n 1, 1) := by decide +kernel
theorem dX3_frame_1 : decode cX3_frame 1 = .ok (.iconst 0, 1) := by decide +kernel
theorem dX3_frame_2 : decode cX3_frame 2 = .ok (.ldc 35, 2) := by decide +kernel
theorem dX3_frame_4 : decode cX3_frame 4 = .ok (.invokestatic 31, 3) := by decide +kernel
theorem dX3_frame_7 : decode cX3_frame 7 = .ok (.ifCond .eq 13, 3) := by decide +kernel
theorem dX3_frame_10 : decode cX3_frame 10 = .ok (.iload_n 2, 1) := by decide +kernel
theorem dX3_frame_11 : decode cX3_frame 11 = .ok (.iconst 1, 1) := by decide +kernel
theorem dX3_frame_12 : decode cX3_frame 12 = .ok (.ldc 82, 2) := by decide +kernel
theorem dX3_frame_14 : decode cX3_frame 14 = .ok (.invokestatic 31, 3) := by decide +kernel
theorem dX3_frame_17 : decode cX3_frame 17 = .ok (.ifCond .ne 7, 3) := by decide +kernel
theorem dX3_frame_20 : decode cX3_frame 20 = .ok (.ldc2_w 72, 3) := by decide +kernel
theorem dX3_frame_23 : decode cX3_frame 23 = .ok (.lreturn, 1) := by decide +kernel
theorem dX3_frame_24 : decode cX3_frame 24 = .ok (.aload_n 0, 1) := by decide +kernel
theorem dX3_frame_25 : decode cX3_frame 25 = .ok (.iload_n 1, 1) := by decide +kernel
theorem dX3_frame_26 : decode cX3_frame 26 = .ok (.iload_n 2, 1) := by decide +kernel
theorem dX3_frame_27 : decode cX3_frame 27 = .ok (.invokevirtual 83, 3) := by decide +kernel
theorem dX3_frame_30 : decode cX3_frame 30 = .ok (.lreturn, 1) := by decide +kernel
set_option maxRecDepth 20000 in
theorem ggX3_tickOf_X3_isWithin : GoodIn wsX3_tickOf wsX3_isWithin := goodIn_r _ [7] (by decide +kernel) (by decide +kernel)
set_option maxRecDepth 20000 in
theorem gX3_tickOf_X3_isWithin : GoodIn wsX3_tickOf (va_wsS RX3 31 yX3_isWithin wsX3_isWithin) := goodIn_app (goodIn_of _ (by decide +kernel)) ggX3_tickOf_X3_isWithin
set_option maxRecDepth 20000 in
theorem ggX3_tickOf_X3_framesAt : GoodIn wsX3_tickOf wsX3_framesAt := goodIn_r _ [11, 3, 12, 13, 14, 6, 15, 16, 17, 18, 19, 20, 21, 22, 23, 24, 25, 26, 27, 28, 29, 30, 31, 32, 33, 34, 35, 36, 37, 38, 39, 40, 41, 42, 43, 44, 45, 46, 47, 48, 49, 50, 51, 52, 53, 54, 55, 56, 57, 58, 59, 65, 66, 67, 68, 69, 70, 71, 72, 73, 74, 75, 76] (by decide +kernel) (by decide +kernel)
set_option maxRecDepth 20000 in
theorem gX3_tickOf_X3_framesAt : GoodIn wsX3_tickOf (wsV RX3 83 RX3 yX3_framesAt wsX3_framesAt) := goodIn_app (goodIn_of _ (by decide +kernel)) ggX3_tickOf_X3_framesAt
set_option maxRecDepth 20000 in
theorem ggX3_tickOf_X3_firstBeginningFrom : GoodIn wsX3_tickOf wsX3_firstBeginningFrom := goodIn_r _ [63, 64, 12, 13, 14, 6, 15, 16, 17, 18, 19, 20, 21, 22, 23, 24, 25, 26, 27, 28, 29, 30, 31, 32, 33, 34, 35, 36, 37, 38, 39, 40, 41, 42, 43, 44, 45, 46, 47, 48, 49, 50, 51, 52, 53, 54, 55, 56, 57, 58, 59, 65, 66, 67, 68, 69, 70, 71, 72, 73, 74, 75, 76] (by decide +kernel) (by decide +kernel)
set_option maxRecDepth 20000 in
theorem gX3_tickOf_X3_firstBeginningFrom : GoodIn wsX3_tickOf (wsV RX3 89 RX3 yX3_firstBeginningFrom wsX3_firstBeginningFrom) := goodIn_app (goodIn_of _ (by decide +kernel)) ggX3_tickOf_X3_firstBeginningFrom
theorem dX3_tickOf_0 : decode cX3_tickOf 0 = .ok (.lload_n 1, 1) := by decide +kernel
theorem dX3_tickOf_1 : decode cX3_tickOf 1 = .ok (.lconst 0, 1) := by decide +kernel
theorem dX3_tickOf_2 : decode cX3_tickOf 2 = .ok (.lcmp, 1) := by decide +kernel
theorem dX3_tickOf_3 : decode cX3_tickOf 3 = .ok (.ifCond .lt 13, 3) := by decide +kernel
theorem dX3_tickOf_6 : decode cX3_tickOf 6 = .ok (.iload_n 3, 1) := by decide +kernel
theorem dX3_tickOf_7 : decode cX3_tickOf 7 = .ok (.iconst 1, 1) := by decide +kernel
theorem dX3_tickOf_8 : decode cX3_tickOf 8 = .ok (.ldc 82, 2) := by decide +kernel
theorem dX3_tickOf_10 : decode cX3_tickOf 10 = .ok (.invokestatic 31, 3) := by decide +kernel
theorem dX3_tickOf_13 : decode cX3_tickOf 13 = .ok (.ifCond .ne 6, 3) := by decide +kernel
theorem dX3_tickOf_16 : decode cX3_tickOf 16 = .ok (.bipush (-2), 2) := by decide +kernel
theorem dX3_tickOf_18 : decode cX3_tickOf 18 = .ok (.ireturn, 1) := by decide +kernel
theorem dX3_tickOf_19 : decode cX3_tickOf 19 = .ok (.lload_n 1, 1) := by decide +kernel
theorem dX3_tickOf_20 : decode cX3_tickOf 20 = .ok (.aload_n 0, 1) := by decide +kernel
theorem dX3_tickOf_21 : decode cX3_tickOf 21 = .ok (.ldc 35, 2) := by decide +kernel
theorem dX3_tickOf_23 : decode cX3_tickOf 23 = .ok (.iload_n 3, 1) := by decide +kernel
theorem dX3_tickOf_24 : decode cX3_tickOf 24 = .ok (.invokevirtual 83, 3) := by decide +kernel
theorem dX3_tickOf_27 : decode cX3_tickOf 27 = .ok (.lcmp, 1) := by decide +kernel
theorem dX3_tickOf_28 : decode cX3_tickOf 28 = .ok (.ifCond .le 5, 3) := by decide +kernel
theorem dX3_tickOf_31 : decode cX3_tickOf 31 = .ok (.iconst (-1), 1) := by decide +kernel
theorem dX3_tickOf_32 : decode cX3_tickOf 32 = .ok (.ireturn, 1) := by decide +kernel
theorem dX3_tickOf_33 : decode cX3_tickOf 33 = .ok (.lload_n 1, 1) := by decide +kernel
theorem dX3_tickOf_34 : decode cX3_tickOf 34 = .ok (.ldc2_w 87, 3) := by decide +kernel
theorem dX3_tickOf_37 : decode cX3_tickOf 37 = .ok (.lmul, 1) := by decide +kernel
theorem dX3_tickOf_38 : decode cX3_tickOf 38 = .ok (.iload_n 3, 1) := by decide +kernel
theorem dX3_tickOf_39 : decode cX3_tickOf 39 = .ok (.i2l, 1) := by decide +kernel
theorem dX3_tickOf_40 : decode cX3_tickOf 40 = .ok (.ladd, 1) := by decide +kernel
theorem dX3_tickOf_41 : decode cX3_tickOf 41 = .ok (.lconst 1, 1) := by decide +kernel
theorem dX3_tickOf_42 : decode cX3_tickOf 42 = .ok (.lsub, 1) := by decide +kernel
theorem dX3_tickOf_43 : decode cX3_tickOf 43 = .ok (.iload_n 3, 1) := by decide +kernel
theorem dX3_tickOf_44 : decode cX3_tickOf 44 = .ok (.i2l, 1) := by decide +kernel
theorem dX3_tickOf_45 : decode cX3_tickOf 45 = .ok (.ldiv, 1) := by decide +kernel
theorem dX3_tickOf_46 : decode cX3_tickOf 46 = .ok (.lstore 4, 2) := by decide +kernel
theorem dX3_tickOf_48 : decode cX3_tickOf 48 = .ok (.aload_n 0, 1) := by decide +kernel
theorem dX3_tickOf_49 : decode cX3_tickOf 49 = .ok (.lload 4, 2) := by decide +kernel
theorem dX3_tickOf_51 : decode cX3_tickOf 51 = .ok (.invokevirtual 89, 3) := by decide +kernel
theorem dX3_tickOf_54 : decode cX3_tickOf 54 = .ok (.ireturn, 1) := by decide +kernel
set_option maxRecDepth 20000 in
theorem ggX3_tap_X2_add : GoodIn wsX3_tap wsX2_add := goodIn_r _ [7, 8, 9, 13, 14] (by decide +kernel) (by decide +kernel)
set_option maxRecDepth 20000 in
theorem gX3_tap_X2_add : GoodIn wsX3_tap (wsV RX3 94 RX2 yX2_add wsX2_add) := goodIn_app (goodIn_of _ (by decide +kernel)) ggX3_tap_X2_add
theorem dX3_tap_0 : decode cX3_tap 0 = .ok (.lload_n 1, 1) := by decide +kernel
theorem dX3_tap_1 : decode cX3_tap 1 = .ok (.lconst 0, 1) := by decide +kernel
theorem dX3_tap_2 : decode cX3_tap 2 = .ok (.lcmp, 1) := by decide +kernel
theorem dX3_tap_3 : decode cX3_tap 3 = .ok (.ifCond .lt 11, 3) := by decide +kernel
theorem dX3_tap_6 : decode cX3_tap 6 = .ok (.lload_n 1, 1) := by decide +kernel
theorem dX3_tap_7 : decode cX3_tap 7 = .ok (.ldc2_w 92, 3) := by decide +kernel
theorem dX3_tap_10 : decode cX3_tap 10 = .ok (.lcmp, 1) := by decide +kernel
theorem dX3_tap_11 : decode cX3_tap 11 = .ok (.ifCond .le 6, 3) := by decide +kernel
theorem dX3_tap_14 : decode cX3_tap 14 = .ok (.bipush (-2), 2) := by decide +kernel
theorem dX3_tap_16 : decode cX3_tap 16 = .ok (.ireturn, 1) := by decide +kernel
theorem dX3_tap_17 : decode cX3_tap 17 = .ok (.aload_n 0, 1) := by decide +kernel
theorem dX3_tap_18 : decode cX3_tap 18 = .ok (.getfield 26, 3) := by decide +kernel
theorem dX3_tap_21 : decode cX3_tap 21 = .ok (.lload_n 1, 1) := by decide +kernel
theorem dX3_tap_22 : decode cX3_tap 22 = .ok (.invokevirtual 94, 3) := by decide +kernel
theorem dX3_tap_25 : decode cX3_tap 25 = .ok (.ireturn, 1) := by decide +kernel
set_option maxRecDepth 20000 in
theorem ggX3_noTaps_X2_removeAll : GoodIn wsX3_noTaps wsX2_removeAll := goodIn_r _ [6, 7, 11, 12] (by decide +kernel) (by decide +kernel)
set_option maxRecDepth 20000 in
theorem gX3_noTaps_X2_removeAll : GoodIn wsX3_noTaps (wsV RX3 97 RX2 yX2_removeAll wsX2_removeAll) := goodIn_app (goodIn_of _ (by decide +kernel)) ggX3_noTaps_X2_removeAll
theorem dX3_noTaps_0 : decode cX3_noTaps 0 = .ok (.aload_n 0, 1) := by decide +kernel
theorem dX3_noTaps_1 : decode cX3_noTaps 1 = .ok (.getfield 26, 3) := by decide +kernel
theorem dX3_noTaps_4 : decode cX3_noTaps 4 = .ok (.invokevirtual 97, 3) := by decide +kernel
theorem dX3_noTaps_7 : decode cX3_noTaps 7 = .ok (.ireturn, 1) := by decide +kernel
set_option maxRecDepth 20000 in
theorem ggX3_fit_X2_above : GoodIn wsX3_fit wsX2_above := goodIn_r _ [8, 9, 10, 26, 27] (by decide +kernel) (by decide +kernel)
set_option maxRecDepth 20000 in
theorem gX3_fit_X2_above : GoodIn wsX3_fit (wsV RX3 103 RX2 yX2_above wsX2_above) := goodIn_app (goodIn_of _ (by decide +kernel)) ggX3_fit_X2_above
set_option maxRecDepth 20000 in
theorem ggX3_fit_X2_below : GoodIn wsX3_fit wsX2_below := goodIn_r _ [14, 9, 26, 27] (by decide +kernel) (by decide +kernel)
set_option maxRecDepth 20000 in
theorem gX3_fit_X2_below : GoodIn wsX3_fit (wsV RX3 107 RX2 yX2_below wsX2_below) := goodIn_app (goodIn_of _ (by decide +kernel)) ggX3_fit_X2_below
set_option maxRecDepth 20000 in
theorem ggX3_fit_X3_commonDivisor : GoodIn wsX3_fit wsX3_commonDivisor := goodIn_r _ [18, 19, 20, 21, 22] (by decide +kernel) (by decide +kernel)
set_option maxRecDepth 20000 in
theorem gX3_fit_X3_commonDivisor : GoodIn wsX3_fit (va_wsS RX3 110 yX3_commonDivisor wsX3_commonDivisor) := goodIn_app (goodIn_of _ (by decide +kernel)) ggX3_fit_X3_commonDivisor
theorem dX3_fit_0 : decode cX3_fit 0 = .ok (.iload_n 1, 1) := by decide +kernel
theorem dX3_fit_1 : decode cX3_fit 1 = .ok (.ifCond .eq 12, 3) := by decide +kernel
theorem dX3_fit_4 : decode cX3_fit 4 = .ok (.iload_n 1, 1) := by decide +kernel
theorem dX3_fit_5 : decode cX3_fit 5 = .ok (.iconst 1, 1) := by decide +kernel
theorem dX3_fit_6 : decode cX3_fit 6 = .ok (.if_icmp .eq 7, 3) := by decide +kernel
theorem dX3_fit_9 : decode cX3_fit 9 = .ok (.ldc2_w 72, 3) := by decide +kernel
theorem dX3_fit_12 : decode cX3_fit 12 = .ok (.lreturn, 1) := by decide +kernel
theorem dX3_fit_13 : decode cX3_fit 13 = .ok (.aload_n 0, 1) := by decide +kernel
theorem dX3_fit_14 : decode cX3_fit 14 = .ok (.getfield 26, 3) := by decide +kernel
theorem dX3_fit_17 : decode cX3_fit 17 = .ok (.getfield 71, 3) := by decide +kernel
theorem dX3_fit_20 : decode cX3_fit 20 = .ok (.iconst 2, 1) := by decide +kernel
theorem dX3_fit_21 : decode cX3_fit 21 = .ok (.if_icmp .ge 7, 3) := by decide +kernel
theorem dX3_fit_24 : decode cX3_fit 24 = .ok (.ldc2_w 101, 3) := by decide +kernel
theorem dX3_fit_27 : decode cX3_fit 27 = .ok (.lreturn, 1) := by decide +kernel
theorem dX3_fit_28 : decode cX3_fit 28 = .ok (.aload_n 0, 1) := by decide +kernel
theorem dX3_fit_29 : decode cX3_fit 29 = .ok (.getfield 26, 3) := by decide +kernel
theorem dX3_fit_32 : decode cX3_fit 32 = .ok (.invokevirtual 103, 3) := by decide +kernel
theorem dX3_fit_35 : decode cX3_fit 35 = .ok (.lstore_n 2, 1) := by decide +kernel
theorem dX3_fit_36 : decode cX3_fit 36 = .ok (.aload_n 0, 1) := by decide +kernel
theorem dX3_fit_37 : decode cX3_fit 37 = .ok (.getfield 26, 3) := by decide +kernel
theorem dX3_fit_40 : decode cX3_fit 40 = .ok (.invokevirtual 107, 3) := by decide +kernel
theorem dX3_fit_43 : decode cX3_fit 43 = .ok (.lstore 4, 2) := by decide +kernel
theorem dX3_fit_45 : decode cX3_fit 45 = .ok (.lload_n 2, 1) := by decide +kernel
theorem dX3_fit_46 : decode cX3_fit 46 = .ok (.lload 4, 2) := by decide +kernel
theorem dX3_fit_48 : decode cX3_fit 48 = .ok (.invokestatic 110, 3) := by decide +kernel
theorem dX3_fit_51 : decode cX3_fit 51 = .ok (.lstore 6, 2) := by decide +kernel
theorem dX3_fit_53 : decode cX3_fit 53 = .ok (.iload_n 1, 1) := by decide +kernel
theorem dX3_fit_54 : decode cX3_fit 54 = .ok (.ifCond .ne 7, 3) := by decide +kernel
theorem dX3_fit_57 : decode cX3_fit 57 = .ok (.lload_n 2, 1) := by decide +kernel
theorem dX3_fit_58 : decode cX3_fit 58 = .ok (.goto 5, 3) := by decide +kernel
theorem dX3_fit_61 : decode cX3_fit 61 = .ok (.lload 4, 2) := by decide +kernel
theorem dX3_fit_63 : decode cX3_fit 63 = .ok (.lload 6, 2) := by decide +kernel
theorem dX3_fit_65 : decode cX3_fit 65 = .ok (.ldiv, 1) := by decide +kernel
theorem dX3_fit_66 : decode cX3_fit 66 = .ok (.lreturn, 1) := by decide +kernel
set_option maxRecDepth 20000 in
theorem ggX3_pace_X3_isWithin : GoodIn wsX3_pace wsX3_isWithin := goodIn_r _ [9] (by decide +kernel) (by decide +kernel)
set_option maxRecDepth 20000 in
theorem gX3_pace_X3_isWithin : GoodIn wsX3_pace (va_wsS RX3 31 yX3_isWithin wsX3_isWithin) := goodIn_app (goodIn_of _ (by decide +kernel)) ggX3_pace_X3_isWithin
set_option maxRecDepth 20000 in
theorem ggX3_pace_X2_above : GoodIn wsX3_pace wsX2_above := goodIn_r _ [14, 15, 16, 24, 25] (by decide +kernel) (by decide +kernel)
set_option maxRecDepth 20000 in
theorem gX3_pace_X2_above : GoodIn wsX3_pace (wsV RX3 103 RX2 yX2_above wsX2_above) := goodIn_app (goodIn_of _ (by decide +kernel)) ggX3_pace_X2_above
set_option maxRecDepth 20000 in
theorem ggX3_pace_X2_below : GoodIn wsX3_pace wsX2_below := goodIn_r _ [20, 15, 24, 25] (by decide +kernel) (by decide +kernel)
set_option maxRecDepth 20000 in
theorem gX3_pace_X2_below : GoodIn wsX3_pace (wsV RX3 107 RX2 yX2_below wsX2_below) := goodIn_app (goodIn_of _ (by decide +kernel)) ggX3_pace_X2_below
theorem dX3_pace_0 : decode cX3_pace 0 = .ok (.iload_n 1, 1) := by decide +kernel
theorem dX3_pace_1 : decode cX3_pace 1 = .ok (.iconst 1, 1) := by decide +kernel
theorem dX3_pace_2 : decode cX3_pace 2 = .ok (.ldc 114, 2) := by decide +kernel
theorem dX3_pace_4 : decode cX3_pace 4 = .ok (.invokestatic 31, 3) := by decide +kernel
theorem dX3_pace_7 : decode cX3_pace 7 = .ok (.ifCond .ne 7, 3) := by decide +kernel
theorem dX3_pace_10 : decode cX3_pace 10 = .ok (.ldc2_w 72, 3) := by decide +kernel
theorem dX3_pace_13 : decode cX3_pace 13 = .ok (.lreturn, 1) := by decide +kernel
theorem dX3_pace_14 : decode cX3_pace 14 = .ok (.aload_n 0, 1) := by decide +kernel
theorem dX3_pace_15 : decode cX3_pace 15 = .ok (.getfield 26, 3) := by decide +kernel
theorem dX3_pace_18 : decode cX3_pace 18 = .ok (.invokevirtual 103, 3) := by decide +kernel
theorem dX3_pace_21 : decode cX3_pace 21 = .ok (.lstore_n 2, 1) := by decide +kernel
theorem dX3_pace_22 : decode cX3_pace 22 = .ok (.aload_n 0, 1) := by decide +kernel
theorem dX3_pace_23 : decode cX3_pace 23 = .ok (.getfield 26, 3) := by decide +kernel
theorem dX3_pace_26 : decode cX3_pace 26 = .ok (.invokevirtual 107, 3) := by decide +kernel
theorem dX3_pace_29 : decode cX3_pace 29 = .ok (.iload_n 1, 1) := by decide +kernel
theorem dX3_pace_30 : decode cX3_pace 30 = .ok (.i2l, 1) := by decide +kernel
theorem dX3_pace_31 : decode cX3_pace 31 = .ok (.lmul, 1) := by decide +kernel
theorem dX3_pace_32 : decode cX3_pace 32 = .ok (.lstore 4, 2) := by decide +kernel
theorem dX3_pace_34 : decode cX3_pace 34 = .ok (.lload 4, 2) := by decide +kernel
theorem dX3_pace_36 : decode cX3_pace 36 = .ok (.lconst 1, 1) := by decide +kernel
theorem dX3_pace_37 : decode cX3_pace 37 = .ok (.lcmp, 1) := by decide +kernel
theorem dX3_pace_38 : decode cX3_pace 38 = .ok (.ifCond .ge 7, 3) := by decide +kernel
theorem dX3_pace_41 : decode cX3_pace 41 = .ok (.ldc2_w 101, 3) := by decide +kernel
theorem dX3_pace_44 : decode cX3_pace 44 = .ok (.lreturn, 1) := by decide +kernel
theorem dX3_pace_45 : decode cX3_pace 45 = .ok (.lload_n 2, 1) := by decide +kernel
theorem dX3_pace_46 : decode cX3_pace 46 = .ok (.lload 4, 2) := by decide +kernel
theorem dX3_pace_48 : decode cX3_pace 48 = .ok (.ldiv, 1) := by decide +kernel
theorem dX3_pace_49 : decode cX3_pace 49 = .ok (.lstore 6, 2) := by decide +kernel
theorem dX3_pace_51 : decode cX3_pace 51 = .ok (.ldc2_w 115, 3) := by decide +kernel
theorem dX3_pace_54 : decode cX3_pace 54 = .ok (.lload_n 2, 1) := by decide +kernel
theorem dX3_pace_55 : decode cX3_pace 55 = .ok (.lload 4, 2) := by decide +kernel
theorem dX3_pace_57 : decode cX3_pace 57 = .ok (.lrem, 1) := by decide +kernel
theorem dX3_pace_58 : decode cX3_pace 58 = .ok (.lmul, 1) := by decide +kernel
theorem dX3_pace_59 : decode cX3_pace 59 = .ok (.lload 4, 2) := by decide +kernel
theorem dX3_pace_61 : decode cX3_pace 61 = .ok (.lcmp, 1) := by decide +kernel
theorem dX3_pace_62 : decode cX3_pace 62 = .ok (.ifCond .le 10, 3) := by decide +kernel
theorem dX3_pace_65 : decode cX3_pace 65 = .ok (.lload 6, 2) := by decide +kernel
theorem dX3_pace_67 : decode cX3_pace 67 = .ok (.lconst 1, 1) := by decide +kernel
theorem dX3_pace_68 : decode cX3_pace 68 = .ok (.ladd, 1) := by decide +kernel
theorem dX3_pace_69 : decode cX3_pace 69 = .ok (.goto 5, 3) := by decide +kernel
theorem dX3_pace_72 : decode cX3_pace 72 = .ok (.lload 6, 2) := by decide +kernel
theorem dX3_pace_74 : decode cX3_pace 74 = .ok (.lreturn, 1) := by decide +kernel
theorem dX3_isWithin_0 : decode cX3_isWithin 0 = .ok (.iload_n 0, 1) := by decide +kernel
theorem dX3_isWithin_1 : decode cX3_isWithin 1 = .ok (.iload_n 1, 1) := by decide +kernel
theorem dX3_isWithin_2 : decode cX3_isWithin 2 = .ok (.if_icmp .lt 12, 3) := by decide +kernel
theorem dX3_isWithin_5 : decode cX3_isWithin 5 = .ok (.iload_n 0, 1) := by decide +kernel
theorem dX3_isWithin_6 : decode cX3_isWithin 6 = .ok (.iload_n 2, 1) := by decide +kernel
theorem dX3_isWithin_7 : decode cX3_isWithin 7 = .ok (.if_icmp .gt 7, 3) := by decide +kernel
theorem dX3_isWithin_10 : decode cX3_isWithin 10 = .ok (.iconst 1, 1) := by decide +kernel
theorem dX3_isWithin_11 : decode cX3_isWithin 11 = .ok (.goto 4, 3) := by decide +kernel
theorem dX3_isWithin_14 : decode cX3_isWithin 14 = .ok (.iconst 0, 1) := by decide +kernel
theorem dX3_isWithin_15 : decode cX3_isWithin 15 = .ok (.ireturn, 1) := by decide +kernel
set_option maxRecDepth 20000 in
theorem ggX3_beginOf_X1_unitsAhead : GoodIn wsX3_beginOf wsX1_unitsAhead := goodIn_r _ [7, 8, 9, 10, 6, 11, 12, 13, 14, 15, 16, 17, 18, 19, 20, 21, 22, 23, 24, 25, 26, 27, 28, 29, 30, 31, 32, 33, 34, 35, 36, 37, 49, 50, 51, 52, 53, 54] (by decide +kernel) (by decide +kernel)
set_option maxRecDepth 20000 in
theorem gX3_beginOf_X1_unitsAhead : GoodIn wsX3_beginOf (wsV RX3 117 RX1 yX1_unitsAhead wsX1_unitsAhead) := goodIn_app (goodIn_of _ (by decide +kernel)) ggX3_beginOf_X1_unitsAhead
set_option maxRecDepth 20000 in
theorem ggX3_beginOf_X0_unitsUpTo : GoodIn wsX3_beginOf wsX0_unitsUpTo := goodIn_r _ [42, 43, 44, 45, 55, 56, 57] (by decide +kernel) (by decide +kernel)
set_option maxRecDepth 20000 in
theorem gX3_beginOf_X0_unitsUpTo : GoodIn wsX3_beginOf (wsV RX3 120 RX0 yX0_unitsUpTo wsX0_unitsUpTo) := goodIn_app (goodIn_of _ (by decide +kernel)) ggX3_beginOf_X0_unitsUpTo
theorem dX3_beginOf_0 : decode cX3_beginOf 0 = .ok (.aload_n 0, 1) := by decide +kernel
theorem dX3_beginOf_1 : decode cX3_beginOf 1 = .ok (.getfield 10, 3) := by decide +kernel
theorem dX3_beginOf_4 : decode cX3_beginOf 4 = .ok (.iload_n 1, 1) := by decide +kernel
theorem dX3_beginOf_5 : decode cX3_beginOf 5 = .ok (.invokevirtual 117, 3) := by decide +kernel
theorem dX3_beginOf_8 : decode cX3_beginOf 8 = .ok (.aload_n 0, 1) := by decide +kernel
theorem dX3_beginOf_9 : decode cX3_beginOf 9 = .ok (.getfield 19, 3) := by decide +kernel
theorem dX3_beginOf_12 : decode cX3_beginOf 12 = .ok (.iload_n 1, 1) := by decide +kernel
theorem dX3_beginOf_13 : decode cX3_beginOf 13 = .ok (.invokevirtual 120, 3) := by decide +kernel
theorem dX3_beginOf_16 : decode cX3_beginOf 16 = .ok (.ladd, 1) := by decide +kernel
theorem dX3_beginOf_17 : decode cX3_beginOf 17 = .ok (.lreturn, 1) := by decide +kernel
set_option maxRecDepth 20000 in
theorem ggX3_framesAt_X3_beginOf : GoodIn wsX3_framesAt wsX3_beginOf := goodIn_r _ [6, 7, 8, 9, 10, 11, 12, 13, 14, 15, 16, 17, 18, 19, 20, 21, 22, 23, 24, 25, 26, 27, 28, 29, 30, 31, 32, 33, 5, 34, 35, 36, 37, 38, 39, 40, 41, 42, 43, 44, 45, 46, 47, 48, 49, 50, 51, 52, 53, 54, 55, 56, 57, 58, 59, 60, 61, 62] (by decide +kernel) (by decide +kernel)
set_option maxRecDepth 20000 in
theorem gX3_framesAt_X3_beginOf : GoodIn wsX3_framesAt (wsV RX3 74 RX3 yX3_beginOf wsX3_beginOf) := goodIn_app (goodIn_of _ (by decide +kernel)) ggX3_framesAt_X3_beginOf
theorem dX3_framesAt_0 : decode cX3_framesAt 0 = .ok (.aload_n 0, 1) := by decide +kernel
theorem dX3_framesAt_1 : decode cX3_framesAt 1 = .ok (.iload_n 1, 1) := by decide +kernel
theorem dX3_framesAt_2 : decode cX3_framesAt 2 = .ok (.invokevirtual 74, 3) := by decide +kernel
theorem dX3_framesAt_5 : decode cX3_framesAt 5 = .ok (.iload_n 2, 1) := by decide +kernel
theorem dX3_framesAt_6 : decode cX3_framesAt 6 = .ok (.i2l, 1) := by decide +kernel
theorem dX3_framesAt_7 : decode cX3_framesAt 7 = .ok (.lmul, 1) := by decide +kernel
theorem dX3_framesAt_8 : decode cX3_framesAt 8 = .ok (.ldc2_w 87, 3) := by decide +kernel
theorem dX3_framesAt_11 : decode cX3_framesAt 11 = .ok (.ldiv, 1) := by decide +kernel
theorem dX3_framesAt_12 : decode cX3_framesAt 12 = .ok (.lreturn, 1) := by decide +kernel
set_option maxRecDepth 20000 in
theorem ggX3_lastBegun_X3_beginOf : GoodIn wsX3_lastBegun wsX3_beginOf := goodIn_r _ [6, 7, 8, 9, 10, 11, 12, 13, 14, 15, 16, 17, 18, 19, 20, 21, 22, 23, 24, 25, 26, 27, 28, 29, 30, 31, 32, 33, 5, 34, 35, 36, 37, 38, 39, 40, 41, 42, 43, 44, 45, 46, 47, 48, 49, 50, 56, 57, 58, 59, 60, 61, 62, 63, 64, 65, 66, 67] (by decide +kernel) (by decide +kernel)
set_option maxRecDepth 20000 in
theorem gX3_lastBegun_X3_beginOf : GoodIn wsX3_lastBegun (wsV RX3 74 RX3 yX3_beginOf wsX3_beginOf) := goodIn_app (goodIn_of _ (by decide +kernel)) ggX3_lastBegun_X3_beginOf
set_option maxRecDepth 20000 in
theorem ggX3_lastBegun_X3_firstBeginningFrom : GoodIn wsX3_lastBegun wsX3_firstBeginningFrom := goodIn_r _ [54, 55, 2, 3, 4, 5, 6, 7, 8, 9, 10, 11, 12, 13, 14, 15, 16, 17, 18, 19, 20, 21, 22, 23, 24, 25, 26, 27, 28, 29, 30, 31, 32, 33, 34, 35, 36, 37, 38, 39, 40, 41, 42, 43, 44, 45, 46, 47, 48, 49, 50, 56, 57, 58, 59, 60, 61, 62, 63, 64, 65, 66, 67] (by decide +kernel) (by decide +kernel)
set_option maxRecDepth 20000 in
theorem gX3_lastBegun_X3_firstBeginningFrom : GoodIn wsX3_lastBegun (wsV RX3 89 RX3 yX3_firstBeginningFrom wsX3_firstBeginningFrom) := goodIn_app (goodIn_of _ (by decide +kernel)) ggX3_lastBegun_X3_firstBeginningFrom
theorem dX3_lastBegun_0 : decode cX3_lastBegun 0 = .ok (.lload_n 1, 1) := by decide +kernel
theorem dX3_lastBegun_1 : decode cX3_lastBegun 1 = .ok (.aload_n 0, 1) := by decide +kernel
theorem dX3_lastBegun_2 : decode cX3_lastBegun 2 = .ok (.ldc 35, 2) := by decide +kernel
theorem dX3_lastBegun_4 : decode cX3_lastBegun 4 = .ok (.invokevirtual 74, 3) := by decide +kernel
theorem dX3_lastBegun_7 : decode cX3_lastBegun 7 = .ok (.lcmp, 1) := by decide +kernel
theorem dX3_lastBegun_8 : decode cX3_lastBegun 8 = .ok (.ifCond .lt 6, 3) := by decide +kernel
theorem dX3_lastBegun_11 : decode cX3_lastBegun 11 = .ok (.ldc 35, 2) := by decide +kernel
theorem dX3_lastBegun_13 : decode cX3_lastBegun 13 = .ok (.ireturn, 1) := by decide +kernel
theorem dX3_lastBegun_14 : decode cX3_lastBegun 14 = .ok (.aload_n 0, 1) := by decide +kernel
theorem dX3_lastBegun_15 : decode cX3_lastBegun 15 = .ok (.lload_n 1, 1) := by decide +kernel
theorem dX3_lastBegun_16 : decode cX3_lastBegun 16 = .ok (.lconst 1, 1) := by decide +kernel
theorem dX3_lastBegun_17 : decode cX3_lastBegun 17 = .ok (.ladd, 1) := by decide +kernel
theorem dX3_lastBegun_18 : decode cX3_lastBegun 18 = .ok (.invokevirtual 89, 3) := by decide +kernel
theorem dX3_lastBegun_21 : decode cX3_lastBegun 21 = .ok (.istore_n 3, 1) := by decide +kernel
theorem dX3_lastBegun_22 : decode cX3_lastBegun 22 = .ok (.iload_n 3, 1) := by decide +kernel
theorem dX3_lastBegun_23 : decode cX3_lastBegun 23 = .ok (.ifCond .ne 7, 3) := by decide +kernel
theorem dX3_lastBegun_26 : decode cX3_lastBegun 26 = .ok (.iconst (-1), 1) := by decide +kernel
theorem dX3_lastBegun_27 : decode cX3_lastBegun 27 = .ok (.goto 6, 3) := by decide +kernel
theorem dX3_lastBegun_30 : decode cX3_lastBegun 30 = .ok (.iload_n 3, 1) := by decide +kernel
theorem dX3_lastBegun_31 : decode cX3_lastBegun 31 = .ok (.iconst 1, 1) := by decide +kernel
theorem dX3_lastBegun_32 : decode cX3_lastBegun 32 = .ok (.isub, 1) := by decide +kernel
theorem dX3_lastBegun_33 : decode cX3_lastBegun 33 = .ok (.ireturn, 1) := by decide +kernel
set_option maxRecDepth 20000 in
theorem ggX3_firstBeginningFrom_X3_beginOf : GoodIn wsX3_firstBeginningFrom wsX3_beginOf := goodIn_r _ [6, 7, 8, 9, 10, 11, 12, 13, 14, 15, 16, 17, 18, 19, 20, 21, 22, 23, 24, 25, 26, 27, 28, 29, 30, 31, 32, 33, 5, 34, 35, 36, 37, 38, 39, 40, 41, 42, 43, 44, 45, 46, 47, 48, 49, 50, 51, 52, 53, 54, 55, 56, 57, 58, 59, 60, 61, 62] (by decide +kernel) (by decide +kernel)
set_option maxRecDepth 20000 in
theorem gX3_firstBeginningFrom_X3_beginOf : GoodIn wsX3_firstBeginningFrom (wsV RX3 74 RX3 yX3_beginOf wsX3_beginOf) := goodIn_app (goodIn_of _ (by decide +kernel)) ggX3_firstBeginningFrom_X3_beginOf
theorem dX3_firstBeginningFrom_0 : decode cX3_firstBeginningFrom 0 = .ok (.iconst 0, 1) := by decide +kernel
theorem dX3_firstBeginningFrom_1 : decode cX3_firstBeginningFrom 1 = .ok (.istore_n 3, 1) := by decide +kernel
theorem dX3_firstBeginningFrom_2 : decode cX3_firstBeginningFrom 2 = .ok (.ldc 123, 2) := by decide +kernel
theorem dX3_firstBeginningFrom_4 : decode cX3_firstBeginningFrom 4 = .ok (.istore 4, 2) := by decide +kernel
theorem dX3_firstBeginningFrom_6 : decode cX3_firstBeginningFrom 6 = .ok (.iconst 0, 1) := by decide +kernel
theorem dX3_firstBeginningFrom_7 : decode cX3_firstBeginningFrom 7 = .ok (.istore 5, 2) := by decide +kernel
theorem dX3_firstBeginningFrom_9 : decode cX3_firstBeginningFrom 9 = .ok (.iload 5, 2) := by decide +kernel
theorem dX3_firstBeginningFrom_11 : decode cX3_firstBeginningFrom 11 = .ok (.sipush 200, 3) := by decide +kernel
theorem dX3_firstBeginningFrom_14 : decode cX3_firstBeginningFrom 14 = .ok (.if_icmp .ge 46, 3) := by decide +kernel
theorem dX3_firstBeginningFrom_17 : decode cX3_firstBeginningFrom 17 = .ok (.iload_n 3, 1) := by decide +kernel
theorem dX3_firstBeginningFrom_18 : decode cX3_firstBeginningFrom 18 = .ok (.iload 4, 2) := by decide +kernel
theorem dX3_firstBeginningFrom_20 : decode cX3_firstBeginningFrom 20 = .ok (.if_icmp .ge 40, 3) := by decide +kernel
theorem dX3_firstBeginningFrom_23 : decode cX3_firstBeginningFrom 23 = .ok (.iload_n 3, 1) := by decide +kernel
theorem dX3_firstBeginningFrom_24 : decode cX3_firstBeginningFrom 24 = .ok (.iload 4, 2) := by decide +kernel
theorem dX3_firstBeginningFrom_26 : decode cX3_firstBeginningFrom 26 = .ok (.iadd, 1) := by decide +kernel
theorem dX3_firstBeginningFrom_27 : decode cX3_firstBeginningFrom 27 = .ok (.iconst 2, 1) := by decide +kernel
theorem dX3_firstBeginningFrom_28 : decode cX3_firstBeginningFrom 28 = .ok (.idiv, 1) := by decide +kernel
theorem dX3_firstBeginningFrom_29 : decode cX3_firstBeginningFrom 29 = .ok (.istore 6, 2) := by decide +kernel
theorem dX3_firstBeginningFrom_31 : decode cX3_firstBeginningFrom 31 = .ok (.aload_n 0, 1) := by decide +kernel
theorem dX3_firstBeginningFrom_32 : decode cX3_firstBeginningFrom 32 = .ok (.iload 6, 2) := by decide +kernel
theorem dX3_firstBeginningFrom_34 : decode cX3_firstBeginningFrom 34 = .ok (.invokevirtual 74, 3) := by decide +kernel
theorem dX3_firstBeginningFrom_37 : decode cX3_firstBeginningFrom 37 = .ok (.lload_n 1, 1) := by decide +kernel
theorem dX3_firstBeginningFrom_38 : decode cX3_firstBeginningFrom 38 = .ok (.lcmp, 1) := by decide +kernel
theorem dX3_firstBeginningFrom_39 : decode cX3_firstBeginningFrom 39 = .ok (.ifCond .lt 10, 3) := by decide +kernel
theorem dX3_firstBeginningFrom_42 : decode cX3_firstBeginningFrom 42 = .ok (.iload 6, 2) := by decide +kernel
theorem dX3_firstBeginningFrom_44 : decode cX3_firstBeginningFrom 44 = .ok (.istore 4, 2) := by decide +kernel
theorem dX3_firstBeginningFrom_46 : decode cX3_firstBeginningFrom 46 = .ok (.goto 8, 3) := by decide +kernel
theorem dX3_firstBeginningFrom_49 : decode cX3_firstBeginningFrom 49 = .ok (.iload 6, 2) := by decide +kernel
theorem dX3_firstBeginningFrom_51 : decode cX3_firstBeginningFrom 51 = .ok (.iconst 1, 1) := by decide +kernel
theorem dX3_firstBeginningFrom_52 : decode cX3_firstBeginningFrom 52 = .ok (.iadd, 1) := by decide +kernel
theorem dX3_firstBeginningFrom_53 : decode cX3_firstBeginningFrom 53 = .ok (.istore_n 3, 1) := by decide +kernel
theorem dX3_firstBeginningFrom_54 : decode cX3_firstBeginningFrom 54 = .ok (.iinc 5 1, 3) := by decide +kernel
theorem dX3_firstBeginningFrom_57 : decode cX3_firstBeginningFrom 57 = .ok (.goto (-48), 3) := by decide +kernel
theorem dX3_firstBeginningFrom_60 : decode cX3_firstBeginningFrom 60 = .ok (.iload_n 3, 1) := by decide +kernel
theorem dX3_firstBeginningFrom_61 : decode cX3_firstBeginningFrom 61 = .ok (.ireturn, 1) := by decide +kernel
theorem dX3_commonDivisor_0 : decode cX3_commonDivisor 0 = .ok (.lload_n 0, 1) := by decide +kernel
theorem dX3_commonDivisor_1 : decode cX3_commonDivisor 1 = .ok (.lstore 4, 2) := by decide +kernel
theorem dX3_commonDivisor_3 : decode cX3_commonDivisor 3 = .ok (.lload_n 2, 1) := by decide +kernel
theorem dX3_commonDivisor_4 : decode cX3_commonDivisor 4 = .ok (.lstore 6, 2) := by decide +kernel
theorem dX3_commonDivisor_6 : decode cX3_commonDivisor 6 = .ok (.iconst 0, 1) := by decide +kernel
theorem dX3_commonDivisor_7 : decode cX3_commonDivisor 7 = .ok (.istore 8, 2) := by decide +kernel
theorem dX3_commonDivisor_9 : decode cX3_commonDivisor 9 = .ok (.iload 8, 2) := by decide +kernel
theorem dX3_commonDivisor_11 : decode cX3_commonDivisor 11 = .ok (.sipush 200, 3) := by decide +kernel
theorem dX3_commonDivisor_14 : decode cX3_commonDivisor 14 = .ok (.if_icmp .ge 31, 3) := by decide +kernel
theorem dX3_commonDivisor_17 : decode cX3_commonDivisor 17 = .ok (.lload 6, 2) := by decide +kernel
theorem dX3_commonDivisor_19 : decode cX3_commonDivisor 19 = .ok (.lconst 0, 1) := by decide +kernel
theorem dX3_commonDivisor_20 : decode cX3_commonDivisor 20 = .ok (.lcmp, 1) := by decide +kernel
theorem dX3_commonDivisor_21 : decode cX3_commonDivisor 21 = .ok (.ifCond .le 24, 3) := by decide +kernel
theorem dX3_commonDivisor_24 : decode cX3_commonDivisor 24 = .ok (.lload 4, 2) := by decide +kernel
theorem dX3_commonDivisor_26 : decode cX3_commonDivisor 26 = .ok (.lload 6, 2) := by decide +kernel
theorem dX3_commonDivisor_28 : decode cX3_commonDivisor 28 = .ok (.lrem, 1) := by decide +kernel
theorem dX3_commonDivisor_29 : decode cX3_commonDivisor 29 = .ok (.lstore 9, 2) := by decide +kernel
theorem dX3_commonDivisor_31 : decode cX3_commonDivisor 31 = .ok (.lload 6, 2) := by decide +kernel
theorem dX3_commonDivisor_33 : decode cX3_commonDivisor 33 = .ok (.lstore 4, 2) := by decide +kernel
theorem dX3_commonDivisor_35 : decode cX3_commonDivisor 35 = .ok (.lload 9, 2) := by decide +kernel
theorem dX3_commonDivisor_37 : decode cX3_commonDivisor 37 = .ok (.lstore 6, 2) := by decide +kernel
theorem dX3_commonDivisor_39 : decode cX3_commonDivisor 39 = .ok (.iinc 8 1, 3) := by decide +kernel
theorem dX3_commonDivisor_42 : decode cX3_commonDivisor 42 = .ok (.goto (-33), 3) := by decide +kernel
theorem dX3_commonDivisor_45 : decode cX3_commonDivisor 45 = .ok (.lload 4, 2) := by decide +kernel
theorem dX3_commonDivisor_47 : decode cX3_commonDivisor 47 = .ok (.lconst 1, 1) := by decide +kernel
theorem dX3_commonDivisor_48 : decode cX3_commonDivisor 48 = .ok (.invokestatic 124, 3) := by decide +kernel
theorem dX3_commonDivisor_51 : decode cX3_commonDivisor 51 = .ok (.lreturn, 1) := by decide +kernel
set_option maxRecDepth 20000 in
theorem ggX3_sumOfQuotients_J9_floorDiv_f86c9 : GoodIn wsX3_sumOfQuotients wsJ9_floorDiv_f86c9 := goodIn_r _ [5] (by decide +kernel) (by decide +kernel)
set_option maxRecDepth 20000 in
theorem gX3_sumOfQuotients_J9_floorDiv_f86c9 : GoodIn wsX3_sumOfQuotients (va_wsS RX3 129 yJ9_floorDiv_f86c9 wsJ9_floorDiv_f86c9) := goodIn_app (goodIn_of _ (by decide +kernel)) ggX3_sumOfQuotients_J9_floorDiv_f86c9
set_option maxRecDepth 20000 in
theorem ggX3_sumOfQuotients_J9_floorMod_f86c9 : GoodIn wsX3_sumOfQuotients wsJ9_floorMod_f86c9 := goodIn_r _ [8] (by decide +kernel) (by decide +kernel)
set_option maxRecDepth 20000 in
theorem gX3_sumOfQuotients_J9_floorMod_f86c9 : GoodIn wsX3_sumOfQuotients (va_wsS RX3 132 yJ9_floorMod_f86c9 wsJ9_floorMod_f86c9) := goodIn_app (goodIn_of _ (by decide +kernel)) ggX3_sumOfQuotients_J9_floorMod_f86c9
theorem dX3_sumOfQuotients_0 : decode cX3_sumOfQuotients 0 = .ok (.iload_n 0, 1) := by decide +kernel
theorem dX3_sumOfQuotients_1 : decode cX3_sumOfQuotients 1 = .ok (.i2l, 1) := by decide +kernel
theorem dX3_sumOfQuotients_2 : decode cX3_sumOfQuotients 2 = .ok (.lstore_n 3, 1) := by decide +kernel
theorem dX3_sumOfQuotients_3 : decode cX3_sumOfQuotients 3 = .ok (.iload_n 1, 1) := by decide +kernel
theorem dX3_sumOfQuotients_4 : decode cX3_sumOfQuotients 4 = .ok (.i2l, 1) := by decide +kernel
theorem dX3_sumOfQuotients_5 : decode cX3_sumOfQuotients 5 = .ok (.lstore 5, 2) := by decide +kernel
theorem dX3_sumOfQuotients_7 : decode cX3_sumOfQuotients 7 = .ok (.iload_n 2, 1) := by decide +kernel
theorem dX3_sumOfQuotients_8 : decode cX3_sumOfQuotients 8 = .ok (.i2l, 1) := by decide +kernel
theorem dX3_sumOfQuotients_9 : decode cX3_sumOfQuotients 9 = .ok (.lstore 7, 2) := by decide +kernel
theorem dX3_sumOfQuotients_11 : decode cX3_sumOfQuotients 11 = .ok (.lconst 0, 1) := by decide +kernel
theorem dX3_sumOfQuotients_12 : decode cX3_sumOfQuotients 12 = .ok (.lstore 9, 2) := by decide +kernel
theorem dX3_sumOfQuotients_14 : decode cX3_sumOfQuotients 14 = .ok (.lconst 0, 1) := by decide +kernel
theorem dX3_sumOfQuotients_15 : decode cX3_sumOfQuotients 15 = .ok (.lstore 11, 2) := by decide +kernel
theorem dX3_sumOfQuotients_17 : decode cX3_sumOfQuotients 17 = .ok (.iconst 0, 1) := by decide +kernel
theorem dX3_sumOfQuotients_18 : decode cX3_sumOfQuotients 18 = .ok (.istore 13, 2) := by decide +kernel
theorem dX3_sumOfQuotients_20 : decode cX3_sumOfQuotients 20 = .ok (.iload 13, 2) := by decide +kernel
theorem dX3_sumOfQuotients_22 : decode cX3_sumOfQuotients 22 = .ok (.sipush 200, 3) := by decide +kernel
theorem dX3_sumOfQuotients_25 : decode cX3_sumOfQuotients 25 = .ok (.if_icmp .ge 110, 3) := by decide +kernel
theorem dX3_sumOfQuotients_28 : decode cX3_sumOfQuotients 28 = .ok (.lload 7, 2) := by decide +kernel
theorem dX3_sumOfQuotients_30 : decode cX3_sumOfQuotients 30 = .ok (.lconst 0, 1) := by decide +kernel
theorem dX3_sumOfQuotients_31 : decode cX3_sumOfQuotients 31 = .ok (.lcmp, 1) := by decide +kernel
theorem dX3_sumOfQuotients_32 : decode cX3_sumOfQuotients 32 = .ok (.ifCond .le 103, 3) := by decide +kernel
theorem dX3_sumOfQuotients_35 : decode cX3_sumOfQuotients 35 = .ok (.lload_n 3, 1) := by decide +kernel
theorem dX3_sumOfQuotients_36 : decode cX3_sumOfQuotients 36 = .ok (.lconst 0, 1) := by decide +kernel
theorem dX3_sumOfQuotients_37 : decode cX3_sumOfQuotients 37 = .ok (.lcmp, 1) := by decide +kernel
theorem dX3_sumOfQuotients_38 : decode cX3_sumOfQuotients 38 = .ok (.ifCond .le 97, 3) := by decide +kernel
theorem dX3_sumOfQuotients_41 : decode cX3_sumOfQuotients 41 = .ok (.lload 11, 2) := by decide +kernel
theorem dX3_sumOfQuotients_43 : decode cX3_sumOfQuotients 43 = .ok (.lload_n 3, 1) := by decide +kernel
theorem dX3_sumOfQuotients_44 : decode cX3_sumOfQuotients 44 = .ok (.lload_n 3, 1) := by decide +kernel
theorem dX3_sumOfQuotients_45 : decode cX3_sumOfQuotients 45 = .ok (.lconst 1, 1) := by decide +kernel
theorem dX3_sumOfQuotients_46 : decode cX3_sumOfQuotients 46 = .ok (.lsub, 1) := by decide +kernel
theorem dX3_sumOfQuotients_47 : decode cX3_sumOfQuotients 47 = .ok (.lmul, 1) := by decide +kernel
theorem dX3_sumOfQuotients_48 : decode cX3_sumOfQuotients 48 = .ok (.ldc2_w 115, 3) := by decide +kernel
theorem dX3_sumOfQuotients_51 : decode cX3_sumOfQuotients 51 = .ok (.ldiv, 1) := by decide +kernel
theorem dX3_sumOfQuotients_52 : decode cX3_sumOfQuotients 52 = .ok (.lload 5, 2) := by decide +kernel
theorem dX3_sumOfQuotients_54 : decode cX3_sumOfQuotients 54 = .ok (.lload 7, 2) := by decide +kernel
theorem dX3_sumOfQuotients_56 : decode cX3_sumOfQuotients 56 = .ok (.invokestatic 129, 3) := by decide +kernel
theorem dX3_sumOfQuotients_59 : decode cX3_sumOfQuotients 59 = .ok (.lmul, 1) := by decide +kernel
theorem dX3_sumOfQuotients_60 : decode cX3_sumOfQuotients 60 = .ok (.ladd, 1) := by decide +kernel
theorem dX3_sumOfQuotients_61 : decode cX3_sumOfQuotients 61 = .ok (.lstore 11, 2) := by decide +kernel
theorem dX3_sumOfQuotients_63 : decode cX3_sumOfQuotients 63 = .ok (.lload 11, 2) := by decide +kernel
theorem dX3_sumOfQuotients_65 : decode cX3_sumOfQuotients 65 = .ok (.lload_n 3, 1) := by decide +kernel
theorem dX3_sumOfQuotients_66 : decode cX3_sumOfQuotients 66 = .ok (.lload 9, 2) := by decide +kernel
theorem dX3_sumOfQuotients_68 : decode cX3_sumOfQuotients 68 = .ok (.lload 7, 2) := by decide +kernel
theorem dX3_sumOfQuotients_70 : decode cX3_sumOfQuotients 70 = .ok (.invokestatic 129, 3) := by decide +kernel
theorem dX3_sumOfQuotients_73 : decode cX3_sumOfQuotients 73 = .ok (.lmul, 1) := by decide +kernel
theorem dX3_sumOfQuotients_74 : decode cX3_sumOfQuotients 74 = .ok (.ladd, 1) := by decide +kernel
theorem dX3_sumOfQuotients_75 : decode cX3_sumOfQuotients 75 = .ok (.lstore 11, 2) := by decide +kernel
theorem dX3_sumOfQuotients_77 : decode cX3_sumOfQuotients 77 = .ok (.lload 5, 2) := by decide +kernel
theorem dX3_sumOfQuotients_79 : decode cX3_sumOfQuotients 79 = .ok (.lload 7, 2) := by decide +kernel
theorem dX3_sumOfQuotients_81 : decode cX3_sumOfQuotients 81 = .ok (.invokestatic 132, 3) := by decide +kernel
theorem dX3_sumOfQuotients_84 : decode cX3_sumOfQuotients 84 = .ok (.lstore 5, 2) := by decide +kernel
theorem dX3_sumOfQuotients_86 : decode cX3_sumOfQuotients 86 = .ok (.lload 9, 2) := by decide +kernel
theorem dX3_sumOfQuotients_88 : decode cX3_sumOfQuotients 88 = .ok (.lload 7, 2) := by decide +kernel
theorem dX3_sumOfQuotients_90 : decode cX3_sumOfQuotients 90 = .ok (.invokestatic 132, 3) := by decide +kernel
theorem dX3_sumOfQuotients_93 : decode cX3_sumOfQuotients 93 = .ok (.lstore 9, 2) := by decide +kernel
theorem dX3_sumOfQuotients_95 : decode cX3_sumOfQuotients 95 = .ok (.lload 5, 2) := by decide +kernel
theorem dX3_sumOfQuotients_97 : decode cX3_sumOfQuotients 97 = .ok (.lload_n 3, 1) := by decide +kernel
theorem dX3_sumOfQuotients_98 : decode cX3_sumOfQuotients 98 = .ok (.lmul, 1) := by decide +kernel
theorem dX3_sumOfQuotients_99 : decode cX3_sumOfQuotients 99 = .ok (.lload 9, 2) := by decide +kernel
theorem dX3_sumOfQuotients_101 : decode cX3_sumOfQuotients 101 = .ok (.ladd, 1) := by decide +kernel
theorem dX3_sumOfQuotients_102 : decode cX3_sumOfQuotients 102 = .ok (.lstore 14, 2) := by decide +kernel
theorem dX3_sumOfQuotients_104 : decode cX3_sumOfQuotients 104 = .ok (.lload 14, 2) := by decide +kernel
theorem dX3_sumOfQuotients_106 : decode cX3_sumOfQuotients 106 = .ok (.lload 7, 2) := by decide +kernel
theorem dX3_sumOfQuotients_108 : decode cX3_sumOfQuotients 108 = .ok (.ldiv, 1) := by decide +kernel
theorem dX3_sumOfQuotients_109 : decode cX3_sumOfQuotients 109 = .ok (.lstore_n 3, 1) := by decide +kernel
theorem dX3_sumOfQuotients_110 : decode cX3_sumOfQuotients 110 = .ok (.lload 14, 2) := by decide +kernel
theorem dX3_sumOfQuotients_112 : decode cX3_sumOfQuotients 112 = .ok (.lload 7, 2) := by decide +kernel
theorem dX3_sumOfQuotients_114 : decode cX3_sumOfQuotients 114 = .ok (.lrem, 1) := by decide +kernel
theorem dX3_sumOfQuotients_115 : decode cX3_sumOfQuotients 115 = .ok (.lstore 9, 2) := by decide +kernel
theorem dX3_sumOfQuotients_117 : decode cX3_sumOfQuotients 117 = .ok (.lload 7, 2) := by decide +kernel
theorem dX3_sumOfQuotients_119 : decode cX3_sumOfQuotients 119 = .ok (.lstore 16, 2) := by decide +kernel
theorem dX3_sumOfQuotients_121 : decode cX3_sumOfQuotients 121 = .ok (.lload 5, 2) := by decide +kernel
theorem dX3_sumOfQuotients_123 : decode cX3_sumOfQuotients 123 = .ok (.lstore 7, 2) := by decide +kernel
theorem dX3_sumOfQuotients_125 : decode cX3_sumOfQuotients 125 = .ok (.lload 16, 2) := by decide +kernel
theorem dX3_sumOfQuotients_127 : decode cX3_sumOfQuotients 127 = .ok (.lstore 5, 2) := by decide +kernel
theorem dX3_sumOfQuotients_129 : decode cX3_sumOfQuotients 129 = .ok (.iinc 13 1, 3) := by decide +kernel
theorem dX3_sumOfQuotients_132 : decode cX3_sumOfQuotients 132 = .ok (.goto (-112), 3) := by decide +kernel
theorem dX3_sumOfQuotients_135 : decode cX3_sumOfQuotients 135 = .ok (.lload 11, 2) := by decide +kernel
theorem dX3_sumOfQuotients_137 : decode cX3_sumOfQuotients 137 = .ok (.lreturn, 1) := by decide +kernel

set_option maxRecDepth 20000 in
theorem ggX5_init_X1_init : GoodIn wsX5_init wsX1_init := goodIn_r _ [21, 22, 2, 3, 23, 17, 18, 24, 25, 26, 27, 28, 29, 30, 31, 32, 33, 34, 35, 36, 37, 38, 39, 40, 41, 42, 43, 44, 45, 46, 47, 48, 49, 50, 51, 52, 90, 91, 92, 93, 94, 95, 96, 97, 65, 66, 67, 68, 69, 70, 71, 72, 73, 98, 99] (by decide +kernel) (by decide +kernel)
set_option maxRecDepth 20000 in
theorem gX5_init_X1_init_n11 : GoodIn wsX5_init (wsX1_init) := ggX5_init_X1_init
set_option maxRecDepth 20000 in
theorem ggX5_init_X0_init : GoodIn wsX5_init wsX0_init := goodIn_r _ [55, 56, 2, 3, 57, 58, 5, 6, 20, 21, 22, 23, 17, 18, 24, 25, 26, 27, 28, 29, 30, 31, 32, 33, 34, 35, 36, 37, 38, 39, 40, 41, 42, 43, 44, 45, 46, 47, 48, 49, 50, 51, 52, 78, 79, 80, 65, 66, 67, 68, 69, 70, 71, 72, 73, 90, 91, 92, 93, 94, 95, 96, 97, 98, 99] (by decide +kernel) (by decide +kernel)
set_option maxRecDepth 20000 in
theorem gX5_init_X0_init : GoodIn wsX5_init (wsX0_init) := ggX5_init_X0_init
set_option maxRecDepth 20000 in
theorem ggX5_init_X4_init : GoodIn wsX5_init wsX4_init := goodIn_r _ [60, 61, 2, 3, 62, 63, 36, 64, 81, 82, 83, 84, 85, 86, 87, 88, 89] (by decide +kernel) (by decide +kernel)
set_option maxRecDepth 20000 in
theorem gX5_init_X4_init_n25 : GoodIn wsX5_init (wsX4_init) := ggX5_init_X4_init
set_option maxRecDepth 20000 in
theorem ggX5_init_X3_init : GoodIn wsX5_init wsX3_init := goodIn_r _ [42, 43, 2, 3, 44, 36, 45, 46, 47, 90, 91, 92, 93, 94, 95, 96, 97] (by decide +kernel) (by decide +kernel)
set_option maxRecDepth 20000 in
theorem gX5_init_X3_init_n32 : GoodIn wsX5_init (wsX3_init) := ggX5_init_X3_init
theorem dX5_init_0 : decode cX5_init 0 = .ok (.aload_n 0, 1) := by decide +kernel
theorem dX5_init_1 : decode cX5_init 1 = .ok (.invokespecial 3, 3) := by decide +kernel
theorem dX5_init_4 : decode cX5_init 4 = .ok (.aload_n 0, 1) := by decide +kernel
theorem dX5_init_5 : decode cX5_init 5 = .ok (.new 9, 3) := by decide +kernel
theorem dX5_init_8 : decode cX5_init 8 = .ok (.dup, 1) := by decide +kernel
theorem dX5_init_9 : decode cX5_init 9 = .ok (.invokespecial 11, 3) := by decide +kernel
theorem dX5_init_12 : decode cX5_init 12 = .ok (.putfield 12, 3) := by decide +kernel
theorem dX5_init_15 : decode cX5_init 15 = .ok (.aload_n 0, 1) := by decide +kernel
theorem dX5_init_16 : decode cX5_init 16 = .ok (.new 16, 3) := by decide +kernel
theorem dX5_init_19 : decode cX5_init 19 = .ok (.dup, 1) := by decide +kernel
theorem dX5_init_20 : decode cX5_init 20 = .ok (.invokespecial 18, 3) := by decide +kernel
theorem dX5_init_23 : decode cX5_init 23 = .ok (.putfield 19, 3) := by decide +kernel
theorem dX5_init_26 : decode cX5_init 26 = .ok (.aload_n 0, 1) := by decide +kernel
theorem dX5_init_27 : decode cX5_init 27 = .ok (.new 23, 3) := by decide +kernel
theorem dX5_init_30 : decode cX5_init 30 = .ok (.dup, 1) := by decide +kernel
theorem dX5_init_31 : decode cX5_init 31 = .ok (.invokespecial 25, 3) := by decide +kernel
theorem dX5_init_34 : decode cX5_init 34 = .ok (.putfield 26, 3) := by decide +kernel
theorem dX5_init_37 : decode cX5_init 37 = .ok (.aload_n 0, 1) := by decide +kernel
theorem dX5_init_38 : decode cX5_init 38 = .ok (.new 30, 3) := by decide +kernel
theorem dX5_init_41 : decode cX5_init 41 = .ok (.dup, 1) := by decide +kernel
theorem dX5_init_42 : decode cX5_init 42 = .ok (.invokespecial 32, 3) := by decide +kernel
theorem dX5_init_45 : decode cX5_init 45 = .ok (.putfield 33, 3) := by decide +kernel
theorem dX5_init_48 : decode cX5_init 48 = .ok (.return_, 1) := by decide +kernel
set_option maxRecDepth 20000 in
theorem ggX5_begin_X5_outside : GoodIn wsX5_begin wsX5_outside := goodIn_r _ [8] (by decide +kernel) (by decide +kernel)
set_option maxRecDepth 20000 in
theorem gX5_begin_X5_outside : GoodIn wsX5_begin (va_wsS RX5 37 yX5_outside wsX5_outside) := goodIn_app (goodIn_of _ (by decide +kernel)) ggX5_begin_X5_outside
set_option maxRecDepth 20000 in
theorem ggX5_begin_X0_keep : GoodIn wsX5_begin wsX0_keep := goodIn_r _ [13, 14, 15, 16, 17, 18, 19, 20, 21, 22, 23, 24, 25, 26, 27, 28, 29, 30, 31, 32, 33, 34, 35, 36, 37, 38, 39, 40, 41, 42, 43, 44, 45, 46, 47, 48, 49, 50, 51, 52, 53, 54, 55, 56, 95, 96, 97, 86, 87, 88, 89, 90, 91, 92, 93, 94, 98, 99, 100, 101, 102, 103, 104, 105, 106, 107] (by decide +kernel) (by decide +kernel)
set_option maxRecDepth 20000 in
theorem gX5_begin_X0_keep : GoodIn wsX5_begin (wsV RX5 46 RX0 yX0_keep wsX0_keep) := goodIn_app (goodIn_of _ (by decide +kernel)) ggX5_begin_X0_keep
set_option maxRecDepth 20000 in
theorem ggX5_begin_X1_startAnew : GoodIn wsX5_begin wsX1_startAnew := goodIn_r _ [60, 22, 23, 29, 30, 61, 62, 63, 38, 64, 40, 65, 66, 67, 68, 43, 44, 69, 70, 71, 72, 41, 45, 46, 47, 48, 73, 74, 75, 76, 77, 78, 79, 52, 80, 54, 56, 81, 86, 87, 88, 89, 90, 91, 92, 93, 94, 98, 99, 100, 101, 102, 103, 104, 105, 106, 107] (by decide +kernel) (by decide +kernel)
set_option maxRecDepth 20000 in
theorem gX5_begin_X1_startAnew : GoodIn wsX5_begin (wsV RX5 50 RX1 yX1_startAnew wsX1_startAnew) := goodIn_app (goodIn_of _ (by decide +kernel)) ggX5_begin_X1_startAnew
theorem dX5_begin_0 : decode cX5_begin 0 = .ok (.iload_n 1, 1) := by decide +kernel
theorem dX5_begin_1 : decode cX5_begin 1 = .ok (.iconst 2, 1) := by decide +kernel
theorem dX5_begin_2 : decode cX5_begin 2 = .ok (.bipush 10, 2) := by decide +kernel
theorem dX5_begin_4 : decode cX5_begin 4 = .ok (.invokestatic 37, 3) := by decide +kernel
theorem dX5_begin_7 : decode cX5_begin 7 = .ok (.ifCond .eq 6, 3) := by decide +kernel
theorem dX5_begin_10 : decode cX5_begin 10 = .ok (.ldc 41, 2) := by decide +kernel
theorem dX5_begin_12 : decode cX5_begin 12 = .ok (.ireturn, 1) := by decide +kernel
theorem dX5_begin_13 : decode cX5_begin 13 = .ok (.aload_n 0, 1) := by decide +kernel
theorem dX5_begin_14 : decode cX5_begin 14 = .ok (.getfield 12, 3) := by decide +kernel
theorem dX5_begin_17 : decode cX5_begin 17 = .ok (.getfield 42, 3) := by decide +kernel
theorem dX5_begin_20 : decode cX5_begin 20 = .ok (.istore_n 2, 1) := by decide +kernel
theorem dX5_begin_21 : decode cX5_begin 21 = .ok (.aload_n 0, 1) := by decide +kernel
theorem dX5_begin_22 : decode cX5_begin 22 = .ok (.getfield 19, 3) := by decide +kernel
theorem dX5_begin_25 : decode cX5_begin 25 = .ok (.aload_n 0, 1) := by decide +kernel
theorem dX5_begin_26 : decode cX5_begin 26 = .ok (.getfield 12, 3) := by decide +kernel
theorem dX5_begin_29 : decode cX5_begin 29 = .ok (.invokevirtual 46, 3) := by decide +kernel
theorem dX5_begin_32 : decode cX5_begin 32 = .ok (.aload_n 0, 1) := by decide +kernel
theorem dX5_begin_33 : decode cX5_begin 33 = .ok (.getfield 12, 3) := by decide +kernel
theorem dX5_begin_36 : decode cX5_begin 36 = .ok (.iload_n 1, 1) := by decide +kernel
theorem dX5_begin_37 : decode cX5_begin 37 = .ok (.invokevirtual 50, 3) := by decide +kernel
theorem dX5_begin_40 : decode cX5_begin 40 = .ok (.iload_n 2, 1) := by decide +kernel
theorem dX5_begin_41 : decode cX5_begin 41 = .ok (.ireturn, 1) := by decide +kernel
set_option maxRecDepth 20000 in
theorem ggX5_stage_X3_has : GoodIn wsX5_stage wsX3_has := goodIn_r _ [11, 12, 80, 81, 82, 83, 84, 85, 86, 87] (by decide +kernel) (by decide +kernel)
set_option maxRecDepth 20000 in
theorem gX5_stage_X3_has : GoodIn wsX5_stage (wsV RX5 57 RX3 yX3_has wsX3_has) := goodIn_app (goodIn_of _ (by decide +kernel)) ggX5_stage_X3_has
set_option maxRecDepth 20000 in
theorem ggX5_stage_X5_outside : GoodIn wsX5_stage wsX5_outside := goodIn_r _ [16] (by decide +kernel) (by decide +kernel)
set_option maxRecDepth 20000 in
theorem gX5_stage_X5_outside : GoodIn wsX5_stage (va_wsS RX5 37 yX5_outside wsX5_outside) := goodIn_app (goodIn_of _ (by decide +kernel)) ggX5_stage_X5_outside
set_option maxRecDepth 20000 in
theorem ggX5_stage_X0_keep : GoodIn wsX5_stage wsX0_keep := goodIn_r _ [21, 22, 23, 24, 25, 26, 27, 28, 29, 30, 31, 32, 33, 34, 35, 36, 37, 38, 39, 40, 41, 42, 43, 44, 45, 10, 46, 12, 47, 48, 49, 50, 51, 52, 53, 54, 55, 56, 57, 58, 59, 60, 61, 62, 88, 89, 90, 71, 72, 73, 74, 75, 76, 77, 78, 79, 80, 81, 82, 83, 84, 85, 86, 87, 91, 92] (by decide +kernel) (by decide +kernel)
set_option maxRecDepth 20000 in
theorem gX5_stage_X0_keep : GoodIn wsX5_stage (wsV RX5 46 RX0 yX0_keep wsX0_keep) := goodIn_app (goodIn_of _ (by decide +kernel)) ggX5_stage_X0_keep
set_option maxRecDepth 20000 in
theorem ggX5_stage_X3_changeShares : GoodIn wsX5_stage wsX3_changeShares := goodIn_r _ [66, 49, 50, 80, 81, 82, 83, 84, 85, 86, 87] (by decide +kernel) (by decide +kernel)
set_option maxRecDepth 20000 in
theorem gX5_stage_X3_changeShares : GoodIn wsX5_stage (wsV RX5 68 RX3 yX3_changeShares wsX3_changeShares) := goodIn_app (goodIn_of _ (by decide +kernel)) ggX5_stage_X3_changeShares
theorem dX5_stage_0 : decode cX5_stage 0 = .ok (.aload_n 0, 1) := by decide +kernel
theorem dX5_stage_1 : decode cX5_stage 1 = .ok (.getfield 12, 3) := by decide +kernel
theorem dX5_stage_4 : decode cX5_stage 4 = .ok (.getfield 54, 3) := by decide +kernel
theorem dX5_stage_7 : decode cX5_stage 7 = .ok (.iload_n 1, 1) := by decide +kernel
theorem dX5_stage_8 : decode cX5_stage 8 = .ok (.invokevirtual 57, 3) := by decide +kernel
theorem dX5_stage_11 : decode cX5_stage 11 = .ok (.ifCond .eq 25, 3) := by decide +kernel
theorem dX5_stage_14 : decode cX5_stage 14 = .ok (.iload_n 2, 1) := by decide +kernel
theorem dX5_stage_15 : decode cX5_stage 15 = .ok (.iconst 0, 1) := by decide +kernel
theorem dX5_stage_16 : decode cX5_stage 16 = .ok (.sipush 300, 3) := by decide +kernel
theorem dX5_stage_19 : decode cX5_stage 19 = .ok (.invokestatic 37, 3) := by decide +kernel
theorem dX5_stage_22 : decode cX5_stage 22 = .ok (.ifCond .ne 14, 3) := by decide +kernel
theorem dX5_stage_25 : decode cX5_stage 25 = .ok (.iload_n 3, 1) := by decide +kernel
theorem dX5_stage_26 : decode cX5_stage 26 = .ok (.iconst 0, 1) := by decide +kernel
theorem dX5_stage_27 : decode cX5_stage 27 = .ok (.sipush 300, 3) := by decide +kernel
theorem dX5_stage_30 : decode cX5_stage 30 = .ok (.invokestatic 37, 3) := by decide +kernel
theorem dX5_stage_33 : decode cX5_stage 33 = .ok (.ifCond .eq 6, 3) := by decide +kernel
theorem dX5_stage_36 : decode cX5_stage 36 = .ok (.ldc 41, 2) := by decide +kernel
theorem dX5_stage_38 : decode cX5_stage 38 = .ok (.ireturn, 1) := by decide +kernel
theorem dX5_stage_39 : decode cX5_stage 39 = .ok (.sipush 1000, 3) := by decide +kernel
theorem dX5_stage_42 : decode cX5_stage 42 = .ok (.aload_n 0, 1) := by decide +kernel
theorem dX5_stage_43 : decode cX5_stage 43 = .ok (.getfield 12, 3) := by decide +kernel
theorem dX5_stage_46 : decode cX5_stage 46 = .ok (.getfield 54, 3) := by decide +kernel
theorem dX5_stage_49 : decode cX5_stage 49 = .ok (.getfield 61, 3) := by decide +kernel
theorem dX5_stage_52 : decode cX5_stage 52 = .ok (.iload_n 1, 1) := by decide +kernel
theorem dX5_stage_53 : decode cX5_stage 53 = .ok (.iaload, 1) := by decide +kernel
theorem dX5_stage_54 : decode cX5_stage 54 = .ok (.imul, 1) := by decide +kernel
theorem dX5_stage_55 : decode cX5_stage 55 = .ok (.aload_n 0, 1) := by decide +kernel
theorem dX5_stage_56 : decode cX5_stage 56 = .ok (.getfield 12, 3) := by decide +kernel
theorem dX5_stage_59 : decode cX5_stage 59 = .ok (.getfield 54, 3) := by decide +kernel
theorem dX5_stage_62 : decode cX5_stage 62 = .ok (.getfield 65, 3) := by decide +kernel
theorem dX5_stage_65 : decode cX5_stage 65 = .ok (.iload_n 1, 1) := by decide +kernel
theorem dX5_stage_66 : decode cX5_stage 66 = .ok (.iaload, 1) := by decide +kernel
theorem dX5_stage_67 : decode cX5_stage 67 = .ok (.iadd, 1) := by decide +kernel
theorem dX5_stage_68 : decode cX5_stage 68 = .ok (.istore 4, 2) := by decide +kernel
theorem dX5_stage_70 : decode cX5_stage 70 = .ok (.aload_n 0, 1) := by decide +kernel
theorem dX5_stage_71 : decode cX5_stage 71 = .ok (.getfield 19, 3) := by decide +kernel
theorem dX5_stage_74 : decode cX5_stage 74 = .ok (.aload_n 0, 1) := by decide +kernel
theorem dX5_stage_75 : decode cX5_stage 75 = .ok (.getfield 12, 3) := by decide +kernel
theorem dX5_stage_78 : decode cX5_stage 78 = .ok (.invokevirtual 46, 3) := by decide +kernel
theorem dX5_stage_81 : decode cX5_stage 81 = .ok (.aload_n 0, 1) := by decide +kernel
theorem dX5_stage_82 : decode cX5_stage 82 = .ok (.getfield 12, 3) := by decide +kernel
theorem dX5_stage_85 : decode cX5_stage 85 = .ok (.getfield 54, 3) := by decide +kernel
theorem dX5_stage_88 : decode cX5_stage 88 = .ok (.iload_n 1, 1) := by decide +kernel
theorem dX5_stage_89 : decode cX5_stage 89 = .ok (.iload_n 2, 1) := by decide +kernel
theorem dX5_stage_90 : decode cX5_stage 90 = .ok (.iload_n 3, 1) := by decide +kernel
theorem dX5_stage_91 : decode cX5_stage 91 = .ok (.invokevirtual 68, 3) := by decide +kernel
theorem dX5_stage_94 : decode cX5_stage 94 = .ok (.iload 4, 2) := by decide +kernel
theorem dX5_stage_96 : decode cX5_stage 96 = .ok (.ireturn, 1) := by decide +kernel
set_option maxRecDepth 20000 in
theorem ggX5_set_X5_outside : GoodIn wsX5_set wsX5_outside := goodIn_r _ [10] (by decide +kernel) (by decide +kernel)
set_option maxRecDepth 20000 in
theorem gX5_set_X5_outside : GoodIn wsX5_set (va_wsS RX5 37 yX5_outside wsX5_outside) := goodIn_app (goodIn_of _ (by decide +kernel)) ggX5_set_X5_outside
set_option maxRecDepth 20000 in
theorem ggX5_set_X0_keep : GoodIn wsX5_set wsX0_keep := goodIn_r _ [15, 16, 17, 18, 19, 20, 21, 22, 23, 24, 25, 26, 27, 28, 29, 30, 31, 32, 33, 34, 35, 36, 37, 38, 39, 40, 41, 42, 43, 44, 45, 46, 47, 48, 49, 50, 51, 52, 53, 54, 55, 56, 57, 58, 72, 73, 74, 63, 64, 65, 66, 67, 68, 69, 70, 71, 75, 76, 77, 78, 79, 80, 81, 82, 83, 84] (by decide +kernel) (by decide +kernel)
set_option maxRecDepth 20000 in
theorem gX5_set_X0_keep : GoodIn wsX5_set (wsV RX5 46 RX0 yX0_keep wsX0_keep) := goodIn_app (goodIn_of _ (by decide +kernel)) ggX5_set_X0_keep
theorem dX5_set_0 : decode cX5_set 0 = .ok (.iload_n 1, 1) := by decide +kernel
theorem dX5_set_1 : decode cX5_set 1 = .ok (.iconst 0, 1) := by decide +kernel
theorem dX5_set_2 : decode cX5_set 2 = .ok (.iconst 4, 1) := by decide +kernel
theorem dX5_set_3 : decode cX5_set 3 = .ok (.invokestatic 37, 3) := by decide +kernel
theorem dX5_set_6 : decode cX5_set 6 = .ok (.ifCond .ne 20, 3) := by decide +kernel
theorem dX5_set_9 : decode cX5_set 9 = .ok (.iload_n 2, 1) := by decide +kernel
theorem dX5_set_10 : decode cX5_set 10 = .ok (.getstatic 72, 3) := by decide +kernel
theorem dX5_set_13 : decode cX5_set 13 = .ok (.iload_n 1, 1) := by decide +kernel
theorem dX5_set_14 : decode cX5_set 14 = .ok (.iaload, 1) := by decide +kernel
theorem dX5_set_15 : decode cX5_set 15 = .ok (.getstatic 75, 3) := by decide +kernel
theorem dX5_set_18 : decode cX5_set 18 = .ok (.iload_n 1, 1) := by decide +kernel
theorem dX5_set_19 : decode cX5_set 19 = .ok (.iaload, 1) := by decide +kernel
theorem dX5_set_20 : decode cX5_set 20 = .ok (.invokestatic 37, 3) := by decide +kernel
theorem dX5_set_23 : decode cX5_set 23 = .ok (.ifCond .eq 6, 3) := by decide +kernel
theorem dX5_set_26 : decode cX5_set 26 = .ok (.ldc 41, 2) := by decide +kernel
theorem dX5_set_28 : decode cX5_set 28 = .ok (.ireturn, 1) := by decide +kernel
theorem dX5_set_29 : decode cX5_set 29 = .ok (.aload_n 0, 1) := by decide +kernel
theorem dX5_set_30 : decode cX5_set 30 = .ok (.getfield 12, 3) := by decide +kernel
theorem dX5_set_33 : decode cX5_set 33 = .ok (.getfield 78, 3) := by decide +kernel
theorem dX5_set_36 : decode cX5_set 36 = .ok (.iload_n 1, 1) := by decide +kernel
theorem dX5_set_37 : decode cX5_set 37 = .ok (.iaload, 1) := by decide +kernel
theorem dX5_set_38 : decode cX5_set 38 = .ok (.istore_n 3, 1) := by decide +kernel
theorem dX5_set_39 : decode cX5_set 39 = .ok (.aload_n 0, 1) := by decide +kernel
theorem dX5_set_40 : decode cX5_set 40 = .ok (.getfield 19, 3) := by decide +kernel
theorem dX5_set_43 : decode cX5_set 43 = .ok (.aload_n 0, 1) := by decide +kernel
theorem dX5_set_44 : decode cX5_set 44 = .ok (.getfield 12, 3) := by decide +kernel
theorem dX5_set_47 : decode cX5_set 47 = .ok (.invokevirtual 46, 3) := by decide +kernel
theorem dX5_set_50 : decode cX5_set 50 = .ok (.aload_n 0, 1) := by decide +kernel
theorem dX5_set_51 : decode cX5_set 51 = .ok (.getfield 12, 3) := by decide +kernel
theorem dX5_set_54 : decode cX5_set 54 = .ok (.getfield 78, 3) := by decide +kernel
theorem dX5_set_57 : decode cX5_set 57 = .ok (.iload_n 1, 1) := by decide +kernel
theorem dX5_set_58 : decode cX5_set 58 = .ok (.iload_n 2, 1) := by decide +kernel
theorem dX5_set_59 : decode cX5_set 59 = .ok (.iastore, 1) := by decide +kernel
theorem dX5_set_60 : decode cX5_set 60 = .ok (.iload_n 3, 1) := by decide +kernel
theorem dX5_set_61 : decode cX5_set 61 = .ok (.ireturn, 1) := by decide +kernel
set_option maxRecDepth 20000 in
theorem ggX5_give_X5_outside : GoodIn wsX5_give wsX5_outside := goodIn_r _ [5] (by decide +kernel) (by decide +kernel)
set_option maxRecDepth 20000 in
theorem gX5_give_X5_outside : GoodIn wsX5_give (va_wsS RX5 37 yX5_outside wsX5_outside) := goodIn_app (goodIn_of _ (by decide +kernel)) ggX5_give_X5_outside
set_option maxRecDepth 20000 in
theorem ggX5_give_X5_takeTimes : GoodIn wsX5_give wsX5_takeTimes := goodIn_r _ [9, 10, 11, 12, 13, 14, 15, 16, 17, 18, 19, 20, 21, 22, 23, 24, 25, 26, 27, 28, 29, 30, 31, 32, 33, 34, 35, 36, 37, 38, 39, 40, 41, 42, 43, 44, 45, 46, 47, 48, 49, 50, 51, 52, 53, 54, 55, 56, 57, 58, 59, 60, 61, 62, 63, 64, 65, 66, 67, 68, 69, 70, 71, 72, 73, 74, 75, 76, 77, 78, 79, 80, 81, 82, 83, 84, 85, 86, 87, 88, 89, 90, 91, 92, 93, 94, 95, 96, 97, 98, 99, 100, 101, 102, 103, 104, 105, 106, 107, 108, 109, 110, 111, 112, 113, 114, 115, 116, 117, 118, 119, 120, 121, 122, 123, 124, 125, 126, 127, 128, 129, 130, 131, 132, 133, 134, 135, 136, 137, 138, 139, 140, 141, 142, 143, 144, 145, 146, 147, 148, 149, 150, 151, 152, 153, 154, 155, 156, 157, 158, 159, 160, 161] (by decide +kernel) (by decide +kernel)
set_option maxRecDepth 20000 in
theorem gX5_give_X5_takeTimes : GoodIn wsX5_give (wsV RX5 81 RX5 yX5_takeTimes wsX5_takeTimes) := goodIn_app (goodIn_of _ (by decide +kernel)) ggX5_give_X5_takeTimes
theorem dX5_give_0 : decode cX5_give 0 = .ok (.iload_n 1, 1) := by decide +kernel
theorem dX5_give_1 : decode cX5_give 1 = .ok (.iconst 0, 1) := by decide +kernel
theorem dX5_give_2 : decode cX5_give 2 = .ok (.sipush 10000, 3) := by decide +kernel
theorem dX5_give_5 : decode cX5_give 5 = .ok (.invokestatic 37, 3) := by decide +kernel
theorem dX5_give_8 : decode cX5_give 8 = .ok (.ifCond .eq 6, 3) := by decide +kernel
theorem dX5_give_11 : decode cX5_give 11 = .ok (.ldc 41, 2) := by decide +kernel
theorem dX5_give_13 : decode cX5_give 13 = .ok (.ireturn, 1) := by decide +kernel
theorem dX5_give_14 : decode cX5_give 14 = .ok (.aload_n 0, 1) := by decide +kernel
theorem dX5_give_15 : decode cX5_give 15 = .ok (.iload_n 1, 1) := by decide +kernel
theorem dX5_give_16 : decode cX5_give 16 = .ok (.iconst 1, 1) := by decide +kernel
theorem dX5_give_17 : decode cX5_give 17 = .ok (.invokevirtual 81, 3) := by decide +kernel
theorem dX5_give_20 : decode cX5_give 20 = .ok (.ireturn, 1) := by decide +kernel
set_option maxRecDepth 20000 in
theorem ggX5_idle_X5_outside : GoodIn wsX5_idle wsX5_outside := goodIn_r _ [5] (by decide +kernel) (by decide +kernel)
set_option maxRecDepth 20000 in
theorem gX5_idle_X5_outside : GoodIn wsX5_idle (va_wsS RX5 37 yX5_outside wsX5_outside) := goodIn_app (goodIn_of _ (by decide +kernel)) ggX5_idle_X5_outside
set_option maxRecDepth 20000 in
theorem ggX5_idle_X5_takeTimes : GoodIn wsX5_idle wsX5_takeTimes := goodIn_r _ [9, 10, 11, 12, 13, 14, 15, 16, 17, 18, 19, 20, 21, 22, 23, 24, 25, 26, 27, 28, 29, 30, 31, 32, 33, 34, 35, 36, 37, 38, 39, 40, 41, 42, 43, 44, 45, 46, 47, 48, 49, 50, 51, 52, 53, 54, 55, 56, 57, 58, 59, 60, 61, 62, 63, 64, 65, 66, 67, 68, 69, 70, 71, 72, 73, 74, 75, 76, 77, 78, 79, 80, 81, 82, 83, 84, 85, 86, 87, 88, 89, 90, 91, 92, 93, 94, 95, 96, 97, 98, 99, 100, 101, 102, 103, 104, 105, 106, 107, 108, 109, 110, 111, 112, 113, 114, 115, 116, 117, 118, 119, 120, 121, 122, 123, 124, 125, 126, 127, 128, 129, 130, 131, 132, 133, 134, 135, 136, 137, 138, 139, 140, 141, 142, 143, 144, 145, 146, 147, 148, 149, 150, 151, 152, 153, 154, 155, 156, 157, 158, 159, 160, 161] (by decide +kernel) (by decide +kernel)
set_option maxRecDepth 20000 in
theorem gX5_idle_X5_takeTimes : GoodIn wsX5_idle (wsV RX5 81 RX5 yX5_takeTimes wsX5_takeTimes) := goodIn_app (goodIn_of _ (by decide +kernel)) ggX5_idle_X5_takeTimes
theorem dX5_idle_0 : decode cX5_idle 0 = .ok (.iload_n 1, 1) := by decide +kernel
theorem dX5_idle_1 : decode cX5_idle 1 = .ok (.iconst 1, 1) := by decide +kernel
theorem dX5_idle_2 : decode cX5_idle 2 = .ok (.bipush 40, 2) := by decide +kernel
theorem dX5_idle_4 : decode cX5_idle 4 = .ok (.invokestatic 37, 3) := by decide +kernel
theorem dX5_idle_7 : decode cX5_idle 7 = .ok (.ifCond .eq 6, 3) := by decide +kernel
theorem dX5_idle_10 : decode cX5_idle 10 = .ok (.ldc 41, 2) := by decide +kernel
theorem dX5_idle_12 : decode cX5_idle 12 = .ok (.ireturn, 1) := by decide +kernel
theorem dX5_idle_13 : decode cX5_idle 13 = .ok (.aload_n 0, 1) := by decide +kernel
theorem dX5_idle_14 : decode cX5_idle 14 = .ok (.iconst 0, 1) := by decide +kernel
theorem dX5_idle_15 : decode cX5_idle 15 = .ok (.iload_n 1, 1) := by decide +kernel
theorem dX5_idle_16 : decode cX5_idle 16 = .ok (.invokevirtual 81, 3) := by decide +kernel
theorem dX5_idle_19 : decode cX5_idle 19 = .ok (.ireturn, 1) := by decide +kernel
set_option maxRecDepth 20000 in
theorem ggX5_takeTimes_X1_handOversBehind : GoodIn wsX5_takeTimes wsX1_handOversBehind := goodIn_r _ [9, 10, 11, 12, 13, 8, 14, 15, 131, 132, 133, 134, 135, 136, 137, 138, 139] (by decide +kernel) (by decide +kernel)
set_option maxRecDepth 20000 in
theorem gX5_takeTimes_X1_handOversBehind : GoodIn wsX5_takeTimes (wsV RX5 85 RX1 yX1_handOversBehind wsX1_handOversBehind) := goodIn_app (goodIn_of _ (by decide +kernel)) ggX5_takeTimes_X1_handOversBehind
set_option maxRecDepth 20000 in
theorem ggX5_takeTimes_X0_keep : GoodIn wsX5_takeTimes wsX0_keep := goodIn_r _ [20, 21, 22, 23, 24, 25, 26, 8, 27, 28, 29, 15, 30, 31, 32, 33, 10, 34, 35, 36, 37, 38, 39, 40, 41, 42, 43, 44, 45, 46, 47, 48, 49, 50, 51, 52, 53, 54, 55, 56, 57, 58, 59, 60, 140, 141, 142, 131, 132, 133, 134, 135, 136, 137, 138, 139, 143, 144, 145, 146, 147, 148, 149, 150, 151, 152] (by decide +kernel) (by decide +kernel)
set_option maxRecDepth 20000 in
theorem gX5_takeTimes_X0_keep : GoodIn wsX5_takeTimes (wsV RX5 46 RX0 yX0_keep wsX0_keep) := goodIn_app (goodIn_of _ (by decide +kernel)) ggX5_takeTimes_X0_keep
set_option maxRecDepth 20000 in
theorem ggX5_takeTimes_X1_take : GoodIn wsX5_takeTimes wsX1_take := goodIn_r _ [64, 10, 34, 15, 11, 12, 13, 8, 14, 65, 66, 67, 68, 69, 70, 71, 72, 28, 35, 36, 37, 73, 38, 29, 74, 75, 76, 42, 77, 44, 45, 78, 79, 80, 81, 52, 51, 49, 50, 82, 83, 84, 85, 47, 86, 87, 88, 89, 48, 90, 91, 92, 93, 94, 95, 96, 97, 98, 99, 100, 56, 101, 58, 60, 102, 103, 104, 105, 106, 107, 108, 109, 110, 111, 112, 113, 114, 115, 116, 117, 118, 119, 120, 121, 122, 123, 124, 125, 126, 131, 132, 133, 134, 135, 136, 137, 138, 139, 143, 144, 145, 146, 147, 148, 149, 150, 151, 152] (by decide +kernel) (by decide +kernel)
set_option maxRecDepth 20000 in
theorem gX5_takeTimes_X1_take : GoodIn wsX5_takeTimes (wsV RX5 90 RX1 yX1_take wsX1_take) := goodIn_app (goodIn_of _ (by decide +kernel)) ggX5_takeTimes_X1_take
theorem dX5_takeTimes_0 : decode cX5_takeTimes 0 = .ok (.aload_n 0, 1) := by decide +kernel
theorem dX5_takeTimes_1 : decode cX5_takeTimes 1 = .ok (.getfield 12, 3) := by decide +kernel
theorem dX5_takeTimes_4 : decode cX5_takeTimes 4 = .ok (.getfield 42, 3) := by decide +kernel
theorem dX5_takeTimes_7 : decode cX5_takeTimes 7 = .ok (.istore_n 3, 1) := by decide +kernel
theorem dX5_takeTimes_8 : decode cX5_takeTimes 8 = .ok (.aload_n 0, 1) := by decide +kernel
theorem dX5_takeTimes_9 : decode cX5_takeTimes 9 = .ok (.getfield 12, 3) := by decide +kernel
theorem dX5_takeTimes_12 : decode cX5_takeTimes 12 = .ok (.iload_n 2, 1) := by decide +kernel
theorem dX5_takeTimes_13 : decode cX5_takeTimes 13 = .ok (.invokevirtual 85, 3) := by decide +kernel
theorem dX5_takeTimes_16 : decode cX5_takeTimes 16 = .ok (.sipush 999, 3) := by decide +kernel
theorem dX5_takeTimes_19 : decode cX5_takeTimes 19 = .ok (.if_icmp .le 6, 3) := by decide +kernel
theorem dX5_takeTimes_22 : decode cX5_takeTimes 22 = .ok (.ldc 89, 2) := by decide +kernel
theorem dX5_takeTimes_24 : decode cX5_takeTimes 24 = .ok (.ireturn, 1) := by decide +kernel
theorem dX5_takeTimes_25 : decode cX5_takeTimes 25 = .ok (.aload_n 0, 1) := by decide +kernel
theorem dX5_takeTimes_26 : decode cX5_takeTimes 26 = .ok (.getfield 19, 3) := by decide +kernel
theorem dX5_takeTimes_29 : decode cX5_takeTimes 29 = .ok (.aload_n 0, 1) := by decide +kernel
theorem dX5_takeTimes_30 : decode cX5_takeTimes 30 = .ok (.getfield 12, 3) := by decide +kernel
theorem dX5_takeTimes_33 : decode cX5_takeTimes 33 = .ok (.invokevirtual 46, 3) := by decide +kernel
theorem dX5_takeTimes_36 : decode cX5_takeTimes 36 = .ok (.iconst 0, 1) := by decide +kernel
theorem dX5_takeTimes_37 : decode cX5_takeTimes 37 = .ok (.istore 4, 2) := by decide +kernel
theorem dX5_takeTimes_39 : decode cX5_takeTimes 39 = .ok (.iload 4, 2) := by decide +kernel
theorem dX5_takeTimes_41 : decode cX5_takeTimes 41 = .ok (.iload_n 2, 1) := by decide +kernel
theorem dX5_takeTimes_42 : decode cX5_takeTimes 42 = .ok (.if_icmp .ge 17, 3) := by decide +kernel
theorem dX5_takeTimes_45 : decode cX5_takeTimes 45 = .ok (.aload_n 0, 1) := by decide +kernel
theorem dX5_takeTimes_46 : decode cX5_takeTimes 46 = .ok (.getfield 12, 3) := by decide +kernel
theorem dX5_takeTimes_49 : decode cX5_takeTimes 49 = .ok (.iload_n 1, 1) := by decide +kernel
theorem dX5_takeTimes_50 : decode cX5_takeTimes 50 = .ok (.invokevirtual 90, 3) := by decide +kernel
theorem dX5_takeTimes_53 : decode cX5_takeTimes 53 = .ok (.iinc 4 1, 3) := by decide +kernel
theorem dX5_takeTimes_56 : decode cX5_takeTimes 56 = .ok (.goto (-17), 3) := by decide +kernel
theorem dX5_takeTimes_59 : decode cX5_takeTimes 59 = .ok (.aload_n 0, 1) := by decide +kernel
theorem dX5_takeTimes_60 : decode cX5_takeTimes 60 = .ok (.getfield 12, 3) := by decide +kernel
theorem dX5_takeTimes_63 : decode cX5_takeTimes 63 = .ok (.getfield 42, 3) := by decide +kernel
theorem dX5_takeTimes_66 : decode cX5_takeTimes 66 = .ok (.iload_n 3, 1) := by decide +kernel
theorem dX5_takeTimes_67 : decode cX5_takeTimes 67 = .ok (.isub, 1) := by decide +kernel
theorem dX5_takeTimes_68 : decode cX5_takeTimes 68 = .ok (.ireturn, 1) := by decide +kernel
set_option maxRecDepth 20000 in
theorem ggX5_stageOf_X3_has : GoodIn wsX5_stageOf wsX3_has := goodIn_r _ [11, 12, 43, 44, 45, 46, 47, 48, 49, 50] (by decide +kernel) (by decide +kernel)
set_option maxRecDepth 20000 in
theorem gX5_stageOf_X3_has : GoodIn wsX5_stageOf (wsV RX5 57 RX3 yX3_has wsX3_has) := goodIn_app (goodIn_of _ (by decide +kernel)) ggX5_stageOf_X3_has
set_option maxRecDepth 20000 in
theorem ggX5_stageOf_X3_staying : GoodIn wsX5_stageOf wsX3_staying := goodIn_r _ [16, 17, 18, 43, 44, 45, 46, 47, 48, 49, 50] (by decide +kernel) (by decide +kernel)
set_option maxRecDepth 20000 in
theorem gX5_stageOf_X3_staying : GoodIn wsX5_stageOf (wsV RX5 96 RX3 yX3_staying wsX3_staying) := goodIn_app (goodIn_of _ (by decide +kernel)) ggX5_stageOf_X3_staying
set_option maxRecDepth 20000 in
theorem ggX5_stageOf_X3_leaking : GoodIn wsX5_stageOf wsX3_leaking := goodIn_r _ [22, 17, 23, 24, 14, 15, 10, 16, 18, 43, 44, 45, 46, 47, 48, 49, 50] (by decide +kernel) (by decide +kernel)
set_option maxRecDepth 20000 in
theorem gX5_stageOf_X3_leaking : GoodIn wsX5_stageOf (wsV RX5 99 RX3 yX3_leaking wsX3_leaking) := goodIn_app (goodIn_of _ (by decide +kernel)) ggX5_stageOf_X3_leaking
set_option maxRecDepth 20000 in
theorem ggX5_stageOf_X3_leaving : GoodIn wsX5_stageOf wsX3_leaving := goodIn_r _ [28, 17, 24, 14, 15, 10, 16, 18, 29, 20, 21, 22, 23, 43, 44, 45, 46, 47, 48, 49, 50] (by decide +kernel) (by decide +kernel)
set_option maxRecDepth 20000 in
theorem gX5_stageOf_X3_leaving : GoodIn wsX5_stageOf (wsV RX5 102 RX3 yX3_leaving wsX3_leaving) := goodIn_app (goodIn_of _ (by decide +kernel)) ggX5_stageOf_X3_leaving
theorem dX5_stageOf_0 : decode cX5_stageOf 0 = .ok (.aload_n 0, 1) := by decide +kernel
theorem dX5_stageOf_1 : decode cX5_stageOf 1 = .ok (.getfield 12, 3) := by decide +kernel
theorem dX5_stageOf_4 : decode cX5_stageOf 4 = .ok (.getfield 54, 3) := by decide +kernel
theorem dX5_stageOf_7 : decode cX5_stageOf 7 = .ok (.iload_n 1, 1) := by decide +kernel
theorem dX5_stageOf_8 : decode cX5_stageOf 8 = .ok (.invokevirtual 57, 3) := by decide +kernel
theorem dX5_stageOf_11 : decode cX5_stageOf 11 = .ok (.ifCond .ne 6, 3) := by decide +kernel
theorem dX5_stageOf_14 : decode cX5_stageOf 14 = .ok (.ldc 41, 2) := by decide +kernel
theorem dX5_stageOf_16 : decode cX5_stageOf 16 = .ok (.ireturn, 1) := by decide +kernel
theorem dX5_stageOf_17 : decode cX5_stageOf 17 = .ok (.iload_n 2, 1) := by decide +kernel
theorem dX5_stageOf_18 : decode cX5_stageOf 18 = .ok (.tableswitch 113 0 5 #[38, 51, 64, 77, 89, 101], 38) := by decide +kernel
theorem dX5_stageOf_56 : decode cX5_stageOf 56 = .ok (.aload_n 0, 1) := by decide +kernel
theorem dX5_stageOf_57 : decode cX5_stageOf 57 = .ok (.getfield 12, 3) := by decide +kernel
theorem dX5_stageOf_60 : decode cX5_stageOf 60 = .ok (.getfield 54, 3) := by decide +kernel
theorem dX5_stageOf_63 : decode cX5_stageOf 63 = .ok (.getfield 93, 3) := by decide +kernel
theorem dX5_stageOf_66 : decode cX5_stageOf 66 = .ok (.iload_n 1, 1) := by decide +kernel
theorem dX5_stageOf_67 : decode cX5_stageOf 67 = .ok (.iaload, 1) := by decide +kernel
theorem dX5_stageOf_68 : decode cX5_stageOf 68 = .ok (.ireturn, 1) := by decide +kernel
theorem dX5_stageOf_69 : decode cX5_stageOf 69 = .ok (.aload_n 0, 1) := by decide +kernel
theorem dX5_stageOf_70 : decode cX5_stageOf 70 = .ok (.getfield 12, 3) := by decide +kernel
theorem dX5_stageOf_73 : decode cX5_stageOf 73 = .ok (.getfield 54, 3) := by decide +kernel
theorem dX5_stageOf_76 : decode cX5_stageOf 76 = .ok (.getfield 61, 3) := by decide +kernel
theorem dX5_stageOf_79 : decode cX5_stageOf 79 = .ok (.iload_n 1, 1) := by decide +kernel
theorem dX5_stageOf_80 : decode cX5_stageOf 80 = .ok (.iaload, 1) := by decide +kernel
theorem dX5_stageOf_81 : decode cX5_stageOf 81 = .ok (.ireturn, 1) := by decide +kernel
theorem dX5_stageOf_82 : decode cX5_stageOf 82 = .ok (.aload_n 0, 1) := by decide +kernel
theorem dX5_stageOf_83 : decode cX5_stageOf 83 = .ok (.getfield 12, 3) := by decide +kernel
theorem dX5_stageOf_86 : decode cX5_stageOf 86 = .ok (.getfield 54, 3) := by decide +kernel
theorem dX5_stageOf_89 : decode cX5_stageOf 89 = .ok (.getfield 65, 3) := by decide +kernel
theorem dX5_stageOf_92 : decode cX5_stageOf 92 = .ok (.iload_n 1, 1) := by decide +kernel
theorem dX5_stageOf_93 : decode cX5_stageOf 93 = .ok (.iaload, 1) := by decide +kernel
theorem dX5_stageOf_94 : decode cX5_stageOf 94 = .ok (.ireturn, 1) := by decide +kernel
theorem dX5_stageOf_95 : decode cX5_stageOf 95 = .ok (.aload_n 0, 1) := by decide +kernel
theorem dX5_stageOf_96 : decode cX5_stageOf 96 = .ok (.getfield 12, 3) := by decide +kernel
theorem dX5_stageOf_99 : decode cX5_stageOf 99 = .ok (.getfield 54, 3) := by decide +kernel
theorem dX5_stageOf_102 : decode cX5_stageOf 102 = .ok (.iload_n 1, 1) := by decide +kernel
theorem dX5_stageOf_103 : decode cX5_stageOf 103 = .ok (.invokevirtual 96, 3) := by decide +kernel
theorem dX5_stageOf_106 : decode cX5_stageOf 106 = .ok (.ireturn, 1) := by decide +kernel
theorem dX5_stageOf_107 : decode cX5_stageOf 107 = .ok (.aload_n 0, 1) := by decide +kernel
theorem dX5_stageOf_108 : decode cX5_stageOf 108 = .ok (.getfield 12, 3) := by decide +kernel
theorem dX5_stageOf_111 : decode cX5_stageOf 111 = .ok (.getfield 54, 3) := by decide +kernel
theorem dX5_stageOf_114 : decode cX5_stageOf 114 = .ok (.iload_n 1, 1) := by decide +kernel
theorem dX5_stageOf_115 : decode cX5_stageOf 115 = .ok (.invokevirtual 99, 3) := by decide +kernel
theorem dX5_stageOf_118 : decode cX5_stageOf 118 = .ok (.ireturn, 1) := by decide +kernel
theorem dX5_stageOf_119 : decode cX5_stageOf 119 = .ok (.aload_n 0, 1) := by decide +kernel
theorem dX5_stageOf_120 : decode cX5_stageOf 120 = .ok (.getfield 12, 3) := by decide +kernel
theorem dX5_stageOf_123 : decode cX5_stageOf 123 = .ok (.getfield 54, 3) := by decide +kernel
theorem dX5_stageOf_126 : decode cX5_stageOf 126 = .ok (.iload_n 1, 1) := by decide +kernel
theorem dX5_stageOf_127 : decode cX5_stageOf 127 = .ok (.invokevirtual 102, 3) := by decide +kernel
theorem dX5_stageOf_130 : decode cX5_stageOf 130 = .ok (.ireturn, 1) := by decide +kernel
theorem dX5_stageOf_131 : decode cX5_stageOf 131 = .ok (.ldc 41, 2) := by decide +kernel
theorem dX5_stageOf_133 : decode cX5_stageOf 133 = .ok (.ireturn, 1) := by decide +kernel
set_option maxRecDepth 20000 in
theorem ggX5_outputOf_X5_outside : GoodIn wsX5_outputOf wsX5_outside := goodIn_r _ [11] (by decide +kernel) (by decide +kernel)
set_option maxRecDepth 20000 in
theorem gX5_outputOf_X5_outside : GoodIn wsX5_outputOf (va_wsS RX5 37 yX5_outside wsX5_outside) := goodIn_app (goodIn_of _ (by decide +kernel)) ggX5_outputOf_X5_outside
set_option maxRecDepth 20000 in
theorem ggX5_outputOf_X1_keptOutputs : GoodIn wsX5_outputOf wsX1_keptOutputs := goodIn_r _ [16, 17, 18, 19, 20, 21, 22, 23, 24, 25, 26, 49, 50, 51, 52, 53, 54, 55, 56, 57, 58, 59, 60, 61, 62, 63, 64, 65] (by decide +kernel) (by decide +kernel)
set_option maxRecDepth 20000 in
theorem gX5_outputOf_X1_keptOutputs : GoodIn wsX5_outputOf (wsV RX5 105 RX1 yX1_keptOutputs wsX1_keptOutputs) := goodIn_app (goodIn_of _ (by decide +kernel)) ggX5_outputOf_X1_keptOutputs
set_option maxRecDepth 20000 in
theorem ggX5_outputOf_X1_sourceSlot : GoodIn wsX5_outputOf wsX1_sourceSlot := goodIn_r _ [30, 18, 19, 49, 50, 51, 52, 53, 54, 55, 56, 57, 58, 59, 60, 61, 62, 63, 64, 65] (by decide +kernel) (by decide +kernel)
set_option maxRecDepth 20000 in
theorem gX5_outputOf_X1_sourceSlot : GoodIn wsX5_outputOf (wsV RX5 113 RX1 yX1_sourceSlot wsX1_sourceSlot) := goodIn_app (goodIn_of _ (by decide +kernel)) ggX5_outputOf_X1_sourceSlot
set_option maxRecDepth 20000 in
theorem ggX5_outputOf_X1_isOfReference : GoodIn wsX5_outputOf wsX1_isOfReference := goodIn_r _ [34, 35, 36, 28, 29, 15, 30, 18, 19, 49, 50, 51, 52, 53, 54, 55, 56, 57, 58, 59, 60, 61, 62, 63, 64, 65] (by decide +kernel) (by decide +kernel)
set_option maxRecDepth 20000 in
theorem gX5_outputOf_X1_isOfReference : GoodIn wsX5_outputOf (wsV RX5 122 RX1 yX1_isOfReference wsX1_isOfReference) := goodIn_app (goodIn_of _ (by decide +kernel)) ggX5_outputOf_X1_isOfReference
set_option maxRecDepth 20000 in
theorem ggX5_outputOf_X1_errorOf : GoodIn wsX5_outputOf wsX1_errorOf := goodIn_r _ [40, 41, 42, 43, 44, 36, 28, 29, 15, 30, 18, 19, 49, 50, 51, 52, 53, 54, 55, 56, 57, 58, 59, 60, 61, 62, 63, 64, 65] (by decide +kernel) (by decide +kernel)
set_option maxRecDepth 20000 in
theorem gX5_outputOf_X1_errorOf : GoodIn wsX5_outputOf (wsV RX5 125 RX1 yX1_errorOf wsX1_errorOf) := goodIn_app (goodIn_of _ (by decide +kernel)) ggX5_outputOf_X1_errorOf
theorem dX5_outputOf_0 : decode cX5_outputOf 0 = .ok (.iload_n 1, 1) := by decide +kernel
theorem dX5_outputOf_1 : decode cX5_outputOf 1 = .ok (.ifCond .lt 12, 3) := by decide +kernel
theorem dX5_outputOf_4 : decode cX5_outputOf 4 = .ok (.iload_n 2, 1) := by decide +kernel
theorem dX5_outputOf_5 : decode cX5_outputOf 5 = .ok (.iconst 0, 1) := by decide +kernel
theorem dX5_outputOf_6 : decode cX5_outputOf 6 = .ok (.iconst 5, 1) := by decide +kernel
theorem dX5_outputOf_7 : decode cX5_outputOf 7 = .ok (.invokestatic 37, 3) := by decide +kernel
theorem dX5_outputOf_10 : decode cX5_outputOf 10 = .ok (.ifCond .eq 6, 3) := by decide +kernel
theorem dX5_outputOf_13 : decode cX5_outputOf 13 = .ok (.ldc 41, 2) := by decide +kernel
theorem dX5_outputOf_15 : decode cX5_outputOf 15 = .ok (.ireturn, 1) := by decide +kernel
theorem dX5_outputOf_16 : decode cX5_outputOf 16 = .ok (.iload_n 1, 1) := by decide +kernel
theorem dX5_outputOf_17 : decode cX5_outputOf 17 = .ok (.aload_n 0, 1) := by decide +kernel
theorem dX5_outputOf_18 : decode cX5_outputOf 18 = .ok (.getfield 12, 3) := by decide +kernel
theorem dX5_outputOf_21 : decode cX5_outputOf 21 = .ok (.invokevirtual 105, 3) := by decide +kernel
theorem dX5_outputOf_24 : decode cX5_outputOf 24 = .ok (.if_icmp .lt 6, 3) := by decide +kernel
theorem dX5_outputOf_27 : decode cX5_outputOf 27 = .ok (.ldc 109, 2) := by decide +kernel
theorem dX5_outputOf_29 : decode cX5_outputOf 29 = .ok (.ireturn, 1) := by decide +kernel
theorem dX5_outputOf_30 : decode cX5_outputOf 30 = .ok (.aload_n 0, 1) := by decide +kernel
theorem dX5_outputOf_31 : decode cX5_outputOf 31 = .ok (.getfield 12, 3) := by decide +kernel
theorem dX5_outputOf_34 : decode cX5_outputOf 34 = .ok (.getfield 42, 3) := by decide +kernel
theorem dX5_outputOf_37 : decode cX5_outputOf 37 = .ok (.iconst 1, 1) := by decide +kernel
theorem dX5_outputOf_38 : decode cX5_outputOf 38 = .ok (.isub, 1) := by decide +kernel
theorem dX5_outputOf_39 : decode cX5_outputOf 39 = .ok (.iload_n 1, 1) := by decide +kernel
theorem dX5_outputOf_40 : decode cX5_outputOf 40 = .ok (.isub, 1) := by decide +kernel
theorem dX5_outputOf_41 : decode cX5_outputOf 41 = .ok (.istore_n 3, 1) := by decide +kernel
theorem dX5_outputOf_42 : decode cX5_outputOf 42 = .ok (.iload_n 2, 1) := by decide +kernel
theorem dX5_outputOf_43 : decode cX5_outputOf 43 = .ok (.tableswitch 95 0 4 #[33, 35, 52, 65, 78], 33) := by decide +kernel
theorem dX5_outputOf_76 : decode cX5_outputOf 76 = .ok (.iload_n 3, 1) := by decide +kernel
theorem dX5_outputOf_77 : decode cX5_outputOf 77 = .ok (.ireturn, 1) := by decide +kernel
theorem dX5_outputOf_78 : decode cX5_outputOf 78 = .ok (.aload_n 0, 1) := by decide +kernel
theorem dX5_outputOf_79 : decode cX5_outputOf 79 = .ok (.getfield 12, 3) := by decide +kernel
theorem dX5_outputOf_82 : decode cX5_outputOf 82 = .ok (.getfield 110, 3) := by decide +kernel
theorem dX5_outputOf_85 : decode cX5_outputOf 85 = .ok (.aload_n 0, 1) := by decide +kernel
theorem dX5_outputOf_86 : decode cX5_outputOf 86 = .ok (.getfield 12, 3) := by decide +kernel
theorem dX5_outputOf_89 : decode cX5_outputOf 89 = .ok (.iload_n 3, 1) := by decide +kernel
theorem dX5_outputOf_90 : decode cX5_outputOf 90 = .ok (.invokevirtual 113, 3) := by decide +kernel
theorem dX5_outputOf_93 : decode cX5_outputOf 93 = .ok (.iaload, 1) := by decide +kernel
theorem dX5_outputOf_94 : decode cX5_outputOf 94 = .ok (.ireturn, 1) := by decide +kernel
theorem dX5_outputOf_95 : decode cX5_outputOf 95 = .ok (.aload_n 0, 1) := by decide +kernel
theorem dX5_outputOf_96 : decode cX5_outputOf 96 = .ok (.getfield 12, 3) := by decide +kernel
theorem dX5_outputOf_99 : decode cX5_outputOf 99 = .ok (.getfield 116, 3) := by decide +kernel
theorem dX5_outputOf_102 : decode cX5_outputOf 102 = .ok (.iload_n 3, 1) := by decide +kernel
theorem dX5_outputOf_103 : decode cX5_outputOf 103 = .ok (.bipush 31, 2) := by decide +kernel
theorem dX5_outputOf_105 : decode cX5_outputOf 105 = .ok (.iand, 1) := by decide +kernel
theorem dX5_outputOf_106 : decode cX5_outputOf 106 = .ok (.iaload, 1) := by decide +kernel
theorem dX5_outputOf_107 : decode cX5_outputOf 107 = .ok (.ireturn, 1) := by decide +kernel
theorem dX5_outputOf_108 : decode cX5_outputOf 108 = .ok (.aload_n 0, 1) := by decide +kernel
theorem dX5_outputOf_109 : decode cX5_outputOf 109 = .ok (.getfield 12, 3) := by decide +kernel
theorem dX5_outputOf_112 : decode cX5_outputOf 112 = .ok (.getfield 119, 3) := by decide +kernel
theorem dX5_outputOf_115 : decode cX5_outputOf 115 = .ok (.iload_n 3, 1) := by decide +kernel
theorem dX5_outputOf_116 : decode cX5_outputOf 116 = .ok (.bipush 31, 2) := by decide +kernel
theorem dX5_outputOf_118 : decode cX5_outputOf 118 = .ok (.iand, 1) := by decide +kernel
theorem dX5_outputOf_119 : decode cX5_outputOf 119 = .ok (.iaload, 1) := by decide +kernel
theorem dX5_outputOf_120 : decode cX5_outputOf 120 = .ok (.ireturn, 1) := by decide +kernel
theorem dX5_outputOf_121 : decode cX5_outputOf 121 = .ok (.aload_n 0, 1) := by decide +kernel
theorem dX5_outputOf_122 : decode cX5_outputOf 122 = .ok (.getfield 12, 3) := by decide +kernel
theorem dX5_outputOf_125 : decode cX5_outputOf 125 = .ok (.iload_n 3, 1) := by decide +kernel
theorem dX5_outputOf_126 : decode cX5_outputOf 126 = .ok (.invokevirtual 122, 3) := by decide +kernel
theorem dX5_outputOf_129 : decode cX5_outputOf 129 = .ok (.ifCond .eq 7, 3) := by decide +kernel
theorem dX5_outputOf_132 : decode cX5_outputOf 132 = .ok (.iconst 1, 1) := by decide +kernel
theorem dX5_outputOf_133 : decode cX5_outputOf 133 = .ok (.goto 4, 3) := by decide +kernel
theorem dX5_outputOf_136 : decode cX5_outputOf 136 = .ok (.iconst 0, 1) := by decide +kernel
theorem dX5_outputOf_137 : decode cX5_outputOf 137 = .ok (.ireturn, 1) := by decide +kernel
theorem dX5_outputOf_138 : decode cX5_outputOf 138 = .ok (.aload_n 0, 1) := by decide +kernel
theorem dX5_outputOf_139 : decode cX5_outputOf 139 = .ok (.getfield 12, 3) := by decide +kernel
theorem dX5_outputOf_142 : decode cX5_outputOf 142 = .ok (.iload_n 3, 1) := by decide +kernel
theorem dX5_outputOf_143 : decode cX5_outputOf 143 = .ok (.invokevirtual 125, 3) := by decide +kernel
theorem dX5_outputOf_146 : decode cX5_outputOf 146 = .ok (.ireturn, 1) := by decide +kernel
set_option maxRecDepth 20000 in
theorem ggX5_pairOf_X5_outside : GoodIn wsX5_pairOf wsX5_outside := goodIn_r _ [10] (by decide +kernel) (by decide +kernel)
set_option maxRecDepth 20000 in
theorem gX5_pairOf_X5_outside : GoodIn wsX5_pairOf (va_wsS RX5 37 yX5_outside wsX5_outside) := goodIn_app (goodIn_of _ (by decide +kernel)) ggX5_pairOf_X5_outside
set_option maxRecDepth 20000 in
theorem ggX5_pairOf_X2_isKnown : GoodIn wsX5_pairOf wsX2_isKnown := goodIn_r _ [15, 16, 30, 31] (by decide +kernel) (by decide +kernel)
set_option maxRecDepth 20000 in
theorem gX5_pairOf_X2_isKnown : GoodIn wsX5_pairOf (wsV RX5 132 RX2 yX2_isKnown wsX2_isKnown) := goodIn_app (goodIn_of _ (by decide +kernel)) ggX5_pairOf_X2_isKnown
theorem dX5_pairOf_0 : decode cX5_pairOf 0 = .ok (.iload_n 1, 1) := by decide +kernel
theorem dX5_pairOf_1 : decode cX5_pairOf 1 = .ok (.iconst 0, 1) := by decide +kernel
theorem dX5_pairOf_2 : decode cX5_pairOf 2 = .ok (.iconst 2, 1) := by decide +kernel
theorem dX5_pairOf_3 : decode cX5_pairOf 3 = .ok (.invokestatic 37, 3) := by decide +kernel
theorem dX5_pairOf_6 : decode cX5_pairOf 6 = .ok (.ifCond .ne 12, 3) := by decide +kernel
theorem dX5_pairOf_9 : decode cX5_pairOf 9 = .ok (.iload_n 2, 1) := by decide +kernel
theorem dX5_pairOf_10 : decode cX5_pairOf 10 = .ok (.iconst 0, 1) := by decide +kernel
theorem dX5_pairOf_11 : decode cX5_pairOf 11 = .ok (.iconst 1, 1) := by decide +kernel
theorem dX5_pairOf_12 : decode cX5_pairOf 12 = .ok (.invokestatic 37, 3) := by decide +kernel
theorem dX5_pairOf_15 : decode cX5_pairOf 15 = .ok (.ifCond .eq 6, 3) := by decide +kernel
theorem dX5_pairOf_18 : decode cX5_pairOf 18 = .ok (.ldc 41, 2) := by decide +kernel
theorem dX5_pairOf_20 : decode cX5_pairOf 20 = .ok (.ireturn, 1) := by decide +kernel
theorem dX5_pairOf_21 : decode cX5_pairOf 21 = .ok (.aload_n 0, 1) := by decide +kernel
theorem dX5_pairOf_22 : decode cX5_pairOf 22 = .ok (.getfield 12, 3) := by decide +kernel
theorem dX5_pairOf_25 : decode cX5_pairOf 25 = .ok (.getfield 128, 3) := by decide +kernel
theorem dX5_pairOf_28 : decode cX5_pairOf 28 = .ok (.iload_n 1, 1) := by decide +kernel
theorem dX5_pairOf_29 : decode cX5_pairOf 29 = .ok (.invokevirtual 132, 3) := by decide +kernel
theorem dX5_pairOf_32 : decode cX5_pairOf 32 = .ok (.ifCond .ne 6, 3) := by decide +kernel
theorem dX5_pairOf_35 : decode cX5_pairOf 35 = .ok (.ldc 109, 2) := by decide +kernel
theorem dX5_pairOf_37 : decode cX5_pairOf 37 = .ok (.ireturn, 1) := by decide +kernel
theorem dX5_pairOf_38 : decode cX5_pairOf 38 = .ok (.iload_n 2, 1) := by decide +kernel
theorem dX5_pairOf_39 : decode cX5_pairOf 39 = .ok (.ifCond .ne 18, 3) := by decide +kernel
theorem dX5_pairOf_42 : decode cX5_pairOf 42 = .ok (.aload_n 0, 1) := by decide +kernel
theorem dX5_pairOf_43 : decode cX5_pairOf 43 = .ok (.getfield 12, 3) := by decide +kernel
theorem dX5_pairOf_46 : decode cX5_pairOf 46 = .ok (.getfield 128, 3) := by decide +kernel
theorem dX5_pairOf_49 : decode cX5_pairOf 49 = .ok (.getfield 137, 3) := by decide +kernel
theorem dX5_pairOf_52 : decode cX5_pairOf 52 = .ok (.iload_n 1, 1) := by decide +kernel
theorem dX5_pairOf_53 : decode cX5_pairOf 53 = .ok (.iaload, 1) := by decide +kernel
theorem dX5_pairOf_54 : decode cX5_pairOf 54 = .ok (.goto 15, 3) := by decide +kernel
theorem dX5_pairOf_57 : decode cX5_pairOf 57 = .ok (.aload_n 0, 1) := by decide +kernel
theorem dX5_pairOf_58 : decode cX5_pairOf 58 = .ok (.getfield 12, 3) := by decide +kernel
theorem dX5_pairOf_61 : decode cX5_pairOf 61 = .ok (.getfield 128, 3) := by decide +kernel
theorem dX5_pairOf_64 : decode cX5_pairOf 64 = .ok (.getfield 138, 3) := by decide +kernel
theorem dX5_pairOf_67 : decode cX5_pairOf 67 = .ok (.iload_n 1, 1) := by decide +kernel
theorem dX5_pairOf_68 : decode cX5_pairOf 68 = .ok (.iaload, 1) := by decide +kernel
theorem dX5_pairOf_69 : decode cX5_pairOf 69 = .ok (.ireturn, 1) := by decide +kernel
set_option maxRecDepth 20000 in
theorem ggX5_mended_X5_outside : GoodIn wsX5_mended wsX5_outside := goodIn_r _ [8] (by decide +kernel) (by decide +kernel)
set_option maxRecDepth 20000 in
theorem gX5_mended_X5_outside : GoodIn wsX5_mended (va_wsS RX5 37 yX5_outside wsX5_outside) := goodIn_app (goodIn_of _ (by decide +kernel)) ggX5_mended_X5_outside
set_option maxRecDepth 20000 in
theorem ggX5_mended_X2_mend : GoodIn wsX5_mended wsX2_mend := goodIn_r _ [13, 14, 15, 16, 17, 18, 12, 19, 20, 21, 22, 23, 24, 25, 26, 27, 28, 29, 30, 31, 32, 33, 34, 35, 36, 37, 51, 52] (by decide +kernel) (by decide +kernel)
set_option maxRecDepth 20000 in
theorem gX5_mended_X2_mend : GoodIn wsX5_mended (wsV RX5 142 RX2 yX2_mend wsX2_mend) := goodIn_app (goodIn_of _ (by decide +kernel)) ggX5_mended_X2_mend
theorem dX5_mended_0 : decode cX5_mended 0 = .ok (.iload_n 1, 1) := by decide +kernel
theorem dX5_mended_1 : decode cX5_mended 1 = .ok (.iconst 0, 1) := by decide +kernel
theorem dX5_mended_2 : decode cX5_mended 2 = .ok (.ldc 141, 2) := by decide +kernel
theorem dX5_mended_4 : decode cX5_mended 4 = .ok (.invokestatic 37, 3) := by decide +kernel
theorem dX5_mended_7 : decode cX5_mended 7 = .ok (.ifCond .eq 6, 3) := by decide +kernel
theorem dX5_mended_10 : decode cX5_mended 10 = .ok (.ldc 41, 2) := by decide +kernel
theorem dX5_mended_12 : decode cX5_mended 12 = .ok (.ireturn, 1) := by decide +kernel
theorem dX5_mended_13 : decode cX5_mended 13 = .ok (.aload_n 0, 1) := by decide +kernel
theorem dX5_mended_14 : decode cX5_mended 14 = .ok (.getfield 12, 3) := by decide +kernel
theorem dX5_mended_17 : decode cX5_mended 17 = .ok (.getfield 128, 3) := by decide +kernel
theorem dX5_mended_20 : decode cX5_mended 20 = .ok (.iload_n 1, 1) := by decide +kernel
theorem dX5_mended_21 : decode cX5_mended 21 = .ok (.invokevirtual 142, 3) := by decide +kernel
theorem dX5_mended_24 : decode cX5_mended 24 = .ok (.ireturn, 1) := by decide +kernel
set_option maxRecDepth 20000 in
theorem ggX5_errors_X5_outside : GoodIn wsX5_errors wsX5_outside := goodIn_r _ [16] (by decide +kernel) (by decide +kernel)
set_option maxRecDepth 20000 in
theorem gX5_errors_X5_outside : GoodIn wsX5_errors (va_wsS RX5 37 yX5_outside wsX5_outside) := goodIn_app (goodIn_of _ (by decide +kernel)) ggX5_errors_X5_outside
set_option maxRecDepth 20000 in
theorem ggX5_errors_X1_keptOutputs : GoodIn wsX5_errors wsX1_keptOutputs := goodIn_r _ [21, 22, 23, 24, 25, 26, 6, 27, 28, 9, 10, 54, 55, 56, 57, 58, 59, 60, 61, 62, 63, 64, 65, 66, 67, 68, 69, 70] (by decide +kernel) (by decide +kernel)
set_option maxRecDepth 20000 in
theorem gX5_errors_X1_keptOutputs : GoodIn wsX5_errors (wsV RX5 105 RX1 yX1_keptOutputs wsX1_keptOutputs) := goodIn_app (goodIn_of _ (by decide +kernel)) ggX5_errors_X1_keptOutputs
set_option maxRecDepth 20000 in
theorem ggX5_errors_X1_isOfReference : GoodIn wsX5_errors wsX1_isOfReference := goodIn_r _ [32, 33, 34, 35, 36, 20, 37, 23, 24, 54, 55, 56, 57, 58, 59, 60, 61, 62, 63, 64, 65, 66, 67, 68, 69, 70] (by decide +kernel) (by decide +kernel)
set_option maxRecDepth 20000 in
theorem gX5_errors_X1_isOfReference : GoodIn wsX5_errors (wsV RX5 122 RX1 yX1_isOfReference wsX1_isOfReference) := goodIn_app (goodIn_of _ (by decide +kernel)) ggX5_errors_X1_isOfReference
set_option maxRecDepth 20000 in
theorem ggX5_errors_X1_errorOf : GoodIn wsX5_errors wsX1_errorOf := goodIn_r _ [41, 42, 43, 44, 45, 34, 35, 36, 20, 37, 23, 24, 54, 55, 56, 57, 58, 59, 60, 61, 62, 63, 64, 65, 66, 67, 68, 69, 70] (by decide +kernel) (by decide +kernel)
set_option maxRecDepth 20000 in
theorem gX5_errors_X1_errorOf : GoodIn wsX5_errors (wsV RX5 125 RX1 yX1_errorOf wsX1_errorOf) := goodIn_app (goodIn_of _ (by decide +kernel)) ggX5_errors_X1_errorOf
set_option maxRecDepth 20000 in
theorem ggX5_errors_X5_bitsOf : GoodIn wsX5_errors wsX5_bitsOf := goodIn_r _ [48, 49] (by decide +kernel) (by decide +kernel)
set_option maxRecDepth 20000 in
theorem gX5_errors_X5_bitsOf : GoodIn wsX5_errors (va_wsS RX5 154 yX5_bitsOf wsX5_bitsOf) := goodIn_app (goodIn_of _ (by decide +kernel)) ggX5_errors_X5_bitsOf
theorem dX5_errors_0 : decode cX5_errors 0 = .ok (.iload_n 1, 1) := by decide +kernel
theorem dX5_errors_1 : decode cX5_errors 1 = .ok (.iconst 0, 1) := by decide +kernel
theorem dX5_errors_2 : decode cX5_errors 2 = .ok (.iconst 3, 1) := by decide +kernel
theorem dX5_errors_3 : decode cX5_errors 3 = .ok (.invokestatic 37, 3) := by decide +kernel
theorem dX5_errors_6 : decode cX5_errors 6 = .ok (.ifCond .eq 6, 3) := by decide +kernel
theorem dX5_errors_9 : decode cX5_errors 9 = .ok (.ldc 41, 2) := by decide +kernel
theorem dX5_errors_11 : decode cX5_errors 11 = .ok (.ireturn, 1) := by decide +kernel
theorem dX5_errors_12 : decode cX5_errors 12 = .ok (.iconst 0, 1) := by decide +kernel
theorem dX5_errors_13 : decode cX5_errors 13 = .ok (.istore_n 2, 1) := by decide +kernel
theorem dX5_errors_14 : decode cX5_errors 14 = .ok (.iconst 0, 1) := by decide +kernel
theorem dX5_errors_15 : decode cX5_errors 15 = .ok (.istore_n 3, 1) := by decide +kernel
theorem dX5_errors_16 : decode cX5_errors 16 = .ok (.iconst 0, 1) := by decide +kernel
theorem dX5_errors_17 : decode cX5_errors 17 = .ok (.istore 4, 2) := by decide +kernel
theorem dX5_errors_19 : decode cX5_errors 19 = .ok (.iconst 0, 1) := by decide +kernel
theorem dX5_errors_20 : decode cX5_errors 20 = .ok (.istore 5, 2) := by decide +kernel
theorem dX5_errors_22 : decode cX5_errors 22 = .ok (.aload_n 0, 1) := by decide +kernel
theorem dX5_errors_23 : decode cX5_errors 23 = .ok (.getfield 12, 3) := by decide +kernel
theorem dX5_errors_26 : decode cX5_errors 26 = .ok (.invokevirtual 105, 3) := by decide +kernel
theorem dX5_errors_29 : decode cX5_errors 29 = .ok (.istore 6, 2) := by decide +kernel
theorem dX5_errors_31 : decode cX5_errors 31 = .ok (.iconst 1, 1) := by decide +kernel
theorem dX5_errors_32 : decode cX5_errors 32 = .ok (.istore 7, 2) := by decide +kernel
theorem dX5_errors_34 : decode cX5_errors 34 = .ok (.iload 7, 2) := by decide +kernel
theorem dX5_errors_36 : decode cX5_errors 36 = .ok (.iload 6, 2) := by decide +kernel
theorem dX5_errors_38 : decode cX5_errors 38 = .ok (.if_icmp .gt 74, 3) := by decide +kernel
theorem dX5_errors_41 : decode cX5_errors 41 = .ok (.aload_n 0, 1) := by decide +kernel
theorem dX5_errors_42 : decode cX5_errors 42 = .ok (.getfield 12, 3) := by decide +kernel
theorem dX5_errors_45 : decode cX5_errors 45 = .ok (.getfield 42, 3) := by decide +kernel
theorem dX5_errors_48 : decode cX5_errors 48 = .ok (.iload 7, 2) := by decide +kernel
theorem dX5_errors_50 : decode cX5_errors 50 = .ok (.isub, 1) := by decide +kernel
theorem dX5_errors_51 : decode cX5_errors 51 = .ok (.istore 8, 2) := by decide +kernel
theorem dX5_errors_53 : decode cX5_errors 53 = .ok (.aload_n 0, 1) := by decide +kernel
theorem dX5_errors_54 : decode cX5_errors 54 = .ok (.getfield 12, 3) := by decide +kernel
theorem dX5_errors_57 : decode cX5_errors 57 = .ok (.iload 8, 2) := by decide +kernel
theorem dX5_errors_59 : decode cX5_errors 59 = .ok (.invokevirtual 122, 3) := by decide +kernel
theorem dX5_errors_62 : decode cX5_errors 62 = .ok (.ifCond .ne 44, 3) := by decide +kernel
theorem dX5_errors_65 : decode cX5_errors 65 = .ok (.aload_n 0, 1) := by decide +kernel
theorem dX5_errors_66 : decode cX5_errors 66 = .ok (.getfield 12, 3) := by decide +kernel
theorem dX5_errors_69 : decode cX5_errors 69 = .ok (.iload 8, 2) := by decide +kernel
theorem dX5_errors_71 : decode cX5_errors 71 = .ok (.invokevirtual 125, 3) := by decide +kernel
theorem dX5_errors_74 : decode cX5_errors 74 = .ok (.istore 9, 2) := by decide +kernel
theorem dX5_errors_76 : decode cX5_errors 76 = .ok (.iinc 2 1, 3) := by decide +kernel
theorem dX5_errors_79 : decode cX5_errors 79 = .ok (.iload_n 3, 1) := by decide +kernel
theorem dX5_errors_80 : decode cX5_errors 80 = .ok (.iload 9, 2) := by decide +kernel
theorem dX5_errors_82 : decode cX5_errors 82 = .ok (.invokestatic 145, 3) := by decide +kernel
theorem dX5_errors_85 : decode cX5_errors 85 = .ok (.invokestatic 150, 3) := by decide +kernel
theorem dX5_errors_88 : decode cX5_errors 88 = .ok (.istore_n 3, 1) := by decide +kernel
theorem dX5_errors_89 : decode cX5_errors 89 = .ok (.iload 4, 2) := by decide +kernel
theorem dX5_errors_91 : decode cX5_errors 91 = .ok (.iload 9, 2) := by decide +kernel
theorem dX5_errors_93 : decode cX5_errors 93 = .ok (.iadd, 1) := by decide +kernel
theorem dX5_errors_94 : decode cX5_errors 94 = .ok (.istore 4, 2) := by decide +kernel
theorem dX5_errors_96 : decode cX5_errors 96 = .ok (.iload 5, 2) := by decide +kernel
theorem dX5_errors_98 : decode cX5_errors 98 = .ok (.iload 9, 2) := by decide +kernel
theorem dX5_errors_100 : decode cX5_errors 100 = .ok (.invokestatic 145, 3) := by decide +kernel
theorem dX5_errors_103 : decode cX5_errors 103 = .ok (.iadd, 1) := by decide +kernel
theorem dX5_errors_104 : decode cX5_errors 104 = .ok (.istore 5, 2) := by decide +kernel
theorem dX5_errors_106 : decode cX5_errors 106 = .ok (.iinc 7 1, 3) := by decide +kernel
theorem dX5_errors_109 : decode cX5_errors 109 = .ok (.goto (-75), 3) := by decide +kernel
theorem dX5_errors_112 : decode cX5_errors 112 = .ok (.iload_n 1, 1) := by decide +kernel
theorem dX5_errors_113 : decode cX5_errors 113 = .ok (.ifCond .ne 5, 3) := by decide +kernel
theorem dX5_errors_116 : decode cX5_errors 116 = .ok (.iload_n 2, 1) := by decide +kernel
theorem dX5_errors_117 : decode cX5_errors 117 = .ok (.ireturn, 1) := by decide +kernel
theorem dX5_errors_118 : decode cX5_errors 118 = .ok (.iload_n 2, 1) := by decide +kernel
theorem dX5_errors_119 : decode cX5_errors 119 = .ok (.ifCond .ne 6, 3) := by decide +kernel
theorem dX5_errors_122 : decode cX5_errors 122 = .ok (.ldc 109, 2) := by decide +kernel
theorem dX5_errors_124 : decode cX5_errors 124 = .ok (.ireturn, 1) := by decide +kernel
theorem dX5_errors_125 : decode cX5_errors 125 = .ok (.iload_n 1, 1) := by decide +kernel
theorem dX5_errors_126 : decode cX5_errors 126 = .ok (.iconst 1, 1) := by decide +kernel
theorem dX5_errors_127 : decode cX5_errors 127 = .ok (.if_icmp .ne 5, 3) := by decide +kernel
theorem dX5_errors_130 : decode cX5_errors 130 = .ok (.iload_n 3, 1) := by decide +kernel
theorem dX5_errors_131 : decode cX5_errors 131 = .ok (.ireturn, 1) := by decide +kernel
theorem dX5_errors_132 : decode cX5_errors 132 = .ok (.iload_n 1, 1) := by decide +kernel
theorem dX5_errors_133 : decode cX5_errors 133 = .ok (.iconst 2, 1) := by decide +kernel
theorem dX5_errors_134 : decode cX5_errors 134 = .ok (.if_icmp .ne 11, 3) := by decide +kernel
theorem dX5_errors_137 : decode cX5_errors 137 = .ok (.iload 4, 2) := by decide +kernel
theorem dX5_errors_139 : decode cX5_errors 139 = .ok (.ldc 153, 2) := by decide +kernel
theorem dX5_errors_141 : decode cX5_errors 141 = .ok (.iadd, 1) := by decide +kernel
theorem dX5_errors_142 : decode cX5_errors 142 = .ok (.goto 12, 3) := by decide +kernel
theorem dX5_errors_145 : decode cX5_errors 145 = .ok (.iload 5, 2) := by decide +kernel
theorem dX5_errors_147 : decode cX5_errors 147 = .ok (.i2f, 1) := by decide +kernel
theorem dX5_errors_148 : decode cX5_errors 148 = .ok (.iload_n 2, 1) := by decide +kernel
theorem dX5_errors_149 : decode cX5_errors 149 = .ok (.i2f, 1) := by decide +kernel
theorem dX5_errors_150 : decode cX5_errors 150 = .ok (.fdiv, 1) := by decide +kernel
theorem dX5_errors_151 : decode cX5_errors 151 = .ok (.invokestatic 154, 3) := by decide +kernel
theorem dX5_errors_154 : decode cX5_errors 154 = .ok (.ireturn, 1) := by decide +kernel
set_option maxRecDepth 20000 in
theorem ggX5_account_X3_inStages : GoodIn wsX5_account wsX3_inStages := goodIn_r _ [12, 13, 14, 28, 29, 30, 31, 32, 33, 34, 35] (by decide +kernel) (by decide +kernel)
set_option maxRecDepth 20000 in
theorem gX5_account_X3_inStages : GoodIn wsX5_account (wsV RX5 170 RX3 yX3_inStages wsX3_inStages) := goodIn_app (goodIn_of _ (by decide +kernel)) ggX5_account_X3_inStages
theorem dX5_account_0 : decode cX5_account 0 = .ok (.iload_n 1, 1) := by decide +kernel
theorem dX5_account_1 : decode cX5_account 1 = .ok (.tableswitch 90 0 4 #[35, 46, 57, 68, 79], 35) := by decide +kernel
theorem dX5_account_36 : decode cX5_account 36 = .ok (.aload_n 0, 1) := by decide +kernel
theorem dX5_account_37 : decode cX5_account 37 = .ok (.getfield 12, 3) := by decide +kernel
theorem dX5_account_40 : decode cX5_account 40 = .ok (.getfield 54, 3) := by decide +kernel
theorem dX5_account_43 : decode cX5_account 43 = .ok (.getfield 158, 3) := by decide +kernel
theorem dX5_account_46 : decode cX5_account 46 = .ok (.ireturn, 1) := by decide +kernel
theorem dX5_account_47 : decode cX5_account 47 = .ok (.aload_n 0, 1) := by decide +kernel
theorem dX5_account_48 : decode cX5_account 48 = .ok (.getfield 12, 3) := by decide +kernel
theorem dX5_account_51 : decode cX5_account 51 = .ok (.getfield 54, 3) := by decide +kernel
theorem dX5_account_54 : decode cX5_account 54 = .ok (.getfield 161, 3) := by decide +kernel
theorem dX5_account_57 : decode cX5_account 57 = .ok (.ireturn, 1) := by decide +kernel
theorem dX5_account_58 : decode cX5_account 58 = .ok (.aload_n 0, 1) := by decide +kernel
theorem dX5_account_59 : decode cX5_account 59 = .ok (.getfield 12, 3) := by decide +kernel
theorem dX5_account_62 : decode cX5_account 62 = .ok (.getfield 54, 3) := by decide +kernel
theorem dX5_account_65 : decode cX5_account 65 = .ok (.getfield 164, 3) := by decide +kernel
theorem dX5_account_68 : decode cX5_account 68 = .ok (.ireturn, 1) := by decide +kernel
theorem dX5_account_69 : decode cX5_account 69 = .ok (.aload_n 0, 1) := by decide +kernel
theorem dX5_account_70 : decode cX5_account 70 = .ok (.getfield 12, 3) := by decide +kernel
theorem dX5_account_73 : decode cX5_account 73 = .ok (.getfield 54, 3) := by decide +kernel
theorem dX5_account_76 : decode cX5_account 76 = .ok (.getfield 167, 3) := by decide +kernel
theorem dX5_account_79 : decode cX5_account 79 = .ok (.ireturn, 1) := by decide +kernel
theorem dX5_account_80 : decode cX5_account 80 = .ok (.aload_n 0, 1) := by decide +kernel
theorem dX5_account_81 : decode cX5_account 81 = .ok (.getfield 12, 3) := by decide +kernel
theorem dX5_account_84 : decode cX5_account 84 = .ok (.getfield 54, 3) := by decide +kernel
theorem dX5_account_87 : decode cX5_account 87 = .ok (.invokevirtual 170, 3) := by decide +kernel
theorem dX5_account_90 : decode cX5_account 90 = .ok (.ireturn, 1) := by decide +kernel
theorem dX5_account_91 : decode cX5_account 91 = .ok (.ldc 41, 2) := by decide +kernel
theorem dX5_account_93 : decode cX5_account 93 = .ok (.ireturn, 1) := by decide +kernel
set_option maxRecDepth 20000 in
theorem ggX5_echo_X5_outside : GoodIn wsX5_echo wsX5_outside := goodIn_r _ [9] (by decide +kernel) (by decide +kernel)
set_option maxRecDepth 20000 in
theorem gX5_echo_X5_outside : GoodIn wsX5_echo (va_wsS RX5 37 yX5_outside wsX5_outside) := goodIn_app (goodIn_of _ (by decide +kernel)) ggX5_echo_X5_outside
set_option maxRecDepth 20000 in
theorem ggX5_echo_X3_copyFrom : GoodIn wsX5_echo wsX3_copyFrom := goodIn_r _ [14, 15, 16, 17, 18, 19, 20, 21, 22, 23, 24, 25, 26, 68, 69, 70, 71, 72, 73, 74, 75] (by decide +kernel) (by decide +kernel)
set_option maxRecDepth 20000 in
theorem gX5_echo_X3_copyFrom : GoodIn wsX5_echo (wsV RX5 173 RX3 yX3_copyFrom wsX3_copyFrom) := goodIn_app (goodIn_of _ (by decide +kernel)) ggX5_echo_X3_copyFrom
set_option maxRecDepth 20000 in
theorem ggX5_echo_X3_outputOfLone : GoodIn wsX5_echo wsX3_outputOfLone := goodIn_r _ [30, 31, 32, 33, 13, 34, 16, 23, 24, 25, 26, 35, 36, 37, 38, 39, 40, 41, 42, 15, 43, 44, 45, 46, 47, 48, 49, 50, 21, 51, 52, 53, 54, 22, 68, 69, 70, 71, 72, 73, 74, 75] (by decide +kernel) (by decide +kernel)
set_option maxRecDepth 20000 in
theorem gX5_echo_X3_outputOfLone : GoodIn wsX5_echo (wsV RX5 177 RX3 yX3_outputOfLone wsX3_outputOfLone) := goodIn_app (goodIn_of _ (by decide +kernel)) ggX5_echo_X3_outputOfLone
theorem dX5_echo_0 : decode cX5_echo 0 = .ok (.iload_n 1, 1) := by decide +kernel
theorem dX5_echo_1 : decode cX5_echo 1 = .ok (.iconst 0, 1) := by decide +kernel
theorem dX5_echo_2 : decode cX5_echo 2 = .ok (.sipush 10000, 3) := by decide +kernel
theorem dX5_echo_5 : decode cX5_echo 5 = .ok (.invokestatic 37, 3) := by decide +kernel
theorem dX5_echo_8 : decode cX5_echo 8 = .ok (.ifCond .ne 13, 3) := by decide +kernel
theorem dX5_echo_11 : decode cX5_echo 11 = .ok (.iload_n 2, 1) := by decide +kernel
theorem dX5_echo_12 : decode cX5_echo 12 = .ok (.iconst 1, 1) := by decide +kernel
theorem dX5_echo_13 : decode cX5_echo 13 = .ok (.bipush 40, 2) := by decide +kernel
theorem dX5_echo_15 : decode cX5_echo 15 = .ok (.invokestatic 37, 3) := by decide +kernel
theorem dX5_echo_18 : decode cX5_echo 18 = .ok (.ifCond .eq 6, 3) := by decide +kernel
theorem dX5_echo_21 : decode cX5_echo 21 = .ok (.ldc 41, 2) := by decide +kernel
theorem dX5_echo_23 : decode cX5_echo 23 = .ok (.ireturn, 1) := by decide +kernel
theorem dX5_echo_24 : decode cX5_echo 24 = .ok (.aload_n 0, 1) := by decide +kernel
theorem dX5_echo_25 : decode cX5_echo 25 = .ok (.getfield 33, 3) := by decide +kernel
theorem dX5_echo_28 : decode cX5_echo 28 = .ok (.aload_n 0, 1) := by decide +kernel
theorem dX5_echo_29 : decode cX5_echo 29 = .ok (.getfield 12, 3) := by decide +kernel
theorem dX5_echo_32 : decode cX5_echo 32 = .ok (.getfield 54, 3) := by decide +kernel
theorem dX5_echo_35 : decode cX5_echo 35 = .ok (.invokevirtual 173, 3) := by decide +kernel
theorem dX5_echo_38 : decode cX5_echo 38 = .ok (.aload_n 0, 1) := by decide +kernel
theorem dX5_echo_39 : decode cX5_echo 39 = .ok (.getfield 33, 3) := by decide +kernel
theorem dX5_echo_42 : decode cX5_echo 42 = .ok (.iload_n 1, 1) := by decide +kernel
theorem dX5_echo_43 : decode cX5_echo 43 = .ok (.iload_n 2, 1) := by decide +kernel
theorem dX5_echo_44 : decode cX5_echo 44 = .ok (.aload_n 0, 1) := by decide +kernel
theorem dX5_echo_45 : decode cX5_echo 45 = .ok (.getfield 12, 3) := by decide +kernel
theorem dX5_echo_48 : decode cX5_echo 48 = .ok (.getfield 78, 3) := by decide +kernel
theorem dX5_echo_51 : decode cX5_echo 51 = .ok (.iconst 0, 1) := by decide +kernel
theorem dX5_echo_52 : decode cX5_echo 52 = .ok (.iaload, 1) := by decide +kernel
theorem dX5_echo_53 : decode cX5_echo 53 = .ok (.invokevirtual 177, 3) := by decide +kernel
theorem dX5_echo_56 : decode cX5_echo 56 = .ok (.ireturn, 1) := by decide +kernel
set_option maxRecDepth 20000 in
theorem ggX5_emptyAfter_X3_copyFrom : GoodIn wsX5_emptyAfter wsX3_copyFrom := goodIn_r _ [10, 11, 12, 13, 14, 15, 16, 17, 18, 19, 20, 21, 22, 56, 57, 58, 59, 60, 61, 62, 63] (by decide +kernel) (by decide +kernel)
set_option maxRecDepth 20000 in
theorem gX5_emptyAfter_X3_copyFrom : GoodIn wsX5_emptyAfter (wsV RX5 173 RX3 yX3_copyFrom wsX3_copyFrom) := goodIn_app (goodIn_of _ (by decide +kernel)) ggX5_emptyAfter_X3_copyFrom
set_option maxRecDepth 20000 in
theorem ggX5_emptyAfter_X3_inStages : GoodIn wsX5_emptyAfter wsX3_inStages := goodIn_r _ [26, 11, 12, 56, 57, 58, 59, 60, 61, 62, 63] (by decide +kernel) (by decide +kernel)
set_option maxRecDepth 20000 in
theorem gX5_emptyAfter_X3_inStages : GoodIn wsX5_emptyAfter (wsV RX5 170 RX3 yX3_inStages wsX3_inStages) := goodIn_app (goodIn_of _ (by decide +kernel)) ggX5_emptyAfter_X3_inStages
set_option maxRecDepth 20000 in
theorem ggX5_emptyAfter_X3_handOver : GoodIn wsX5_emptyAfter wsX3_handOver := goodIn_r _ [30, 11, 12, 31, 32, 33, 34, 22, 21, 19, 20, 35, 36, 37, 9, 38, 17, 39, 40, 41, 42, 18, 56, 57, 58, 59, 60, 61, 62, 63] (by decide +kernel) (by decide +kernel)
set_option maxRecDepth 20000 in
theorem gX5_emptyAfter_X3_handOver : GoodIn wsX5_emptyAfter (wsV RX5 181 RX3 yX3_handOver wsX3_handOver) := goodIn_app (goodIn_of _ (by decide +kernel)) ggX5_emptyAfter_X3_handOver
theorem dX5_emptyAfter_0 : decode cX5_emptyAfter 0 = .ok (.aload_n 0, 1) := by decide +kernel
theorem dX5_emptyAfter_1 : decode cX5_emptyAfter 1 = .ok (.getfield 33, 3) := by decide +kernel
theorem dX5_emptyAfter_4 : decode cX5_emptyAfter 4 = .ok (.aload_n 0, 1) := by decide +kernel
theorem dX5_emptyAfter_5 : decode cX5_emptyAfter 5 = .ok (.getfield 12, 3) := by decide +kernel
theorem dX5_emptyAfter_8 : decode cX5_emptyAfter 8 = .ok (.getfield 54, 3) := by decide +kernel
theorem dX5_emptyAfter_11 : decode cX5_emptyAfter 11 = .ok (.invokevirtual 173, 3) := by decide +kernel
theorem dX5_emptyAfter_14 : decode cX5_emptyAfter 14 = .ok (.iconst 0, 1) := by decide +kernel
theorem dX5_emptyAfter_15 : decode cX5_emptyAfter 15 = .ok (.istore_n 1, 1) := by decide +kernel
theorem dX5_emptyAfter_16 : decode cX5_emptyAfter 16 = .ok (.iload_n 1, 1) := by decide +kernel
theorem dX5_emptyAfter_17 : decode cX5_emptyAfter 17 = .ok (.sipush 400, 3) := by decide +kernel
theorem dX5_emptyAfter_20 : decode cX5_emptyAfter 20 = .ok (.if_icmp .gt 39, 3) := by decide +kernel
theorem dX5_emptyAfter_23 : decode cX5_emptyAfter 23 = .ok (.aload_n 0, 1) := by decide +kernel
theorem dX5_emptyAfter_24 : decode cX5_emptyAfter 24 = .ok (.getfield 33, 3) := by decide +kernel
theorem dX5_emptyAfter_27 : decode cX5_emptyAfter 27 = .ok (.invokevirtual 170, 3) := by decide +kernel
theorem dX5_emptyAfter_30 : decode cX5_emptyAfter 30 = .ok (.ifCond .ne 5, 3) := by decide +kernel
theorem dX5_emptyAfter_33 : decode cX5_emptyAfter 33 = .ok (.iload_n 1, 1) := by decide +kernel
theorem dX5_emptyAfter_34 : decode cX5_emptyAfter 34 = .ok (.ireturn, 1) := by decide +kernel
theorem dX5_emptyAfter_35 : decode cX5_emptyAfter 35 = .ok (.aload_n 0, 1) := by decide +kernel
theorem dX5_emptyAfter_36 : decode cX5_emptyAfter 36 = .ok (.getfield 33, 3) := by decide +kernel
theorem dX5_emptyAfter_39 : decode cX5_emptyAfter 39 = .ok (.iconst 0, 1) := by decide +kernel
theorem dX5_emptyAfter_40 : decode cX5_emptyAfter 40 = .ok (.aload_n 0, 1) := by decide +kernel
theorem dX5_emptyAfter_41 : decode cX5_emptyAfter 41 = .ok (.getfield 12, 3) := by decide +kernel
theorem dX5_emptyAfter_44 : decode cX5_emptyAfter 44 = .ok (.getfield 78, 3) := by decide +kernel
theorem dX5_emptyAfter_47 : decode cX5_emptyAfter 47 = .ok (.iconst 0, 1) := by decide +kernel
theorem dX5_emptyAfter_48 : decode cX5_emptyAfter 48 = .ok (.iaload, 1) := by decide +kernel
theorem dX5_emptyAfter_49 : decode cX5_emptyAfter 49 = .ok (.invokevirtual 181, 3) := by decide +kernel
theorem dX5_emptyAfter_52 : decode cX5_emptyAfter 52 = .ok (.pop, 1) := by decide +kernel
theorem dX5_emptyAfter_53 : decode cX5_emptyAfter 53 = .ok (.iinc 1 1, 3) := by decide +kernel
theorem dX5_emptyAfter_56 : decode cX5_emptyAfter 56 = .ok (.goto (-40), 3) := by decide +kernel
theorem dX5_emptyAfter_59 : decode cX5_emptyAfter 59 = .ok (.ldc 109, 2) := by decide +kernel
theorem dX5_emptyAfter_61 : decode cX5_emptyAfter 61 = .ok (.ireturn, 1) := by decide +kernel
set_option maxRecDepth 20000 in
theorem ggX5_worn_X5_outside : GoodIn wsX5_worn wsX5_outside := goodIn_r _ [8] (by decide +kernel) (by decide +kernel)
set_option maxRecDepth 20000 in
theorem gX5_worn_X5_outside : GoodIn wsX5_worn (va_wsS RX5 37 yX5_outside wsX5_outside) := goodIn_app (goodIn_of _ (by decide +kernel)) ggX5_worn_X5_outside
set_option maxRecDepth 20000 in
theorem ggX5_worn_X5_outputWithoutShares : GoodIn wsX5_worn wsX5_outputWithoutShares := goodIn_r _ [12, 13, 2, 3, 4, 14, 15, 16, 17, 18, 19, 20, 21, 22, 23, 24, 25, 26, 27, 28, 29, 30, 31, 32, 33, 34, 35, 36, 37, 38, 39, 40, 41, 42, 43, 44, 45, 46, 47, 48, 49, 50, 51, 52, 53, 54, 55, 56, 57, 58, 59, 60, 61, 62, 63, 64, 65, 66, 67, 68, 69, 70, 71, 72, 73, 74, 75, 76, 77, 78, 79, 80, 81, 82, 83, 84] (by decide +kernel) (by decide +kernel)
set_option maxRecDepth 20000 in
theorem gX5_worn_X5_outputWithoutShares : GoodIn wsX5_worn (wsV RX5 184 RX5 yX5_outputWithoutShares wsX5_outputWithoutShares) := goodIn_app (goodIn_of _ (by decide +kernel)) ggX5_worn_X5_outputWithoutShares
theorem dX5_worn_0 : decode cX5_worn 0 = .ok (.iload_n 1, 1) := by decide +kernel
theorem dX5_worn_1 : decode cX5_worn 1 = .ok (.iconst 0, 1) := by decide +kernel
theorem dX5_worn_2 : decode cX5_worn 2 = .ok (.iconst 1, 1) := by decide +kernel
theorem dX5_worn_3 : decode cX5_worn 3 = .ok (.invokestatic 37, 3) := by decide +kernel
theorem dX5_worn_6 : decode cX5_worn 6 = .ok (.ifCond .eq 6, 3) := by decide +kernel
theorem dX5_worn_9 : decode cX5_worn 9 = .ok (.ldc 41, 2) := by decide +kernel
theorem dX5_worn_11 : decode cX5_worn 11 = .ok (.ireturn, 1) := by decide +kernel
theorem dX5_worn_12 : decode cX5_worn 12 = .ok (.iconst 0, 1) := by decide +kernel
theorem dX5_worn_13 : decode cX5_worn 13 = .ok (.istore_n 2, 1) := by decide +kernel
theorem dX5_worn_14 : decode cX5_worn 14 = .ok (.aload_n 0, 1) := by decide +kernel
theorem dX5_worn_15 : decode cX5_worn 15 = .ok (.iconst 0, 1) := by decide +kernel
theorem dX5_worn_16 : decode cX5_worn 16 = .ok (.invokevirtual 184, 3) := by decide +kernel
theorem dX5_worn_19 : decode cX5_worn 19 = .ok (.istore_n 3, 1) := by decide +kernel
theorem dX5_worn_20 : decode cX5_worn 20 = .ok (.iconst 1, 1) := by decide +kernel
theorem dX5_worn_21 : decode cX5_worn 21 = .ok (.istore 4, 2) := by decide +kernel
theorem dX5_worn_23 : decode cX5_worn 23 = .ok (.iload 4, 2) := by decide +kernel
theorem dX5_worn_25 : decode cX5_worn 25 = .ok (.aload_n 0, 1) := by decide +kernel
theorem dX5_worn_26 : decode cX5_worn 26 = .ok (.getfield 12, 3) := by decide +kernel
theorem dX5_worn_29 : decode cX5_worn 29 = .ok (.getfield 54, 3) := by decide +kernel
theorem dX5_worn_32 : decode cX5_worn 32 = .ok (.getfield 187, 3) := by decide +kernel
theorem dX5_worn_35 : decode cX5_worn 35 = .ok (.if_icmp .ge 29, 3) := by decide +kernel
theorem dX5_worn_38 : decode cX5_worn 38 = .ok (.aload_n 0, 1) := by decide +kernel
theorem dX5_worn_39 : decode cX5_worn 39 = .ok (.iload 4, 2) := by decide +kernel
theorem dX5_worn_41 : decode cX5_worn 41 = .ok (.invokevirtual 184, 3) := by decide +kernel
theorem dX5_worn_44 : decode cX5_worn 44 = .ok (.istore 5, 2) := by decide +kernel
theorem dX5_worn_46 : decode cX5_worn 46 = .ok (.iload 5, 2) := by decide +kernel
theorem dX5_worn_48 : decode cX5_worn 48 = .ok (.iload_n 3, 1) := by decide +kernel
theorem dX5_worn_49 : decode cX5_worn 49 = .ok (.if_icmp .le 9, 3) := by decide +kernel
theorem dX5_worn_52 : decode cX5_worn 52 = .ok (.iload 4, 2) := by decide +kernel
theorem dX5_worn_54 : decode cX5_worn 54 = .ok (.istore_n 2, 1) := by decide +kernel
theorem dX5_worn_55 : decode cX5_worn 55 = .ok (.iload 5, 2) := by decide +kernel
theorem dX5_worn_57 : decode cX5_worn 57 = .ok (.istore_n 3, 1) := by decide +kernel
theorem dX5_worn_58 : decode cX5_worn 58 = .ok (.iinc 4 1, 3) := by decide +kernel
theorem dX5_worn_61 : decode cX5_worn 61 = .ok (.goto (-38), 3) := by decide +kernel
theorem dX5_worn_64 : decode cX5_worn 64 = .ok (.iload_n 1, 1) := by decide +kernel
theorem dX5_worn_65 : decode cX5_worn 65 = .ok (.ifCond .ne 7, 3) := by decide +kernel
theorem dX5_worn_68 : decode cX5_worn 68 = .ok (.iload_n 2, 1) := by decide +kernel
theorem dX5_worn_69 : decode cX5_worn 69 = .ok (.goto 4, 3) := by decide +kernel
theorem dX5_worn_72 : decode cX5_worn 72 = .ok (.iload_n 3, 1) := by decide +kernel
theorem dX5_worn_73 : decode cX5_worn 73 = .ok (.ireturn, 1) := by decide +kernel
set_option maxRecDepth 20000 in
theorem ggX5_outputWithoutShares_X3_copyFrom : GoodIn wsX5_outputWithoutShares wsX3_copyFrom := goodIn_r _ [10, 11, 12, 13, 14, 15, 16, 17, 18, 19, 20, 21, 22, 68, 69, 70, 71, 72, 73, 74, 75] (by decide +kernel) (by decide +kernel)
set_option maxRecDepth 20000 in
theorem gX5_outputWithoutShares_X3_copyFrom : GoodIn wsX5_outputWithoutShares (wsV RX5 173 RX3 yX3_copyFrom wsX3_copyFrom) := goodIn_app (goodIn_of _ (by decide +kernel)) ggX5_outputWithoutShares_X3_copyFrom
set_option maxRecDepth 20000 in
theorem ggX5_outputWithoutShares_X3_changeShares : GoodIn wsX5_outputWithoutShares wsX3_changeShares := goodIn_r _ [26, 17, 18, 68, 69, 70, 71, 72, 73, 74, 75] (by decide +kernel) (by decide +kernel)
set_option maxRecDepth 20000 in
theorem gX5_outputWithoutShares_X3_changeShares : GoodIn wsX5_outputWithoutShares (wsV RX5 68 RX3 yX3_changeShares wsX3_changeShares) := goodIn_app (goodIn_of _ (by decide +kernel)) ggX5_outputWithoutShares_X3_changeShares
set_option maxRecDepth 20000 in
theorem ggX5_outputWithoutShares_X3_outputOfLone : GoodIn wsX5_outputWithoutShares wsX3_outputOfLone := goodIn_r _ [30, 31, 32, 33, 9, 34, 12, 19, 20, 21, 22, 35, 36, 37, 38, 39, 40, 41, 42, 11, 43, 44, 45, 46, 47, 48, 49, 50, 17, 51, 52, 53, 54, 18, 68, 69, 70, 71, 72, 73, 74, 75] (by decide +kernel) (by decide +kernel)
set_option maxRecDepth 20000 in
theorem gX5_outputWithoutShares_X3_outputOfLone : GoodIn wsX5_outputWithoutShares (wsV RX5 177 RX3 yX3_outputOfLone wsX3_outputOfLone) := goodIn_app (goodIn_of _ (by decide +kernel)) ggX5_outputWithoutShares_X3_outputOfLone
theorem dX5_outputWithoutShares_0 : decode cX5_outputWithoutShares 0 = .ok (.aload_n 0, 1) := by decide +kernel
theorem dX5_outputWithoutShares_1 : decode cX5_outputWithoutShares 1 = .ok (.getfield 33, 3) := by decide +kernel
theorem dX5_outputWithoutShares_4 : decode cX5_outputWithoutShares 4 = .ok (.aload_n 0, 1) := by decide +kernel
theorem dX5_outputWithoutShares_5 : decode cX5_outputWithoutShares 5 = .ok (.getfield 12, 3) := by decide +kernel
theorem dX5_outputWithoutShares_8 : decode cX5_outputWithoutShares 8 = .ok (.getfield 54, 3) := by decide +kernel
theorem dX5_outputWithoutShares_11 : decode cX5_outputWithoutShares 11 = .ok (.invokevirtual 173, 3) := by decide +kernel
theorem dX5_outputWithoutShares_14 : decode cX5_outputWithoutShares 14 = .ok (.aload_n 0, 1) := by decide +kernel
theorem dX5_outputWithoutShares_15 : decode cX5_outputWithoutShares 15 = .ok (.getfield 33, 3) := by decide +kernel
theorem dX5_outputWithoutShares_18 : decode cX5_outputWithoutShares 18 = .ok (.iload_n 1, 1) := by decide +kernel
theorem dX5_outputWithoutShares_19 : decode cX5_outputWithoutShares 19 = .ok (.iconst 0, 1) := by decide +kernel
theorem dX5_outputWithoutShares_20 : decode cX5_outputWithoutShares 20 = .ok (.iconst 0, 1) := by decide +kernel
theorem dX5_outputWithoutShares_21 : decode cX5_outputWithoutShares 21 = .ok (.invokevirtual 68, 3) := by decide +kernel
theorem dX5_outputWithoutShares_24 : decode cX5_outputWithoutShares 24 = .ok (.aload_n 0, 1) := by decide +kernel
theorem dX5_outputWithoutShares_25 : decode cX5_outputWithoutShares 25 = .ok (.getfield 33, 3) := by decide +kernel
theorem dX5_outputWithoutShares_28 : decode cX5_outputWithoutShares 28 = .ok (.sipush 10000, 3) := by decide +kernel
theorem dX5_outputWithoutShares_31 : decode cX5_outputWithoutShares 31 = .ok (.aload_n 0, 1) := by decide +kernel
theorem dX5_outputWithoutShares_32 : decode cX5_outputWithoutShares 32 = .ok (.getfield 33, 3) := by decide +kernel
theorem dX5_outputWithoutShares_35 : decode cX5_outputWithoutShares 35 = .ok (.getfield 187, 3) := by decide +kernel
theorem dX5_outputWithoutShares_38 : decode cX5_outputWithoutShares 38 = .ok (.aload_n 0, 1) := by decide +kernel
theorem dX5_outputWithoutShares_39 : decode cX5_outputWithoutShares 39 = .ok (.getfield 12, 3) := by decide +kernel
theorem dX5_outputWithoutShares_42 : decode cX5_outputWithoutShares 42 = .ok (.getfield 78, 3) := by decide +kernel
theorem dX5_outputWithoutShares_45 : decode cX5_outputWithoutShares 45 = .ok (.iconst 0, 1) := by decide +kernel
theorem dX5_outputWithoutShares_46 : decode cX5_outputWithoutShares 46 = .ok (.iaload, 1) := by decide +kernel
theorem dX5_outputWithoutShares_47 : decode cX5_outputWithoutShares 47 = .ok (.invokevirtual 177, 3) := by decide +kernel
theorem dX5_outputWithoutShares_50 : decode cX5_outputWithoutShares 50 = .ok (.ireturn, 1) := by decide +kernel
set_option maxRecDepth 20000 in
theorem ggX5_safe_X3_copyFrom : GoodIn wsX5_safe wsX3_copyFrom := goodIn_r _ [9, 10, 11, 12, 13, 14, 15, 16, 17, 18, 19, 20, 21, 63, 64, 65, 66, 67, 68, 69, 70] (by decide +kernel) (by decide +kernel)
set_option maxRecDepth 20000 in
theorem gX5_safe_X3_copyFrom : GoodIn wsX5_safe (wsV RX5 173 RX3 yX3_copyFrom wsX3_copyFrom) := goodIn_app (goodIn_of _ (by decide +kernel)) ggX5_safe_X3_copyFrom
set_option maxRecDepth 20000 in
theorem ggX5_safe_X3_holds : GoodIn wsX5_safe wsX3_holds := goodIn_r _ [25, 21, 26, 27, 28, 8, 29, 11, 18, 19, 20, 30, 31, 32, 33, 34, 35, 36, 37, 10, 38, 39, 40, 41, 42, 43, 44, 45, 16, 46, 47, 48, 49, 17, 63, 64, 65, 66, 67, 68, 69, 70] (by decide +kernel) (by decide +kernel)
set_option maxRecDepth 20000 in
theorem gX5_safe_X3_holds : GoodIn wsX5_safe (wsV RX5 190 RX3 yX3_holds wsX3_holds) := goodIn_app (goodIn_of _ (by decide +kernel)) ggX5_safe_X3_holds
theorem dX5_safe_0 : decode cX5_safe 0 = .ok (.aload_n 0, 1) := by decide +kernel
theorem dX5_safe_1 : decode cX5_safe 1 = .ok (.getfield 12, 3) := by decide +kernel
theorem dX5_safe_4 : decode cX5_safe 4 = .ok (.getfield 78, 3) := by decide +kernel
theorem dX5_safe_7 : decode cX5_safe 7 = .ok (.iconst 0, 1) := by decide +kernel
theorem dX5_safe_8 : decode cX5_safe 8 = .ok (.iaload, 1) := by decide +kernel
theorem dX5_safe_9 : decode cX5_safe 9 = .ok (.istore_n 1, 1) := by decide +kernel
theorem dX5_safe_10 : decode cX5_safe 10 = .ok (.aload_n 0, 1) := by decide +kernel
theorem dX5_safe_11 : decode cX5_safe 11 = .ok (.getfield 33, 3) := by decide +kernel
theorem dX5_safe_14 : decode cX5_safe 14 = .ok (.aload_n 0, 1) := by decide +kernel
theorem dX5_safe_15 : decode cX5_safe 15 = .ok (.getfield 12, 3) := by decide +kernel
theorem dX5_safe_18 : decode cX5_safe 18 = .ok (.getfield 54, 3) := by decide +kernel
theorem dX5_safe_21 : decode cX5_safe 21 = .ok (.invokevirtual 173, 3) := by decide +kernel
theorem dX5_safe_24 : decode cX5_safe 24 = .ok (.iconst 0, 1) := by decide +kernel
theorem dX5_safe_25 : decode cX5_safe 25 = .ok (.istore_n 2, 1) := by decide +kernel
theorem dX5_safe_26 : decode cX5_safe 26 = .ok (.sipush 8192, 3) := by decide +kernel
theorem dX5_safe_29 : decode cX5_safe 29 = .ok (.istore_n 3, 1) := by decide +kernel
theorem dX5_safe_30 : decode cX5_safe 30 = .ok (.iload_n 3, 1) := by decide +kernel
theorem dX5_safe_31 : decode cX5_safe 31 = .ok (.ifCond .le 41, 3) := by decide +kernel
theorem dX5_safe_34 : decode cX5_safe 34 = .ok (.iload_n 2, 1) := by decide +kernel
theorem dX5_safe_35 : decode cX5_safe 35 = .ok (.iload_n 3, 1) := by decide +kernel
theorem dX5_safe_36 : decode cX5_safe 36 = .ok (.iadd, 1) := by decide +kernel
theorem dX5_safe_37 : decode cX5_safe 37 = .ok (.istore 4, 2) := by decide +kernel
theorem dX5_safe_39 : decode cX5_safe 39 = .ok (.iload 4, 2) := by decide +kernel
theorem dX5_safe_41 : decode cX5_safe 41 = .ok (.sipush 10000, 3) := by decide +kernel
theorem dX5_safe_44 : decode cX5_safe 44 = .ok (.if_icmp .gt 21, 3) := by decide +kernel
theorem dX5_safe_47 : decode cX5_safe 47 = .ok (.aload_n 0, 1) := by decide +kernel
theorem dX5_safe_48 : decode cX5_safe 48 = .ok (.getfield 33, 3) := by decide +kernel
theorem dX5_safe_51 : decode cX5_safe 51 = .ok (.iload 4, 2) := by decide +kernel
theorem dX5_safe_53 : decode cX5_safe 53 = .ok (.bipush 40, 2) := by decide +kernel
theorem dX5_safe_55 : decode cX5_safe 55 = .ok (.iload_n 1, 1) := by decide +kernel
theorem dX5_safe_56 : decode cX5_safe 56 = .ok (.invokevirtual 190, 3) := by decide +kernel
theorem dX5_safe_59 : decode cX5_safe 59 = .ok (.ifCond .eq 6, 3) := by decide +kernel
theorem dX5_safe_62 : decode cX5_safe 62 = .ok (.iload 4, 2) := by decide +kernel
theorem dX5_safe_64 : decode cX5_safe 64 = .ok (.istore_n 2, 1) := by decide +kernel
theorem dX5_safe_65 : decode cX5_safe 65 = .ok (.iload_n 3, 1) := by decide +kernel
theorem dX5_safe_66 : decode cX5_safe 66 = .ok (.iconst 2, 1) := by decide +kernel
theorem dX5_safe_67 : decode cX5_safe 67 = .ok (.idiv, 1) := by decide +kernel
theorem dX5_safe_68 : decode cX5_safe 68 = .ok (.istore_n 3, 1) := by decide +kernel
theorem dX5_safe_69 : decode cX5_safe 69 = .ok (.goto (-39), 3) := by decide +kernel
theorem dX5_safe_72 : decode cX5_safe 72 = .ok (.iload_n 2, 1) := by decide +kernel
theorem dX5_safe_73 : decode cX5_safe 73 = .ok (.ireturn, 1) := by decide +kernel
set_option maxRecDepth 20000 in
theorem ggX5_count_X1_keptOutputs : GoodIn wsX5_count wsX1_keptOutputs := goodIn_r _ [15, 16, 17, 18, 19, 20, 21, 22, 23, 24, 25, 60, 61, 62, 63, 64, 65, 66, 67, 68, 69, 70, 71, 72, 73, 74, 75, 76] (by decide +kernel) (by decide +kernel)
set_option maxRecDepth 20000 in
theorem gX5_count_X1_keptOutputs : GoodIn wsX5_count (wsV RX5 105 RX1 yX1_keptOutputs wsX1_keptOutputs) := goodIn_app (goodIn_of _ (by decide +kernel)) ggX5_count_X1_keptOutputs
set_option maxRecDepth 20000 in
theorem ggX5_count_X2_known : GoodIn wsX5_count wsX2_known := goodIn_r _ [30, 31, 32, 33, 29, 34, 35, 89, 90] (by decide +kernel) (by decide +kernel)
set_option maxRecDepth 20000 in
theorem gX5_count_X2_known : GoodIn wsX5_count (wsV RX5 196 RX2 yX2_known wsX2_known) := goodIn_app (goodIn_of _ (by decide +kernel)) ggX5_count_X2_known
set_option maxRecDepth 20000 in
theorem ggX5_count_X1_nextReference : GoodIn wsX5_count wsX1_nextReference := goodIn_r _ [39, 40, 60, 61, 62, 63, 64, 65, 66, 67, 68] (by decide +kernel) (by decide +kernel)
set_option maxRecDepth 20000 in
theorem gX5_count_X1_nextReference : GoodIn wsX5_count (wsV RX5 199 RX1 yX1_nextReference wsX1_nextReference) := goodIn_app (goodIn_of _ (by decide +kernel)) ggX5_count_X1_nextReference
set_option maxRecDepth 20000 in
theorem ggX5_count_X1_isForReference : GoodIn wsX5_count wsX1_isForReference := goodIn_r _ [44, 45, 60, 61, 62, 63, 64, 65, 66, 67, 68] (by decide +kernel) (by decide +kernel)
set_option maxRecDepth 20000 in
theorem gX5_count_X1_isForReference : GoodIn wsX5_count (wsV RX5 202 RX1 yX1_isForReference wsX1_isForReference) := goodIn_app (goodIn_of _ (by decide +kernel)) ggX5_count_X1_isForReference
set_option maxRecDepth 20000 in
theorem ggX5_count_X5_settingOfCount : GoodIn wsX5_count wsX5_settingOfCount := goodIn_r _ [50, 51, 1, 52, 53, 54, 49, 55, 56, 57, 58, 59, 60, 61, 62, 63, 64, 65, 66, 67, 68] (by decide +kernel) (by decide +kernel)
set_option maxRecDepth 20000 in
theorem gX5_count_X5_settingOfCount : GoodIn wsX5_count (wsV RX5 209 RX5 yX5_settingOfCount wsX5_settingOfCount) := goodIn_app (goodIn_of _ (by decide +kernel)) ggX5_count_X5_settingOfCount
theorem dX5_count_0 : decode cX5_count 0 = .ok (.iload_n 1, 1) := by decide +kernel
theorem dX5_count_1 : decode cX5_count 1 = .ok (.tableswitch 144 0 8 #[51, 62, 70, 78, 86, 97, 105, 128, 136], 51) := by decide +kernel
theorem dX5_count_52 : decode cX5_count 52 = .ok (.aload_n 0, 1) := by decide +kernel
theorem dX5_count_53 : decode cX5_count 53 = .ok (.getfield 12, 3) := by decide +kernel
theorem dX5_count_56 : decode cX5_count 56 = .ok (.getfield 54, 3) := by decide +kernel
theorem dX5_count_59 : decode cX5_count 59 = .ok (.getfield 187, 3) := by decide +kernel
theorem dX5_count_62 : decode cX5_count 62 = .ok (.ireturn, 1) := by decide +kernel
theorem dX5_count_63 : decode cX5_count 63 = .ok (.aload_n 0, 1) := by decide +kernel
theorem dX5_count_64 : decode cX5_count 64 = .ok (.getfield 12, 3) := by decide +kernel
theorem dX5_count_67 : decode cX5_count 67 = .ok (.getfield 42, 3) := by decide +kernel
theorem dX5_count_70 : decode cX5_count 70 = .ok (.ireturn, 1) := by decide +kernel
theorem dX5_count_71 : decode cX5_count 71 = .ok (.aload_n 0, 1) := by decide +kernel
theorem dX5_count_72 : decode cX5_count 72 = .ok (.getfield 12, 3) := by decide +kernel
theorem dX5_count_75 : decode cX5_count 75 = .ok (.invokevirtual 105, 3) := by decide +kernel
theorem dX5_count_78 : decode cX5_count 78 = .ok (.ireturn, 1) := by decide +kernel
theorem dX5_count_79 : decode cX5_count 79 = .ok (.aload_n 0, 1) := by decide +kernel
theorem dX5_count_80 : decode cX5_count 80 = .ok (.getfield 12, 3) := by decide +kernel
theorem dX5_count_83 : decode cX5_count 83 = .ok (.getfield 193, 3) := by decide +kernel
theorem dX5_count_86 : decode cX5_count 86 = .ok (.ireturn, 1) := by decide +kernel
theorem dX5_count_87 : decode cX5_count 87 = .ok (.aload_n 0, 1) := by decide +kernel
theorem dX5_count_88 : decode cX5_count 88 = .ok (.getfield 12, 3) := by decide +kernel
theorem dX5_count_91 : decode cX5_count 91 = .ok (.getfield 128, 3) := by decide +kernel
theorem dX5_count_94 : decode cX5_count 94 = .ok (.invokevirtual 196, 3) := by decide +kernel
theorem dX5_count_97 : decode cX5_count 97 = .ok (.ireturn, 1) := by decide +kernel
theorem dX5_count_98 : decode cX5_count 98 = .ok (.aload_n 0, 1) := by decide +kernel
theorem dX5_count_99 : decode cX5_count 99 = .ok (.getfield 12, 3) := by decide +kernel
theorem dX5_count_102 : decode cX5_count 102 = .ok (.invokevirtual 199, 3) := by decide +kernel
theorem dX5_count_105 : decode cX5_count 105 = .ok (.ireturn, 1) := by decide +kernel
theorem dX5_count_106 : decode cX5_count 106 = .ok (.aload_n 0, 1) := by decide +kernel
theorem dX5_count_107 : decode cX5_count 107 = .ok (.getfield 12, 3) := by decide +kernel
theorem dX5_count_110 : decode cX5_count 110 = .ok (.aload_n 0, 1) := by decide +kernel
theorem dX5_count_111 : decode cX5_count 111 = .ok (.getfield 12, 3) := by decide +kernel
theorem dX5_count_114 : decode cX5_count 114 = .ok (.getfield 42, 3) := by decide +kernel
theorem dX5_count_117 : decode cX5_count 117 = .ok (.invokevirtual 202, 3) := by decide +kernel
theorem dX5_count_120 : decode cX5_count 120 = .ok (.ifCond .eq 7, 3) := by decide +kernel
theorem dX5_count_123 : decode cX5_count 123 = .ok (.iconst 1, 1) := by decide +kernel
theorem dX5_count_124 : decode cX5_count 124 = .ok (.goto 4, 3) := by decide +kernel
theorem dX5_count_127 : decode cX5_count 127 = .ok (.iconst 0, 1) := by decide +kernel
theorem dX5_count_128 : decode cX5_count 128 = .ok (.ireturn, 1) := by decide +kernel
theorem dX5_count_129 : decode cX5_count 129 = .ok (.aload_n 0, 1) := by decide +kernel
theorem dX5_count_130 : decode cX5_count 130 = .ok (.getfield 19, 3) := by decide +kernel
theorem dX5_count_133 : decode cX5_count 133 = .ok (.getfield 205, 3) := by decide +kernel
theorem dX5_count_136 : decode cX5_count 136 = .ok (.ireturn, 1) := by decide +kernel
theorem dX5_count_137 : decode cX5_count 137 = .ok (.aload_n 0, 1) := by decide +kernel
theorem dX5_count_138 : decode cX5_count 138 = .ok (.getfield 26, 3) := by decide +kernel
theorem dX5_count_141 : decode cX5_count 141 = .ok (.getfield 206, 3) := by decide +kernel
theorem dX5_count_144 : decode cX5_count 144 = .ok (.ireturn, 1) := by decide +kernel
theorem dX5_count_145 : decode cX5_count 145 = .ok (.aload_n 0, 1) := by decide +kernel
theorem dX5_count_146 : decode cX5_count 146 = .ok (.iload_n 1, 1) := by decide +kernel
theorem dX5_count_147 : decode cX5_count 147 = .ok (.invokevirtual 209, 3) := by decide +kernel
theorem dX5_count_150 : decode cX5_count 150 = .ok (.ireturn, 1) := by decide +kernel
set_option maxRecDepth 20000 in
theorem ggX5_settingOfCount_X5_outside : GoodIn wsX5_settingOfCount wsX5_outside := goodIn_r _ [7] (by decide +kernel) (by decide +kernel)
set_option maxRecDepth 20000 in
theorem gX5_settingOfCount_X5_outside : GoodIn wsX5_settingOfCount (va_wsS RX5 37 yX5_outside wsX5_outside) := goodIn_app (goodIn_of _ (by decide +kernel)) ggX5_settingOfCount_X5_outside
theorem dX5_settingOfCount_0 : decode cX5_settingOfCount 0 = .ok (.iload_n 1, 1) := by decide +kernel
theorem dX5_settingOfCount_1 : decode cX5_settingOfCount 1 = .ok (.bipush 20, 2) := by decide +kernel
theorem dX5_settingOfCount_3 : decode cX5_settingOfCount 3 = .ok (.bipush 24, 2) := by decide +kernel
theorem dX5_settingOfCount_5 : decode cX5_settingOfCount 5 = .ok (.invokestatic 37, 3) := by decide +kernel
theorem dX5_settingOfCount_8 : decode cX5_settingOfCount 8 = .ok (.ifCond .eq 6, 3) := by decide +kernel
theorem dX5_settingOfCount_11 : decode cX5_settingOfCount 11 = .ok (.ldc 41, 2) := by decide +kernel
theorem dX5_settingOfCount_13 : decode cX5_settingOfCount 13 = .ok (.ireturn, 1) := by decide +kernel
theorem dX5_settingOfCount_14 : decode cX5_settingOfCount 14 = .ok (.aload_n 0, 1) := by decide +kernel
theorem dX5_settingOfCount_15 : decode cX5_settingOfCount 15 = .ok (.getfield 12, 3) := by decide +kernel
theorem dX5_settingOfCount_18 : decode cX5_settingOfCount 18 = .ok (.getfield 78, 3) := by decide +kernel
theorem dX5_settingOfCount_21 : decode cX5_settingOfCount 21 = .ok (.iload_n 1, 1) := by decide +kernel
theorem dX5_settingOfCount_22 : decode cX5_settingOfCount 22 = .ok (.bipush 20, 2) := by decide +kernel
theorem dX5_settingOfCount_24 : decode cX5_settingOfCount 24 = .ok (.isub, 1) := by decide +kernel
theorem dX5_settingOfCount_25 : decode cX5_settingOfCount 25 = .ok (.iaload, 1) := by decide +kernel
theorem dX5_settingOfCount_26 : decode cX5_settingOfCount 26 = .ok (.ireturn, 1) := by decide +kernel
set_option maxRecDepth 20000 in
theorem ggX5_undo_X0_restore : GoodIn wsX5_undo wsX0_restore := goodIn_r _ [9, 10, 11, 12, 13, 14, 15, 16, 17, 18, 19, 20, 21, 22, 23, 24, 25, 26, 27, 28, 29, 30, 31, 32, 33, 34, 35, 36, 37, 38, 39, 40, 41, 42, 43, 44, 45, 46, 47, 48, 49, 50, 51, 52, 57, 58, 59, 60, 61, 62, 63, 64, 65, 66, 67, 68, 69, 70, 71, 72, 73, 74, 75, 76, 77, 78] (by decide +kernel) (by decide +kernel)
set_option maxRecDepth 20000 in
theorem gX5_undo_X0_restore : GoodIn wsX5_undo (wsV RX5 213 RX0 yX0_restore wsX0_restore) := goodIn_app (goodIn_of _ (by decide +kernel)) ggX5_undo_X0_restore
theorem dX5_undo_0 : decode cX5_undo 0 = .ok (.aload_n 0, 1) := by decide +kernel
theorem dX5_undo_1 : decode cX5_undo 1 = .ok (.getfield 19, 3) := by decide +kernel
theorem dX5_undo_4 : decode cX5_undo 4 = .ok (.getfield 205, 3) := by decide +kernel
theorem dX5_undo_7 : decode cX5_undo 7 = .ok (.ifCond .ne 6, 3) := by decide +kernel
theorem dX5_undo_10 : decode cX5_undo 10 = .ok (.ldc 212, 2) := by decide +kernel
theorem dX5_undo_12 : decode cX5_undo 12 = .ok (.ireturn, 1) := by decide +kernel
theorem dX5_undo_13 : decode cX5_undo 13 = .ok (.aload_n 0, 1) := by decide +kernel
theorem dX5_undo_14 : decode cX5_undo 14 = .ok (.getfield 19, 3) := by decide +kernel
theorem dX5_undo_17 : decode cX5_undo 17 = .ok (.aload_n 0, 1) := by decide +kernel
theorem dX5_undo_18 : decode cX5_undo 18 = .ok (.getfield 12, 3) := by decide +kernel
theorem dX5_undo_21 : decode cX5_undo 21 = .ok (.invokevirtual 213, 3) := by decide +kernel
theorem dX5_undo_24 : decode cX5_undo 24 = .ok (.aload_n 0, 1) := by decide +kernel
theorem dX5_undo_25 : decode cX5_undo 25 = .ok (.getfield 19, 3) := by decide +kernel
theorem dX5_undo_28 : decode cX5_undo 28 = .ok (.getfield 205, 3) := by decide +kernel
theorem dX5_undo_31 : decode cX5_undo 31 = .ok (.ireturn, 1) := by decide +kernel
set_option maxRecDepth 20000 in
theorem ggX5_type_X5_outside : GoodIn wsX5_type wsX5_outside := goodIn_r _ [8] (by decide +kernel) (by decide +kernel)
set_option maxRecDepth 20000 in
theorem gX5_type_X5_outside : GoodIn wsX5_type (va_wsS RX5 37 yX5_outside wsX5_outside) := goodIn_app (goodIn_of _ (by decide +kernel)) ggX5_type_X5_outside
set_option maxRecDepth 20000 in
theorem ggX5_type_X4_append : GoodIn wsX5_type wsX4_append := goodIn_r _ [13, 14, 15, 20, 21, 22, 23, 24, 25, 26, 27, 28] (by decide +kernel) (by decide +kernel)
set_option maxRecDepth 20000 in
theorem gX5_type_X4_append : GoodIn wsX5_type (wsV RX5 216 RX4 yX4_append wsX4_append) := goodIn_app (goodIn_of _ (by decide +kernel)) ggX5_type_X4_append
theorem dX5_type_0 : decode cX5_type 0 = .ok (.iload_n 1, 1) := by decide +kernel
theorem dX5_type_1 : decode cX5_type 1 = .ok (.bipush 32, 2) := by decide +kernel
theorem dX5_type_3 : decode cX5_type 3 = .ok (.bipush 126, 2) := by decide +kernel
theorem dX5_type_5 : decode cX5_type 5 = .ok (.invokestatic 37, 3) := by decide +kernel
theorem dX5_type_8 : decode cX5_type 8 = .ok (.ifCond .eq 6, 3) := by decide +kernel
theorem dX5_type_11 : decode cX5_type 11 = .ok (.ldc 41, 2) := by decide +kernel
theorem dX5_type_13 : decode cX5_type 13 = .ok (.ireturn, 1) := by decide +kernel
theorem dX5_type_14 : decode cX5_type 14 = .ok (.aload_n 0, 1) := by decide +kernel
theorem dX5_type_15 : decode cX5_type 15 = .ok (.getfield 26, 3) := by decide +kernel
theorem dX5_type_18 : decode cX5_type 18 = .ok (.getfield 206, 3) := by decide +kernel
theorem dX5_type_21 : decode cX5_type 21 = .ok (.bipush 60, 2) := by decide +kernel
theorem dX5_type_23 : decode cX5_type 23 = .ok (.if_icmp .lt 6, 3) := by decide +kernel
theorem dX5_type_26 : decode cX5_type 26 = .ok (.ldc 89, 2) := by decide +kernel
theorem dX5_type_28 : decode cX5_type 28 = .ok (.ireturn, 1) := by decide +kernel
theorem dX5_type_29 : decode cX5_type 29 = .ok (.aload_n 0, 1) := by decide +kernel
theorem dX5_type_30 : decode cX5_type 30 = .ok (.getfield 26, 3) := by decide +kernel
theorem dX5_type_33 : decode cX5_type 33 = .ok (.iload_n 1, 1) := by decide +kernel
theorem dX5_type_34 : decode cX5_type 34 = .ok (.i2c, 1) := by decide +kernel
theorem dX5_type_35 : decode cX5_type 35 = .ok (.invokevirtual 216, 3) := by decide +kernel
theorem dX5_type_38 : decode cX5_type 38 = .ok (.aload_n 0, 1) := by decide +kernel
theorem dX5_type_39 : decode cX5_type 39 = .ok (.getfield 26, 3) := by decide +kernel
theorem dX5_type_42 : decode cX5_type 42 = .ok (.getfield 206, 3) := by decide +kernel
theorem dX5_type_45 : decode cX5_type 45 = .ok (.ireturn, 1) := by decide +kernel
set_option maxRecDepth 20000 in
theorem ggX5_clearText_X4_clear : GoodIn wsX5_clearText wsX4_clear := goodIn_r _ [7, 8, 13, 14, 15, 16, 17, 18, 19, 20, 21] (by decide +kernel) (by decide +kernel)
set_option maxRecDepth 20000 in
theorem gX5_clearText_X4_clear : GoodIn wsX5_clearText (wsV RX5 220 RX4 yX4_clear wsX4_clear) := goodIn_app (goodIn_of _ (by decide +kernel)) ggX5_clearText_X4_clear
theorem dX5_clearText_0 : decode cX5_clearText 0 = .ok (.aload_n 0, 1) := by decide +kernel
theorem dX5_clearText_1 : decode cX5_clearText 1 = .ok (.getfield 26, 3) := by decide +kernel
theorem dX5_clearText_4 : decode cX5_clearText 4 = .ok (.getfield 206, 3) := by decide +kernel
theorem dX5_clearText_7 : decode cX5_clearText 7 = .ok (.istore_n 1, 1) := by decide +kernel
theorem dX5_clearText_8 : decode cX5_clearText 8 = .ok (.aload_n 0, 1) := by decide +kernel
theorem dX5_clearText_9 : decode cX5_clearText 9 = .ok (.getfield 26, 3) := by decide +kernel
theorem dX5_clearText_12 : decode cX5_clearText 12 = .ok (.invokevirtual 220, 3) := by decide +kernel
theorem dX5_clearText_15 : decode cX5_clearText 15 = .ok (.iload_n 1, 1) := by decide +kernel
theorem dX5_clearText_16 : decode cX5_clearText 16 = .ok (.ireturn, 1) := by decide +kernel
set_option maxRecDepth 20000 in
theorem ggX5_fault_X5_outside : GoodIn wsX5_fault wsX5_outside := goodIn_r _ [12] (by decide +kernel) (by decide +kernel)
set_option maxRecDepth 20000 in
theorem gX5_fault_X5_outside : GoodIn wsX5_fault (va_wsS RX5 37 yX5_outside wsX5_outside) := goodIn_app (goodIn_of _ (by decide +kernel)) ggX5_fault_X5_outside
set_option maxRecDepth 20000 in
theorem ggX5_fault_X4_faultPosition : GoodIn wsX5_fault wsX4_faultPosition := goodIn_r _ [17, 18, 19, 20, 21, 22, 23, 24, 25, 26, 27, 16, 28, 29, 30, 31, 32, 33, 34, 35, 36, 37, 38, 39, 40, 41, 42, 43, 44, 45, 46, 47, 48, 49, 50, 51, 73, 74, 75, 76, 77, 78, 79, 80, 81] (by decide +kernel) (by decide +kernel)
set_option maxRecDepth 20000 in
theorem gX5_fault_X4_faultPosition : GoodIn wsX5_fault (wsV RX5 223 RX4 yX4_faultPosition wsX4_faultPosition) := goodIn_app (goodIn_of _ (by decide +kernel)) ggX5_fault_X4_faultPosition
theorem dX5_fault_0 : decode cX5_fault 0 = .ok (.iload_n 1, 1) := by decide +kernel
theorem dX5_fault_1 : decode cX5_fault 1 = .ok (.iconst 0, 1) := by decide +kernel
theorem dX5_fault_2 : decode cX5_fault 2 = .ok (.iconst 2, 1) := by decide +kernel
theorem dX5_fault_3 : decode cX5_fault 3 = .ok (.invokestatic 37, 3) := by decide +kernel
theorem dX5_fault_6 : decode cX5_fault 6 = .ok (.ifCond .eq 6, 3) := by decide +kernel
theorem dX5_fault_9 : decode cX5_fault 9 = .ok (.ldc 41, 2) := by decide +kernel
theorem dX5_fault_11 : decode cX5_fault 11 = .ok (.ireturn, 1) := by decide +kernel
theorem dX5_fault_12 : decode cX5_fault 12 = .ok (.aload_n 0, 1) := by decide +kernel
theorem dX5_fault_13 : decode cX5_fault 13 = .ok (.getfield 26, 3) := by decide +kernel
theorem dX5_fault_16 : decode cX5_fault 16 = .ok (.aload_n 0, 1) := by decide +kernel
theorem dX5_fault_17 : decode cX5_fault 17 = .ok (.getfield 12, 3) := by decide +kernel
theorem dX5_fault_20 : decode cX5_fault 20 = .ok (.getfield 54, 3) := by decide +kernel
theorem dX5_fault_23 : decode cX5_fault 23 = .ok (.getfield 187, 3) := by decide +kernel
theorem dX5_fault_26 : decode cX5_fault 26 = .ok (.invokevirtual 223, 3) := by decide +kernel
theorem dX5_fault_29 : decode cX5_fault 29 = .ok (.istore_n 2, 1) := by decide +kernel
theorem dX5_fault_30 : decode cX5_fault 30 = .ok (.iload_n 2, 1) := by decide +kernel
theorem dX5_fault_31 : decode cX5_fault 31 = .ok (.ldc 109, 2) := by decide +kernel
theorem dX5_fault_33 : decode cX5_fault 33 = .ok (.if_icmp .ne 6, 3) := by decide +kernel
theorem dX5_fault_36 : decode cX5_fault 36 = .ok (.ldc 109, 2) := by decide +kernel
theorem dX5_fault_38 : decode cX5_fault 38 = .ok (.ireturn, 1) := by decide +kernel
theorem dX5_fault_39 : decode cX5_fault 39 = .ok (.iload_n 1, 1) := by decide +kernel
theorem dX5_fault_40 : decode cX5_fault 40 = .ok (.ifCond .ne 5, 3) := by decide +kernel
theorem dX5_fault_43 : decode cX5_fault 43 = .ok (.iload_n 2, 1) := by decide +kernel
theorem dX5_fault_44 : decode cX5_fault 44 = .ok (.ireturn, 1) := by decide +kernel
theorem dX5_fault_45 : decode cX5_fault 45 = .ok (.iload_n 1, 1) := by decide +kernel
theorem dX5_fault_46 : decode cX5_fault 46 = .ok (.iconst 1, 1) := by decide +kernel
theorem dX5_fault_47 : decode cX5_fault 47 = .ok (.if_icmp .ne 13, 3) := by decide +kernel
theorem dX5_fault_50 : decode cX5_fault 50 = .ok (.aload_n 0, 1) := by decide +kernel
theorem dX5_fault_51 : decode cX5_fault 51 = .ok (.getfield 26, 3) := by decide +kernel
theorem dX5_fault_54 : decode cX5_fault 54 = .ok (.getfield 226, 3) := by decide +kernel
theorem dX5_fault_57 : decode cX5_fault 57 = .ok (.goto 10, 3) := by decide +kernel
theorem dX5_fault_60 : decode cX5_fault 60 = .ok (.aload_n 0, 1) := by decide +kernel
theorem dX5_fault_61 : decode cX5_fault 61 = .ok (.getfield 26, 3) := by decide +kernel
theorem dX5_fault_64 : decode cX5_fault 64 = .ok (.getfield 229, 3) := by decide +kernel
theorem dX5_fault_67 : decode cX5_fault 67 = .ok (.ireturn, 1) := by decide +kernel
set_option maxRecDepth 20000 in
theorem ggX5_play_X4_faultPosition : GoodIn wsX5_play wsX4_faultPosition := goodIn_r _ [16, 17, 18, 19, 20, 21, 22, 23, 24, 25, 26, 15, 27, 28, 29, 30, 31, 32, 33, 34, 35, 36, 37, 38, 39, 40, 41, 42, 43, 44, 45, 46, 47, 48, 49, 50, 210, 211, 212, 213, 214, 215, 216, 217, 218] (by decide +kernel) (by decide +kernel)
set_option maxRecDepth 20000 in
theorem gX5_play_X4_faultPosition : GoodIn wsX5_play (wsV RX5 223 RX4 yX4_faultPosition wsX4_faultPosition) := goodIn_app (goodIn_of _ (by decide +kernel)) ggX5_play_X4_faultPosition
set_option maxRecDepth 20000 in
theorem ggX5_play_X1_handOversBehind : GoodIn wsX5_play wsX1_handOversBehind := goodIn_r _ [55, 56, 57, 58, 59, 54, 60, 61, 193, 194, 195, 196, 197, 198, 199, 200, 201] (by decide +kernel) (by decide +kernel)
set_option maxRecDepth 20000 in
theorem gX5_play_X1_handOversBehind : GoodIn wsX5_play (wsV RX5 85 RX1 yX1_handOversBehind wsX1_handOversBehind) := goodIn_app (goodIn_of _ (by decide +kernel)) ggX5_play_X1_handOversBehind
set_option maxRecDepth 20000 in
theorem ggX5_play_X0_keep : GoodIn wsX5_play wsX0_keep := goodIn_r _ [66, 67, 68, 69, 70, 71, 72, 54, 73, 74, 75, 61, 76, 77, 78, 79, 56, 80, 81, 82, 83, 84, 85, 86, 87, 88, 89, 90, 91, 92, 93, 94, 95, 96, 97, 98, 99, 100, 101, 102, 103, 104, 105, 106, 219, 220, 221, 193, 194, 195, 196, 197, 198, 199, 200, 201, 202, 203, 204, 205, 206, 207, 208, 209, 222, 223] (by decide +kernel) (by decide +kernel)
set_option maxRecDepth 20000 in
theorem gX5_play_X0_keep : GoodIn wsX5_play (wsV RX5 46 RX0 yX0_keep wsX0_keep) := goodIn_app (goodIn_of _ (by decide +kernel)) ggX5_play_X0_keep
set_option maxRecDepth 20000 in
theorem ggX5_play_X4_readPart : GoodIn wsX5_play wsX4_readPart := goodIn_r _ [27, 22, 20, 23, 28, 21, 29, 30, 31, 32, 15, 33, 34, 35, 36, 37, 19, 38, 39, 40, 41, 42, 43, 44, 45, 46, 47, 48, 49, 50, 210, 211, 212, 213, 214, 215, 216, 217, 218] (by decide +kernel) (by decide +kernel)
set_option maxRecDepth 20000 in
theorem gX5_play_X4_readPart : GoodIn wsX5_play (wsV RX5 237 RX4 yX4_readPart wsX4_readPart) := goodIn_app (goodIn_of _ (by decide +kernel)) ggX5_play_X4_readPart
set_option maxRecDepth 20000 in
theorem ggX5_play_X5_playPart : GoodIn wsX5_play wsX5_playPart := goodIn_r _ [112, 4, 113, 1, 114, 2, 115, 116, 117, 54, 118, 56, 80, 61, 57, 58, 59, 60, 119, 120, 121, 122, 123, 124, 125, 126, 74, 81, 82, 83, 127, 84, 75, 128, 129, 130, 88, 131, 90, 91, 132, 133, 134, 135, 98, 97, 95, 96, 136, 137, 138, 139, 93, 140, 141, 142, 143, 94, 144, 145, 146, 147, 148, 149, 150, 151, 152, 153, 154, 102, 155, 104, 106, 156, 157, 158, 159, 160, 161, 162, 163, 164, 165, 166, 167, 168, 169, 170, 171, 172, 173, 174, 175, 176, 177, 178, 179, 180, 181, 182, 183, 184, 185, 186, 187, 188, 189, 190, 191, 192, 210, 211, 212, 213, 214, 215, 216, 217, 218, 193, 194, 195, 196, 197, 198, 199, 200, 201, 202, 203, 204, 205, 206, 207, 208, 209, 222, 223] (by decide +kernel) (by decide +kernel)
set_option maxRecDepth 20000 in
theorem gX5_play_X5_playPart : GoodIn wsX5_play (wsV RX5 241 RX5 yX5_playPart wsX5_playPart) := goodIn_app (goodIn_of _ (by decide +kernel)) ggX5_play_X5_playPart
theorem dX5_play_0 : decode cX5_play 0 = .ok (.aload_n 0, 1) := by decide +kernel
theorem dX5_play_1 : decode cX5_play 1 = .ok (.getfield 12, 3) := by decide +kernel
theorem dX5_play_4 : decode cX5_play 4 = .ok (.getfield 54, 3) := by decide +kernel
theorem dX5_play_7 : decode cX5_play 7 = .ok (.getfield 187, 3) := by decide +kernel
theorem dX5_play_10 : decode cX5_play 10 = .ok (.istore_n 1, 1) := by decide +kernel
theorem dX5_play_11 : decode cX5_play 11 = .ok (.aload_n 0, 1) := by decide +kernel
theorem dX5_play_12 : decode cX5_play 12 = .ok (.getfield 26, 3) := by decide +kernel
theorem dX5_play_15 : decode cX5_play 15 = .ok (.iload_n 1, 1) := by decide +kernel
theorem dX5_play_16 : decode cX5_play 16 = .ok (.invokevirtual 223, 3) := by decide +kernel
theorem dX5_play_19 : decode cX5_play 19 = .ok (.ldc 109, 2) := by decide +kernel
theorem dX5_play_21 : decode cX5_play 21 = .ok (.if_icmp .eq 6, 3) := by decide +kernel
theorem dX5_play_24 : decode cX5_play 24 = .ok (.ldc 212, 2) := by decide +kernel
theorem dX5_play_26 : decode cX5_play 26 = .ok (.ireturn, 1) := by decide +kernel
theorem dX5_play_27 : decode cX5_play 27 = .ok (.aload_n 0, 1) := by decide +kernel
theorem dX5_play_28 : decode cX5_play 28 = .ok (.getfield 12, 3) := by decide +kernel
theorem dX5_play_31 : decode cX5_play 31 = .ok (.aload_n 0, 1) := by decide +kernel
theorem dX5_play_32 : decode cX5_play 32 = .ok (.getfield 26, 3) := by decide +kernel
theorem dX5_play_35 : decode cX5_play 35 = .ok (.getfield 232, 3) := by decide +kernel
theorem dX5_play_38 : decode cX5_play 38 = .ok (.invokevirtual 85, 3) := by decide +kernel
theorem dX5_play_41 : decode cX5_play 41 = .ok (.sipush 999, 3) := by decide +kernel
theorem dX5_play_44 : decode cX5_play 44 = .ok (.if_icmp .le 6, 3) := by decide +kernel
theorem dX5_play_47 : decode cX5_play 47 = .ok (.ldc 89, 2) := by decide +kernel
theorem dX5_play_49 : decode cX5_play 49 = .ok (.ireturn, 1) := by decide +kernel
theorem dX5_play_50 : decode cX5_play 50 = .ok (.aload_n 0, 1) := by decide +kernel
theorem dX5_play_51 : decode cX5_play 51 = .ok (.getfield 19, 3) := by decide +kernel
theorem dX5_play_54 : decode cX5_play 54 = .ok (.aload_n 0, 1) := by decide +kernel
theorem dX5_play_55 : decode cX5_play 55 = .ok (.getfield 12, 3) := by decide +kernel
theorem dX5_play_58 : decode cX5_play 58 = .ok (.invokevirtual 46, 3) := by decide +kernel
theorem dX5_play_61 : decode cX5_play 61 = .ok (.aload_n 0, 1) := by decide +kernel
theorem dX5_play_62 : decode cX5_play 62 = .ok (.getfield 26, 3) := by decide +kernel
theorem dX5_play_65 : decode cX5_play 65 = .ok (.getfield 234, 3) := by decide +kernel
theorem dX5_play_68 : decode cX5_play 68 = .ok (.istore_n 2, 1) := by decide +kernel
theorem dX5_play_69 : decode cX5_play 69 = .ok (.iconst 0, 1) := by decide +kernel
theorem dX5_play_70 : decode cX5_play 70 = .ok (.istore_n 3, 1) := by decide +kernel
theorem dX5_play_71 : decode cX5_play 71 = .ok (.iconst 0, 1) := by decide +kernel
theorem dX5_play_72 : decode cX5_play 72 = .ok (.istore 4, 2) := by decide +kernel
theorem dX5_play_74 : decode cX5_play 74 = .ok (.iload 4, 2) := by decide +kernel
theorem dX5_play_76 : decode cX5_play 76 = .ok (.iload_n 2, 1) := by decide +kernel
theorem dX5_play_77 : decode cX5_play 77 = .ok (.if_icmp .ge 30, 3) := by decide +kernel
theorem dX5_play_80 : decode cX5_play 80 = .ok (.aload_n 0, 1) := by decide +kernel
theorem dX5_play_81 : decode cX5_play 81 = .ok (.getfield 26, 3) := by decide +kernel
theorem dX5_play_84 : decode cX5_play 84 = .ok (.iload_n 3, 1) := by decide +kernel
theorem dX5_play_85 : decode cX5_play 85 = .ok (.iload_n 1, 1) := by decide +kernel
theorem dX5_play_86 : decode cX5_play 86 = .ok (.invokevirtual 237, 3) := by decide +kernel
theorem dX5_play_89 : decode cX5_play 89 = .ok (.aload_n 0, 1) := by decide +kernel
theorem dX5_play_90 : decode cX5_play 90 = .ok (.invokevirtual 241, 3) := by decide +kernel
theorem dX5_play_93 : decode cX5_play 93 = .ok (.aload_n 0, 1) := by decide +kernel
theorem dX5_play_94 : decode cX5_play 94 = .ok (.getfield 26, 3) := by decide +kernel
theorem dX5_play_97 : decode cX5_play 97 = .ok (.getfield 244, 3) := by decide +kernel
theorem dX5_play_100 : decode cX5_play 100 = .ok (.istore_n 3, 1) := by decide +kernel
theorem dX5_play_101 : decode cX5_play 101 = .ok (.iinc 4 1, 3) := by decide +kernel
theorem dX5_play_104 : decode cX5_play 104 = .ok (.goto (-30), 3) := by decide +kernel
theorem dX5_play_107 : decode cX5_play 107 = .ok (.iload_n 2, 1) := by decide +kernel
theorem dX5_play_108 : decode cX5_play 108 = .ok (.ireturn, 1) := by decide +kernel
set_option maxRecDepth 20000 in
theorem ggX5_playPart_X1_take : GoodIn wsX5_playPart wsX1_take := goodIn_r _ [10, 11, 12, 13, 14, 15, 16, 9, 17, 18, 19, 20, 21, 22, 23, 24, 25, 26, 27, 28, 29, 30, 31, 32, 33, 34, 35, 36, 37, 38, 39, 40, 41, 42, 43, 44, 45, 46, 47, 48, 49, 50, 51, 52, 53, 54, 55, 56, 57, 58, 59, 60, 61, 62, 63, 64, 65, 66, 67, 68, 69, 70, 71, 72, 73, 74, 75, 76, 77, 78, 79, 80, 81, 82, 83, 84, 85, 86, 87, 88, 89, 90, 91, 92, 93, 94, 95, 96, 97, 119, 120, 121, 122, 123, 124, 125, 126, 127, 128, 129, 130, 131, 132, 133, 134, 135, 136, 137] (by decide +kernel) (by decide +kernel)
set_option maxRecDepth 20000 in
theorem gX5_playPart_X1_take : GoodIn wsX5_playPart (wsV RX5 90 RX1 yX1_take wsX1_take) := goodIn_app (goodIn_of _ (by decide +kernel)) ggX5_playPart_X1_take
set_option maxRecDepth 20000 in
theorem ggX5_playPart_X3_has : GoodIn wsX5_playPart wsX3_has := goodIn_r _ [101, 38, 128, 129, 130, 131, 132, 133, 134, 135] (by decide +kernel) (by decide +kernel)
set_option maxRecDepth 20000 in
theorem gX5_playPart_X3_has : GoodIn wsX5_playPart (wsV RX5 57 RX3 yX3_has wsX3_has) := goodIn_app (goodIn_of _ (by decide +kernel)) ggX5_playPart_X3_has
set_option maxRecDepth 20000 in
theorem ggX5_playPart_X3_changeShares : GoodIn wsX5_playPart wsX3_changeShares := goodIn_r _ [105, 52, 57, 128, 129, 130, 131, 132, 133, 134, 135] (by decide +kernel) (by decide +kernel)
set_option maxRecDepth 20000 in
theorem gX5_playPart_X3_changeShares : GoodIn wsX5_playPart (wsV RX5 68 RX3 yX3_changeShares wsX3_changeShares) := goodIn_app (goodIn_of _ (by decide +kernel)) ggX5_playPart_X3_changeShares
theorem dX5_playPart_0 : decode cX5_playPart 0 = .ok (.aload_n 0, 1) := by decide +kernel
theorem dX5_playPart_1 : decode cX5_playPart 1 = .ok (.getfield 26, 3) := by decide +kernel
theorem dX5_playPart_4 : decode cX5_playPart 4 = .ok (.getfield 247, 3) := by decide +kernel
theorem dX5_playPart_7 : decode cX5_playPart 7 = .ok (.bipush 115, 2) := by decide +kernel
theorem dX5_playPart_9 : decode cX5_playPart 9 = .ok (.if_icmp .ne 22, 3) := by decide +kernel
theorem dX5_playPart_12 : decode cX5_playPart 12 = .ok (.aload_n 0, 1) := by decide +kernel
theorem dX5_playPart_13 : decode cX5_playPart 13 = .ok (.getfield 12, 3) := by decide +kernel
theorem dX5_playPart_16 : decode cX5_playPart 16 = .ok (.aload_n 0, 1) := by decide +kernel
theorem dX5_playPart_17 : decode cX5_playPart 17 = .ok (.getfield 26, 3) := by decide +kernel
theorem dX5_playPart_20 : decode cX5_playPart 20 = .ok (.getfield 251, 3) := by decide +kernel
theorem dX5_playPart_23 : decode cX5_playPart 23 = .ok (.iconst 0, 1) := by decide +kernel
theorem dX5_playPart_24 : decode cX5_playPart 24 = .ok (.iaload, 1) := by decide +kernel
theorem dX5_playPart_25 : decode cX5_playPart 25 = .ok (.invokevirtual 90, 3) := by decide +kernel
theorem dX5_playPart_28 : decode cX5_playPart 28 = .ok (.goto 62, 3) := by decide +kernel
theorem dX5_playPart_31 : decode cX5_playPart 31 = .ok (.aload_n 0, 1) := by decide +kernel
theorem dX5_playPart_32 : decode cX5_playPart 32 = .ok (.getfield 12, 3) := by decide +kernel
theorem dX5_playPart_35 : decode cX5_playPart 35 = .ok (.getfield 54, 3) := by decide +kernel
theorem dX5_playPart_38 : decode cX5_playPart 38 = .ok (.aload_n 0, 1) := by decide +kernel
theorem dX5_playPart_39 : decode cX5_playPart 39 = .ok (.getfield 26, 3) := by decide +kernel
theorem dX5_playPart_42 : decode cX5_playPart 42 = .ok (.getfield 251, 3) := by decide +kernel
theorem dX5_playPart_45 : decode cX5_playPart 45 = .ok (.iconst 0, 1) := by decide +kernel
theorem dX5_playPart_46 : decode cX5_playPart 46 = .ok (.iaload, 1) := by decide +kernel
theorem dX5_playPart_47 : decode cX5_playPart 47 = .ok (.invokevirtual 57, 3) := by decide +kernel
theorem dX5_playPart_50 : decode cX5_playPart 50 = .ok (.ifCond .eq 40, 3) := by decide +kernel
theorem dX5_playPart_53 : decode cX5_playPart 53 = .ok (.aload_n 0, 1) := by decide +kernel
theorem dX5_playPart_54 : decode cX5_playPart 54 = .ok (.getfield 12, 3) := by decide +kernel
theorem dX5_playPart_57 : decode cX5_playPart 57 = .ok (.getfield 54, 3) := by decide +kernel
theorem dX5_playPart_60 : decode cX5_playPart 60 = .ok (.aload_n 0, 1) := by decide +kernel
theorem dX5_playPart_61 : decode cX5_playPart 61 = .ok (.getfield 26, 3) := by decide +kernel
theorem dX5_playPart_64 : decode cX5_playPart 64 = .ok (.getfield 251, 3) := by decide +kernel
theorem dX5_playPart_67 : decode cX5_playPart 67 = .ok (.iconst 0, 1) := by decide +kernel
theorem dX5_playPart_68 : decode cX5_playPart 68 = .ok (.iaload, 1) := by decide +kernel
theorem dX5_playPart_69 : decode cX5_playPart 69 = .ok (.aload_n 0, 1) := by decide +kernel
theorem dX5_playPart_70 : decode cX5_playPart 70 = .ok (.getfield 26, 3) := by decide +kernel
theorem dX5_playPart_73 : decode cX5_playPart 73 = .ok (.getfield 251, 3) := by decide +kernel
theorem dX5_playPart_76 : decode cX5_playPart 76 = .ok (.iconst 1, 1) := by decide +kernel
theorem dX5_playPart_77 : decode cX5_playPart 77 = .ok (.iaload, 1) := by decide +kernel
theorem dX5_playPart_78 : decode cX5_playPart 78 = .ok (.aload_n 0, 1) := by decide +kernel
theorem dX5_playPart_79 : decode cX5_playPart 79 = .ok (.getfield 26, 3) := by decide +kernel
theorem dX5_playPart_82 : decode cX5_playPart 82 = .ok (.getfield 251, 3) := by decide +kernel
theorem dX5_playPart_85 : decode cX5_playPart 85 = .ok (.iconst 2, 1) := by decide +kernel
theorem dX5_playPart_86 : decode cX5_playPart 86 = .ok (.iaload, 1) := by decide +kernel
theorem dX5_playPart_87 : decode cX5_playPart 87 = .ok (.invokevirtual 68, 3) := by decide +kernel
theorem dX5_playPart_90 : decode cX5_playPart 90 = .ok (.return_, 1) := by decide +kernel
theorem dX5_outside_0 : decode cX5_outside 0 = .ok (.iload_n 0, 1) := by decide +kernel
theorem dX5_outside_1 : decode cX5_outside 1 = .ok (.iload_n 1, 1) := by decide +kernel
theorem dX5_outside_2 : decode cX5_outside 2 = .ok (.if_icmp .lt 8, 3) := by decide +kernel
theorem dX5_outside_5 : decode cX5_outside 5 = .ok (.iload_n 0, 1) := by decide +kernel
theorem dX5_outside_6 : decode cX5_outside 6 = .ok (.iload_n 2, 1) := by decide +kernel
theorem dX5_outside_7 : decode cX5_outside 7 = .ok (.if_icmp .le 7, 3) := by decide +kernel
theorem dX5_outside_10 : decode cX5_outside 10 = .ok (.iconst 1, 1) := by decide +kernel
theorem dX5_outside_11 : decode cX5_outside 11 = .ok (.goto 4, 3) := by decide +kernel
theorem dX5_outside_14 : decode cX5_outside 14 = .ok (.iconst 0, 1) := by decide +kernel
theorem dX5_outside_15 : decode cX5_outside 15 = .ok (.ireturn, 1) := by decide +kernel
theorem dX5_bitsOf_0 : decode cX5_bitsOf 0 = .ok (.fload_n 0, 1) := by decide +kernel
theorem dX5_bitsOf_1 : decode cX5_bitsOf 1 = .ok (.fconst 0, 1) := by decide +kernel
theorem dX5_bitsOf_2 : decode cX5_bitsOf 2 = .ok (.fcmp .l, 1) := by decide +kernel
theorem dX5_bitsOf_3 : decode cX5_bitsOf 3 = .ok (.ifCond .gt 5, 3) := by decide +kernel
theorem dX5_bitsOf_6 : decode cX5_bitsOf 6 = .ok (.iconst 0, 1) := by decide +kernel
theorem dX5_bitsOf_7 : decode cX5_bitsOf 7 = .ok (.ireturn, 1) := by decide +kernel
theorem dX5_bitsOf_8 : decode cX5_bitsOf 8 = .ok (.fload_n 0, 1) := by decide +kernel
theorem dX5_bitsOf_9 : decode cX5_bitsOf 9 = .ok (.fstore_n 1, 1) := by decide +kernel
theorem dX5_bitsOf_10 : decode cX5_bitsOf 10 = .ok (.bipush 127, 2) := by decide +kernel
theorem dX5_bitsOf_12 : decode cX5_bitsOf 12 = .ok (.istore_n 2, 1) := by decide +kernel
theorem dX5_bitsOf_13 : decode cX5_bitsOf 13 = .ok (.fload_n 1, 1) := by decide +kernel
theorem dX5_bitsOf_14 : decode cX5_bitsOf 14 = .ok (.fconst 2, 1) := by decide +kernel
theorem dX5_bitsOf_15 : decode cX5_bitsOf 15 = .ok (.fcmp .l, 1) := by decide +kernel
theorem dX5_bitsOf_16 : decode cX5_bitsOf 16 = .ok (.ifCond .lt 20, 3) := by decide +kernel
theorem dX5_bitsOf_19 : decode cX5_bitsOf 19 = .ok (.iload_n 2, 1) := by decide +kernel
theorem dX5_bitsOf_20 : decode cX5_bitsOf 20 = .ok (.sipush 254, 3) := by decide +kernel
theorem dX5_bitsOf_23 : decode cX5_bitsOf 23 = .ok (.if_icmp .ge 13, 3) := by decide +kernel
theorem dX5_bitsOf_26 : decode cX5_bitsOf 26 = .ok (.fload_n 1, 1) := by decide +kernel
theorem dX5_bitsOf_27 : decode cX5_bitsOf 27 = .ok (.fconst 2, 1) := by decide +kernel
theorem dX5_bitsOf_28 : decode cX5_bitsOf 28 = .ok (.fdiv, 1) := by decide +kernel
theorem dX5_bitsOf_29 : decode cX5_bitsOf 29 = .ok (.fstore_n 1, 1) := by decide +kernel
theorem dX5_bitsOf_30 : decode cX5_bitsOf 30 = .ok (.iinc 2 1, 3) := by decide +kernel
theorem dX5_bitsOf_33 : decode cX5_bitsOf 33 = .ok (.goto (-20), 3) := by decide +kernel
theorem dX5_bitsOf_36 : decode cX5_bitsOf 36 = .ok (.fload_n 1, 1) := by decide +kernel
theorem dX5_bitsOf_37 : decode cX5_bitsOf 37 = .ok (.fconst 1, 1) := by decide +kernel
theorem dX5_bitsOf_38 : decode cX5_bitsOf 38 = .ok (.fcmp .g, 1) := by decide +kernel
theorem dX5_bitsOf_39 : decode cX5_bitsOf 39 = .ok (.ifCond .ge 18, 3) := by decide +kernel
theorem dX5_bitsOf_42 : decode cX5_bitsOf 42 = .ok (.iload_n 2, 1) := by decide +kernel
theorem dX5_bitsOf_43 : decode cX5_bitsOf 43 = .ok (.iconst 1, 1) := by decide +kernel
theorem dX5_bitsOf_44 : decode cX5_bitsOf 44 = .ok (.if_icmp .le 13, 3) := by decide +kernel
theorem dX5_bitsOf_47 : decode cX5_bitsOf 47 = .ok (.fload_n 1, 1) := by decide +kernel
theorem dX5_bitsOf_48 : decode cX5_bitsOf 48 = .ok (.fconst 2, 1) := by decide +kernel
theorem dX5_bitsOf_49 : decode cX5_bitsOf 49 = .ok (.fmul, 1) := by decide +kernel
theorem dX5_bitsOf_50 : decode cX5_bitsOf 50 = .ok (.fstore_n 1, 1) := by decide +kernel
theorem dX5_bitsOf_51 : decode cX5_bitsOf 51 = .ok (.iinc 2 (-1), 3) := by decide +kernel
theorem dX5_bitsOf_54 : decode cX5_bitsOf 54 = .ok (.goto (-18), 3) := by decide +kernel
theorem dX5_bitsOf_57 : decode cX5_bitsOf 57 = .ok (.iload_n 2, 1) := by decide +kernel
theorem dX5_bitsOf_58 : decode cX5_bitsOf 58 = .ok (.bipush 23, 2) := by decide +kernel
theorem dX5_bitsOf_60 : decode cX5_bitsOf 60 = .ok (.ishl, 1) := by decide +kernel
theorem dX5_bitsOf_61 : decode cX5_bitsOf 61 = .ok (.fload_n 1, 1) := by decide +kernel
theorem dX5_bitsOf_62 : decode cX5_bitsOf 62 = .ok (.fconst 1, 1) := by decide +kernel
theorem dX5_bitsOf_63 : decode cX5_bitsOf 63 = .ok (.fsub, 1) := by decide +kernel
theorem dX5_bitsOf_64 : decode cX5_bitsOf 64 = .ok (.ldc 254, 2) := by decide +kernel
theorem dX5_bitsOf_66 : decode cX5_bitsOf 66 = .ok (.fmul, 1) := by decide +kernel
theorem dX5_bitsOf_67 : decode cX5_bitsOf 67 = .ok (.f2i, 1) := by decide +kernel
theorem dX5_bitsOf_68 : decode cX5_bitsOf 68 = .ok (.ior, 1) := by decide +kernel
theorem dX5_bitsOf_69 : decode cX5_bitsOf 69 = .ok (.ireturn, 1) := by decide +kernel
theorem dJ9_floorDiv_7cf53_0 : decode cJ9_floorDiv_7cf53 0 = .ok (.iload_n 0, 1) := by decide +kernel
theorem dJ9_floorDiv_7cf53_1 : decode cJ9_floorDiv_7cf53 1 = .ok (.iload_n 1, 1) := by decide +kernel
theorem dJ9_floorDiv_7cf53_2 : decode cJ9_floorDiv_7cf53 2 = .ok (.idiv, 1) := by decide +kernel
theorem dJ9_floorDiv_7cf53_3 : decode cJ9_floorDiv_7cf53 3 = .ok (.istore_n 2, 1) := by decide +kernel
theorem dJ9_floorDiv_7cf53_4 : decode cJ9_floorDiv_7cf53 4 = .ok (.iload_n 0, 1) := by decide +kernel
theorem dJ9_floorDiv_7cf53_5 : decode cJ9_floorDiv_7cf53 5 = .ok (.iload_n 1, 1) := by decide +kernel
theorem dJ9_floorDiv_7cf53_6 : decode cJ9_floorDiv_7cf53 6 = .ok (.ixor, 1) := by decide +kernel
theorem dJ9_floorDiv_7cf53_7 : decode cJ9_floorDiv_7cf53 7 = .ok (.ifCond .ge 14, 3) := by decide +kernel
theorem dJ9_floorDiv_7cf53_10 : decode cJ9_floorDiv_7cf53 10 = .ok (.iload_n 2, 1) := by decide +kernel
theorem dJ9_floorDiv_7cf53_11 : decode cJ9_floorDiv_7cf53 11 = .ok (.iload_n 1, 1) := by decide +kernel
theorem dJ9_floorDiv_7cf53_12 : decode cJ9_floorDiv_7cf53 12 = .ok (.imul, 1) := by decide +kernel
theorem dJ9_floorDiv_7cf53_13 : decode cJ9_floorDiv_7cf53 13 = .ok (.iload_n 0, 1) := by decide +kernel
theorem dJ9_floorDiv_7cf53_14 : decode cJ9_floorDiv_7cf53 14 = .ok (.if_icmp .eq 7, 3) := by decide +kernel
theorem dJ9_floorDiv_7cf53_17 : decode cJ9_floorDiv_7cf53 17 = .ok (.iload_n 2, 1) := by decide +kernel
theorem dJ9_floorDiv_7cf53_18 : decode cJ9_floorDiv_7cf53 18 = .ok (.iconst 1, 1) := by decide +kernel
theorem dJ9_floorDiv_7cf53_19 : decode cJ9_floorDiv_7cf53 19 = .ok (.isub, 1) := by decide +kernel
theorem dJ9_floorDiv_7cf53_20 : decode cJ9_floorDiv_7cf53 20 = .ok (.ireturn, 1) := by decide +kernel
theorem dJ9_floorDiv_7cf53_21 : decode cJ9_floorDiv_7cf53 21 = .ok (.iload_n 2, 1) := by decide +kernel
theorem dJ9_floorDiv_7cf53_22 : decode cJ9_floorDiv_7cf53 22 = .ok (.ireturn, 1) := by decide +kernel
theorem dJ9_abs_0f7a4_0 : decode cJ9_abs_0f7a4 0 = .ok (.iload_n 0, 1) := by decide +kernel
theorem dJ9_abs_0f7a4_1 : decode cJ9_abs_0f7a4 1 = .ok (.ifCond .ge 8, 3) := by decide +kernel
theorem dJ9_abs_0f7a4_4 : decode cJ9_abs_0f7a4 4 = .ok (.iload_n 0, 1) := by decide +kernel
theorem dJ9_abs_0f7a4_5 : decode cJ9_abs_0f7a4 5 = .ok (.ineg, 1) := by decide +kernel
theorem dJ9_abs_0f7a4_6 : decode cJ9_abs_0f7a4 6 = .ok (.goto 4, 3) := by decide +kernel
theorem dJ9_abs_0f7a4_9 : decode cJ9_abs_0f7a4 9 = .ok (.iload_n 0, 1) := by decide +kernel
theorem dJ9_abs_0f7a4_10 : decode cJ9_abs_0f7a4 10 = .ok (.ireturn, 1) := by decide +kernel
theorem dJ9_max_7cf53_0 : decode cJ9_max_7cf53 0 = .ok (.iload_n 0, 1) := by decide +kernel
theorem dJ9_max_7cf53_1 : decode cJ9_max_7cf53 1 = .ok (.iload_n 1, 1) := by decide +kernel
theorem dJ9_max_7cf53_2 : decode cJ9_max_7cf53 2 = .ok (.if_icmp .lt 7, 3) := by decide +kernel
theorem dJ9_max_7cf53_5 : decode cJ9_max_7cf53 5 = .ok (.iload_n 0, 1) := by decide +kernel
theorem dJ9_max_7cf53_6 : decode cJ9_max_7cf53 6 = .ok (.goto 4, 3) := by decide +kernel
theorem dJ9_max_7cf53_9 : decode cJ9_max_7cf53 9 = .ok (.iload_n 1, 1) := by decide +kernel
theorem dJ9_max_7cf53_10 : decode cJ9_max_7cf53 10 = .ok (.ireturn, 1) := by decide +kernel
theorem dJ9_min_7cf53_0 : decode cJ9_min_7cf53 0 = .ok (.iload_n 0, 1) := by decide +kernel
theorem dJ9_min_7cf53_1 : decode cJ9_min_7cf53 1 = .ok (.iload_n 1, 1) := by decide +kernel
theorem dJ9_min_7cf53_2 : decode cJ9_min_7cf53 2 = .ok (.if_icmp .gt 7, 3) := by decide +kernel
theorem dJ9_min_7cf53_5 : decode cJ9_min_7cf53 5 = .ok (.iload_n 0, 1) := by decide +kernel
theorem dJ9_min_7cf53_6 : decode cJ9_min_7cf53 6 = .ok (.goto 4, 3) := by decide +kernel
theorem dJ9_min_7cf53_9 : decode cJ9_min_7cf53 9 = .ok (.iload_n 1, 1) := by decide +kernel
theorem dJ9_min_7cf53_10 : decode cJ9_min_7cf53 10 = .ok (.ireturn, 1) := by decide +kernel
theorem dJ9_min_f86c9_0 : decode cJ9_min_f86c9 0 = .ok (.lload_n 0, 1) := by decide +kernel
theorem dJ9_min_f86c9_1 : decode cJ9_min_f86c9 1 = .ok (.lload_n 2, 1) := by decide +kernel
theorem dJ9_min_f86c9_2 : decode cJ9_min_f86c9 2 = .ok (.lcmp, 1) := by decide +kernel
theorem dJ9_min_f86c9_3 : decode cJ9_min_f86c9 3 = .ok (.ifCond .gt 7, 3) := by decide +kernel
theorem dJ9_min_f86c9_6 : decode cJ9_min_f86c9 6 = .ok (.lload_n 0, 1) := by decide +kernel
theorem dJ9_min_f86c9_7 : decode cJ9_min_f86c9 7 = .ok (.goto 4, 3) := by decide +kernel
theorem dJ9_min_f86c9_10 : decode cJ9_min_f86c9 10 = .ok (.lload_n 2, 1) := by decide +kernel
theorem dJ9_min_f86c9_11 : decode cJ9_min_f86c9 11 = .ok (.lreturn, 1) := by decide +kernel
theorem dJ7_fill_53178_0 : decode cJ7_fill_53178 0 = .ok (.iconst 0, 1) := by decide +kernel
theorem dJ7_fill_53178_1 : decode cJ7_fill_53178 1 = .ok (.istore_n 2, 1) := by decide +kernel
theorem dJ7_fill_53178_2 : decode cJ7_fill_53178 2 = .ok (.aload_n 0, 1) := by decide +kernel
theorem dJ7_fill_53178_3 : decode cJ7_fill_53178 3 = .ok (.arraylength, 1) := by decide +kernel
theorem dJ7_fill_53178_4 : decode cJ7_fill_53178 4 = .ok (.istore_n 3, 1) := by decide +kernel
theorem dJ7_fill_53178_5 : decode cJ7_fill_53178 5 = .ok (.iload_n 2, 1) := by decide +kernel
theorem dJ7_fill_53178_6 : decode cJ7_fill_53178 6 = .ok (.iload_n 3, 1) := by decide +kernel
theorem dJ7_fill_53178_7 : decode cJ7_fill_53178 7 = .ok (.if_icmp .ge 13, 3) := by decide +kernel
theorem dJ7_fill_53178_10 : decode cJ7_fill_53178 10 = .ok (.aload_n 0, 1) := by decide +kernel
theorem dJ7_fill_53178_11 : decode cJ7_fill_53178 11 = .ok (.iload_n 2, 1) := by decide +kernel
theorem dJ7_fill_53178_12 : decode cJ7_fill_53178 12 = .ok (.iload_n 1, 1) := by decide +kernel
theorem dJ7_fill_53178_13 : decode cJ7_fill_53178 13 = .ok (.iastore, 1) := by decide +kernel
theorem dJ7_fill_53178_14 : decode cJ7_fill_53178 14 = .ok (.iinc 2 1, 3) := by decide +kernel
theorem dJ7_fill_53178_17 : decode cJ7_fill_53178 17 = .ok (.goto (-12), 3) := by decide +kernel
theorem dJ7_fill_53178_20 : decode cJ7_fill_53178 20 = .ok (.return_, 1) := by decide +kernel

set_option maxRecDepth 20000 in
theorem ggX0_init_X1_init : GoodIn wsX0_init wsX1_init := goodIn_r _ [9, 10, 2, 3, 11, 12, 13, 14, 15, 16, 17, 18, 19, 20, 21, 22, 23, 24, 25, 26, 27, 28, 29, 30, 31, 32, 33, 34, 35, 36, 37, 38, 39, 40, 41, 42, 55, 56, 57, 58, 59, 60, 61, 62, 46, 47, 48, 49, 50, 51, 52, 53, 54, 63, 64] (by decide +kernel) (by decide +kernel)
set_option maxRecDepth 20000 in
theorem gX0_init_X1_init_n17 : GoodIn wsX0_init (wsX1_init) := ggX0_init_X1_init
theorem dX0_init_0 : decode cX0_init 0 = .ok (.aload_n 0, 1) := by decide +kernel
theorem dX0_init_1 : decode cX0_init 1 = .ok (.invokespecial 3, 3) := by decide +kernel
theorem dX0_init_4 : decode cX0_init 4 = .ok (.aload_n 0, 1) := by decide +kernel
theorem dX0_init_5 : decode cX0_init 5 = .ok (.iconst 4, 1) := by decide +kernel
theorem dX0_init_6 : decode cX0_init 6 = .ok (.anewarray 9, 3) := by decide +kernel
theorem dX0_init_9 : decode cX0_init 9 = .ok (.putfield 11, 3) := by decide +kernel
theorem dX0_init_12 : decode cX0_init 12 = .ok (.iconst 0, 1) := by decide +kernel
theorem dX0_init_13 : decode cX0_init 13 = .ok (.istore_n 1, 1) := by decide +kernel
theorem dX0_init_14 : decode cX0_init 14 = .ok (.iload_n 1, 1) := by decide +kernel
theorem dX0_init_15 : decode cX0_init 15 = .ok (.iconst 4, 1) := by decide +kernel
theorem dX0_init_16 : decode cX0_init 16 = .ok (.if_icmp .ge 22, 3) := by decide +kernel
theorem dX0_init_19 : decode cX0_init 19 = .ok (.aload_n 0, 1) := by decide +kernel
theorem dX0_init_20 : decode cX0_init 20 = .ok (.getfield 11, 3) := by decide +kernel
theorem dX0_init_23 : decode cX0_init 23 = .ok (.iload_n 1, 1) := by decide +kernel
theorem dX0_init_24 : decode cX0_init 24 = .ok (.new 9, 3) := by decide +kernel
theorem dX0_init_27 : decode cX0_init 27 = .ok (.dup, 1) := by decide +kernel
theorem dX0_init_28 : decode cX0_init 28 = .ok (.invokespecial 17, 3) := by decide +kernel
theorem dX0_init_31 : decode cX0_init 31 = .ok (.aastore, 1) := by decide +kernel
theorem dX0_init_32 : decode cX0_init 32 = .ok (.iinc 1 1, 3) := by decide +kernel
theorem dX0_init_35 : decode cX0_init 35 = .ok (.goto (-21), 3) := by decide +kernel
theorem dX0_init_38 : decode cX0_init 38 = .ok (.return_, 1) := by decide +kernel
set_option maxRecDepth 20000 in
theorem ggX0_keep_X1_copyFrom : GoodIn wsX0_keep wsX1_copyFrom := goodIn_r _ [8, 9, 10, 11, 12, 13, 14, 15, 16, 17, 18, 19, 20, 21, 22, 23, 24, 25, 26, 27, 28, 29, 30, 31, 32, 33, 34, 35, 36, 37, 38, 39, 40, 41, 42, 43, 47, 48, 49, 50, 51, 52, 53, 54, 55, 56, 57, 58, 59, 60, 61, 62, 63, 64, 65] (by decide +kernel) (by decide +kernel)
set_option maxRecDepth 20000 in
theorem gX0_keep_X1_copyFrom : GoodIn wsX0_keep (wsV RX0 25 RX1 yX1_copyFrom wsX1_copyFrom) := goodIn_app (goodIn_of _ (by decide +kernel)) ggX0_keep_X1_copyFrom
theorem dX0_keep_0 : decode cX0_keep 0 = .ok (.aload_n 0, 1) := by decide +kernel
theorem dX0_keep_1 : decode cX0_keep 1 = .ok (.getfield 18, 3) := by decide +kernel
theorem dX0_keep_4 : decode cX0_keep 4 = .ok (.iconst 4, 1) := by decide +kernel
theorem dX0_keep_5 : decode cX0_keep 5 = .ok (.if_icmp .ne 25, 3) := by decide +kernel
theorem dX0_keep_8 : decode cX0_keep 8 = .ok (.aload_n 0, 1) := by decide +kernel
theorem dX0_keep_9 : decode cX0_keep 9 = .ok (.aload_n 0, 1) := by decide +kernel
theorem dX0_keep_10 : decode cX0_keep 10 = .ok (.getfield 22, 3) := by decide +kernel
theorem dX0_keep_13 : decode cX0_keep 13 = .ok (.iconst 1, 1) := by decide +kernel
theorem dX0_keep_14 : decode cX0_keep 14 = .ok (.iadd, 1) := by decide +kernel
theorem dX0_keep_15 : decode cX0_keep 15 = .ok (.iconst 3, 1) := by decide +kernel
theorem dX0_keep_16 : decode cX0_keep 16 = .ok (.iand, 1) := by decide +kernel
theorem dX0_keep_17 : decode cX0_keep 17 = .ok (.putfield 22, 3) := by decide +kernel
theorem dX0_keep_20 : decode cX0_keep 20 = .ok (.aload_n 0, 1) := by decide +kernel
theorem dX0_keep_21 : decode cX0_keep 21 = .ok (.dup, 1) := by decide +kernel
theorem dX0_keep_22 : decode cX0_keep 22 = .ok (.getfield 18, 3) := by decide +kernel
theorem dX0_keep_25 : decode cX0_keep 25 = .ok (.iconst 1, 1) := by decide +kernel
theorem dX0_keep_26 : decode cX0_keep 26 = .ok (.isub, 1) := by decide +kernel
theorem dX0_keep_27 : decode cX0_keep 27 = .ok (.putfield 18, 3) := by decide +kernel
theorem dX0_keep_30 : decode cX0_keep 30 = .ok (.aload_n 0, 1) := by decide +kernel
theorem dX0_keep_31 : decode cX0_keep 31 = .ok (.getfield 11, 3) := by decide +kernel
theorem dX0_keep_34 : decode cX0_keep 34 = .ok (.aload_n 0, 1) := by decide +kernel
theorem dX0_keep_35 : decode cX0_keep 35 = .ok (.getfield 22, 3) := by decide +kernel
theorem dX0_keep_38 : decode cX0_keep 38 = .ok (.aload_n 0, 1) := by decide +kernel
theorem dX0_keep_39 : decode cX0_keep 39 = .ok (.getfield 18, 3) := by decide +kernel
theorem dX0_keep_42 : decode cX0_keep 42 = .ok (.iadd, 1) := by decide +kernel
theorem dX0_keep_43 : decode cX0_keep 43 = .ok (.iconst 3, 1) := by decide +kernel
theorem dX0_keep_44 : decode cX0_keep 44 = .ok (.iand, 1) := by decide +kernel
theorem dX0_keep_45 : decode cX0_keep 45 = .ok (.aaload, 1) := by decide +kernel
theorem dX0_keep_46 : decode cX0_keep 46 = .ok (.aload_n 1, 1) := by decide +kernel
theorem dX0_keep_47 : decode cX0_keep 47 = .ok (.invokevirtual 25, 3) := by decide +kernel
theorem dX0_keep_50 : decode cX0_keep 50 = .ok (.aload_n 0, 1) := by decide +kernel
theorem dX0_keep_51 : decode cX0_keep 51 = .ok (.dup, 1) := by decide +kernel
theorem dX0_keep_52 : decode cX0_keep 52 = .ok (.getfield 18, 3) := by decide +kernel
theorem dX0_keep_55 : decode cX0_keep 55 = .ok (.iconst 1, 1) := by decide +kernel
theorem dX0_keep_56 : decode cX0_keep 56 = .ok (.iadd, 1) := by decide +kernel
theorem dX0_keep_57 : decode cX0_keep 57 = .ok (.putfield 18, 3) := by decide +kernel
theorem dX0_keep_60 : decode cX0_keep 60 = .ok (.return_, 1) := by decide +kernel
set_option maxRecDepth 20000 in
theorem ggX0_restore_X1_copyFrom : GoodIn wsX0_restore wsX1_copyFrom := goodIn_r _ [8, 9, 10, 11, 12, 13, 14, 15, 16, 17, 18, 19, 20, 21, 22, 23, 24, 25, 26, 27, 28, 29, 30, 31, 32, 33, 34, 35, 36, 37, 38, 39, 40, 41, 42, 43, 47, 48, 49, 50, 51, 52, 53, 54, 55, 56, 57, 58, 59, 60, 61, 62, 63, 64, 65] (by decide +kernel) (by decide +kernel)
set_option maxRecDepth 20000 in
theorem gX0_restore_X1_copyFrom : GoodIn wsX0_restore (wsV RX0 25 RX1 yX1_copyFrom wsX1_copyFrom) := goodIn_app (goodIn_of _ (by decide +kernel)) ggX0_restore_X1_copyFrom
theorem dX0_restore_0 : decode cX0_restore 0 = .ok (.aload_n 0, 1) := by decide +kernel
theorem dX0_restore_1 : decode cX0_restore 1 = .ok (.dup, 1) := by decide +kernel
theorem dX0_restore_2 : decode cX0_restore 2 = .ok (.getfield 18, 3) := by decide +kernel
theorem dX0_restore_5 : decode cX0_restore 5 = .ok (.iconst 1, 1) := by decide +kernel
theorem dX0_restore_6 : decode cX0_restore 6 = .ok (.isub, 1) := by decide +kernel
theorem dX0_restore_7 : decode cX0_restore 7 = .ok (.putfield 18, 3) := by decide +kernel
theorem dX0_restore_10 : decode cX0_restore 10 = .ok (.aload_n 1, 1) := by decide +kernel
theorem dX0_restore_11 : decode cX0_restore 11 = .ok (.aload_n 0, 1) := by decide +kernel
theorem dX0_restore_12 : decode cX0_restore 12 = .ok (.getfield 11, 3) := by decide +kernel
theorem dX0_restore_15 : decode cX0_restore 15 = .ok (.aload_n 0, 1) := by decide +kernel
theorem dX0_restore_16 : decode cX0_restore 16 = .ok (.getfield 22, 3) := by decide +kernel
theorem dX0_restore_19 : decode cX0_restore 19 = .ok (.aload_n 0, 1) := by decide +kernel
theorem dX0_restore_20 : decode cX0_restore 20 = .ok (.getfield 18, 3) := by decide +kernel
theorem dX0_restore_23 : decode cX0_restore 23 = .ok (.iadd, 1) := by decide +kernel
theorem dX0_restore_24 : decode cX0_restore 24 = .ok (.iconst 3, 1) := by decide +kernel
theorem dX0_restore_25 : decode cX0_restore 25 = .ok (.iand, 1) := by decide +kernel
theorem dX0_restore_26 : decode cX0_restore 26 = .ok (.aaload, 1) := by decide +kernel
theorem dX0_restore_27 : decode cX0_restore 27 = .ok (.invokevirtual 25, 3) := by decide +kernel
theorem dX0_restore_30 : decode cX0_restore 30 = .ok (.return_, 1) := by decide +kernel
set_option maxRecDepth 20000 in
theorem ggX1_init_X3_init : GoodIn wsX1_init wsX3_init := goodIn_r _ [25, 26, 2, 3, 27, 19, 28, 29, 30, 36, 37, 38, 39, 40, 41, 42, 43] (by decide +kernel) (by decide +kernel)
set_option maxRecDepth 20000 in
theorem gX1_init_X3_init_n11 : GoodIn wsX1_init (wsX3_init) := ggX1_init_X3_init
set_option maxRecDepth 20000 in
theorem ggX1_init_X2_init : GoodIn wsX1_init wsX2_init := goodIn_r _ [32, 33, 2, 3, 19, 34, 35, 53, 54] (by decide +kernel) (by decide +kernel)
set_option maxRecDepth 20000 in
theorem gX1_init_X2_init_n20 : GoodIn wsX1_init (wsX2_init) := ggX1_init_X2_init
theorem dX1_init_0 : decode cX1_init 0 = .ok (.aload_n 0, 1) := by decide +kernel
theorem dX1_init_1 : decode cX1_init 1 = .ok (.invokespecial 3, 3) := by decide +kernel
theorem dX1_init_4 : decode cX1_init 4 = .ok (.aload_n 0, 1) := by decide +kernel
theorem dX1_init_5 : decode cX1_init 5 = .ok (.new 9, 3) := by decide +kernel
theorem dX1_init_8 : decode cX1_init 8 = .ok (.dup, 1) := by decide +kernel
theorem dX1_init_9 : decode cX1_init 9 = .ok (.invokespecial 11, 3) := by decide +kernel
theorem dX1_init_12 : decode cX1_init 12 = .ok (.putfield 12, 3) := by decide +kernel
theorem dX1_init_15 : decode cX1_init 15 = .ok (.aload_n 0, 1) := by decide +kernel
theorem dX1_init_16 : decode cX1_init 16 = .ok (.new 18, 3) := by decide +kernel
theorem dX1_init_19 : decode cX1_init 19 = .ok (.dup, 1) := by decide +kernel
theorem dX1_init_20 : decode cX1_init 20 = .ok (.invokespecial 20, 3) := by decide +kernel
theorem dX1_init_23 : decode cX1_init 23 = .ok (.putfield 21, 3) := by decide +kernel
theorem dX1_init_26 : decode cX1_init 26 = .ok (.aload_n 0, 1) := by decide +kernel
theorem dX1_init_27 : decode cX1_init 27 = .ok (.getstatic 25, 3) := by decide +kernel
theorem dX1_init_30 : decode cX1_init 30 = .ok (.invokevirtual 29, 3) := by decide +kernel
theorem dX1_init_33 : decode cX1_init 33 = .ok (.checkcast 30, 3) := by decide +kernel
theorem dX1_init_36 : decode cX1_init 36 = .ok (.putfield 34, 3) := by decide +kernel
theorem dX1_init_39 : decode cX1_init 39 = .ok (.aload_n 0, 1) := by decide +kernel
theorem dX1_init_40 : decode cX1_init 40 = .ok (.bipush 32, 2) := by decide +kernel
theorem dX1_init_42 : decode cX1_init 42 = .ok (.newarray .int, 2) := by decide +kernel
theorem dX1_init_44 : decode cX1_init 44 = .ok (.putfield 37, 3) := by decide +kernel
theorem dX1_init_47 : decode cX1_init 47 = .ok (.aload_n 0, 1) := by decide +kernel
theorem dX1_init_48 : decode cX1_init 48 = .ok (.bipush 32, 2) := by decide +kernel
theorem dX1_init_50 : decode cX1_init 50 = .ok (.newarray .int, 2) := by decide +kernel
theorem dX1_init_52 : decode cX1_init 52 = .ok (.putfield 40, 3) := by decide +kernel
theorem dX1_init_55 : decode cX1_init 55 = .ok (.aload_n 0, 1) := by decide +kernel
theorem dX1_init_56 : decode cX1_init 56 = .ok (.bipush 32, 2) := by decide +kernel
theorem dX1_init_58 : decode cX1_init 58 = .ok (.newarray .int, 2) := by decide +kernel
theorem dX1_init_60 : decode cX1_init 60 = .ok (.putfield 43, 3) := by decide +kernel
theorem dX1_init_63 : decode cX1_init 63 = .ok (.aload_n 0, 1) := by decide +kernel
theorem dX1_init_64 : decode cX1_init 64 = .ok (.bipush 32, 2) := by decide +kernel
theorem dX1_init_66 : decode cX1_init 66 = .ok (.newarray .int, 2) := by decide +kernel
theorem dX1_init_68 : decode cX1_init 68 = .ok (.putfield 46, 3) := by decide +kernel
theorem dX1_init_71 : decode cX1_init 71 = .ok (.return_, 1) := by decide +kernel
set_option maxRecDepth 20000 in
theorem ggX1_copyFrom_X3_copyFrom : GoodIn wsX1_copyFrom wsX3_copyFrom := goodIn_r _ [18, 19, 20, 21, 5, 6, 7, 22, 23, 24, 25, 26, 27, 45, 46, 47, 48, 49, 50, 51, 52] (by decide +kernel) (by decide +kernel)
set_option maxRecDepth 20000 in
theorem gX1_copyFrom_X3_copyFrom : GoodIn wsX1_copyFrom (wsV RX1 49 RX3 yX3_copyFrom wsX3_copyFrom) := goodIn_app (goodIn_of _ (by decide +kernel)) ggX1_copyFrom_X3_copyFrom
set_option maxRecDepth 20000 in
theorem ggX1_copyFrom_X2_copyFrom : GoodIn wsX1_copyFrom wsX2_copyFrom := goodIn_r _ [32, 33, 34, 5, 6, 7, 35, 53, 54] (by decide +kernel) (by decide +kernel)
set_option maxRecDepth 20000 in
theorem gX1_copyFrom_X2_copyFrom : GoodIn wsX1_copyFrom (wsV RX1 53 RX2 yX2_copyFrom wsX2_copyFrom) := goodIn_app (goodIn_of _ (by decide +kernel)) ggX1_copyFrom_X2_copyFrom
theorem dX1_copyFrom_0 : decode cX1_copyFrom 0 = .ok (.aload_n 0, 1) := by decide +kernel
theorem dX1_copyFrom_1 : decode cX1_copyFrom 1 = .ok (.getfield 12, 3) := by decide +kernel
theorem dX1_copyFrom_4 : decode cX1_copyFrom 4 = .ok (.aload_n 1, 1) := by decide +kernel
theorem dX1_copyFrom_5 : decode cX1_copyFrom 5 = .ok (.getfield 12, 3) := by decide +kernel
theorem dX1_copyFrom_8 : decode cX1_copyFrom 8 = .ok (.invokevirtual 49, 3) := by decide +kernel
theorem dX1_copyFrom_11 : decode cX1_copyFrom 11 = .ok (.aload_n 0, 1) := by decide +kernel
theorem dX1_copyFrom_12 : decode cX1_copyFrom 12 = .ok (.getfield 21, 3) := by decide +kernel
theorem dX1_copyFrom_15 : decode cX1_copyFrom 15 = .ok (.aload_n 1, 1) := by decide +kernel
theorem dX1_copyFrom_16 : decode cX1_copyFrom 16 = .ok (.getfield 21, 3) := by decide +kernel
theorem dX1_copyFrom_19 : decode cX1_copyFrom 19 = .ok (.invokevirtual 53, 3) := by decide +kernel
theorem dX1_copyFrom_22 : decode cX1_copyFrom 22 = .ok (.aload_n 1, 1) := by decide +kernel
theorem dX1_copyFrom_23 : decode cX1_copyFrom 23 = .ok (.getfield 34, 3) := by decide +kernel
theorem dX1_copyFrom_26 : decode cX1_copyFrom 26 = .ok (.iconst 0, 1) := by decide +kernel
theorem dX1_copyFrom_27 : decode cX1_copyFrom 27 = .ok (.aload_n 0, 1) := by decide +kernel
theorem dX1_copyFrom_28 : decode cX1_copyFrom 28 = .ok (.getfield 34, 3) := by decide +kernel
theorem dX1_copyFrom_31 : decode cX1_copyFrom 31 = .ok (.iconst 0, 1) := by decide +kernel
theorem dX1_copyFrom_32 : decode cX1_copyFrom 32 = .ok (.iconst 5, 1) := by decide +kernel
theorem dX1_copyFrom_33 : decode cX1_copyFrom 33 = .ok (.invokestatic 56, 3) := by decide +kernel
theorem dX1_copyFrom_36 : decode cX1_copyFrom 36 = .ok (.aload_n 0, 1) := by decide +kernel
theorem dX1_copyFrom_37 : decode cX1_copyFrom 37 = .ok (.aload_n 1, 1) := by decide +kernel
theorem dX1_copyFrom_38 : decode cX1_copyFrom 38 = .ok (.getfield 62, 3) := by decide +kernel
theorem dX1_copyFrom_41 : decode cX1_copyFrom 41 = .ok (.putfield 62, 3) := by decide +kernel
theorem dX1_copyFrom_44 : decode cX1_copyFrom 44 = .ok (.aload_n 0, 1) := by decide +kernel
theorem dX1_copyFrom_45 : decode cX1_copyFrom 45 = .ok (.aload_n 1, 1) := by decide +kernel
theorem dX1_copyFrom_46 : decode cX1_copyFrom 46 = .ok (.getfield 66, 3) := by decide +kernel
theorem dX1_copyFrom_49 : decode cX1_copyFrom 49 = .ok (.putfield 66, 3) := by decide +kernel
theorem dX1_copyFrom_52 : decode cX1_copyFrom 52 = .ok (.aload_n 1, 1) := by decide +kernel
theorem dX1_copyFrom_53 : decode cX1_copyFrom 53 = .ok (.getfield 37, 3) := by decide +kernel
theorem dX1_copyFrom_56 : decode cX1_copyFrom 56 = .ok (.iconst 0, 1) := by decide +kernel
theorem dX1_copyFrom_57 : decode cX1_copyFrom 57 = .ok (.aload_n 0, 1) := by decide +kernel
theorem dX1_copyFrom_58 : decode cX1_copyFrom 58 = .ok (.getfield 37, 3) := by decide +kernel
theorem dX1_copyFrom_61 : decode cX1_copyFrom 61 = .ok (.iconst 0, 1) := by decide +kernel
theorem dX1_copyFrom_62 : decode cX1_copyFrom 62 = .ok (.bipush 32, 2) := by decide +kernel
theorem dX1_copyFrom_64 : decode cX1_copyFrom 64 = .ok (.invokestatic 56, 3) := by decide +kernel
theorem dX1_copyFrom_67 : decode cX1_copyFrom 67 = .ok (.aload_n 1, 1) := by decide +kernel
theorem dX1_copyFrom_68 : decode cX1_copyFrom 68 = .ok (.getfield 40, 3) := by decide +kernel
theorem dX1_copyFrom_71 : decode cX1_copyFrom 71 = .ok (.iconst 0, 1) := by decide +kernel
theorem dX1_copyFrom_72 : decode cX1_copyFrom 72 = .ok (.aload_n 0, 1) := by decide +kernel
theorem dX1_copyFrom_73 : decode cX1_copyFrom 73 = .ok (.getfield 40, 3) := by decide +kernel
theorem dX1_copyFrom_76 : decode cX1_copyFrom 76 = .ok (.iconst 0, 1) := by decide +kernel
theorem dX1_copyFrom_77 : decode cX1_copyFrom 77 = .ok (.bipush 32, 2) := by decide +kernel
theorem dX1_copyFrom_79 : decode cX1_copyFrom 79 = .ok (.invokestatic 56, 3) := by decide +kernel
theorem dX1_copyFrom_82 : decode cX1_copyFrom 82 = .ok (.aload_n 1, 1) := by decide +kernel
theorem dX1_copyFrom_83 : decode cX1_copyFrom 83 = .ok (.getfield 43, 3) := by decide +kernel
theorem dX1_copyFrom_86 : decode cX1_copyFrom 86 = .ok (.iconst 0, 1) := by decide +kernel
theorem dX1_copyFrom_87 : decode cX1_copyFrom 87 = .ok (.aload_n 0, 1) := by decide +kernel
theorem dX1_copyFrom_88 : decode cX1_copyFrom 88 = .ok (.getfield 43, 3) := by decide +kernel
theorem dX1_copyFrom_91 : decode cX1_copyFrom 91 = .ok (.iconst 0, 1) := by decide +kernel
theorem dX1_copyFrom_92 : decode cX1_copyFrom 92 = .ok (.bipush 32, 2) := by decide +kernel
theorem dX1_copyFrom_94 : decode cX1_copyFrom 94 = .ok (.invokestatic 56, 3) := by decide +kernel
theorem dX1_copyFrom_97 : decode cX1_copyFrom 97 = .ok (.aload_n 1, 1) := by decide +kernel
theorem dX1_copyFrom_98 : decode cX1_copyFrom 98 = .ok (.getfield 46, 3) := by decide +kernel
theorem dX1_copyFrom_101 : decode cX1_copyFrom 101 = .ok (.iconst 0, 1) := by decide +kernel
theorem dX1_copyFrom_102 : decode cX1_copyFrom 102 = .ok (.aload_n 0, 1) := by decide +kernel
theorem dX1_copyFrom_103 : decode cX1_copyFrom 103 = .ok (.getfield 46, 3) := by decide +kernel
theorem dX1_copyFrom_106 : decode cX1_copyFrom 106 = .ok (.iconst 0, 1) := by decide +kernel
theorem dX1_copyFrom_107 : decode cX1_copyFrom 107 = .ok (.bipush 32, 2) := by decide +kernel
theorem dX1_copyFrom_109 : decode cX1_copyFrom 109 = .ok (.invokestatic 56, 3) := by decide +kernel
theorem dX1_copyFrom_112 : decode cX1_copyFrom 112 = .ok (.return_, 1) := by decide +kernel
set_option maxRecDepth 20000 in
theorem ggX1_startAnew_X3_changeMany : GoodIn wsX1_startAnew wsX3_changeMany := goodIn_r _ [9, 10, 11, 12, 13, 8, 14, 15, 16, 47, 48, 49, 50, 51, 52, 53, 54] (by decide +kernel) (by decide +kernel)
set_option maxRecDepth 20000 in
theorem gX1_startAnew_X3_changeMany : GoodIn wsX1_startAnew (wsV RX1 69 RX3 yX3_changeMany wsX3_changeMany) := goodIn_app (goodIn_of _ (by decide +kernel)) ggX1_startAnew_X3_changeMany
set_option maxRecDepth 20000 in
theorem ggX1_startAnew_X3_empty : GoodIn wsX1_startAnew wsX3_empty := goodIn_r _ [20, 21, 22, 23, 24, 25, 26, 27, 28, 29, 47, 48, 49, 50, 51, 52, 53, 54] (by decide +kernel) (by decide +kernel)
set_option maxRecDepth 20000 in
theorem gX1_startAnew_X3_empty : GoodIn wsX1_startAnew (wsV RX1 73 RX3 yX3_empty wsX3_empty) := goodIn_app (goodIn_of _ (by decide +kernel)) ggX1_startAnew_X3_empty
set_option maxRecDepth 20000 in
theorem ggX1_startAnew_X2_forget : GoodIn wsX1_startAnew wsX2_forget := goodIn_r _ [34, 35, 36, 37, 27, 28, 29, 55, 56] (by decide +kernel) (by decide +kernel)
set_option maxRecDepth 20000 in
theorem gX1_startAnew_X2_forget : GoodIn wsX1_startAnew (wsV RX1 76 RX2 yX2_forget wsX2_forget) := goodIn_app (goodIn_of _ (by decide +kernel)) ggX1_startAnew_X2_forget
theorem dX1_startAnew_0 : decode cX1_startAnew 0 = .ok (.aload_n 0, 1) := by decide +kernel
theorem dX1_startAnew_1 : decode cX1_startAnew 1 = .ok (.getfield 12, 3) := by decide +kernel
theorem dX1_startAnew_4 : decode cX1_startAnew 4 = .ok (.iload_n 1, 1) := by decide +kernel
theorem dX1_startAnew_5 : decode cX1_startAnew 5 = .ok (.invokevirtual 69, 3) := by decide +kernel
theorem dX1_startAnew_8 : decode cX1_startAnew 8 = .ok (.aload_n 0, 1) := by decide +kernel
theorem dX1_startAnew_9 : decode cX1_startAnew 9 = .ok (.getfield 12, 3) := by decide +kernel
theorem dX1_startAnew_12 : decode cX1_startAnew 12 = .ok (.invokevirtual 73, 3) := by decide +kernel
theorem dX1_startAnew_15 : decode cX1_startAnew 15 = .ok (.aload_n 0, 1) := by decide +kernel
theorem dX1_startAnew_16 : decode cX1_startAnew 16 = .ok (.getfield 21, 3) := by decide +kernel
theorem dX1_startAnew_19 : decode cX1_startAnew 19 = .ok (.invokevirtual 76, 3) := by decide +kernel
theorem dX1_startAnew_22 : decode cX1_startAnew 22 = .ok (.aload_n 0, 1) := by decide +kernel
theorem dX1_startAnew_23 : decode cX1_startAnew 23 = .ok (.iconst 0, 1) := by decide +kernel
theorem dX1_startAnew_24 : decode cX1_startAnew 24 = .ok (.putfield 62, 3) := by decide +kernel
theorem dX1_startAnew_27 : decode cX1_startAnew 27 = .ok (.aload_n 0, 1) := by decide +kernel
theorem dX1_startAnew_28 : decode cX1_startAnew 28 = .ok (.iconst 0, 1) := by decide +kernel
theorem dX1_startAnew_29 : decode cX1_startAnew 29 = .ok (.putfield 66, 3) := by decide +kernel
theorem dX1_startAnew_32 : decode cX1_startAnew 32 = .ok (.return_, 1) := by decide +kernel
theorem dX1_isForReference_0 : decode cX1_isForReference 0 = .ok (.aload_n 0, 1) := by decide +kernel
theorem dX1_isForReference_1 : decode cX1_isForReference 1 = .ok (.getfield 34, 3) := by decide +kernel
theorem dX1_isForReference_4 : decode cX1_isForReference 4 = .ok (.iconst 1, 1) := by decide +kernel
theorem dX1_isForReference_5 : decode cX1_isForReference 5 = .ok (.iaload, 1) := by decide +kernel
theorem dX1_isForReference_6 : decode cX1_isForReference 6 = .ok (.istore_n 2, 1) := by decide +kernel
theorem dX1_isForReference_7 : decode cX1_isForReference 7 = .ok (.iload_n 2, 1) := by decide +kernel
theorem dX1_isForReference_8 : decode cX1_isForReference 8 = .ok (.ifCond .eq 13, 3) := by decide +kernel
theorem dX1_isForReference_11 : decode cX1_isForReference 11 = .ok (.iload_n 1, 1) := by decide +kernel
theorem dX1_isForReference_12 : decode cX1_isForReference 12 = .ok (.iload_n 2, 1) := by decide +kernel
theorem dX1_isForReference_13 : decode cX1_isForReference 13 = .ok (.irem, 1) := by decide +kernel
theorem dX1_isForReference_14 : decode cX1_isForReference 14 = .ok (.ifCond .ne 7, 3) := by decide +kernel
theorem dX1_isForReference_17 : decode cX1_isForReference 17 = .ok (.iconst 1, 1) := by decide +kernel
theorem dX1_isForReference_18 : decode cX1_isForReference 18 = .ok (.goto 4, 3) := by decide +kernel
theorem dX1_isForReference_21 : decode cX1_isForReference 21 = .ok (.iconst 0, 1) := by decide +kernel
theorem dX1_isForReference_22 : decode cX1_isForReference 22 = .ok (.ireturn, 1) := by decide +kernel
theorem dX1_nextReference_0 : decode cX1_nextReference 0 = .ok (.aload_n 0, 1) := by decide +kernel
theorem dX1_nextReference_1 : decode cX1_nextReference 1 = .ok (.getfield 66, 3) := by decide +kernel
theorem dX1_nextReference_4 : decode cX1_nextReference 4 = .ok (.iconst 3, 1) := by decide +kernel
theorem dX1_nextReference_5 : decode cX1_nextReference 5 = .ok (.irem, 1) := by decide +kernel
theorem dX1_nextReference_6 : decode cX1_nextReference 6 = .ok (.ireturn, 1) := by decide +kernel
set_option maxRecDepth 20000 in
theorem ggX1_handOversBehind_X1_isForReference : GoodIn wsX1_handOversBehind wsX1_isForReference := goodIn_r _ [6, 7, 8, 9, 10, 11, 12, 13, 14, 15, 16] (by decide +kernel) (by decide +kernel)
set_option maxRecDepth 20000 in
theorem gX1_handOversBehind_X1_isForReference : GoodIn wsX1_handOversBehind (wsV RX1 79 RX1 yX1_isForReference wsX1_isForReference) := goodIn_app (goodIn_of _ (by decide +kernel)) ggX1_handOversBehind_X1_isForReference
theorem dX1_handOversBehind_0 : decode cX1_handOversBehind 0 = .ok (.aload_n 0, 1) := by decide +kernel
theorem dX1_handOversBehind_1 : decode cX1_handOversBehind 1 = .ok (.getfield 62, 3) := by decide +kernel
theorem dX1_handOversBehind_4 : decode cX1_handOversBehind 4 = .ok (.istore_n 2, 1) := by decide +kernel
theorem dX1_handOversBehind_5 : decode cX1_handOversBehind 5 = .ok (.iconst 0, 1) := by decide +kernel
theorem dX1_handOversBehind_6 : decode cX1_handOversBehind 6 = .ok (.istore_n 3, 1) := by decide +kernel
theorem dX1_handOversBehind_7 : decode cX1_handOversBehind 7 = .ok (.iload_n 3, 1) := by decide +kernel
theorem dX1_handOversBehind_8 : decode cX1_handOversBehind 8 = .ok (.iload_n 1, 1) := by decide +kernel
theorem dX1_handOversBehind_9 : decode cX1_handOversBehind 9 = .ok (.if_icmp .ge 25, 3) := by decide +kernel
theorem dX1_handOversBehind_12 : decode cX1_handOversBehind 12 = .ok (.iload_n 2, 1) := by decide +kernel
theorem dX1_handOversBehind_13 : decode cX1_handOversBehind 13 = .ok (.aload_n 0, 1) := by decide +kernel
theorem dX1_handOversBehind_14 : decode cX1_handOversBehind 14 = .ok (.iload_n 2, 1) := by decide +kernel
theorem dX1_handOversBehind_15 : decode cX1_handOversBehind 15 = .ok (.invokevirtual 79, 3) := by decide +kernel
theorem dX1_handOversBehind_18 : decode cX1_handOversBehind 18 = .ok (.ifCond .eq 7, 3) := by decide +kernel
theorem dX1_handOversBehind_21 : decode cX1_handOversBehind 21 = .ok (.iconst 2, 1) := by decide +kernel
theorem dX1_handOversBehind_22 : decode cX1_handOversBehind 22 = .ok (.goto 4, 3) := by decide +kernel
theorem dX1_handOversBehind_25 : decode cX1_handOversBehind 25 = .ok (.iconst 1, 1) := by decide +kernel
theorem dX1_handOversBehind_26 : decode cX1_handOversBehind 26 = .ok (.iadd, 1) := by decide +kernel
theorem dX1_handOversBehind_27 : decode cX1_handOversBehind 27 = .ok (.istore_n 2, 1) := by decide +kernel
theorem dX1_handOversBehind_28 : decode cX1_handOversBehind 28 = .ok (.iinc 3 1, 3) := by decide +kernel
theorem dX1_handOversBehind_31 : decode cX1_handOversBehind 31 = .ok (.goto (-24), 3) := by decide +kernel
theorem dX1_handOversBehind_34 : decode cX1_handOversBehind 34 = .ok (.iload_n 2, 1) := by decide +kernel
theorem dX1_handOversBehind_35 : decode cX1_handOversBehind 35 = .ok (.ireturn, 1) := by decide +kernel
set_option maxRecDepth 20000 in
theorem ggX1_take_X1_isForReference : GoodIn wsX1_take wsX1_isForReference := goodIn_r _ [8, 3, 89, 90, 91, 92, 93, 94, 95, 96, 97] (by decide +kernel) (by decide +kernel)
set_option maxRecDepth 20000 in
theorem gX1_take_X1_isForReference : GoodIn wsX1_take (wsV RX1 79 RX1 yX1_isForReference wsX1_isForReference) := goodIn_app (goodIn_of _ (by decide +kernel)) ggX1_take_X1_isForReference
set_option maxRecDepth 20000 in
theorem ggX1_take_X1_nextReference : GoodIn wsX1_take wsX1_nextReference := goodIn_r _ [12, 2, 89, 90, 91, 92, 93, 94, 95, 96, 97] (by decide +kernel) (by decide +kernel)
set_option maxRecDepth 20000 in
theorem gX1_take_X1_nextReference : GoodIn wsX1_take (wsV RX1 83 RX1 yX1_nextReference wsX1_nextReference) := goodIn_app (goodIn_of _ (by decide +kernel)) ggX1_take_X1_nextReference
set_option maxRecDepth 20000 in
theorem ggX1_take_X1_handOver : GoodIn wsX1_take wsX1_handOver := goodIn_r _ [16, 17, 3, 1, 18, 19, 20, 21, 22, 23, 24, 25, 26, 27, 28, 29, 30, 31, 32, 33, 34, 35, 36, 37, 38, 39, 40, 41, 42, 43, 44, 45, 46, 47, 48, 49, 50, 51, 7, 52, 53, 54, 55, 56, 57, 58, 59, 60, 61, 62, 63, 64, 65, 66, 67, 68, 69, 70, 71, 72, 73, 74, 75, 76, 77, 78, 79, 80, 81, 82, 83, 84, 85, 86, 87, 88, 89, 90, 91, 92, 93, 94, 95, 96, 97, 98, 99, 100, 101, 102, 103, 104, 105, 106, 107] (by decide +kernel) (by decide +kernel)
set_option maxRecDepth 20000 in
theorem gX1_take_X1_handOver : GoodIn wsX1_take (wsV RX1 87 RX1 yX1_handOver wsX1_handOver) := goodIn_app (goodIn_of _ (by decide +kernel)) ggX1_take_X1_handOver
theorem dX1_take_0 : decode cX1_take 0 = .ok (.aload_n 0, 1) := by decide +kernel
theorem dX1_take_1 : decode cX1_take 1 = .ok (.aload_n 0, 1) := by decide +kernel
theorem dX1_take_2 : decode cX1_take 2 = .ok (.getfield 62, 3) := by decide +kernel
theorem dX1_take_5 : decode cX1_take 5 = .ok (.invokevirtual 79, 3) := by decide +kernel
theorem dX1_take_8 : decode cX1_take 8 = .ok (.ifCond .eq 31, 3) := by decide +kernel
theorem dX1_take_11 : decode cX1_take 11 = .ok (.aload_n 0, 1) := by decide +kernel
theorem dX1_take_12 : decode cX1_take 12 = .ok (.invokevirtual 83, 3) := by decide +kernel
theorem dX1_take_15 : decode cX1_take 15 = .ok (.istore_n 2, 1) := by decide +kernel
theorem dX1_take_16 : decode cX1_take 16 = .ok (.aload_n 0, 1) := by decide +kernel
theorem dX1_take_17 : decode cX1_take 17 = .ok (.dup, 1) := by decide +kernel
theorem dX1_take_18 : decode cX1_take 18 = .ok (.getfield 66, 3) := by decide +kernel
theorem dX1_take_21 : decode cX1_take 21 = .ok (.iconst 1, 1) := by decide +kernel
theorem dX1_take_22 : decode cX1_take 22 = .ok (.iadd, 1) := by decide +kernel
theorem dX1_take_23 : decode cX1_take 23 = .ok (.putfield 66, 3) := by decide +kernel
theorem dX1_take_26 : decode cX1_take 26 = .ok (.aload_n 0, 1) := by decide +kernel
theorem dX1_take_27 : decode cX1_take 27 = .ok (.aload_n 0, 1) := by decide +kernel
theorem dX1_take_28 : decode cX1_take 28 = .ok (.getfield 34, 3) := by decide +kernel
theorem dX1_take_31 : decode cX1_take 31 = .ok (.iconst 2, 1) := by decide +kernel
theorem dX1_take_32 : decode cX1_take 32 = .ok (.iload_n 2, 1) := by decide +kernel
theorem dX1_take_33 : decode cX1_take 33 = .ok (.iadd, 1) := by decide +kernel
theorem dX1_take_34 : decode cX1_take 34 = .ok (.iaload, 1) := by decide +kernel
theorem dX1_take_35 : decode cX1_take 35 = .ok (.iload_n 2, 1) := by decide +kernel
theorem dX1_take_36 : decode cX1_take 36 = .ok (.invokevirtual 87, 3) := by decide +kernel
theorem dX1_take_39 : decode cX1_take 39 = .ok (.aload_n 0, 1) := by decide +kernel
theorem dX1_take_40 : decode cX1_take 40 = .ok (.iload_n 1, 1) := by decide +kernel
theorem dX1_take_41 : decode cX1_take 41 = .ok (.iconst (-1), 1) := by decide +kernel
theorem dX1_take_42 : decode cX1_take 42 = .ok (.invokevirtual 87, 3) := by decide +kernel
theorem dX1_take_45 : decode cX1_take 45 = .ok (.return_, 1) := by decide +kernel
set_option maxRecDepth 20000 in
theorem ggX1_handOver_X3_handOver : GoodIn wsX1_handOver wsX3_handOver := goodIn_r _ [14, 15, 16, 17, 18, 19, 20, 21, 22, 23, 24, 25, 26, 27, 13, 28, 29, 30, 31, 32, 33, 34, 85, 86, 87, 88, 89, 90, 91, 92] (by decide +kernel) (by decide +kernel)
set_option maxRecDepth 20000 in
theorem gX1_handOver_X3_handOver : GoodIn wsX1_handOver (wsV RX1 91 RX3 yX3_handOver wsX3_handOver) := goodIn_app (goodIn_of _ (by decide +kernel)) ggX1_handOver_X3_handOver
set_option maxRecDepth 20000 in
theorem ggX1_handOver_X1_sourceSlot : GoodIn wsX1_handOver wsX1_sourceSlot := goodIn_r _ [39, 1, 7, 76, 77, 78, 79, 80, 81, 82, 83, 84, 85, 86, 87, 88, 89, 90, 91, 92] (by decide +kernel) (by decide +kernel)
set_option maxRecDepth 20000 in
theorem gX1_handOver_X1_sourceSlot : GoodIn wsX1_handOver (wsV RX1 97 RX1 yX1_sourceSlot wsX1_sourceSlot) := goodIn_app (goodIn_of _ (by decide +kernel)) ggX1_handOver_X1_sourceSlot
set_option maxRecDepth 20000 in
theorem ggX1_handOver_X1_learnFrom : GoodIn wsX1_handOver wsX1_learnFrom := goodIn_r _ [43, 5, 9, 4, 44, 45, 46, 47, 48, 49, 50, 76, 77, 78, 79, 80, 81, 82, 83, 84, 93, 94] (by decide +kernel) (by decide +kernel)
set_option maxRecDepth 20000 in
theorem gX1_handOver_X1_learnFrom : GoodIn wsX1_handOver (wsV RX1 101 RX1 yX1_learnFrom wsX1_learnFrom) := goodIn_app (goodIn_of _ (by decide +kernel)) ggX1_handOver_X1_learnFrom
set_option maxRecDepth 20000 in
theorem ggX1_handOver_X2_mend : GoodIn wsX1_handOver wsX2_mend := goodIn_r _ [54, 49, 55, 56, 57, 58, 47, 59, 50, 60, 61, 62, 63, 64, 65, 66, 19, 67, 68, 69, 70, 71, 72, 73, 74, 75, 93, 94] (by decide +kernel) (by decide +kernel)
set_option maxRecDepth 20000 in
theorem gX1_handOver_X2_mend : GoodIn wsX1_handOver (wsV RX1 104 RX2 yX2_mend wsX2_mend) := goodIn_app (goodIn_of _ (by decide +kernel)) ggX1_handOver_X2_mend
theorem dX1_handOver_0 : decode cX1_handOver 0 = .ok (.aload_n 0, 1) := by decide +kernel
theorem dX1_handOver_1 : decode cX1_handOver 1 = .ok (.getfield 12, 3) := by decide +kernel
theorem dX1_handOver_4 : decode cX1_handOver 4 = .ok (.iload_n 1, 1) := by decide +kernel
theorem dX1_handOver_5 : decode cX1_handOver 5 = .ok (.aload_n 0, 1) := by decide +kernel
theorem dX1_handOver_6 : decode cX1_handOver 6 = .ok (.getfield 34, 3) := by decide +kernel
theorem dX1_handOver_9 : decode cX1_handOver 9 = .ok (.iconst 0, 1) := by decide +kernel
theorem dX1_handOver_10 : decode cX1_handOver 10 = .ok (.iaload, 1) := by decide +kernel
theorem dX1_handOver_11 : decode cX1_handOver 11 = .ok (.invokevirtual 91, 3) := by decide +kernel
theorem dX1_handOver_14 : decode cX1_handOver 14 = .ok (.istore_n 3, 1) := by decide +kernel
theorem dX1_handOver_15 : decode cX1_handOver 15 = .ok (.aload_n 0, 1) := by decide +kernel
theorem dX1_handOver_16 : decode cX1_handOver 16 = .ok (.getfield 62, 3) := by decide +kernel
theorem dX1_handOver_19 : decode cX1_handOver 19 = .ok (.bipush 31, 2) := by decide +kernel
theorem dX1_handOver_21 : decode cX1_handOver 21 = .ok (.iand, 1) := by decide +kernel
theorem dX1_handOver_22 : decode cX1_handOver 22 = .ok (.istore 4, 2) := by decide +kernel
theorem dX1_handOver_24 : decode cX1_handOver 24 = .ok (.aload_n 0, 1) := by decide +kernel
theorem dX1_handOver_25 : decode cX1_handOver 25 = .ok (.getfield 37, 3) := by decide +kernel
theorem dX1_handOver_28 : decode cX1_handOver 28 = .ok (.iload 4, 2) := by decide +kernel
theorem dX1_handOver_30 : decode cX1_handOver 30 = .ok (.iload_n 1, 1) := by decide +kernel
theorem dX1_handOver_31 : decode cX1_handOver 31 = .ok (.iastore, 1) := by decide +kernel
theorem dX1_handOver_32 : decode cX1_handOver 32 = .ok (.aload_n 0, 1) := by decide +kernel
theorem dX1_handOver_33 : decode cX1_handOver 33 = .ok (.getfield 40, 3) := by decide +kernel
theorem dX1_handOver_36 : decode cX1_handOver 36 = .ok (.iload 4, 2) := by decide +kernel
theorem dX1_handOver_38 : decode cX1_handOver 38 = .ok (.iload_n 2, 1) := by decide +kernel
theorem dX1_handOver_39 : decode cX1_handOver 39 = .ok (.iastore, 1) := by decide +kernel
theorem dX1_handOver_40 : decode cX1_handOver 40 = .ok (.aload_n 0, 1) := by decide +kernel
theorem dX1_handOver_41 : decode cX1_handOver 41 = .ok (.getfield 43, 3) := by decide +kernel
theorem dX1_handOver_44 : decode cX1_handOver 44 = .ok (.iload 4, 2) := by decide +kernel
theorem dX1_handOver_46 : decode cX1_handOver 46 = .ok (.iload_n 3, 1) := by decide +kernel
theorem dX1_handOver_47 : decode cX1_handOver 47 = .ok (.iastore, 1) := by decide +kernel
theorem dX1_handOver_48 : decode cX1_handOver 48 = .ok (.aload_n 0, 1) := by decide +kernel
theorem dX1_handOver_49 : decode cX1_handOver 49 = .ok (.getfield 62, 3) := by decide +kernel
theorem dX1_handOver_52 : decode cX1_handOver 52 = .ok (.aload_n 0, 1) := by decide +kernel
theorem dX1_handOver_53 : decode cX1_handOver 53 = .ok (.getfield 12, 3) := by decide +kernel
theorem dX1_handOver_56 : decode cX1_handOver 56 = .ok (.getfield 94, 3) := by decide +kernel
theorem dX1_handOver_59 : decode cX1_handOver 59 = .ok (.if_icmp .lt 31, 3) := by decide +kernel
theorem dX1_handOver_62 : decode cX1_handOver 62 = .ok (.aload_n 0, 1) := by decide +kernel
theorem dX1_handOver_63 : decode cX1_handOver 63 = .ok (.iload_n 3, 1) := by decide +kernel
theorem dX1_handOver_64 : decode cX1_handOver 64 = .ok (.aload_n 0, 1) := by decide +kernel
theorem dX1_handOver_65 : decode cX1_handOver 65 = .ok (.aload_n 0, 1) := by decide +kernel
theorem dX1_handOver_66 : decode cX1_handOver 66 = .ok (.getfield 62, 3) := by decide +kernel
theorem dX1_handOver_69 : decode cX1_handOver 69 = .ok (.invokevirtual 97, 3) := by decide +kernel
theorem dX1_handOver_72 : decode cX1_handOver 72 = .ok (.invokevirtual 101, 3) := by decide +kernel
theorem dX1_handOver_75 : decode cX1_handOver 75 = .ok (.aload_n 0, 1) := by decide +kernel
theorem dX1_handOver_76 : decode cX1_handOver 76 = .ok (.getfield 46, 3) := by decide +kernel
theorem dX1_handOver_79 : decode cX1_handOver 79 = .ok (.iload 4, 2) := by decide +kernel
theorem dX1_handOver_81 : decode cX1_handOver 81 = .ok (.aload_n 0, 1) := by decide +kernel
theorem dX1_handOver_82 : decode cX1_handOver 82 = .ok (.getfield 21, 3) := by decide +kernel
theorem dX1_handOver_85 : decode cX1_handOver 85 = .ok (.iload_n 3, 1) := by decide +kernel
theorem dX1_handOver_86 : decode cX1_handOver 86 = .ok (.invokevirtual 104, 3) := by decide +kernel
theorem dX1_handOver_89 : decode cX1_handOver 89 = .ok (.iastore, 1) := by decide +kernel
theorem dX1_handOver_90 : decode cX1_handOver 90 = .ok (.aload_n 0, 1) := by decide +kernel
theorem dX1_handOver_91 : decode cX1_handOver 91 = .ok (.dup, 1) := by decide +kernel
theorem dX1_handOver_92 : decode cX1_handOver 92 = .ok (.getfield 62, 3) := by decide +kernel
theorem dX1_handOver_95 : decode cX1_handOver 95 = .ok (.iconst 1, 1) := by decide +kernel
theorem dX1_handOver_96 : decode cX1_handOver 96 = .ok (.iadd, 1) := by decide +kernel
theorem dX1_handOver_97 : decode cX1_handOver 97 = .ok (.putfield 62, 3) := by decide +kernel
theorem dX1_handOver_100 : decode cX1_handOver 100 = .ok (.return_, 1) := by decide +kernel
set_option maxRecDepth 20000 in
theorem ggX1_learnFrom_X2_learn : GoodIn wsX1_learnFrom wsX2_learn := goodIn_r _ [8, 9, 10, 20, 21] (by decide +kernel) (by decide +kernel)
set_option maxRecDepth 20000 in
theorem gX1_learnFrom_X2_learn : GoodIn wsX1_learnFrom (wsV RX1 107 RX2 yX2_learn wsX2_learn) := goodIn_app (goodIn_of _ (by decide +kernel)) ggX1_learnFrom_X2_learn
theorem dX1_learnFrom_0 : decode cX1_learnFrom 0 = .ok (.aload_n 0, 1) := by decide +kernel
theorem dX1_learnFrom_1 : decode cX1_learnFrom 1 = .ok (.getfield 40, 3) := by decide +kernel
theorem dX1_learnFrom_4 : decode cX1_learnFrom 4 = .ok (.iload_n 2, 1) := by decide +kernel
theorem dX1_learnFrom_5 : decode cX1_learnFrom 5 = .ok (.iaload, 1) := by decide +kernel
theorem dX1_learnFrom_6 : decode cX1_learnFrom 6 = .ok (.istore_n 3, 1) := by decide +kernel
theorem dX1_learnFrom_7 : decode cX1_learnFrom 7 = .ok (.iload_n 3, 1) := by decide +kernel
theorem dX1_learnFrom_8 : decode cX1_learnFrom 8 = .ok (.iconst (-1), 1) := by decide +kernel
theorem dX1_learnFrom_9 : decode cX1_learnFrom 9 = .ok (.if_icmp .eq 18, 3) := by decide +kernel
theorem dX1_learnFrom_12 : decode cX1_learnFrom 12 = .ok (.aload_n 0, 1) := by decide +kernel
theorem dX1_learnFrom_13 : decode cX1_learnFrom 13 = .ok (.getfield 21, 3) := by decide +kernel
theorem dX1_learnFrom_16 : decode cX1_learnFrom 16 = .ok (.iload_n 3, 1) := by decide +kernel
theorem dX1_learnFrom_17 : decode cX1_learnFrom 17 = .ok (.iload_n 1, 1) := by decide +kernel
theorem dX1_learnFrom_18 : decode cX1_learnFrom 18 = .ok (.aload_n 0, 1) := by decide +kernel
theorem dX1_learnFrom_19 : decode cX1_learnFrom 19 = .ok (.getfield 37, 3) := by decide +kernel
theorem dX1_learnFrom_22 : decode cX1_learnFrom 22 = .ok (.iload_n 2, 1) := by decide +kernel
theorem dX1_learnFrom_23 : decode cX1_learnFrom 23 = .ok (.iaload, 1) := by decide +kernel
theorem dX1_learnFrom_24 : decode cX1_learnFrom 24 = .ok (.invokevirtual 107, 3) := by decide +kernel
theorem dX1_learnFrom_27 : decode cX1_learnFrom 27 = .ok (.return_, 1) := by decide +kernel
theorem dX1_keptOutputs_0 : decode cX1_keptOutputs 0 = .ok (.iconst 0, 1) := by decide +kernel
theorem dX1_keptOutputs_1 : decode cX1_keptOutputs 1 = .ok (.bipush 16, 2) := by decide +kernel
theorem dX1_keptOutputs_3 : decode cX1_keptOutputs 3 = .ok (.aload_n 0, 1) := by decide +kernel
theorem dX1_keptOutputs_4 : decode cX1_keptOutputs 4 = .ok (.getfield 62, 3) := by decide +kernel
theorem dX1_keptOutputs_7 : decode cX1_keptOutputs 7 = .ok (.aload_n 0, 1) := by decide +kernel
theorem dX1_keptOutputs_8 : decode cX1_keptOutputs 8 = .ok (.getfield 12, 3) := by decide +kernel
theorem dX1_keptOutputs_11 : decode cX1_keptOutputs 11 = .ok (.getfield 94, 3) := by decide +kernel
theorem dX1_keptOutputs_14 : decode cX1_keptOutputs 14 = .ok (.isub, 1) := by decide +kernel
theorem dX1_keptOutputs_15 : decode cX1_keptOutputs 15 = .ok (.invokestatic 111, 3) := by decide +kernel
theorem dX1_keptOutputs_18 : decode cX1_keptOutputs 18 = .ok (.invokestatic 116, 3) := by decide +kernel
theorem dX1_keptOutputs_21 : decode cX1_keptOutputs 21 = .ok (.ireturn, 1) := by decide +kernel
theorem dX1_sourceSlot_0 : decode cX1_sourceSlot 0 = .ok (.iload_n 1, 1) := by decide +kernel
theorem dX1_sourceSlot_1 : decode cX1_sourceSlot 1 = .ok (.aload_n 0, 1) := by decide +kernel
theorem dX1_sourceSlot_2 : decode cX1_sourceSlot 2 = .ok (.getfield 12, 3) := by decide +kernel
theorem dX1_sourceSlot_5 : decode cX1_sourceSlot 5 = .ok (.getfield 94, 3) := by decide +kernel
theorem dX1_sourceSlot_8 : decode cX1_sourceSlot 8 = .ok (.isub, 1) := by decide +kernel
theorem dX1_sourceSlot_9 : decode cX1_sourceSlot 9 = .ok (.bipush 31, 2) := by decide +kernel
theorem dX1_sourceSlot_11 : decode cX1_sourceSlot 11 = .ok (.iand, 1) := by decide +kernel
theorem dX1_sourceSlot_12 : decode cX1_sourceSlot 12 = .ok (.ireturn, 1) := by decide +kernel
set_option maxRecDepth 20000 in
theorem ggX1_isOfReference_X1_sourceSlot : GoodIn wsX1_isOfReference wsX1_sourceSlot := goodIn_r _ [6, 7, 8, 9, 10, 11, 12, 13, 14, 15, 16, 17, 18, 19, 20, 21, 22, 23, 24, 25] (by decide +kernel) (by decide +kernel)
set_option maxRecDepth 20000 in
theorem gX1_isOfReference_X1_sourceSlot : GoodIn wsX1_isOfReference (wsV RX1 97 RX1 yX1_sourceSlot wsX1_sourceSlot) := goodIn_app (goodIn_of _ (by decide +kernel)) ggX1_isOfReference_X1_sourceSlot
theorem dX1_isOfReference_0 : decode cX1_isOfReference 0 = .ok (.aload_n 0, 1) := by decide +kernel
theorem dX1_isOfReference_1 : decode cX1_isOfReference 1 = .ok (.getfield 40, 3) := by decide +kernel
theorem dX1_isOfReference_4 : decode cX1_isOfReference 4 = .ok (.aload_n 0, 1) := by decide +kernel
theorem dX1_isOfReference_5 : decode cX1_isOfReference 5 = .ok (.iload_n 1, 1) := by decide +kernel
theorem dX1_isOfReference_6 : decode cX1_isOfReference 6 = .ok (.invokevirtual 97, 3) := by decide +kernel
theorem dX1_isOfReference_9 : decode cX1_isOfReference 9 = .ok (.iaload, 1) := by decide +kernel
theorem dX1_isOfReference_10 : decode cX1_isOfReference 10 = .ok (.iconst (-1), 1) := by decide +kernel
theorem dX1_isOfReference_11 : decode cX1_isOfReference 11 = .ok (.if_icmp .eq 7, 3) := by decide +kernel
theorem dX1_isOfReference_14 : decode cX1_isOfReference 14 = .ok (.iconst 1, 1) := by decide +kernel
theorem dX1_isOfReference_15 : decode cX1_isOfReference 15 = .ok (.goto 4, 3) := by decide +kernel
theorem dX1_isOfReference_18 : decode cX1_isOfReference 18 = .ok (.iconst 0, 1) := by decide +kernel
theorem dX1_isOfReference_19 : decode cX1_isOfReference 19 = .ok (.ireturn, 1) := by decide +kernel
set_option maxRecDepth 20000 in
theorem ggX1_errorOf_X1_sourceSlot : GoodIn wsX1_errorOf wsX1_sourceSlot := goodIn_r _ [9, 10, 11, 12, 13, 14, 15, 16, 17, 18, 19, 20, 21, 22, 23, 24, 25, 26, 27, 28] (by decide +kernel) (by decide +kernel)
set_option maxRecDepth 20000 in
theorem gX1_errorOf_X1_sourceSlot : GoodIn wsX1_errorOf (wsV RX1 97 RX1 yX1_sourceSlot wsX1_sourceSlot) := goodIn_app (goodIn_of _ (by decide +kernel)) ggX1_errorOf_X1_sourceSlot
theorem dX1_errorOf_0 : decode cX1_errorOf 0 = .ok (.iload_n 1, 1) := by decide +kernel
theorem dX1_errorOf_1 : decode cX1_errorOf 1 = .ok (.bipush 31, 2) := by decide +kernel
theorem dX1_errorOf_3 : decode cX1_errorOf 3 = .ok (.iand, 1) := by decide +kernel
theorem dX1_errorOf_4 : decode cX1_errorOf 4 = .ok (.istore_n 2, 1) := by decide +kernel
theorem dX1_errorOf_5 : decode cX1_errorOf 5 = .ok (.aload_n 0, 1) := by decide +kernel
theorem dX1_errorOf_6 : decode cX1_errorOf 6 = .ok (.getfield 46, 3) := by decide +kernel
theorem dX1_errorOf_9 : decode cX1_errorOf 9 = .ok (.iload_n 2, 1) := by decide +kernel
theorem dX1_errorOf_10 : decode cX1_errorOf 10 = .ok (.iaload, 1) := by decide +kernel
theorem dX1_errorOf_11 : decode cX1_errorOf 11 = .ok (.ldc 119, 2) := by decide +kernel
theorem dX1_errorOf_13 : decode cX1_errorOf 13 = .ok (.if_icmp .ne 12, 3) := by decide +kernel
theorem dX1_errorOf_16 : decode cX1_errorOf 16 = .ok (.aload_n 0, 1) := by decide +kernel
theorem dX1_errorOf_17 : decode cX1_errorOf 17 = .ok (.getfield 43, 3) := by decide +kernel
theorem dX1_errorOf_20 : decode cX1_errorOf 20 = .ok (.iload_n 2, 1) := by decide +kernel
theorem dX1_errorOf_21 : decode cX1_errorOf 21 = .ok (.iaload, 1) := by decide +kernel
theorem dX1_errorOf_22 : decode cX1_errorOf 22 = .ok (.goto 9, 3) := by decide +kernel
theorem dX1_errorOf_25 : decode cX1_errorOf 25 = .ok (.aload_n 0, 1) := by decide +kernel
theorem dX1_errorOf_26 : decode cX1_errorOf 26 = .ok (.getfield 46, 3) := by decide +kernel
theorem dX1_errorOf_29 : decode cX1_errorOf 29 = .ok (.iload_n 2, 1) := by decide +kernel
theorem dX1_errorOf_30 : decode cX1_errorOf 30 = .ok (.iaload, 1) := by decide +kernel
theorem dX1_errorOf_31 : decode cX1_errorOf 31 = .ok (.istore_n 3, 1) := by decide +kernel
theorem dX1_errorOf_32 : decode cX1_errorOf 32 = .ok (.iload_n 3, 1) := by decide +kernel
theorem dX1_errorOf_33 : decode cX1_errorOf 33 = .ok (.aload_n 0, 1) := by decide +kernel
theorem dX1_errorOf_34 : decode cX1_errorOf 34 = .ok (.getfield 37, 3) := by decide +kernel
theorem dX1_errorOf_37 : decode cX1_errorOf 37 = .ok (.aload_n 0, 1) := by decide +kernel
theorem dX1_errorOf_38 : decode cX1_errorOf 38 = .ok (.iload_n 1, 1) := by decide +kernel
theorem dX1_errorOf_39 : decode cX1_errorOf 39 = .ok (.invokevirtual 97, 3) := by decide +kernel
theorem dX1_errorOf_42 : decode cX1_errorOf 42 = .ok (.iaload, 1) := by decide +kernel
theorem dX1_errorOf_43 : decode cX1_errorOf 43 = .ok (.isub, 1) := by decide +kernel
theorem dX1_errorOf_44 : decode cX1_errorOf 44 = .ok (.ireturn, 1) := by decide +kernel
theorem dX2_init_0 : decode cX2_init 0 = .ok (.aload_n 0, 1) := by decide +kernel
theorem dX2_init_1 : decode cX2_init 1 = .ok (.invokespecial 3, 3) := by decide +kernel
theorem dX2_init_4 : decode cX2_init 4 = .ok (.aload_n 0, 1) := by decide +kernel
theorem dX2_init_5 : decode cX2_init 5 = .ok (.iconst 3, 1) := by decide +kernel
theorem dX2_init_6 : decode cX2_init 6 = .ok (.newarray .int, 2) := by decide +kernel
theorem dX2_init_8 : decode cX2_init 8 = .ok (.putfield 9, 3) := by decide +kernel
theorem dX2_init_11 : decode cX2_init 11 = .ok (.aload_n 0, 1) := by decide +kernel
theorem dX2_init_12 : decode cX2_init 12 = .ok (.iconst 3, 1) := by decide +kernel
theorem dX2_init_13 : decode cX2_init 13 = .ok (.newarray .int, 2) := by decide +kernel
theorem dX2_init_15 : decode cX2_init 15 = .ok (.putfield 15, 3) := by decide +kernel
theorem dX2_init_18 : decode cX2_init 18 = .ok (.return_, 1) := by decide +kernel
theorem dX2_copyFrom_0 : decode cX2_copyFrom 0 = .ok (.aload_n 1, 1) := by decide +kernel
theorem dX2_copyFrom_1 : decode cX2_copyFrom 1 = .ok (.getfield 9, 3) := by decide +kernel
theorem dX2_copyFrom_4 : decode cX2_copyFrom 4 = .ok (.iconst 0, 1) := by decide +kernel
theorem dX2_copyFrom_5 : decode cX2_copyFrom 5 = .ok (.aload_n 0, 1) := by decide +kernel
theorem dX2_copyFrom_6 : decode cX2_copyFrom 6 = .ok (.getfield 9, 3) := by decide +kernel
theorem dX2_copyFrom_9 : decode cX2_copyFrom 9 = .ok (.iconst 0, 1) := by decide +kernel
theorem dX2_copyFrom_10 : decode cX2_copyFrom 10 = .ok (.iconst 3, 1) := by decide +kernel
theorem dX2_copyFrom_11 : decode cX2_copyFrom 11 = .ok (.invokestatic 18, 3) := by decide +kernel
theorem dX2_copyFrom_14 : decode cX2_copyFrom 14 = .ok (.aload_n 1, 1) := by decide +kernel
theorem dX2_copyFrom_15 : decode cX2_copyFrom 15 = .ok (.getfield 15, 3) := by decide +kernel
theorem dX2_copyFrom_18 : decode cX2_copyFrom 18 = .ok (.iconst 0, 1) := by decide +kernel
theorem dX2_copyFrom_19 : decode cX2_copyFrom 19 = .ok (.aload_n 0, 1) := by decide +kernel
theorem dX2_copyFrom_20 : decode cX2_copyFrom 20 = .ok (.getfield 15, 3) := by decide +kernel
theorem dX2_copyFrom_23 : decode cX2_copyFrom 23 = .ok (.iconst 0, 1) := by decide +kernel
theorem dX2_copyFrom_24 : decode cX2_copyFrom 24 = .ok (.iconst 3, 1) := by decide +kernel
theorem dX2_copyFrom_25 : decode cX2_copyFrom 25 = .ok (.invokestatic 18, 3) := by decide +kernel
theorem dX2_copyFrom_28 : decode cX2_copyFrom 28 = .ok (.return_, 1) := by decide +kernel
set_option maxRecDepth 20000 in
theorem ggX2_forget_J7_fill_53178 : GoodIn wsX2_forget wsJ7_fill_53178 := goodIn_r _ [6] (by decide +kernel) (by decide +kernel)
set_option maxRecDepth 20000 in
theorem gX2_forget_J7_fill_53178 : GoodIn wsX2_forget (va_wsS RX2 24 yJ7_fill_53178 wsJ7_fill_53178) := goodIn_app (goodIn_of _ (by decide +kernel)) ggX2_forget_J7_fill_53178
theorem dX2_forget_0 : decode cX2_forget 0 = .ok (.aload_n 0, 1) := by decide +kernel
theorem dX2_forget_1 : decode cX2_forget 1 = .ok (.getfield 9, 3) := by decide +kernel
theorem dX2_forget_4 : decode cX2_forget 4 = .ok (.iconst 0, 1) := by decide +kernel
theorem dX2_forget_5 : decode cX2_forget 5 = .ok (.invokestatic 24, 3) := by decide +kernel
theorem dX2_forget_8 : decode cX2_forget 8 = .ok (.aload_n 0, 1) := by decide +kernel
theorem dX2_forget_9 : decode cX2_forget 9 = .ok (.getfield 15, 3) := by decide +kernel
theorem dX2_forget_12 : decode cX2_forget 12 = .ok (.iconst 0, 1) := by decide +kernel
theorem dX2_forget_13 : decode cX2_forget 13 = .ok (.invokestatic 24, 3) := by decide +kernel
theorem dX2_forget_16 : decode cX2_forget 16 = .ok (.return_, 1) := by decide +kernel
theorem dX2_learn_0 : decode cX2_learn 0 = .ok (.aload_n 0, 1) := by decide +kernel
theorem dX2_learn_1 : decode cX2_learn 1 = .ok (.getfield 9, 3) := by decide +kernel
theorem dX2_learn_4 : decode cX2_learn 4 = .ok (.iload_n 1, 1) := by decide +kernel
theorem dX2_learn_5 : decode cX2_learn 5 = .ok (.iload_n 2, 1) := by decide +kernel
theorem dX2_learn_6 : decode cX2_learn 6 = .ok (.iastore, 1) := by decide +kernel
theorem dX2_learn_7 : decode cX2_learn 7 = .ok (.aload_n 0, 1) := by decide +kernel
theorem dX2_learn_8 : decode cX2_learn 8 = .ok (.getfield 15, 3) := by decide +kernel
theorem dX2_learn_11 : decode cX2_learn 11 = .ok (.iload_n 1, 1) := by decide +kernel
theorem dX2_learn_12 : decode cX2_learn 12 = .ok (.iload_n 3, 1) := by decide +kernel
theorem dX2_learn_13 : decode cX2_learn 13 = .ok (.iastore, 1) := by decide +kernel
theorem dX2_learn_14 : decode cX2_learn 14 = .ok (.return_, 1) := by decide +kernel
theorem dX2_isKnown_0 : decode cX2_isKnown 0 = .ok (.aload_n 0, 1) := by decide +kernel
theorem dX2_isKnown_1 : decode cX2_isKnown 1 = .ok (.getfield 15, 3) := by decide +kernel
theorem dX2_isKnown_4 : decode cX2_isKnown 4 = .ok (.iload_n 1, 1) := by decide +kernel
theorem dX2_isKnown_5 : decode cX2_isKnown 5 = .ok (.iaload, 1) := by decide +kernel
theorem dX2_isKnown_6 : decode cX2_isKnown 6 = .ok (.ifCond .le 7, 3) := by decide +kernel
theorem dX2_isKnown_9 : decode cX2_isKnown 9 = .ok (.iconst 1, 1) := by decide +kernel
theorem dX2_isKnown_10 : decode cX2_isKnown 10 = .ok (.goto 4, 3) := by decide +kernel
theorem dX2_isKnown_13 : decode cX2_isKnown 13 = .ok (.iconst 0, 1) := by decide +kernel
theorem dX2_isKnown_14 : decode cX2_isKnown 14 = .ok (.ireturn, 1) := by decide +kernel
set_option maxRecDepth 20000 in
theorem ggX2_known_X2_isKnown : GoodIn wsX2_known wsX2_isKnown := goodIn_r _ [5, 6, 7, 8] (by decide +kernel) (by decide +kernel)
set_option maxRecDepth 20000 in
theorem gX2_known_X2_isKnown : GoodIn wsX2_known (wsV RX2 30 RX2 yX2_isKnown wsX2_isKnown) := goodIn_app (goodIn_of _ (by decide +kernel)) ggX2_known_X2_isKnown
theorem dX2_known_0 : decode cX2_known 0 = .ok (.iconst 0, 1) := by decide +kernel
theorem dX2_known_1 : decode cX2_known 1 = .ok (.istore_n 1, 1) := by decide +kernel
theorem dX2_known_2 : decode cX2_known 2 = .ok (.iconst 0, 1) := by decide +kernel
theorem dX2_known_3 : decode cX2_known 3 = .ok (.istore_n 2, 1) := by decide +kernel
theorem dX2_known_4 : decode cX2_known 4 = .ok (.iload_n 2, 1) := by decide +kernel
theorem dX2_known_5 : decode cX2_known 5 = .ok (.iconst 3, 1) := by decide +kernel
theorem dX2_known_6 : decode cX2_known 6 = .ok (.if_icmp .ge 25, 3) := by decide +kernel
theorem dX2_known_9 : decode cX2_known 9 = .ok (.iload_n 1, 1) := by decide +kernel
theorem dX2_known_10 : decode cX2_known 10 = .ok (.aload_n 0, 1) := by decide +kernel
theorem dX2_known_11 : decode cX2_known 11 = .ok (.iload_n 2, 1) := by decide +kernel
theorem dX2_known_12 : decode cX2_known 12 = .ok (.invokevirtual 30, 3) := by decide +kernel
theorem dX2_known_15 : decode cX2_known 15 = .ok (.ifCond .eq 7, 3) := by decide +kernel
theorem dX2_known_18 : decode cX2_known 18 = .ok (.iconst 1, 1) := by decide +kernel
theorem dX2_known_19 : decode cX2_known 19 = .ok (.goto 4, 3) := by decide +kernel
theorem dX2_known_22 : decode cX2_known 22 = .ok (.iconst 0, 1) := by decide +kernel
theorem dX2_known_23 : decode cX2_known 23 = .ok (.iadd, 1) := by decide +kernel
theorem dX2_known_24 : decode cX2_known 24 = .ok (.istore_n 1, 1) := by decide +kernel
theorem dX2_known_25 : decode cX2_known 25 = .ok (.iinc 2 1, 3) := by decide +kernel
theorem dX2_known_28 : decode cX2_known 28 = .ok (.goto (-24), 3) := by decide +kernel
theorem dX2_known_31 : decode cX2_known 31 = .ok (.iload_n 1, 1) := by decide +kernel
theorem dX2_known_32 : decode cX2_known 32 = .ok (.ireturn, 1) := by decide +kernel
set_option maxRecDepth 20000 in
theorem ggX2_mend_X2_isKnown : GoodIn wsX2_mend wsX2_isKnown := goodIn_r _ [7, 8, 26, 27] (by decide +kernel) (by decide +kernel)
set_option maxRecDepth 20000 in
theorem gX2_mend_X2_isKnown : GoodIn wsX2_mend (wsV RX2 30 RX2 yX2_isKnown wsX2_isKnown) := goodIn_app (goodIn_of _ (by decide +kernel)) ggX2_mend_X2_isKnown
set_option maxRecDepth 20000 in
theorem ggX2_mend_X2_mendBy : GoodIn wsX2_mend wsX2_mendBy := goodIn_r _ [12, 1, 2, 8, 13, 14, 15, 16, 17, 26, 27] (by decide +kernel) (by decide +kernel)
set_option maxRecDepth 20000 in
theorem gX2_mend_X2_mendBy : GoodIn wsX2_mend (wsV RX2 35 RX2 yX2_mendBy wsX2_mendBy) := goodIn_app (goodIn_of _ (by decide +kernel)) ggX2_mend_X2_mendBy
set_option maxRecDepth 20000 in
theorem ggX2_mend_X2_mendBetween : GoodIn wsX2_mend wsX2_mendBetween := goodIn_r _ [21, 1, 8, 22, 23, 24, 25, 26, 27] (by decide +kernel) (by decide +kernel)
set_option maxRecDepth 20000 in
theorem gX2_mend_X2_mendBetween : GoodIn wsX2_mend (wsV RX2 39 RX2 yX2_mendBetween wsX2_mendBetween) := goodIn_app (goodIn_of _ (by decide +kernel)) ggX2_mend_X2_mendBetween
theorem dX2_mend_0 : decode cX2_mend 0 = .ok (.iconst (-1), 1) := by decide +kernel
theorem dX2_mend_1 : decode cX2_mend 1 = .ok (.istore_n 2, 1) := by decide +kernel
theorem dX2_mend_2 : decode cX2_mend 2 = .ok (.iconst (-1), 1) := by decide +kernel
theorem dX2_mend_3 : decode cX2_mend 3 = .ok (.istore_n 3, 1) := by decide +kernel
theorem dX2_mend_4 : decode cX2_mend 4 = .ok (.iconst 0, 1) := by decide +kernel
theorem dX2_mend_5 : decode cX2_mend 5 = .ok (.istore 4, 2) := by decide +kernel
theorem dX2_mend_7 : decode cX2_mend 7 = .ok (.iload 4, 2) := by decide +kernel
theorem dX2_mend_9 : decode cX2_mend 9 = .ok (.iconst 3, 1) := by decide +kernel
theorem dX2_mend_10 : decode cX2_mend 10 = .ok (.if_icmp .ge 82, 3) := by decide +kernel
theorem dX2_mend_13 : decode cX2_mend 13 = .ok (.aload_n 0, 1) := by decide +kernel
theorem dX2_mend_14 : decode cX2_mend 14 = .ok (.getfield 9, 3) := by decide +kernel
theorem dX2_mend_17 : decode cX2_mend 17 = .ok (.iload 4, 2) := by decide +kernel
theorem dX2_mend_19 : decode cX2_mend 19 = .ok (.iaload, 1) := by decide +kernel
theorem dX2_mend_20 : decode cX2_mend 20 = .ok (.istore 5, 2) := by decide +kernel
theorem dX2_mend_22 : decode cX2_mend 22 = .ok (.aload_n 0, 1) := by decide +kernel
theorem dX2_mend_23 : decode cX2_mend 23 = .ok (.iload 4, 2) := by decide +kernel
theorem dX2_mend_25 : decode cX2_mend 25 = .ok (.invokevirtual 30, 3) := by decide +kernel
theorem dX2_mend_28 : decode cX2_mend 28 = .ok (.ifCond .eq 58, 3) := by decide +kernel
theorem dX2_mend_31 : decode cX2_mend 31 = .ok (.iload 5, 2) := by decide +kernel
theorem dX2_mend_33 : decode cX2_mend 33 = .ok (.ifCond .le 53, 3) := by decide +kernel
theorem dX2_mend_36 : decode cX2_mend 36 = .ok (.iload 5, 2) := by decide +kernel
theorem dX2_mend_38 : decode cX2_mend 38 = .ok (.iload_n 1, 1) := by decide +kernel
theorem dX2_mend_39 : decode cX2_mend 39 = .ok (.if_icmp .gt 22, 3) := by decide +kernel
theorem dX2_mend_42 : decode cX2_mend 42 = .ok (.iload_n 2, 1) := by decide +kernel
theorem dX2_mend_43 : decode cX2_mend 43 = .ok (.iconst (-1), 1) := by decide +kernel
theorem dX2_mend_44 : decode cX2_mend 44 = .ok (.if_icmp .eq 14, 3) := by decide +kernel
theorem dX2_mend_47 : decode cX2_mend 47 = .ok (.iload 5, 2) := by decide +kernel
theorem dX2_mend_49 : decode cX2_mend 49 = .ok (.aload_n 0, 1) := by decide +kernel
theorem dX2_mend_50 : decode cX2_mend 50 = .ok (.getfield 9, 3) := by decide +kernel
theorem dX2_mend_53 : decode cX2_mend 53 = .ok (.iload_n 2, 1) := by decide +kernel
theorem dX2_mend_54 : decode cX2_mend 54 = .ok (.iaload, 1) := by decide +kernel
theorem dX2_mend_55 : decode cX2_mend 55 = .ok (.if_icmp .le 6, 3) := by decide +kernel
theorem dX2_mend_58 : decode cX2_mend 58 = .ok (.iload 4, 2) := by decide +kernel
theorem dX2_mend_60 : decode cX2_mend 60 = .ok (.istore_n 2, 1) := by decide +kernel
theorem dX2_mend_61 : decode cX2_mend 61 = .ok (.iload 5, 2) := by decide +kernel
theorem dX2_mend_63 : decode cX2_mend 63 = .ok (.iload_n 1, 1) := by decide +kernel
theorem dX2_mend_64 : decode cX2_mend 64 = .ok (.if_icmp .lt 22, 3) := by decide +kernel
theorem dX2_mend_67 : decode cX2_mend 67 = .ok (.iload_n 3, 1) := by decide +kernel
theorem dX2_mend_68 : decode cX2_mend 68 = .ok (.iconst (-1), 1) := by decide +kernel
theorem dX2_mend_69 : decode cX2_mend 69 = .ok (.if_icmp .eq 14, 3) := by decide +kernel
theorem dX2_mend_72 : decode cX2_mend 72 = .ok (.iload 5, 2) := by decide +kernel
theorem dX2_mend_74 : decode cX2_mend 74 = .ok (.aload_n 0, 1) := by decide +kernel
theorem dX2_mend_75 : decode cX2_mend 75 = .ok (.getfield 9, 3) := by decide +kernel
theorem dX2_mend_78 : decode cX2_mend 78 = .ok (.iload_n 3, 1) := by decide +kernel
theorem dX2_mend_79 : decode cX2_mend 79 = .ok (.iaload, 1) := by decide +kernel
theorem dX2_mend_80 : decode cX2_mend 80 = .ok (.if_icmp .ge 6, 3) := by decide +kernel
theorem dX2_mend_83 : decode cX2_mend 83 = .ok (.iload 4, 2) := by decide +kernel
theorem dX2_mend_85 : decode cX2_mend 85 = .ok (.istore_n 3, 1) := by decide +kernel
theorem dX2_mend_86 : decode cX2_mend 86 = .ok (.iinc 4 1, 3) := by decide +kernel
theorem dX2_mend_89 : decode cX2_mend 89 = .ok (.goto (-82), 3) := by decide +kernel
theorem dX2_mend_92 : decode cX2_mend 92 = .ok (.iload_n 2, 1) := by decide +kernel
theorem dX2_mend_93 : decode cX2_mend 93 = .ok (.iconst (-1), 1) := by decide +kernel
theorem dX2_mend_94 : decode cX2_mend 94 = .ok (.if_icmp .ne 11, 3) := by decide +kernel
theorem dX2_mend_97 : decode cX2_mend 97 = .ok (.iload_n 3, 1) := by decide +kernel
theorem dX2_mend_98 : decode cX2_mend 98 = .ok (.iconst (-1), 1) := by decide +kernel
theorem dX2_mend_99 : decode cX2_mend 99 = .ok (.if_icmp .ne 6, 3) := by decide +kernel
theorem dX2_mend_102 : decode cX2_mend 102 = .ok (.ldc 34, 2) := by decide +kernel
theorem dX2_mend_104 : decode cX2_mend 104 = .ok (.ireturn, 1) := by decide +kernel
theorem dX2_mend_105 : decode cX2_mend 105 = .ok (.iload_n 2, 1) := by decide +kernel
theorem dX2_mend_106 : decode cX2_mend 106 = .ok (.iconst (-1), 1) := by decide +kernel
theorem dX2_mend_107 : decode cX2_mend 107 = .ok (.if_icmp .ne 10, 3) := by decide +kernel
theorem dX2_mend_110 : decode cX2_mend 110 = .ok (.aload_n 0, 1) := by decide +kernel
theorem dX2_mend_111 : decode cX2_mend 111 = .ok (.iload_n 3, 1) := by decide +kernel
theorem dX2_mend_112 : decode cX2_mend 112 = .ok (.iload_n 1, 1) := by decide +kernel
theorem dX2_mend_113 : decode cX2_mend 113 = .ok (.invokevirtual 35, 3) := by decide +kernel
theorem dX2_mend_116 : decode cX2_mend 116 = .ok (.ireturn, 1) := by decide +kernel
theorem dX2_mend_117 : decode cX2_mend 117 = .ok (.iload_n 3, 1) := by decide +kernel
theorem dX2_mend_118 : decode cX2_mend 118 = .ok (.iconst (-1), 1) := by decide +kernel
theorem dX2_mend_119 : decode cX2_mend 119 = .ok (.if_icmp .ne 12, 3) := by decide +kernel
theorem dX2_mend_122 : decode cX2_mend 122 = .ok (.aload_n 0, 1) := by decide +kernel
theorem dX2_mend_123 : decode cX2_mend 123 = .ok (.iload_n 2, 1) := by decide +kernel
theorem dX2_mend_124 : decode cX2_mend 124 = .ok (.iload_n 1, 1) := by decide +kernel
theorem dX2_mend_125 : decode cX2_mend 125 = .ok (.invokevirtual 35, 3) := by decide +kernel
theorem dX2_mend_128 : decode cX2_mend 128 = .ok (.goto 10, 3) := by decide +kernel
theorem dX2_mend_131 : decode cX2_mend 131 = .ok (.aload_n 0, 1) := by decide +kernel
theorem dX2_mend_132 : decode cX2_mend 132 = .ok (.iload_n 2, 1) := by decide +kernel
theorem dX2_mend_133 : decode cX2_mend 133 = .ok (.iload_n 3, 1) := by decide +kernel
theorem dX2_mend_134 : decode cX2_mend 134 = .ok (.iload_n 1, 1) := by decide +kernel
theorem dX2_mend_135 : decode cX2_mend 135 = .ok (.invokevirtual 39, 3) := by decide +kernel
theorem dX2_mend_138 : decode cX2_mend 138 = .ok (.ireturn, 1) := by decide +kernel
set_option maxRecDepth 20000 in
theorem ggX2_mendBetween_J9_floorDiv_7cf53 : GoodIn wsX2_mendBetween wsJ9_floorDiv_7cf53 := goodIn_r _ [6] (by decide +kernel) (by decide +kernel)
set_option maxRecDepth 20000 in
theorem gX2_mendBetween_J9_floorDiv_7cf53 : GoodIn wsX2_mendBetween (va_wsS RX2 43 yJ9_floorDiv_7cf53 wsJ9_floorDiv_7cf53) := goodIn_app (goodIn_of _ (by decide +kernel)) ggX2_mendBetween_J9_floorDiv_7cf53
theorem dX2_mendBetween_0 : decode cX2_mendBetween 0 = .ok (.aload_n 0, 1) := by decide +kernel
theorem dX2_mendBetween_1 : decode cX2_mendBetween 1 = .ok (.getfield 9, 3) := by decide +kernel
theorem dX2_mendBetween_4 : decode cX2_mendBetween 4 = .ok (.iload_n 2, 1) := by decide +kernel
theorem dX2_mendBetween_5 : decode cX2_mendBetween 5 = .ok (.iaload, 1) := by decide +kernel
theorem dX2_mendBetween_6 : decode cX2_mendBetween 6 = .ok (.aload_n 0, 1) := by decide +kernel
theorem dX2_mendBetween_7 : decode cX2_mendBetween 7 = .ok (.getfield 9, 3) := by decide +kernel
theorem dX2_mendBetween_10 : decode cX2_mendBetween 10 = .ok (.iload_n 1, 1) := by decide +kernel
theorem dX2_mendBetween_11 : decode cX2_mendBetween 11 = .ok (.iaload, 1) := by decide +kernel
theorem dX2_mendBetween_12 : decode cX2_mendBetween 12 = .ok (.isub, 1) := by decide +kernel
theorem dX2_mendBetween_13 : decode cX2_mendBetween 13 = .ok (.istore 4, 2) := by decide +kernel
theorem dX2_mendBetween_15 : decode cX2_mendBetween 15 = .ok (.iload 4, 2) := by decide +kernel
theorem dX2_mendBetween_17 : decode cX2_mendBetween 17 = .ok (.ifCond .ne 10, 3) := by decide +kernel
theorem dX2_mendBetween_20 : decode cX2_mendBetween 20 = .ok (.aload_n 0, 1) := by decide +kernel
theorem dX2_mendBetween_21 : decode cX2_mendBetween 21 = .ok (.getfield 15, 3) := by decide +kernel
theorem dX2_mendBetween_24 : decode cX2_mendBetween 24 = .ok (.iload_n 1, 1) := by decide +kernel
theorem dX2_mendBetween_25 : decode cX2_mendBetween 25 = .ok (.iaload, 1) := by decide +kernel
theorem dX2_mendBetween_26 : decode cX2_mendBetween 26 = .ok (.ireturn, 1) := by decide +kernel
theorem dX2_mendBetween_27 : decode cX2_mendBetween 27 = .ok (.iload_n 3, 1) := by decide +kernel
theorem dX2_mendBetween_28 : decode cX2_mendBetween 28 = .ok (.aload_n 0, 1) := by decide +kernel
theorem dX2_mendBetween_29 : decode cX2_mendBetween 29 = .ok (.getfield 9, 3) := by decide +kernel
theorem dX2_mendBetween_32 : decode cX2_mendBetween 32 = .ok (.iload_n 1, 1) := by decide +kernel
theorem dX2_mendBetween_33 : decode cX2_mendBetween 33 = .ok (.iaload, 1) := by decide +kernel
theorem dX2_mendBetween_34 : decode cX2_mendBetween 34 = .ok (.isub, 1) := by decide +kernel
theorem dX2_mendBetween_35 : decode cX2_mendBetween 35 = .ok (.aload_n 0, 1) := by decide +kernel
theorem dX2_mendBetween_36 : decode cX2_mendBetween 36 = .ok (.getfield 15, 3) := by decide +kernel
theorem dX2_mendBetween_39 : decode cX2_mendBetween 39 = .ok (.iload_n 2, 1) := by decide +kernel
theorem dX2_mendBetween_40 : decode cX2_mendBetween 40 = .ok (.iaload, 1) := by decide +kernel
theorem dX2_mendBetween_41 : decode cX2_mendBetween 41 = .ok (.aload_n 0, 1) := by decide +kernel
theorem dX2_mendBetween_42 : decode cX2_mendBetween 42 = .ok (.getfield 15, 3) := by decide +kernel
theorem dX2_mendBetween_45 : decode cX2_mendBetween 45 = .ok (.iload_n 1, 1) := by decide +kernel
theorem dX2_mendBetween_46 : decode cX2_mendBetween 46 = .ok (.iaload, 1) := by decide +kernel
theorem dX2_mendBetween_47 : decode cX2_mendBetween 47 = .ok (.isub, 1) := by decide +kernel
theorem dX2_mendBetween_48 : decode cX2_mendBetween 48 = .ok (.imul, 1) := by decide +kernel
theorem dX2_mendBetween_49 : decode cX2_mendBetween 49 = .ok (.istore 5, 2) := by decide +kernel
theorem dX2_mendBetween_51 : decode cX2_mendBetween 51 = .ok (.aload_n 0, 1) := by decide +kernel
theorem dX2_mendBetween_52 : decode cX2_mendBetween 52 = .ok (.getfield 15, 3) := by decide +kernel
theorem dX2_mendBetween_55 : decode cX2_mendBetween 55 = .ok (.iload_n 1, 1) := by decide +kernel
theorem dX2_mendBetween_56 : decode cX2_mendBetween 56 = .ok (.iaload, 1) := by decide +kernel
theorem dX2_mendBetween_57 : decode cX2_mendBetween 57 = .ok (.iload 5, 2) := by decide +kernel
theorem dX2_mendBetween_59 : decode cX2_mendBetween 59 = .ok (.iload 4, 2) := by decide +kernel
theorem dX2_mendBetween_61 : decode cX2_mendBetween 61 = .ok (.invokestatic 43, 3) := by decide +kernel
theorem dX2_mendBetween_64 : decode cX2_mendBetween 64 = .ok (.iadd, 1) := by decide +kernel
theorem dX2_mendBetween_65 : decode cX2_mendBetween 65 = .ok (.ireturn, 1) := by decide +kernel
theorem dX2_mendBy_0 : decode cX2_mendBy 0 = .ok (.aload_n 0, 1) := by decide +kernel
theorem dX2_mendBy_1 : decode cX2_mendBy 1 = .ok (.getfield 9, 3) := by decide +kernel
theorem dX2_mendBy_4 : decode cX2_mendBy 4 = .ok (.iload_n 1, 1) := by decide +kernel
theorem dX2_mendBy_5 : decode cX2_mendBy 5 = .ok (.iaload, 1) := by decide +kernel
theorem dX2_mendBy_6 : decode cX2_mendBy 6 = .ok (.istore_n 3, 1) := by decide +kernel
theorem dX2_mendBy_7 : decode cX2_mendBy 7 = .ok (.iload_n 3, 1) := by decide +kernel
theorem dX2_mendBy_8 : decode cX2_mendBy 8 = .ok (.ifCond .ne 6, 3) := by decide +kernel
theorem dX2_mendBy_11 : decode cX2_mendBy 11 = .ok (.ldc 34, 2) := by decide +kernel
theorem dX2_mendBy_13 : decode cX2_mendBy 13 = .ok (.ireturn, 1) := by decide +kernel
theorem dX2_mendBy_14 : decode cX2_mendBy 14 = .ok (.iload_n 2, 1) := by decide +kernel
theorem dX2_mendBy_15 : decode cX2_mendBy 15 = .ok (.i2l, 1) := by decide +kernel
theorem dX2_mendBy_16 : decode cX2_mendBy 16 = .ok (.aload_n 0, 1) := by decide +kernel
theorem dX2_mendBy_17 : decode cX2_mendBy 17 = .ok (.getfield 15, 3) := by decide +kernel
theorem dX2_mendBy_20 : decode cX2_mendBy 20 = .ok (.iload_n 1, 1) := by decide +kernel
theorem dX2_mendBy_21 : decode cX2_mendBy 21 = .ok (.iaload, 1) := by decide +kernel
theorem dX2_mendBy_22 : decode cX2_mendBy 22 = .ok (.i2l, 1) := by decide +kernel
theorem dX2_mendBy_23 : decode cX2_mendBy 23 = .ok (.lmul, 1) := by decide +kernel
theorem dX2_mendBy_24 : decode cX2_mendBy 24 = .ok (.iload_n 3, 1) := by decide +kernel
theorem dX2_mendBy_25 : decode cX2_mendBy 25 = .ok (.i2l, 1) := by decide +kernel
theorem dX2_mendBy_26 : decode cX2_mendBy 26 = .ok (.ldiv, 1) := by decide +kernel
theorem dX2_mendBy_27 : decode cX2_mendBy 27 = .ok (.lstore 4, 2) := by decide +kernel
theorem dX2_mendBy_29 : decode cX2_mendBy 29 = .ok (.lload 4, 2) := by decide +kernel
theorem dX2_mendBy_31 : decode cX2_mendBy 31 = .ok (.ldc2_w 48, 3) := by decide +kernel
theorem dX2_mendBy_34 : decode cX2_mendBy 34 = .ok (.invokestatic 50, 3) := by decide +kernel
theorem dX2_mendBy_37 : decode cX2_mendBy 37 = .ok (.l2i, 1) := by decide +kernel
theorem dX2_mendBy_38 : decode cX2_mendBy 38 = .ok (.ireturn, 1) := by decide +kernel
theorem dX3_init_0 : decode cX3_init 0 = .ok (.aload_n 0, 1) := by decide +kernel
theorem dX3_init_1 : decode cX3_init 1 = .ok (.invokespecial 3, 3) := by decide +kernel
theorem dX3_init_4 : decode cX3_init 4 = .ok (.aload_n 0, 1) := by decide +kernel
theorem dX3_init_5 : decode cX3_init 5 = .ok (.iconst 4, 1) := by decide +kernel
theorem dX3_init_6 : decode cX3_init 6 = .ok (.putfield 9, 3) := by decide +kernel
theorem dX3_init_9 : decode cX3_init 9 = .ok (.aload_n 0, 1) := by decide +kernel
theorem dX3_init_10 : decode cX3_init 10 = .ok (.bipush 10, 2) := by decide +kernel
theorem dX3_init_12 : decode cX3_init 12 = .ok (.newarray .int, 2) := by decide +kernel
theorem dX3_init_14 : decode cX3_init 14 = .ok (.putfield 15, 3) := by decide +kernel
theorem dX3_init_17 : decode cX3_init 17 = .ok (.aload_n 0, 1) := by decide +kernel
theorem dX3_init_18 : decode cX3_init 18 = .ok (.bipush 10, 2) := by decide +kernel
theorem dX3_init_20 : decode cX3_init 20 = .ok (.newarray .int, 2) := by decide +kernel
theorem dX3_init_22 : decode cX3_init 22 = .ok (.putfield 19, 3) := by decide +kernel
theorem dX3_init_25 : decode cX3_init 25 = .ok (.aload_n 0, 1) := by decide +kernel
theorem dX3_init_26 : decode cX3_init 26 = .ok (.bipush 10, 2) := by decide +kernel
theorem dX3_init_28 : decode cX3_init 28 = .ok (.newarray .int, 2) := by decide +kernel
theorem dX3_init_30 : decode cX3_init 30 = .ok (.putfield 22, 3) := by decide +kernel
theorem dX3_init_33 : decode cX3_init 33 = .ok (.return_, 1) := by decide +kernel
theorem dX3_copyFrom_0 : decode cX3_copyFrom 0 = .ok (.aload_n 0, 1) := by decide +kernel
theorem dX3_copyFrom_1 : decode cX3_copyFrom 1 = .ok (.aload_n 1, 1) := by decide +kernel
theorem dX3_copyFrom_2 : decode cX3_copyFrom 2 = .ok (.getfield 9, 3) := by decide +kernel
theorem dX3_copyFrom_5 : decode cX3_copyFrom 5 = .ok (.putfield 9, 3) := by decide +kernel
theorem dX3_copyFrom_8 : decode cX3_copyFrom 8 = .ok (.aload_n 1, 1) := by decide +kernel
theorem dX3_copyFrom_9 : decode cX3_copyFrom 9 = .ok (.getfield 15, 3) := by decide +kernel
theorem dX3_copyFrom_12 : decode cX3_copyFrom 12 = .ok (.iconst 0, 1) := by decide +kernel
theorem dX3_copyFrom_13 : decode cX3_copyFrom 13 = .ok (.aload_n 0, 1) := by decide +kernel
theorem dX3_copyFrom_14 : decode cX3_copyFrom 14 = .ok (.getfield 15, 3) := by decide +kernel
theorem dX3_copyFrom_17 : decode cX3_copyFrom 17 = .ok (.iconst 0, 1) := by decide +kernel
theorem dX3_copyFrom_18 : decode cX3_copyFrom 18 = .ok (.bipush 10, 2) := by decide +kernel
theorem dX3_copyFrom_20 : decode cX3_copyFrom 20 = .ok (.invokestatic 25, 3) := by decide +kernel
theorem dX3_copyFrom_23 : decode cX3_copyFrom 23 = .ok (.aload_n 1, 1) := by decide +kernel
theorem dX3_copyFrom_24 : decode cX3_copyFrom 24 = .ok (.getfield 19, 3) := by decide +kernel
theorem dX3_copyFrom_27 : decode cX3_copyFrom 27 = .ok (.iconst 0, 1) := by decide +kernel
theorem dX3_copyFrom_28 : decode cX3_copyFrom 28 = .ok (.aload_n 0, 1) := by decide +kernel
theorem dX3_copyFrom_29 : decode cX3_copyFrom 29 = .ok (.getfield 19, 3) := by decide +kernel
theorem dX3_copyFrom_32 : decode cX3_copyFrom 32 = .ok (.iconst 0, 1) := by decide +kernel
theorem dX3_copyFrom_33 : decode cX3_copyFrom 33 = .ok (.bipush 10, 2) := by decide +kernel
theorem dX3_copyFrom_35 : decode cX3_copyFrom 35 = .ok (.invokestatic 25, 3) := by decide +kernel
theorem dX3_copyFrom_38 : decode cX3_copyFrom 38 = .ok (.aload_n 1, 1) := by decide +kernel
theorem dX3_copyFrom_39 : decode cX3_copyFrom 39 = .ok (.getfield 22, 3) := by decide +kernel
theorem dX3_copyFrom_42 : decode cX3_copyFrom 42 = .ok (.iconst 0, 1) := by decide +kernel
theorem dX3_copyFrom_43 : decode cX3_copyFrom 43 = .ok (.aload_n 0, 1) := by decide +kernel
theorem dX3_copyFrom_44 : decode cX3_copyFrom 44 = .ok (.getfield 22, 3) := by decide +kernel
theorem dX3_copyFrom_47 : decode cX3_copyFrom 47 = .ok (.iconst 0, 1) := by decide +kernel
theorem dX3_copyFrom_48 : decode cX3_copyFrom 48 = .ok (.bipush 10, 2) := by decide +kernel
theorem dX3_copyFrom_50 : decode cX3_copyFrom 50 = .ok (.invokestatic 25, 3) := by decide +kernel
theorem dX3_copyFrom_53 : decode cX3_copyFrom 53 = .ok (.aload_n 0, 1) := by decide +kernel
theorem dX3_copyFrom_54 : decode cX3_copyFrom 54 = .ok (.aload_n 1, 1) := by decide +kernel
theorem dX3_copyFrom_55 : decode cX3_copyFrom 55 = .ok (.getfield 31, 3) := by decide +kernel
theorem dX3_copyFrom_58 : decode cX3_copyFrom 58 = .ok (.putfield 31, 3) := by decide +kernel
theorem dX3_copyFrom_61 : decode cX3_copyFrom 61 = .ok (.aload_n 0, 1) := by decide +kernel
theorem dX3_copyFrom_62 : decode cX3_copyFrom 62 = .ok (.aload_n 1, 1) := by decide +kernel
theorem dX3_copyFrom_63 : decode cX3_copyFrom 63 = .ok (.getfield 34, 3) := by decide +kernel
theorem dX3_copyFrom_66 : decode cX3_copyFrom 66 = .ok (.putfield 34, 3) := by decide +kernel
theorem dX3_copyFrom_69 : decode cX3_copyFrom 69 = .ok (.aload_n 0, 1) := by decide +kernel
theorem dX3_copyFrom_70 : decode cX3_copyFrom 70 = .ok (.aload_n 1, 1) := by decide +kernel
theorem dX3_copyFrom_71 : decode cX3_copyFrom 71 = .ok (.getfield 37, 3) := by decide +kernel
theorem dX3_copyFrom_74 : decode cX3_copyFrom 74 = .ok (.putfield 37, 3) := by decide +kernel
theorem dX3_copyFrom_77 : decode cX3_copyFrom 77 = .ok (.aload_n 0, 1) := by decide +kernel
theorem dX3_copyFrom_78 : decode cX3_copyFrom 78 = .ok (.aload_n 1, 1) := by decide +kernel
theorem dX3_copyFrom_79 : decode cX3_copyFrom 79 = .ok (.getfield 40, 3) := by decide +kernel
theorem dX3_copyFrom_82 : decode cX3_copyFrom 82 = .ok (.putfield 40, 3) := by decide +kernel
theorem dX3_copyFrom_85 : decode cX3_copyFrom 85 = .ok (.return_, 1) := by decide +kernel
theorem dX3_has_0 : decode cX3_has 0 = .ok (.iload_n 1, 1) := by decide +kernel
theorem dX3_has_1 : decode cX3_has 1 = .ok (.ifCond .lt 15, 3) := by decide +kernel
theorem dX3_has_4 : decode cX3_has 4 = .ok (.iload_n 1, 1) := by decide +kernel
theorem dX3_has_5 : decode cX3_has 5 = .ok (.aload_n 0, 1) := by decide +kernel
theorem dX3_has_6 : decode cX3_has 6 = .ok (.getfield 9, 3) := by decide +kernel
theorem dX3_has_9 : decode cX3_has 9 = .ok (.if_icmp .ge 7, 3) := by decide +kernel
theorem dX3_has_12 : decode cX3_has 12 = .ok (.iconst 1, 1) := by decide +kernel
theorem dX3_has_13 : decode cX3_has 13 = .ok (.goto 4, 3) := by decide +kernel
theorem dX3_has_16 : decode cX3_has 16 = .ok (.iconst 0, 1) := by decide +kernel
theorem dX3_has_17 : decode cX3_has 17 = .ok (.ireturn, 1) := by decide +kernel
theorem dX3_changeShares_0 : decode cX3_changeShares 0 = .ok (.aload_n 0, 1) := by decide +kernel
theorem dX3_changeShares_1 : decode cX3_changeShares 1 = .ok (.getfield 19, 3) := by decide +kernel
theorem dX3_changeShares_4 : decode cX3_changeShares 4 = .ok (.iload_n 1, 1) := by decide +kernel
theorem dX3_changeShares_5 : decode cX3_changeShares 5 = .ok (.iload_n 2, 1) := by decide +kernel
theorem dX3_changeShares_6 : decode cX3_changeShares 6 = .ok (.iastore, 1) := by decide +kernel
theorem dX3_changeShares_7 : decode cX3_changeShares 7 = .ok (.aload_n 0, 1) := by decide +kernel
theorem dX3_changeShares_8 : decode cX3_changeShares 8 = .ok (.getfield 22, 3) := by decide +kernel
theorem dX3_changeShares_11 : decode cX3_changeShares 11 = .ok (.iload_n 1, 1) := by decide +kernel
theorem dX3_changeShares_12 : decode cX3_changeShares 12 = .ok (.iload_n 3, 1) := by decide +kernel
theorem dX3_changeShares_13 : decode cX3_changeShares 13 = .ok (.iastore, 1) := by decide +kernel
theorem dX3_changeShares_14 : decode cX3_changeShares 14 = .ok (.return_, 1) := by decide +kernel
set_option maxRecDepth 20000 in
theorem ggX3_changeMany_X3_changeShares : GoodIn wsX3_changeMany wsX3_changeShares := goodIn_r _ [6, 7, 8, 9, 10, 11, 12, 13, 14, 15, 16] (by decide +kernel) (by decide +kernel)
set_option maxRecDepth 20000 in
theorem gX3_changeMany_X3_changeShares : GoodIn wsX3_changeMany (wsV RX3 43 RX3 yX3_changeShares wsX3_changeShares) := goodIn_app (goodIn_of _ (by decide +kernel)) ggX3_changeMany_X3_changeShares
theorem dX3_changeMany_0 : decode cX3_changeMany 0 = .ok (.iload_n 1, 1) := by decide +kernel
theorem dX3_changeMany_1 : decode cX3_changeMany 1 = .ok (.istore_n 2, 1) := by decide +kernel
theorem dX3_changeMany_2 : decode cX3_changeMany 2 = .ok (.iload_n 2, 1) := by decide +kernel
theorem dX3_changeMany_3 : decode cX3_changeMany 3 = .ok (.bipush 10, 2) := by decide +kernel
theorem dX3_changeMany_5 : decode cX3_changeMany 5 = .ok (.if_icmp .ge 16, 3) := by decide +kernel
theorem dX3_changeMany_8 : decode cX3_changeMany 8 = .ok (.aload_n 0, 1) := by decide +kernel
theorem dX3_changeMany_9 : decode cX3_changeMany 9 = .ok (.iload_n 2, 1) := by decide +kernel
theorem dX3_changeMany_10 : decode cX3_changeMany 10 = .ok (.iconst 0, 1) := by decide +kernel
theorem dX3_changeMany_11 : decode cX3_changeMany 11 = .ok (.iconst 0, 1) := by decide +kernel
theorem dX3_changeMany_12 : decode cX3_changeMany 12 = .ok (.invokevirtual 43, 3) := by decide +kernel
theorem dX3_changeMany_15 : decode cX3_changeMany 15 = .ok (.iinc 2 1, 3) := by decide +kernel
theorem dX3_changeMany_18 : decode cX3_changeMany 18 = .ok (.goto (-16), 3) := by decide +kernel
theorem dX3_changeMany_21 : decode cX3_changeMany 21 = .ok (.aload_n 0, 1) := by decide +kernel
theorem dX3_changeMany_22 : decode cX3_changeMany 22 = .ok (.iload_n 1, 1) := by decide +kernel
theorem dX3_changeMany_23 : decode cX3_changeMany 23 = .ok (.putfield 9, 3) := by decide +kernel
theorem dX3_changeMany_26 : decode cX3_changeMany 26 = .ok (.return_, 1) := by decide +kernel
set_option maxRecDepth 20000 in
theorem ggX3_empty_J7_fill_53178 : GoodIn wsX3_empty wsJ7_fill_53178 := goodIn_r _ [9] (by decide +kernel) (by decide +kernel)
set_option maxRecDepth 20000 in
theorem gX3_empty_J7_fill_53178 : GoodIn wsX3_empty (va_wsS RX3 47 yJ7_fill_53178 wsJ7_fill_53178) := goodIn_app (goodIn_of _ (by decide +kernel)) ggX3_empty_J7_fill_53178
theorem dX3_empty_0 : decode cX3_empty 0 = .ok (.aload_n 0, 1) := by decide +kernel
theorem dX3_empty_1 : decode cX3_empty 1 = .ok (.getfield 15, 3) := by decide +kernel
theorem dX3_empty_4 : decode cX3_empty 4 = .ok (.iconst 0, 1) := by decide +kernel
theorem dX3_empty_5 : decode cX3_empty 5 = .ok (.invokestatic 47, 3) := by decide +kernel
theorem dX3_empty_8 : decode cX3_empty 8 = .ok (.aload_n 0, 1) := by decide +kernel
theorem dX3_empty_9 : decode cX3_empty 9 = .ok (.iconst 0, 1) := by decide +kernel
theorem dX3_empty_10 : decode cX3_empty 10 = .ok (.putfield 31, 3) := by decide +kernel
theorem dX3_empty_13 : decode cX3_empty 13 = .ok (.aload_n 0, 1) := by decide +kernel
theorem dX3_empty_14 : decode cX3_empty 14 = .ok (.iconst 0, 1) := by decide +kernel
theorem dX3_empty_15 : decode cX3_empty 15 = .ok (.putfield 34, 3) := by decide +kernel
theorem dX3_empty_18 : decode cX3_empty 18 = .ok (.aload_n 0, 1) := by decide +kernel
theorem dX3_empty_19 : decode cX3_empty 19 = .ok (.iconst 0, 1) := by decide +kernel
theorem dX3_empty_20 : decode cX3_empty 20 = .ok (.putfield 37, 3) := by decide +kernel
theorem dX3_empty_23 : decode cX3_empty 23 = .ok (.aload_n 0, 1) := by decide +kernel
theorem dX3_empty_24 : decode cX3_empty 24 = .ok (.iconst 0, 1) := by decide +kernel
theorem dX3_empty_25 : decode cX3_empty 25 = .ok (.putfield 40, 3) := by decide +kernel
theorem dX3_empty_28 : decode cX3_empty 28 = .ok (.return_, 1) := by decide +kernel
theorem dX3_inStages_0 : decode cX3_inStages 0 = .ok (.iconst 0, 1) := by decide +kernel
theorem dX3_inStages_1 : decode cX3_inStages 1 = .ok (.istore_n 1, 1) := by decide +kernel
theorem dX3_inStages_2 : decode cX3_inStages 2 = .ok (.iconst 0, 1) := by decide +kernel
theorem dX3_inStages_3 : decode cX3_inStages 3 = .ok (.istore_n 2, 1) := by decide +kernel
theorem dX3_inStages_4 : decode cX3_inStages 4 = .ok (.iload_n 2, 1) := by decide +kernel
theorem dX3_inStages_5 : decode cX3_inStages 5 = .ok (.aload_n 0, 1) := by decide +kernel
theorem dX3_inStages_6 : decode cX3_inStages 6 = .ok (.getfield 9, 3) := by decide +kernel
theorem dX3_inStages_9 : decode cX3_inStages 9 = .ok (.if_icmp .ge 18, 3) := by decide +kernel
theorem dX3_inStages_12 : decode cX3_inStages 12 = .ok (.iload_n 1, 1) := by decide +kernel
theorem dX3_inStages_13 : decode cX3_inStages 13 = .ok (.aload_n 0, 1) := by decide +kernel
theorem dX3_inStages_14 : decode cX3_inStages 14 = .ok (.getfield 15, 3) := by decide +kernel
theorem dX3_inStages_17 : decode cX3_inStages 17 = .ok (.iload_n 2, 1) := by decide +kernel
theorem dX3_inStages_18 : decode cX3_inStages 18 = .ok (.iaload, 1) := by decide +kernel
theorem dX3_inStages_19 : decode cX3_inStages 19 = .ok (.iadd, 1) := by decide +kernel
theorem dX3_inStages_20 : decode cX3_inStages 20 = .ok (.istore_n 1, 1) := by decide +kernel
theorem dX3_inStages_21 : decode cX3_inStages 21 = .ok (.iinc 2 1, 3) := by decide +kernel
theorem dX3_inStages_24 : decode cX3_inStages 24 = .ok (.goto (-20), 3) := by decide +kernel
theorem dX3_inStages_27 : decode cX3_inStages 27 = .ok (.iload_n 1, 1) := by decide +kernel
theorem dX3_inStages_28 : decode cX3_inStages 28 = .ok (.ireturn, 1) := by decide +kernel
theorem dX3_staying_0 : decode cX3_staying 0 = .ok (.aload_n 0, 1) := by decide +kernel
theorem dX3_staying_1 : decode cX3_staying 1 = .ok (.getfield 15, 3) := by decide +kernel
theorem dX3_staying_4 : decode cX3_staying 4 = .ok (.iload_n 1, 1) := by decide +kernel
theorem dX3_staying_5 : decode cX3_staying 5 = .ok (.iaload, 1) := by decide +kernel
theorem dX3_staying_6 : decode cX3_staying 6 = .ok (.aload_n 0, 1) := by decide +kernel
theorem dX3_staying_7 : decode cX3_staying 7 = .ok (.getfield 19, 3) := by decide +kernel
theorem dX3_staying_10 : decode cX3_staying 10 = .ok (.iload_n 1, 1) := by decide +kernel
theorem dX3_staying_11 : decode cX3_staying 11 = .ok (.iaload, 1) := by decide +kernel
theorem dX3_staying_12 : decode cX3_staying 12 = .ok (.imul, 1) := by decide +kernel
theorem dX3_staying_13 : decode cX3_staying 13 = .ok (.sipush 1000, 3) := by decide +kernel
theorem dX3_staying_16 : decode cX3_staying 16 = .ok (.idiv, 1) := by decide +kernel
theorem dX3_staying_17 : decode cX3_staying 17 = .ok (.ireturn, 1) := by decide +kernel
set_option maxRecDepth 20000 in
theorem ggX3_leaking_X3_staying : GoodIn wsX3_leaking wsX3_staying := goodIn_r _ [7, 1, 8, 9, 10, 11, 12, 13, 14, 15, 16] (by decide +kernel) (by decide +kernel)
set_option maxRecDepth 20000 in
theorem gX3_leaking_X3_staying : GoodIn wsX3_leaking (wsV RX3 53 RX3 yX3_staying wsX3_staying) := goodIn_app (goodIn_of _ (by decide +kernel)) ggX3_leaking_X3_staying
theorem dX3_leaking_0 : decode cX3_leaking 0 = .ok (.aload_n 0, 1) := by decide +kernel
theorem dX3_leaking_1 : decode cX3_leaking 1 = .ok (.getfield 15, 3) := by decide +kernel
theorem dX3_leaking_4 : decode cX3_leaking 4 = .ok (.iload_n 1, 1) := by decide +kernel
theorem dX3_leaking_5 : decode cX3_leaking 5 = .ok (.iaload, 1) := by decide +kernel
theorem dX3_leaking_6 : decode cX3_leaking 6 = .ok (.aload_n 0, 1) := by decide +kernel
theorem dX3_leaking_7 : decode cX3_leaking 7 = .ok (.iload_n 1, 1) := by decide +kernel
theorem dX3_leaking_8 : decode cX3_leaking 8 = .ok (.invokevirtual 53, 3) := by decide +kernel
theorem dX3_leaking_11 : decode cX3_leaking 11 = .ok (.isub, 1) := by decide +kernel
theorem dX3_leaking_12 : decode cX3_leaking 12 = .ok (.aload_n 0, 1) := by decide +kernel
theorem dX3_leaking_13 : decode cX3_leaking 13 = .ok (.getfield 22, 3) := by decide +kernel
theorem dX3_leaking_16 : decode cX3_leaking 16 = .ok (.iload_n 1, 1) := by decide +kernel
theorem dX3_leaking_17 : decode cX3_leaking 17 = .ok (.iaload, 1) := by decide +kernel
theorem dX3_leaking_18 : decode cX3_leaking 18 = .ok (.imul, 1) := by decide +kernel
theorem dX3_leaking_19 : decode cX3_leaking 19 = .ok (.sipush 1000, 3) := by decide +kernel
theorem dX3_leaking_22 : decode cX3_leaking 22 = .ok (.idiv, 1) := by decide +kernel
theorem dX3_leaking_23 : decode cX3_leaking 23 = .ok (.ireturn, 1) := by decide +kernel
set_option maxRecDepth 20000 in
theorem ggX3_leaving_X3_staying : GoodIn wsX3_leaving wsX3_staying := goodIn_r _ [6, 1, 7, 13, 14, 15, 16, 17, 18, 19, 20] (by decide +kernel) (by decide +kernel)
set_option maxRecDepth 20000 in
theorem gX3_leaving_X3_staying : GoodIn wsX3_leaving (wsV RX3 53 RX3 yX3_staying wsX3_staying) := goodIn_app (goodIn_of _ (by decide +kernel)) ggX3_leaving_X3_staying
set_option maxRecDepth 20000 in
theorem ggX3_leaving_X3_leaking : GoodIn wsX3_leaving wsX3_leaking := goodIn_r _ [11, 1, 12, 2, 3, 4, 5, 6, 7, 13, 14, 15, 16, 17, 18, 19, 20] (by decide +kernel) (by decide +kernel)
set_option maxRecDepth 20000 in
theorem gX3_leaving_X3_leaking : GoodIn wsX3_leaving (wsV RX3 57 RX3 yX3_leaking wsX3_leaking) := goodIn_app (goodIn_of _ (by decide +kernel)) ggX3_leaving_X3_leaking
theorem dX3_leaving_0 : decode cX3_leaving 0 = .ok (.aload_n 0, 1) := by decide +kernel
theorem dX3_leaving_1 : decode cX3_leaving 1 = .ok (.getfield 15, 3) := by decide +kernel
theorem dX3_leaving_4 : decode cX3_leaving 4 = .ok (.iload_n 1, 1) := by decide +kernel
theorem dX3_leaving_5 : decode cX3_leaving 5 = .ok (.iaload, 1) := by decide +kernel
theorem dX3_leaving_6 : decode cX3_leaving 6 = .ok (.aload_n 0, 1) := by decide +kernel
theorem dX3_leaving_7 : decode cX3_leaving 7 = .ok (.iload_n 1, 1) := by decide +kernel
theorem dX3_leaving_8 : decode cX3_leaving 8 = .ok (.invokevirtual 53, 3) := by decide +kernel
theorem dX3_leaving_11 : decode cX3_leaving 11 = .ok (.isub, 1) := by decide +kernel
theorem dX3_leaving_12 : decode cX3_leaving 12 = .ok (.aload_n 0, 1) := by decide +kernel
theorem dX3_leaving_13 : decode cX3_leaving 13 = .ok (.iload_n 1, 1) := by decide +kernel
theorem dX3_leaving_14 : decode cX3_leaving 14 = .ok (.invokevirtual 57, 3) := by decide +kernel
theorem dX3_leaving_17 : decode cX3_leaving 17 = .ok (.isub, 1) := by decide +kernel
theorem dX3_leaving_18 : decode cX3_leaving 18 = .ok (.ireturn, 1) := by decide +kernel
set_option maxRecDepth 20000 in
theorem ggX3_handOver_X3_staying : GoodIn wsX3_handOver wsX3_staying := goodIn_r _ [15, 2, 16, 22, 23, 24, 25, 26, 27, 28, 29] (by decide +kernel) (by decide +kernel)
set_option maxRecDepth 20000 in
theorem gX3_handOver_X3_staying : GoodIn wsX3_handOver (wsV RX3 53 RX3 yX3_staying wsX3_staying) := goodIn_app (goodIn_of _ (by decide +kernel)) ggX3_handOver_X3_staying
set_option maxRecDepth 20000 in
theorem ggX3_handOver_X3_leaking : GoodIn wsX3_handOver wsX3_leaking := goodIn_r _ [20, 2, 21, 11, 12, 13, 14, 15, 16, 22, 23, 24, 25, 26, 27, 28, 29] (by decide +kernel) (by decide +kernel)
set_option maxRecDepth 20000 in
theorem gX3_handOver_X3_leaking : GoodIn wsX3_handOver (wsV RX3 57 RX3 yX3_leaking wsX3_leaking) := goodIn_app (goodIn_of _ (by decide +kernel)) ggX3_handOver_X3_leaking
theorem dX3_handOver_0 : decode cX3_handOver 0 = .ok (.iload_n 1, 1) := by decide +kernel
theorem dX3_handOver_1 : decode cX3_handOver 1 = .ok (.istore_n 3, 1) := by decide +kernel
theorem dX3_handOver_2 : decode cX3_handOver 2 = .ok (.iconst 0, 1) := by decide +kernel
theorem dX3_handOver_3 : decode cX3_handOver 3 = .ok (.istore 4, 2) := by decide +kernel
theorem dX3_handOver_5 : decode cX3_handOver 5 = .ok (.iload 4, 2) := by decide +kernel
theorem dX3_handOver_7 : decode cX3_handOver 7 = .ok (.aload_n 0, 1) := by decide +kernel
theorem dX3_handOver_8 : decode cX3_handOver 8 = .ok (.getfield 9, 3) := by decide +kernel
theorem dX3_handOver_11 : decode cX3_handOver 11 = .ok (.if_icmp .ge 92, 3) := by decide +kernel
theorem dX3_handOver_14 : decode cX3_handOver 14 = .ok (.aload_n 0, 1) := by decide +kernel
theorem dX3_handOver_15 : decode cX3_handOver 15 = .ok (.iload 4, 2) := by decide +kernel
theorem dX3_handOver_17 : decode cX3_handOver 17 = .ok (.invokevirtual 53, 3) := by decide +kernel
theorem dX3_handOver_20 : decode cX3_handOver 20 = .ok (.istore 5, 2) := by decide +kernel
theorem dX3_handOver_22 : decode cX3_handOver 22 = .ok (.aload_n 0, 1) := by decide +kernel
theorem dX3_handOver_23 : decode cX3_handOver 23 = .ok (.iload 4, 2) := by decide +kernel
theorem dX3_handOver_25 : decode cX3_handOver 25 = .ok (.invokevirtual 57, 3) := by decide +kernel
theorem dX3_handOver_28 : decode cX3_handOver 28 = .ok (.istore 6, 2) := by decide +kernel
theorem dX3_handOver_30 : decode cX3_handOver 30 = .ok (.aload_n 0, 1) := by decide +kernel
theorem dX3_handOver_31 : decode cX3_handOver 31 = .ok (.getfield 15, 3) := by decide +kernel
theorem dX3_handOver_34 : decode cX3_handOver 34 = .ok (.iload 4, 2) := by decide +kernel
theorem dX3_handOver_36 : decode cX3_handOver 36 = .ok (.iaload, 1) := by decide +kernel
theorem dX3_handOver_37 : decode cX3_handOver 37 = .ok (.iload 5, 2) := by decide +kernel
theorem dX3_handOver_39 : decode cX3_handOver 39 = .ok (.isub, 1) := by decide +kernel
theorem dX3_handOver_40 : decode cX3_handOver 40 = .ok (.iload 6, 2) := by decide +kernel
theorem dX3_handOver_42 : decode cX3_handOver 42 = .ok (.isub, 1) := by decide +kernel
theorem dX3_handOver_43 : decode cX3_handOver 43 = .ok (.istore 7, 2) := by decide +kernel
theorem dX3_handOver_45 : decode cX3_handOver 45 = .ok (.iload 5, 2) := by decide +kernel
theorem dX3_handOver_47 : decode cX3_handOver 47 = .ok (.iload_n 3, 1) := by decide +kernel
theorem dX3_handOver_48 : decode cX3_handOver 48 = .ok (.iadd, 1) := by decide +kernel
theorem dX3_handOver_49 : decode cX3_handOver 49 = .ok (.istore 8, 2) := by decide +kernel
theorem dX3_handOver_51 : decode cX3_handOver 51 = .ok (.aload_n 0, 1) := by decide +kernel
theorem dX3_handOver_52 : decode cX3_handOver 52 = .ok (.getfield 15, 3) := by decide +kernel
theorem dX3_handOver_55 : decode cX3_handOver 55 = .ok (.iload 4, 2) := by decide +kernel
theorem dX3_handOver_57 : decode cX3_handOver 57 = .ok (.iload 8, 2) := by decide +kernel
theorem dX3_handOver_59 : decode cX3_handOver 59 = .ok (.iload_n 2, 1) := by decide +kernel
theorem dX3_handOver_60 : decode cX3_handOver 60 = .ok (.invokestatic 60, 3) := by decide +kernel
theorem dX3_handOver_63 : decode cX3_handOver 63 = .ok (.iastore, 1) := by decide +kernel
theorem dX3_handOver_64 : decode cX3_handOver 64 = .ok (.aload_n 0, 1) := by decide +kernel
theorem dX3_handOver_65 : decode cX3_handOver 65 = .ok (.dup, 1) := by decide +kernel
theorem dX3_handOver_66 : decode cX3_handOver 66 = .ok (.getfield 40, 3) := by decide +kernel
theorem dX3_handOver_69 : decode cX3_handOver 69 = .ok (.iload 8, 2) := by decide +kernel
theorem dX3_handOver_71 : decode cX3_handOver 71 = .ok (.aload_n 0, 1) := by decide +kernel
theorem dX3_handOver_72 : decode cX3_handOver 72 = .ok (.getfield 15, 3) := by decide +kernel
theorem dX3_handOver_75 : decode cX3_handOver 75 = .ok (.iload 4, 2) := by decide +kernel
theorem dX3_handOver_77 : decode cX3_handOver 77 = .ok (.iaload, 1) := by decide +kernel
theorem dX3_handOver_78 : decode cX3_handOver 78 = .ok (.isub, 1) := by decide +kernel
theorem dX3_handOver_79 : decode cX3_handOver 79 = .ok (.iadd, 1) := by decide +kernel
theorem dX3_handOver_80 : decode cX3_handOver 80 = .ok (.putfield 40, 3) := by decide +kernel
theorem dX3_handOver_83 : decode cX3_handOver 83 = .ok (.aload_n 0, 1) := by decide +kernel
theorem dX3_handOver_84 : decode cX3_handOver 84 = .ok (.dup, 1) := by decide +kernel
theorem dX3_handOver_85 : decode cX3_handOver 85 = .ok (.getfield 37, 3) := by decide +kernel
theorem dX3_handOver_88 : decode cX3_handOver 88 = .ok (.iload 6, 2) := by decide +kernel
theorem dX3_handOver_90 : decode cX3_handOver 90 = .ok (.iadd, 1) := by decide +kernel
theorem dX3_handOver_91 : decode cX3_handOver 91 = .ok (.putfield 37, 3) := by decide +kernel
theorem dX3_handOver_94 : decode cX3_handOver 94 = .ok (.iload 7, 2) := by decide +kernel
theorem dX3_handOver_96 : decode cX3_handOver 96 = .ok (.istore_n 3, 1) := by decide +kernel
theorem dX3_handOver_97 : decode cX3_handOver 97 = .ok (.iinc 4 1, 3) := by decide +kernel
theorem dX3_handOver_100 : decode cX3_handOver 100 = .ok (.goto (-95), 3) := by decide +kernel
theorem dX3_handOver_103 : decode cX3_handOver 103 = .ok (.aload_n 0, 1) := by decide +kernel
theorem dX3_handOver_104 : decode cX3_handOver 104 = .ok (.dup, 1) := by decide +kernel
theorem dX3_handOver_105 : decode cX3_handOver 105 = .ok (.getfield 31, 3) := by decide +kernel
theorem dX3_handOver_108 : decode cX3_handOver 108 = .ok (.iload_n 1, 1) := by decide +kernel
theorem dX3_handOver_109 : decode cX3_handOver 109 = .ok (.iadd, 1) := by decide +kernel
theorem dX3_handOver_110 : decode cX3_handOver 110 = .ok (.putfield 31, 3) := by decide +kernel
theorem dX3_handOver_113 : decode cX3_handOver 113 = .ok (.aload_n 0, 1) := by decide +kernel
theorem dX3_handOver_114 : decode cX3_handOver 114 = .ok (.dup, 1) := by decide +kernel
theorem dX3_handOver_115 : decode cX3_handOver 115 = .ok (.getfield 34, 3) := by decide +kernel
theorem dX3_handOver_118 : decode cX3_handOver 118 = .ok (.iload_n 3, 1) := by decide +kernel
theorem dX3_handOver_119 : decode cX3_handOver 119 = .ok (.iadd, 1) := by decide +kernel
theorem dX3_handOver_120 : decode cX3_handOver 120 = .ok (.putfield 34, 3) := by decide +kernel
theorem dX3_handOver_123 : decode cX3_handOver 123 = .ok (.iload_n 3, 1) := by decide +kernel
theorem dX3_handOver_124 : decode cX3_handOver 124 = .ok (.ireturn, 1) := by decide +kernel
set_option maxRecDepth 20000 in
theorem ggX3_outputOfLone_X3_empty : GoodIn wsX3_outputOfLone wsX3_empty := goodIn_r _ [5, 6, 7, 8, 9, 10, 11, 12, 13, 14, 34, 35, 36, 37, 38, 39, 40, 41] (by decide +kernel) (by decide +kernel)
set_option maxRecDepth 20000 in
theorem gX3_outputOfLone_X3_empty : GoodIn wsX3_outputOfLone (wsV RX3 66 RX3 yX3_empty wsX3_empty) := goodIn_app (goodIn_of _ (by decide +kernel)) ggX3_outputOfLone_X3_empty
set_option maxRecDepth 20000 in
theorem ggX3_outputOfLone_X3_handOver : GoodIn wsX3_outputOfLone wsX3_handOver := goodIn_r _ [18, 19, 6, 20, 21, 22, 23, 10, 9, 7, 8, 24, 25, 26, 4, 27, 28, 29, 30, 31, 32, 33, 34, 35, 36, 37, 38, 39, 40, 41] (by decide +kernel) (by decide +kernel)
set_option maxRecDepth 20000 in
theorem gX3_outputOfLone_X3_handOver : GoodIn wsX3_outputOfLone (wsV RX3 69 RX3 yX3_handOver wsX3_handOver) := goodIn_app (goodIn_of _ (by decide +kernel)) ggX3_outputOfLone_X3_handOver
theorem dX3_outputOfLone_0 : decode cX3_outputOfLone 0 = .ok (.aload_n 0, 1) := by decide +kernel
theorem dX3_outputOfLone_1 : decode cX3_outputOfLone 1 = .ok (.invokevirtual 66, 3) := by decide +kernel
theorem dX3_outputOfLone_4 : decode cX3_outputOfLone 4 = .ok (.aload_n 0, 1) := by decide +kernel
theorem dX3_outputOfLone_5 : decode cX3_outputOfLone 5 = .ok (.iload_n 1, 1) := by decide +kernel
theorem dX3_outputOfLone_6 : decode cX3_outputOfLone 6 = .ok (.iload_n 3, 1) := by decide +kernel
theorem dX3_outputOfLone_7 : decode cX3_outputOfLone 7 = .ok (.invokevirtual 69, 3) := by decide +kernel
theorem dX3_outputOfLone_10 : decode cX3_outputOfLone 10 = .ok (.istore 4, 2) := by decide +kernel
theorem dX3_outputOfLone_12 : decode cX3_outputOfLone 12 = .ok (.iconst 0, 1) := by decide +kernel
theorem dX3_outputOfLone_13 : decode cX3_outputOfLone 13 = .ok (.istore 5, 2) := by decide +kernel
theorem dX3_outputOfLone_15 : decode cX3_outputOfLone 15 = .ok (.iload 5, 2) := by decide +kernel
theorem dX3_outputOfLone_17 : decode cX3_outputOfLone 17 = .ok (.iload_n 2, 1) := by decide +kernel
theorem dX3_outputOfLone_18 : decode cX3_outputOfLone 18 = .ok (.if_icmp .ge 17, 3) := by decide +kernel
theorem dX3_outputOfLone_21 : decode cX3_outputOfLone 21 = .ok (.aload_n 0, 1) := by decide +kernel
theorem dX3_outputOfLone_22 : decode cX3_outputOfLone 22 = .ok (.iconst 0, 1) := by decide +kernel
theorem dX3_outputOfLone_23 : decode cX3_outputOfLone 23 = .ok (.iload_n 3, 1) := by decide +kernel
theorem dX3_outputOfLone_24 : decode cX3_outputOfLone 24 = .ok (.invokevirtual 69, 3) := by decide +kernel
theorem dX3_outputOfLone_27 : decode cX3_outputOfLone 27 = .ok (.istore 4, 2) := by decide +kernel
theorem dX3_outputOfLone_29 : decode cX3_outputOfLone 29 = .ok (.iinc 5 1, 3) := by decide +kernel
theorem dX3_outputOfLone_32 : decode cX3_outputOfLone 32 = .ok (.goto (-17), 3) := by decide +kernel
theorem dX3_outputOfLone_35 : decode cX3_outputOfLone 35 = .ok (.iload 4, 2) := by decide +kernel
theorem dX3_outputOfLone_37 : decode cX3_outputOfLone 37 = .ok (.ireturn, 1) := by decide +kernel
set_option maxRecDepth 20000 in
theorem ggX3_holds_X3_empty : GoodIn wsX3_holds wsX3_empty := goodIn_r _ [6, 7, 8, 9, 10, 1, 11, 12, 13, 14, 34, 35, 36, 37, 38, 39, 40, 41] (by decide +kernel) (by decide +kernel)
set_option maxRecDepth 20000 in
theorem gX3_holds_X3_empty : GoodIn wsX3_holds (wsV RX3 66 RX3 yX3_empty wsX3_empty) := goodIn_app (goodIn_of _ (by decide +kernel)) ggX3_holds_X3_empty
set_option maxRecDepth 20000 in
theorem ggX3_holds_X3_handOver : GoodIn wsX3_holds wsX3_handOver := goodIn_r _ [18, 19, 7, 20, 21, 22, 23, 1, 10, 8, 9, 24, 25, 26, 5, 27, 28, 29, 30, 31, 32, 33, 34, 35, 36, 37, 38, 39, 40, 41] (by decide +kernel) (by decide +kernel)
set_option maxRecDepth 20000 in
theorem gX3_holds_X3_handOver : GoodIn wsX3_holds (wsV RX3 69 RX3 yX3_handOver wsX3_handOver) := goodIn_app (goodIn_of _ (by decide +kernel)) ggX3_holds_X3_handOver
theorem dX3_holds_0 : decode cX3_holds 0 = .ok (.aload_n 0, 1) := by decide +kernel
theorem dX3_holds_1 : decode cX3_holds 1 = .ok (.invokevirtual 66, 3) := by decide +kernel
theorem dX3_holds_4 : decode cX3_holds 4 = .ok (.iconst 0, 1) := by decide +kernel
theorem dX3_holds_5 : decode cX3_holds 5 = .ok (.istore 4, 2) := by decide +kernel
theorem dX3_holds_7 : decode cX3_holds 7 = .ok (.iload 4, 2) := by decide +kernel
theorem dX3_holds_9 : decode cX3_holds 9 = .ok (.iload_n 2, 1) := by decide +kernel
theorem dX3_holds_10 : decode cX3_holds 10 = .ok (.if_icmp .ge 23, 3) := by decide +kernel
theorem dX3_holds_13 : decode cX3_holds 13 = .ok (.aload_n 0, 1) := by decide +kernel
theorem dX3_holds_14 : decode cX3_holds 14 = .ok (.getfield 40, 3) := by decide +kernel
theorem dX3_holds_17 : decode cX3_holds 17 = .ok (.ifCond .ne 16, 3) := by decide +kernel
theorem dX3_holds_20 : decode cX3_holds 20 = .ok (.aload_n 0, 1) := by decide +kernel
theorem dX3_holds_21 : decode cX3_holds 21 = .ok (.iload_n 1, 1) := by decide +kernel
theorem dX3_holds_22 : decode cX3_holds 22 = .ok (.iload_n 3, 1) := by decide +kernel
theorem dX3_holds_23 : decode cX3_holds 23 = .ok (.invokevirtual 69, 3) := by decide +kernel
theorem dX3_holds_26 : decode cX3_holds 26 = .ok (.pop, 1) := by decide +kernel
theorem dX3_holds_27 : decode cX3_holds 27 = .ok (.iinc 4 1, 3) := by decide +kernel
theorem dX3_holds_30 : decode cX3_holds 30 = .ok (.goto (-23), 3) := by decide +kernel
theorem dX3_holds_33 : decode cX3_holds 33 = .ok (.aload_n 0, 1) := by decide +kernel
theorem dX3_holds_34 : decode cX3_holds 34 = .ok (.getfield 40, 3) := by decide +kernel
theorem dX3_holds_37 : decode cX3_holds 37 = .ok (.ifCond .ne 7, 3) := by decide +kernel
theorem dX3_holds_40 : decode cX3_holds 40 = .ok (.iconst 1, 1) := by decide +kernel
theorem dX3_holds_41 : decode cX3_holds 41 = .ok (.goto 4, 3) := by decide +kernel
theorem dX3_holds_44 : decode cX3_holds 44 = .ok (.iconst 0, 1) := by decide +kernel
theorem dX3_holds_45 : decode cX3_holds 45 = .ok (.ireturn, 1) := by decide +kernel
theorem dX4_init_0 : decode cX4_init 0 = .ok (.aload_n 0, 1) := by decide +kernel
theorem dX4_init_1 : decode cX4_init 1 = .ok (.invokespecial 3, 3) := by decide +kernel
theorem dX4_init_4 : decode cX4_init 4 = .ok (.aload_n 0, 1) := by decide +kernel
theorem dX4_init_5 : decode cX4_init 5 = .ok (.bipush 60, 2) := by decide +kernel
theorem dX4_init_7 : decode cX4_init 7 = .ok (.newarray .char, 2) := by decide +kernel
theorem dX4_init_9 : decode cX4_init 9 = .ok (.putfield 9, 3) := by decide +kernel
theorem dX4_init_12 : decode cX4_init 12 = .ok (.aload_n 0, 1) := by decide +kernel
theorem dX4_init_13 : decode cX4_init 13 = .ok (.iconst 3, 1) := by decide +kernel
theorem dX4_init_14 : decode cX4_init 14 = .ok (.newarray .int, 2) := by decide +kernel
theorem dX4_init_16 : decode cX4_init 16 = .ok (.putfield 15, 3) := by decide +kernel
theorem dX4_init_19 : decode cX4_init 19 = .ok (.return_, 1) := by decide +kernel
theorem dX4_append_0 : decode cX4_append 0 = .ok (.aload_n 0, 1) := by decide +kernel
theorem dX4_append_1 : decode cX4_append 1 = .ok (.getfield 19, 3) := by decide +kernel
theorem dX4_append_4 : decode cX4_append 4 = .ok (.bipush 60, 2) := by decide +kernel
theorem dX4_append_6 : decode cX4_append 6 = .ok (.if_icmp .ge 23, 3) := by decide +kernel
theorem dX4_append_9 : decode cX4_append 9 = .ok (.aload_n 0, 1) := by decide +kernel
theorem dX4_append_10 : decode cX4_append 10 = .ok (.getfield 9, 3) := by decide +kernel
theorem dX4_append_13 : decode cX4_append 13 = .ok (.aload_n 0, 1) := by decide +kernel
theorem dX4_append_14 : decode cX4_append 14 = .ok (.getfield 19, 3) := by decide +kernel
theorem dX4_append_17 : decode cX4_append 17 = .ok (.iload_n 1, 1) := by decide +kernel
theorem dX4_append_18 : decode cX4_append 18 = .ok (.castore, 1) := by decide +kernel
theorem dX4_append_19 : decode cX4_append 19 = .ok (.aload_n 0, 1) := by decide +kernel
theorem dX4_append_20 : decode cX4_append 20 = .ok (.dup, 1) := by decide +kernel
theorem dX4_append_21 : decode cX4_append 21 = .ok (.getfield 19, 3) := by decide +kernel
theorem dX4_append_24 : decode cX4_append 24 = .ok (.iconst 1, 1) := by decide +kernel
theorem dX4_append_25 : decode cX4_append 25 = .ok (.iadd, 1) := by decide +kernel
theorem dX4_append_26 : decode cX4_append 26 = .ok (.putfield 19, 3) := by decide +kernel
theorem dX4_append_29 : decode cX4_append 29 = .ok (.return_, 1) := by decide +kernel
theorem dX4_clear_0 : decode cX4_clear 0 = .ok (.aload_n 0, 1) := by decide +kernel
theorem dX4_clear_1 : decode cX4_clear 1 = .ok (.iconst 0, 1) := by decide +kernel
theorem dX4_clear_2 : decode cX4_clear 2 = .ok (.putfield 19, 3) := by decide +kernel
theorem dX4_clear_5 : decode cX4_clear 5 = .ok (.return_, 1) := by decide +kernel
set_option maxRecDepth 20000 in
theorem ggX4_faultPosition_X4_readPart : GoodIn wsX4_faultPosition wsX4_readPart := goodIn_r _ [12, 6, 4, 7, 13, 5, 14, 15, 16, 17, 11, 18, 19, 20, 21, 22, 3, 23, 24, 25, 26, 27, 28, 29, 30, 31, 32, 33, 34, 35, 36, 37, 38, 39, 40, 41, 42, 43, 44] (by decide +kernel) (by decide +kernel)
set_option maxRecDepth 20000 in
theorem gX4_faultPosition_X4_readPart : GoodIn wsX4_faultPosition (wsV RX4 29 RX4 yX4_readPart wsX4_readPart) := goodIn_app (goodIn_of _ (by decide +kernel)) ggX4_faultPosition_X4_readPart
theorem dX4_faultPosition_0 : decode cX4_faultPosition 0 = .ok (.aload_n 0, 1) := by decide +kernel
theorem dX4_faultPosition_1 : decode cX4_faultPosition 1 = .ok (.iconst 0, 1) := by decide +kernel
theorem dX4_faultPosition_2 : decode cX4_faultPosition 2 = .ok (.putfield 23, 3) := by decide +kernel
theorem dX4_faultPosition_5 : decode cX4_faultPosition 5 = .ok (.aload_n 0, 1) := by decide +kernel
theorem dX4_faultPosition_6 : decode cX4_faultPosition 6 = .ok (.iconst 0, 1) := by decide +kernel
theorem dX4_faultPosition_7 : decode cX4_faultPosition 7 = .ok (.putfield 26, 3) := by decide +kernel
theorem dX4_faultPosition_10 : decode cX4_faultPosition 10 = .ok (.iconst 0, 1) := by decide +kernel
theorem dX4_faultPosition_11 : decode cX4_faultPosition 11 = .ok (.istore_n 2, 1) := by decide +kernel
theorem dX4_faultPosition_12 : decode cX4_faultPosition 12 = .ok (.aload_n 0, 1) := by decide +kernel
theorem dX4_faultPosition_13 : decode cX4_faultPosition 13 = .ok (.getfield 23, 3) := by decide +kernel
theorem dX4_faultPosition_16 : decode cX4_faultPosition 16 = .ok (.bipush 60, 2) := by decide +kernel
theorem dX4_faultPosition_18 : decode cX4_faultPosition 18 = .ok (.if_icmp .ge 67, 3) := by decide +kernel
theorem dX4_faultPosition_21 : decode cX4_faultPosition 21 = .ok (.iload_n 2, 1) := by decide +kernel
theorem dX4_faultPosition_22 : decode cX4_faultPosition 22 = .ok (.aload_n 0, 1) := by decide +kernel
theorem dX4_faultPosition_23 : decode cX4_faultPosition 23 = .ok (.getfield 19, 3) := by decide +kernel
theorem dX4_faultPosition_26 : decode cX4_faultPosition 26 = .ok (.if_icmp .ge 59, 3) := by decide +kernel
theorem dX4_faultPosition_29 : decode cX4_faultPosition 29 = .ok (.aload_n 0, 1) := by decide +kernel
theorem dX4_faultPosition_30 : decode cX4_faultPosition 30 = .ok (.iload_n 2, 1) := by decide +kernel
theorem dX4_faultPosition_31 : decode cX4_faultPosition 31 = .ok (.iload_n 1, 1) := by decide +kernel
theorem dX4_faultPosition_32 : decode cX4_faultPosition 32 = .ok (.invokevirtual 29, 3) := by decide +kernel
theorem dX4_faultPosition_35 : decode cX4_faultPosition 35 = .ok (.aload_n 0, 1) := by decide +kernel
theorem dX4_faultPosition_36 : decode cX4_faultPosition 36 = .ok (.getfield 33, 3) := by decide +kernel
theorem dX4_faultPosition_39 : decode cX4_faultPosition 39 = .ok (.ifCond .eq 5, 3) := by decide +kernel
theorem dX4_faultPosition_42 : decode cX4_faultPosition 42 = .ok (.iload_n 2, 1) := by decide +kernel
theorem dX4_faultPosition_43 : decode cX4_faultPosition 43 = .ok (.ireturn, 1) := by decide +kernel
theorem dX4_faultPosition_44 : decode cX4_faultPosition 44 = .ok (.aload_n 0, 1) := by decide +kernel
theorem dX4_faultPosition_45 : decode cX4_faultPosition 45 = .ok (.dup, 1) := by decide +kernel
theorem dX4_faultPosition_46 : decode cX4_faultPosition 46 = .ok (.getfield 23, 3) := by decide +kernel
theorem dX4_faultPosition_49 : decode cX4_faultPosition 49 = .ok (.iconst 1, 1) := by decide +kernel
theorem dX4_faultPosition_50 : decode cX4_faultPosition 50 = .ok (.iadd, 1) := by decide +kernel
theorem dX4_faultPosition_51 : decode cX4_faultPosition 51 = .ok (.putfield 23, 3) := by decide +kernel
theorem dX4_faultPosition_54 : decode cX4_faultPosition 54 = .ok (.aload_n 0, 1) := by decide +kernel
theorem dX4_faultPosition_55 : decode cX4_faultPosition 55 = .ok (.dup, 1) := by decide +kernel
theorem dX4_faultPosition_56 : decode cX4_faultPosition 56 = .ok (.getfield 26, 3) := by decide +kernel
theorem dX4_faultPosition_59 : decode cX4_faultPosition 59 = .ok (.aload_n 0, 1) := by decide +kernel
theorem dX4_faultPosition_60 : decode cX4_faultPosition 60 = .ok (.getfield 36, 3) := by decide +kernel
theorem dX4_faultPosition_63 : decode cX4_faultPosition 63 = .ok (.bipush 115, 2) := by decide +kernel
theorem dX4_faultPosition_65 : decode cX4_faultPosition 65 = .ok (.if_icmp .ne 7, 3) := by decide +kernel
theorem dX4_faultPosition_68 : decode cX4_faultPosition 68 = .ok (.iconst 1, 1) := by decide +kernel
theorem dX4_faultPosition_69 : decode cX4_faultPosition 69 = .ok (.goto 4, 3) := by decide +kernel
theorem dX4_faultPosition_72 : decode cX4_faultPosition 72 = .ok (.iconst 0, 1) := by decide +kernel
theorem dX4_faultPosition_73 : decode cX4_faultPosition 73 = .ok (.iadd, 1) := by decide +kernel
theorem dX4_faultPosition_74 : decode cX4_faultPosition 74 = .ok (.putfield 26, 3) := by decide +kernel
theorem dX4_faultPosition_77 : decode cX4_faultPosition 77 = .ok (.aload_n 0, 1) := by decide +kernel
theorem dX4_faultPosition_78 : decode cX4_faultPosition 78 = .ok (.getfield 40, 3) := by decide +kernel
theorem dX4_faultPosition_81 : decode cX4_faultPosition 81 = .ok (.istore_n 2, 1) := by decide +kernel
theorem dX4_faultPosition_82 : decode cX4_faultPosition 82 = .ok (.goto (-70), 3) := by decide +kernel
theorem dX4_faultPosition_85 : decode cX4_faultPosition 85 = .ok (.ldc 43, 2) := by decide +kernel
theorem dX4_faultPosition_87 : decode cX4_faultPosition 87 = .ok (.ireturn, 1) := by decide +kernel
set_option maxRecDepth 20000 in
theorem ggX4_readPart_X4_readForm : GoodIn wsX4_readPart wsX4_readForm := goodIn_r _ [11, 5, 12, 13, 14, 10, 15, 1, 16, 17, 18, 19, 20, 21, 6, 22, 23, 24, 25, 30, 31, 32, 33, 34, 35, 36, 37, 38] (by decide +kernel) (by decide +kernel)
set_option maxRecDepth 20000 in
theorem gX4_readPart_X4_readForm : GoodIn wsX4_readPart (wsV RX4 47 RX4 yX4_readForm wsX4_readForm) := goodIn_app (goodIn_of _ (by decide +kernel)) ggX4_readPart_X4_readForm
set_option maxRecDepth 20000 in
theorem ggX4_readPart_X4_findOutOfRange : GoodIn wsX4_readPart wsX4_findOutOfRange := goodIn_r _ [29, 5, 2, 6, 4, 30, 31, 32, 33, 34, 35, 36, 37, 38] (by decide +kernel) (by decide +kernel)
set_option maxRecDepth 20000 in
theorem gX4_readPart_X4_findOutOfRange : GoodIn wsX4_readPart (wsV RX4 51 RX4 yX4_findOutOfRange wsX4_findOutOfRange) := goodIn_app (goodIn_of _ (by decide +kernel)) ggX4_readPart_X4_findOutOfRange
theorem dX4_readPart_0 : decode cX4_readPart 0 = .ok (.aload_n 0, 1) := by decide +kernel
theorem dX4_readPart_1 : decode cX4_readPart 1 = .ok (.iload_n 1, 1) := by decide +kernel
theorem dX4_readPart_2 : decode cX4_readPart 2 = .ok (.putfield 40, 3) := by decide +kernel
theorem dX4_readPart_5 : decode cX4_readPart 5 = .ok (.aload_n 0, 1) := by decide +kernel
theorem dX4_readPart_6 : decode cX4_readPart 6 = .ok (.iconst 0, 1) := by decide +kernel
theorem dX4_readPart_7 : decode cX4_readPart 7 = .ok (.putfield 33, 3) := by decide +kernel
theorem dX4_readPart_10 : decode cX4_readPart 10 = .ok (.aload_n 0, 1) := by decide +kernel
theorem dX4_readPart_11 : decode cX4_readPart 11 = .ok (.ldc 43, 2) := by decide +kernel
theorem dX4_readPart_13 : decode cX4_readPart 13 = .ok (.putfield 44, 3) := by decide +kernel
theorem dX4_readPart_16 : decode cX4_readPart 16 = .ok (.aload_n 0, 1) := by decide +kernel
theorem dX4_readPart_17 : decode cX4_readPart 17 = .ok (.invokevirtual 47, 3) := by decide +kernel
theorem dX4_readPart_20 : decode cX4_readPart 20 = .ok (.ifCond .ne 21, 3) := by decide +kernel
theorem dX4_readPart_23 : decode cX4_readPart 23 = .ok (.aload_n 0, 1) := by decide +kernel
theorem dX4_readPart_24 : decode cX4_readPart 24 = .ok (.iconst 1, 1) := by decide +kernel
theorem dX4_readPart_25 : decode cX4_readPart 25 = .ok (.putfield 33, 3) := by decide +kernel
theorem dX4_readPart_28 : decode cX4_readPart 28 = .ok (.aload_n 0, 1) := by decide +kernel
theorem dX4_readPart_29 : decode cX4_readPart 29 = .ok (.aload_n 0, 1) := by decide +kernel
theorem dX4_readPart_30 : decode cX4_readPart 30 = .ok (.getfield 40, 3) := by decide +kernel
theorem dX4_readPart_33 : decode cX4_readPart 33 = .ok (.iload_n 1, 1) := by decide +kernel
theorem dX4_readPart_34 : decode cX4_readPart 34 = .ok (.isub, 1) := by decide +kernel
theorem dX4_readPart_35 : decode cX4_readPart 35 = .ok (.putfield 44, 3) := by decide +kernel
theorem dX4_readPart_38 : decode cX4_readPart 38 = .ok (.goto 34, 3) := by decide +kernel
theorem dX4_readPart_41 : decode cX4_readPart 41 = .ok (.aload_n 0, 1) := by decide +kernel
theorem dX4_readPart_42 : decode cX4_readPart 42 = .ok (.getfield 36, 3) := by decide +kernel
theorem dX4_readPart_45 : decode cX4_readPart 45 = .ok (.bipush 108, 2) := by decide +kernel
theorem dX4_readPart_47 : decode cX4_readPart 47 = .ok (.if_icmp .ne 21, 3) := by decide +kernel
theorem dX4_readPart_50 : decode cX4_readPart 50 = .ok (.aload_n 0, 1) := by decide +kernel
theorem dX4_readPart_51 : decode cX4_readPart 51 = .ok (.getfield 15, 3) := by decide +kernel
theorem dX4_readPart_54 : decode cX4_readPart 54 = .ok (.iconst 0, 1) := by decide +kernel
theorem dX4_readPart_55 : decode cX4_readPart 55 = .ok (.iaload, 1) := by decide +kernel
theorem dX4_readPart_56 : decode cX4_readPart 56 = .ok (.iload_n 2, 1) := by decide +kernel
theorem dX4_readPart_57 : decode cX4_readPart 57 = .ok (.if_icmp .lt 11, 3) := by decide +kernel
theorem dX4_readPart_60 : decode cX4_readPart 60 = .ok (.aload_n 0, 1) := by decide +kernel
theorem dX4_readPart_61 : decode cX4_readPart 61 = .ok (.iconst 2, 1) := by decide +kernel
theorem dX4_readPart_62 : decode cX4_readPart 62 = .ok (.putfield 33, 3) := by decide +kernel
theorem dX4_readPart_65 : decode cX4_readPart 65 = .ok (.goto 7, 3) := by decide +kernel
theorem dX4_readPart_68 : decode cX4_readPart 68 = .ok (.aload_n 0, 1) := by decide +kernel
theorem dX4_readPart_69 : decode cX4_readPart 69 = .ok (.invokevirtual 51, 3) := by decide +kernel
theorem dX4_readPart_72 : decode cX4_readPart 72 = .ok (.return_, 1) := by decide +kernel
theorem dX4_findOutOfRange_0 : decode cX4_findOutOfRange 0 = .ok (.aload_n 0, 1) := by decide +kernel
theorem dX4_findOutOfRange_1 : decode cX4_findOutOfRange 1 = .ok (.getfield 36, 3) := by decide +kernel
theorem dX4_findOutOfRange_4 : decode cX4_findOutOfRange 4 = .ok (.bipush 115, 2) := by decide +kernel
theorem dX4_findOutOfRange_6 : decode cX4_findOutOfRange 6 = .ok (.if_icmp .ne 9, 3) := by decide +kernel
theorem dX4_findOutOfRange_9 : decode cX4_findOutOfRange 9 = .ok (.sipush 10000, 3) := by decide +kernel
theorem dX4_findOutOfRange_12 : decode cX4_findOutOfRange 12 = .ok (.goto 6, 3) := by decide +kernel
theorem dX4_findOutOfRange_15 : decode cX4_findOutOfRange 15 = .ok (.sipush 300, 3) := by decide +kernel
theorem dX4_findOutOfRange_18 : decode cX4_findOutOfRange 18 = .ok (.istore_n 1, 1) := by decide +kernel
theorem dX4_findOutOfRange_19 : decode cX4_findOutOfRange 19 = .ok (.aload_n 0, 1) := by decide +kernel
theorem dX4_findOutOfRange_20 : decode cX4_findOutOfRange 20 = .ok (.getfield 36, 3) := by decide +kernel
theorem dX4_findOutOfRange_23 : decode cX4_findOutOfRange 23 = .ok (.bipush 115, 2) := by decide +kernel
theorem dX4_findOutOfRange_25 : decode cX4_findOutOfRange 25 = .ok (.if_icmp .ne 7, 3) := by decide +kernel
theorem dX4_findOutOfRange_28 : decode cX4_findOutOfRange 28 = .ok (.iconst 1, 1) := by decide +kernel
theorem dX4_findOutOfRange_29 : decode cX4_findOutOfRange 29 = .ok (.goto 4, 3) := by decide +kernel
theorem dX4_findOutOfRange_32 : decode cX4_findOutOfRange 32 = .ok (.iconst 3, 1) := by decide +kernel
theorem dX4_findOutOfRange_33 : decode cX4_findOutOfRange 33 = .ok (.istore_n 2, 1) := by decide +kernel
theorem dX4_findOutOfRange_34 : decode cX4_findOutOfRange 34 = .ok (.iconst 0, 1) := by decide +kernel
theorem dX4_findOutOfRange_35 : decode cX4_findOutOfRange 35 = .ok (.istore_n 3, 1) := by decide +kernel
theorem dX4_findOutOfRange_36 : decode cX4_findOutOfRange 36 = .ok (.iload_n 3, 1) := by decide +kernel
theorem dX4_findOutOfRange_37 : decode cX4_findOutOfRange 37 = .ok (.iload_n 2, 1) := by decide +kernel
theorem dX4_findOutOfRange_38 : decode cX4_findOutOfRange 38 = .ok (.if_icmp .ge 36, 3) := by decide +kernel
theorem dX4_findOutOfRange_41 : decode cX4_findOutOfRange 41 = .ok (.aload_n 0, 1) := by decide +kernel
theorem dX4_findOutOfRange_42 : decode cX4_findOutOfRange 42 = .ok (.getfield 33, 3) := by decide +kernel
theorem dX4_findOutOfRange_45 : decode cX4_findOutOfRange 45 = .ok (.ifCond .ne 29, 3) := by decide +kernel
theorem dX4_findOutOfRange_48 : decode cX4_findOutOfRange 48 = .ok (.aload_n 0, 1) := by decide +kernel
theorem dX4_findOutOfRange_49 : decode cX4_findOutOfRange 49 = .ok (.getfield 15, 3) := by decide +kernel
theorem dX4_findOutOfRange_52 : decode cX4_findOutOfRange 52 = .ok (.iload_n 3, 1) := by decide +kernel
theorem dX4_findOutOfRange_53 : decode cX4_findOutOfRange 53 = .ok (.iaload, 1) := by decide +kernel
theorem dX4_findOutOfRange_54 : decode cX4_findOutOfRange 54 = .ok (.iload_n 1, 1) := by decide +kernel
theorem dX4_findOutOfRange_55 : decode cX4_findOutOfRange 55 = .ok (.if_icmp .le 13, 3) := by decide +kernel
theorem dX4_findOutOfRange_58 : decode cX4_findOutOfRange 58 = .ok (.aload_n 0, 1) := by decide +kernel
theorem dX4_findOutOfRange_59 : decode cX4_findOutOfRange 59 = .ok (.iconst 3, 1) := by decide +kernel
theorem dX4_findOutOfRange_60 : decode cX4_findOutOfRange 60 = .ok (.putfield 33, 3) := by decide +kernel
theorem dX4_findOutOfRange_63 : decode cX4_findOutOfRange 63 = .ok (.aload_n 0, 1) := by decide +kernel
theorem dX4_findOutOfRange_64 : decode cX4_findOutOfRange 64 = .ok (.iload_n 3, 1) := by decide +kernel
theorem dX4_findOutOfRange_65 : decode cX4_findOutOfRange 65 = .ok (.putfield 44, 3) := by decide +kernel
theorem dX4_findOutOfRange_68 : decode cX4_findOutOfRange 68 = .ok (.iinc 3 1, 3) := by decide +kernel
theorem dX4_findOutOfRange_71 : decode cX4_findOutOfRange 71 = .ok (.goto (-35), 3) := by decide +kernel
theorem dX4_findOutOfRange_74 : decode cX4_findOutOfRange 74 = .ok (.return_, 1) := by decide +kernel
set_option maxRecDepth 20000 in
theorem ggX4_readForm_X4_reads : GoodIn wsX4_readForm wsX4_reads := goodIn_r _ [6, 7, 8, 9, 19, 20, 21, 22, 23, 24, 25, 26, 27] (by decide +kernel) (by decide +kernel)
set_option maxRecDepth 20000 in
theorem gX4_readForm_X4_reads : GoodIn wsX4_readForm (wsV RX4 54 RX4 yX4_reads wsX4_reads) := goodIn_app (goodIn_of _ (by decide +kernel)) ggX4_readForm_X4_reads
set_option maxRecDepth 20000 in
theorem ggX4_readForm_X4_readsNumber : GoodIn wsX4_readForm wsX4_readsNumber := goodIn_r _ [13, 9, 7, 14, 15, 16, 17, 5, 18, 8, 19, 20, 21, 22, 23, 24, 25, 26, 27] (by decide +kernel) (by decide +kernel)
set_option maxRecDepth 20000 in
theorem gX4_readForm_X4_readsNumber : GoodIn wsX4_readForm (wsV RX4 58 RX4 yX4_readsNumber wsX4_readsNumber) := goodIn_app (goodIn_of _ (by decide +kernel)) ggX4_readForm_X4_readsNumber
theorem dX4_readForm_0 : decode cX4_readForm 0 = .ok (.aload_n 0, 1) := by decide +kernel
theorem dX4_readForm_1 : decode cX4_readForm 1 = .ok (.bipush 115, 2) := by decide +kernel
theorem dX4_readForm_3 : decode cX4_readForm 3 = .ok (.invokevirtual 54, 3) := by decide +kernel
theorem dX4_readForm_6 : decode cX4_readForm 6 = .ok (.ifCond .eq 33, 3) := by decide +kernel
theorem dX4_readForm_9 : decode cX4_readForm 9 = .ok (.aload_n 0, 1) := by decide +kernel
theorem dX4_readForm_10 : decode cX4_readForm 10 = .ok (.bipush 115, 2) := by decide +kernel
theorem dX4_readForm_12 : decode cX4_readForm 12 = .ok (.putfield 36, 3) := by decide +kernel
theorem dX4_readForm_15 : decode cX4_readForm 15 = .ok (.aload_n 0, 1) := by decide +kernel
theorem dX4_readForm_16 : decode cX4_readForm 16 = .ok (.iconst 0, 1) := by decide +kernel
theorem dX4_readForm_17 : decode cX4_readForm 17 = .ok (.iconst 5, 1) := by decide +kernel
theorem dX4_readForm_18 : decode cX4_readForm 18 = .ok (.invokevirtual 58, 3) := by decide +kernel
theorem dX4_readForm_21 : decode cX4_readForm 21 = .ok (.ifCond .eq 16, 3) := by decide +kernel
theorem dX4_readForm_24 : decode cX4_readForm 24 = .ok (.aload_n 0, 1) := by decide +kernel
theorem dX4_readForm_25 : decode cX4_readForm 25 = .ok (.bipush 59, 2) := by decide +kernel
theorem dX4_readForm_27 : decode cX4_readForm 27 = .ok (.invokevirtual 54, 3) := by decide +kernel
theorem dX4_readForm_30 : decode cX4_readForm 30 = .ok (.ifCond .eq 7, 3) := by decide +kernel
theorem dX4_readForm_33 : decode cX4_readForm 33 = .ok (.iconst 1, 1) := by decide +kernel
theorem dX4_readForm_34 : decode cX4_readForm 34 = .ok (.goto 4, 3) := by decide +kernel
theorem dX4_readForm_37 : decode cX4_readForm 37 = .ok (.iconst 0, 1) := by decide +kernel
theorem dX4_readForm_38 : decode cX4_readForm 38 = .ok (.ireturn, 1) := by decide +kernel
theorem dX4_readForm_39 : decode cX4_readForm 39 = .ok (.aload_n 0, 1) := by decide +kernel
theorem dX4_readForm_40 : decode cX4_readForm 40 = .ok (.bipush 108, 2) := by decide +kernel
theorem dX4_readForm_42 : decode cX4_readForm 42 = .ok (.invokevirtual 54, 3) := by decide +kernel
theorem dX4_readForm_45 : decode cX4_readForm 45 = .ok (.ifCond .eq 69, 3) := by decide +kernel
theorem dX4_readForm_48 : decode cX4_readForm 48 = .ok (.aload_n 0, 1) := by decide +kernel
theorem dX4_readForm_49 : decode cX4_readForm 49 = .ok (.bipush 108, 2) := by decide +kernel
theorem dX4_readForm_51 : decode cX4_readForm 51 = .ok (.putfield 36, 3) := by decide +kernel
theorem dX4_readForm_54 : decode cX4_readForm 54 = .ok (.aload_n 0, 1) := by decide +kernel
theorem dX4_readForm_55 : decode cX4_readForm 55 = .ok (.iconst 0, 1) := by decide +kernel
theorem dX4_readForm_56 : decode cX4_readForm 56 = .ok (.iconst 1, 1) := by decide +kernel
theorem dX4_readForm_57 : decode cX4_readForm 57 = .ok (.invokevirtual 58, 3) := by decide +kernel
theorem dX4_readForm_60 : decode cX4_readForm 60 = .ok (.ifCond .eq 52, 3) := by decide +kernel
theorem dX4_readForm_63 : decode cX4_readForm 63 = .ok (.aload_n 0, 1) := by decide +kernel
theorem dX4_readForm_64 : decode cX4_readForm 64 = .ok (.bipush 44, 2) := by decide +kernel
theorem dX4_readForm_66 : decode cX4_readForm 66 = .ok (.invokevirtual 54, 3) := by decide +kernel
theorem dX4_readForm_69 : decode cX4_readForm 69 = .ok (.ifCond .eq 43, 3) := by decide +kernel
theorem dX4_readForm_72 : decode cX4_readForm 72 = .ok (.aload_n 0, 1) := by decide +kernel
theorem dX4_readForm_73 : decode cX4_readForm 73 = .ok (.iconst 1, 1) := by decide +kernel
theorem dX4_readForm_74 : decode cX4_readForm 74 = .ok (.iconst 5, 1) := by decide +kernel
theorem dX4_readForm_75 : decode cX4_readForm 75 = .ok (.invokevirtual 58, 3) := by decide +kernel
theorem dX4_readForm_78 : decode cX4_readForm 78 = .ok (.ifCond .eq 34, 3) := by decide +kernel
theorem dX4_readForm_81 : decode cX4_readForm 81 = .ok (.aload_n 0, 1) := by decide +kernel
theorem dX4_readForm_82 : decode cX4_readForm 82 = .ok (.bipush 44, 2) := by decide +kernel
theorem dX4_readForm_84 : decode cX4_readForm 84 = .ok (.invokevirtual 54, 3) := by decide +kernel
theorem dX4_readForm_87 : decode cX4_readForm 87 = .ok (.ifCond .eq 25, 3) := by decide +kernel
theorem dX4_readForm_90 : decode cX4_readForm 90 = .ok (.aload_n 0, 1) := by decide +kernel
theorem dX4_readForm_91 : decode cX4_readForm 91 = .ok (.iconst 2, 1) := by decide +kernel
theorem dX4_readForm_92 : decode cX4_readForm 92 = .ok (.iconst 5, 1) := by decide +kernel
theorem dX4_readForm_93 : decode cX4_readForm 93 = .ok (.invokevirtual 58, 3) := by decide +kernel
theorem dX4_readForm_96 : decode cX4_readForm 96 = .ok (.ifCond .eq 16, 3) := by decide +kernel
theorem dX4_readForm_99 : decode cX4_readForm 99 = .ok (.aload_n 0, 1) := by decide +kernel
theorem dX4_readForm_100 : decode cX4_readForm 100 = .ok (.bipush 59, 2) := by decide +kernel
theorem dX4_readForm_102 : decode cX4_readForm 102 = .ok (.invokevirtual 54, 3) := by decide +kernel
theorem dX4_readForm_105 : decode cX4_readForm 105 = .ok (.ifCond .eq 7, 3) := by decide +kernel
theorem dX4_readForm_108 : decode cX4_readForm 108 = .ok (.iconst 1, 1) := by decide +kernel
theorem dX4_readForm_109 : decode cX4_readForm 109 = .ok (.goto 4, 3) := by decide +kernel
theorem dX4_readForm_112 : decode cX4_readForm 112 = .ok (.iconst 0, 1) := by decide +kernel
theorem dX4_readForm_113 : decode cX4_readForm 113 = .ok (.ireturn, 1) := by decide +kernel
theorem dX4_readForm_114 : decode cX4_readForm 114 = .ok (.iconst 0, 1) := by decide +kernel
theorem dX4_readForm_115 : decode cX4_readForm 115 = .ok (.ireturn, 1) := by decide +kernel
theorem dX4_reads_0 : decode cX4_reads 0 = .ok (.aload_n 0, 1) := by decide +kernel
theorem dX4_reads_1 : decode cX4_reads 1 = .ok (.getfield 40, 3) := by decide +kernel
theorem dX4_reads_4 : decode cX4_reads 4 = .ok (.aload_n 0, 1) := by decide +kernel
theorem dX4_reads_5 : decode cX4_reads 5 = .ok (.getfield 19, 3) := by decide +kernel
theorem dX4_reads_8 : decode cX4_reads 8 = .ok (.if_icmp .ge 25, 3) := by decide +kernel
theorem dX4_reads_11 : decode cX4_reads 11 = .ok (.aload_n 0, 1) := by decide +kernel
theorem dX4_reads_12 : decode cX4_reads 12 = .ok (.getfield 40, 3) := by decide +kernel
theorem dX4_reads_15 : decode cX4_reads 15 = .ok (.bipush 60, 2) := by decide +kernel
theorem dX4_reads_17 : decode cX4_reads 17 = .ok (.if_icmp .ge 16, 3) := by decide +kernel
theorem dX4_reads_20 : decode cX4_reads 20 = .ok (.aload_n 0, 1) := by decide +kernel
theorem dX4_reads_21 : decode cX4_reads 21 = .ok (.getfield 9, 3) := by decide +kernel
theorem dX4_reads_24 : decode cX4_reads 24 = .ok (.aload_n 0, 1) := by decide +kernel
theorem dX4_reads_25 : decode cX4_reads 25 = .ok (.getfield 40, 3) := by decide +kernel
theorem dX4_reads_28 : decode cX4_reads 28 = .ok (.caload, 1) := by decide +kernel
theorem dX4_reads_29 : decode cX4_reads 29 = .ok (.iload_n 1, 1) := by decide +kernel
theorem dX4_reads_30 : decode cX4_reads 30 = .ok (.if_icmp .eq 5, 3) := by decide +kernel
theorem dX4_reads_33 : decode cX4_reads 33 = .ok (.iconst 0, 1) := by decide +kernel
theorem dX4_reads_34 : decode cX4_reads 34 = .ok (.ireturn, 1) := by decide +kernel
theorem dX4_reads_35 : decode cX4_reads 35 = .ok (.aload_n 0, 1) := by decide +kernel
theorem dX4_reads_36 : decode cX4_reads 36 = .ok (.dup, 1) := by decide +kernel
theorem dX4_reads_37 : decode cX4_reads 37 = .ok (.getfield 40, 3) := by decide +kernel
theorem dX4_reads_40 : decode cX4_reads 40 = .ok (.iconst 1, 1) := by decide +kernel
theorem dX4_reads_41 : decode cX4_reads 41 = .ok (.iadd, 1) := by decide +kernel
theorem dX4_reads_42 : decode cX4_reads 42 = .ok (.putfield 40, 3) := by decide +kernel
theorem dX4_reads_45 : decode cX4_reads 45 = .ok (.iconst 1, 1) := by decide +kernel
theorem dX4_reads_46 : decode cX4_reads 46 = .ok (.ireturn, 1) := by decide +kernel
set_option maxRecDepth 20000 in
theorem ggX4_readsNumber_X4_atDigit : GoodIn wsX4_readsNumber wsX4_atDigit := goodIn_r _ [8, 2, 9, 1, 10, 11, 12, 13, 14, 15, 16, 17, 18] (by decide +kernel) (by decide +kernel)
set_option maxRecDepth 20000 in
theorem gX4_readsNumber_X4_atDigit : GoodIn wsX4_readsNumber (wsV RX4 62 RX4 yX4_atDigit wsX4_atDigit) := goodIn_app (goodIn_of _ (by decide +kernel)) ggX4_readsNumber_X4_atDigit
theorem dX4_readsNumber_0 : decode cX4_readsNumber 0 = .ok (.iconst 0, 1) := by decide +kernel
theorem dX4_readsNumber_1 : decode cX4_readsNumber 1 = .ok (.istore_n 3, 1) := by decide +kernel
theorem dX4_readsNumber_2 : decode cX4_readsNumber 2 = .ok (.iconst 0, 1) := by decide +kernel
theorem dX4_readsNumber_3 : decode cX4_readsNumber 3 = .ok (.istore 4, 2) := by decide +kernel
theorem dX4_readsNumber_5 : decode cX4_readsNumber 5 = .ok (.iload 4, 2) := by decide +kernel
theorem dX4_readsNumber_7 : decode cX4_readsNumber 7 = .ok (.iload_n 2, 1) := by decide +kernel
theorem dX4_readsNumber_8 : decode cX4_readsNumber 8 = .ok (.if_icmp .ge 44, 3) := by decide +kernel
theorem dX4_readsNumber_11 : decode cX4_readsNumber 11 = .ok (.aload_n 0, 1) := by decide +kernel
theorem dX4_readsNumber_12 : decode cX4_readsNumber 12 = .ok (.invokevirtual 62, 3) := by decide +kernel
theorem dX4_readsNumber_15 : decode cX4_readsNumber 15 = .ok (.ifCond .eq 37, 3) := by decide +kernel
theorem dX4_readsNumber_18 : decode cX4_readsNumber 18 = .ok (.bipush 10, 2) := by decide +kernel
theorem dX4_readsNumber_20 : decode cX4_readsNumber 20 = .ok (.iload_n 3, 1) := by decide +kernel
theorem dX4_readsNumber_21 : decode cX4_readsNumber 21 = .ok (.imul, 1) := by decide +kernel
theorem dX4_readsNumber_22 : decode cX4_readsNumber 22 = .ok (.aload_n 0, 1) := by decide +kernel
theorem dX4_readsNumber_23 : decode cX4_readsNumber 23 = .ok (.getfield 9, 3) := by decide +kernel
theorem dX4_readsNumber_26 : decode cX4_readsNumber 26 = .ok (.aload_n 0, 1) := by decide +kernel
theorem dX4_readsNumber_27 : decode cX4_readsNumber 27 = .ok (.getfield 40, 3) := by decide +kernel
theorem dX4_readsNumber_30 : decode cX4_readsNumber 30 = .ok (.caload, 1) := by decide +kernel
theorem dX4_readsNumber_31 : decode cX4_readsNumber 31 = .ok (.bipush 48, 2) := by decide +kernel
theorem dX4_readsNumber_33 : decode cX4_readsNumber 33 = .ok (.isub, 1) := by decide +kernel
theorem dX4_readsNumber_34 : decode cX4_readsNumber 34 = .ok (.iadd, 1) := by decide +kernel
theorem dX4_readsNumber_35 : decode cX4_readsNumber 35 = .ok (.istore_n 3, 1) := by decide +kernel
theorem dX4_readsNumber_36 : decode cX4_readsNumber 36 = .ok (.aload_n 0, 1) := by decide +kernel
theorem dX4_readsNumber_37 : decode cX4_readsNumber 37 = .ok (.dup, 1) := by decide +kernel
theorem dX4_readsNumber_38 : decode cX4_readsNumber 38 = .ok (.getfield 40, 3) := by decide +kernel
theorem dX4_readsNumber_41 : decode cX4_readsNumber 41 = .ok (.iconst 1, 1) := by decide +kernel
theorem dX4_readsNumber_42 : decode cX4_readsNumber 42 = .ok (.iadd, 1) := by decide +kernel
theorem dX4_readsNumber_43 : decode cX4_readsNumber 43 = .ok (.putfield 40, 3) := by decide +kernel
theorem dX4_readsNumber_46 : decode cX4_readsNumber 46 = .ok (.iinc 4 1, 3) := by decide +kernel
theorem dX4_readsNumber_49 : decode cX4_readsNumber 49 = .ok (.goto (-44), 3) := by decide +kernel
theorem dX4_readsNumber_52 : decode cX4_readsNumber 52 = .ok (.aload_n 0, 1) := by decide +kernel
theorem dX4_readsNumber_53 : decode cX4_readsNumber 53 = .ok (.getfield 15, 3) := by decide +kernel
theorem dX4_readsNumber_56 : decode cX4_readsNumber 56 = .ok (.iload_n 1, 1) := by decide +kernel
theorem dX4_readsNumber_57 : decode cX4_readsNumber 57 = .ok (.iload_n 3, 1) := by decide +kernel
theorem dX4_readsNumber_58 : decode cX4_readsNumber 58 = .ok (.iastore, 1) := by decide +kernel
theorem dX4_readsNumber_59 : decode cX4_readsNumber 59 = .ok (.iload 4, 2) := by decide +kernel
theorem dX4_readsNumber_61 : decode cX4_readsNumber 61 = .ok (.ifCond .le 7, 3) := by decide +kernel
theorem dX4_readsNumber_64 : decode cX4_readsNumber 64 = .ok (.iconst 1, 1) := by decide +kernel
theorem dX4_readsNumber_65 : decode cX4_readsNumber 65 = .ok (.goto 4, 3) := by decide +kernel
theorem dX4_readsNumber_68 : decode cX4_readsNumber 68 = .ok (.iconst 0, 1) := by decide +kernel
theorem dX4_readsNumber_69 : decode cX4_readsNumber 69 = .ok (.ireturn, 1) := by decide +kernel
theorem dX4_atDigit_0 : decode cX4_atDigit 0 = .ok (.aload_n 0, 1) := by decide +kernel
theorem dX4_atDigit_1 : decode cX4_atDigit 1 = .ok (.getfield 40, 3) := by decide +kernel
theorem dX4_atDigit_4 : decode cX4_atDigit 4 = .ok (.aload_n 0, 1) := by decide +kernel
theorem dX4_atDigit_5 : decode cX4_atDigit 5 = .ok (.getfield 19, 3) := by decide +kernel
theorem dX4_atDigit_8 : decode cX4_atDigit 8 = .ok (.if_icmp .ge 44, 3) := by decide +kernel
theorem dX4_atDigit_11 : decode cX4_atDigit 11 = .ok (.aload_n 0, 1) := by decide +kernel
theorem dX4_atDigit_12 : decode cX4_atDigit 12 = .ok (.getfield 40, 3) := by decide +kernel
theorem dX4_atDigit_15 : decode cX4_atDigit 15 = .ok (.bipush 60, 2) := by decide +kernel
theorem dX4_atDigit_17 : decode cX4_atDigit 17 = .ok (.if_icmp .ge 35, 3) := by decide +kernel
theorem dX4_atDigit_20 : decode cX4_atDigit 20 = .ok (.aload_n 0, 1) := by decide +kernel
theorem dX4_atDigit_21 : decode cX4_atDigit 21 = .ok (.getfield 9, 3) := by decide +kernel
theorem dX4_atDigit_24 : decode cX4_atDigit 24 = .ok (.aload_n 0, 1) := by decide +kernel
theorem dX4_atDigit_25 : decode cX4_atDigit 25 = .ok (.getfield 40, 3) := by decide +kernel
theorem dX4_atDigit_28 : decode cX4_atDigit 28 = .ok (.caload, 1) := by decide +kernel
theorem dX4_atDigit_29 : decode cX4_atDigit 29 = .ok (.bipush 48, 2) := by decide +kernel
theorem dX4_atDigit_31 : decode cX4_atDigit 31 = .ok (.if_icmp .lt 21, 3) := by decide +kernel
theorem dX4_atDigit_34 : decode cX4_atDigit 34 = .ok (.aload_n 0, 1) := by decide +kernel
theorem dX4_atDigit_35 : decode cX4_atDigit 35 = .ok (.getfield 9, 3) := by decide +kernel
theorem dX4_atDigit_38 : decode cX4_atDigit 38 = .ok (.aload_n 0, 1) := by decide +kernel
theorem dX4_atDigit_39 : decode cX4_atDigit 39 = .ok (.getfield 40, 3) := by decide +kernel
theorem dX4_atDigit_42 : decode cX4_atDigit 42 = .ok (.caload, 1) := by decide +kernel
theorem dX4_atDigit_43 : decode cX4_atDigit 43 = .ok (.bipush 57, 2) := by decide +kernel
theorem dX4_atDigit_45 : decode cX4_atDigit 45 = .ok (.if_icmp .gt 7, 3) := by decide +kernel
theorem dX4_atDigit_48 : decode cX4_atDigit 48 = .ok (.iconst 1, 1) := by decide +kernel
theorem dX4_atDigit_49 : decode cX4_atDigit 49 = .ok (.goto 4, 3) := by decide +kernel
theorem dX4_atDigit_52 : decode cX4_atDigit 52 = .ok (.iconst 0, 1) := by decide +kernel
theorem dX4_atDigit_53 : decode cX4_atDigit 53 = .ok (.ireturn, 1) := by decide +kernel
